theorem wn_yes {num : Nat → Nat} {nf f : Nat} {x r : Int32} (h : (∃ f, f < nf ∧ nI (num f) = x ∧ (∀ k, k < f → ¬ nI (num k) = x) ∧ r = nI f) ∨ ((∀ k, k < nf → ¬ nI (num k) = x) ∧ r = -1)) (hf : f < nf) (hx : nI (num f) = x) (hm : ∀ k, k < f → ¬ nI (num k) = x) : r = nI f := by
  rcases h with ⟨g, g1, g2, g3, g4⟩ | ⟨g1, g2⟩
  · have : g = f := by
      rcases Nat.lt_trichotomy g f with q | q | q
      · exact absurd g2 (hm g q)
      · exact q
      · exact absurd hx (g3 f q)
    rw [g4, this]
  · exact absurd hx (g1 f hf)
theorem wn_no {num : Nat → Nat} {nf : Nat} {x r : Int32} (h : (∃ f, f < nf ∧ nI (num f) = x ∧ (∀ k, k < f → ¬ nI (num k) = x) ∧ r = nI f) ∨ ((∀ k, k < nf → ¬ nI (num k) = x) ∧ r = -1)) (hn : ∀ k, k < nf → ¬ nI (num k) = x) : r = -1 := by
  rcases h with ⟨g, g1, g2, g3, g4⟩ | ⟨g1, g2⟩
  · exact absurd g2 (hn g g1)
  · exact g2
def drw (x : Int64) : Int64 := x * 6364136223846793005 + 1442695040888963407
def rnd (x : Int64) (m : Nat) : Nat := uN x / 8589934592 % m
theorem ush33 (x : Int64) : (x.toUInt64 >>> ((nI 33).toInt64.toUInt64 &&& Int64.toUInt64 63)).toInt64 = lN (uN x / 8589934592) := by
  have h := uN_sk (x := x) (k := 33) rfl (by decide)
  have hl := uN_lt x
  apply Int64.toBitVec_inj.mp
  apply BitVec.eq_of_toNat_eq
  show uN _ = uN (lN (uN x / 8589934592))
  rw [h]
  have e : uN (lN (uN x / 8589934592)) = (uN x / 8589934592) % 18446744073709551616 := by
    show (BitVec.ofNat 64 (uN x / 8589934592)).toNat = _
    rw [BitVec.toNat_ofNat]
  rw [e]
  omega
theorem uN33 (x : Int64) : uN x / 8589934592 < 2 ^ 31 := by
  have hl := uN_lt x
  omega
theorem i32_ge {a b : Int32} (h : b ≤ a) : ¬ a < b := by
  simp only [Int32.lt_iff_toInt_lt, Int32.le_iff_toInt_le] at *
  omega
theorem i32_nl {a b : Int32} (h : ¬ b ≤ a) : a < b := by
  simp only [Int32.lt_iff_toInt_lt, Int32.le_iff_toInt_le] at *
  omega
theorem st_skip {A : Nat → Bool} {L : Nat → Nat} {x : Int32} {i : Nat} {b : Option Nat} (hb : (∀ g, b = some g → g < i ∧ A g = true ∧ x = nI (L g)) ∧ (b = none → ∀ g, g < i → A g = true → ¬ x = nI (L g))) (hn : ¬ A i = true) : (∀ g, b = some g → g < i + 1 ∧ A g = true ∧ x = nI (L g)) ∧ (b = none → ∀ g, g < i + 1 → A g = true → ¬ x = nI (L g)) := by
  refine ⟨fun g e => ⟨by have := (hb.1 g e).1; omega, (hb.1 g e).2⟩, fun e g hg ha => ?_⟩
  by_cases q : g = i
  · subst q; exact absurd ha hn
  · exact hb.2 e g (by omega) ha
theorem st_no {A : Nat → Bool} {L : Nat → Nat} {x : Int32} {i : Nat} {b : Option Nat} (hb : (∀ g, b = some g → g < i ∧ A g = true ∧ x = nI (L g)) ∧ (b = none → ∀ g, g < i → A g = true → ¬ x = nI (L g))) (hn : ¬ x = nI (L i)) : (∀ g, b = some g → g < i + 1 ∧ A g = true ∧ x = nI (L g)) ∧ (b = none → ∀ g, g < i + 1 → A g = true → ¬ x = nI (L g)) := by
  refine ⟨fun g e => ⟨by have := (hb.1 g e).1; omega, (hb.1 g e).2⟩, fun e g hg ha => ?_⟩
  by_cases q : g = i
  · subst q; exact hn
  · exact hb.2 e g (by omega) ha
theorem st_yes {A : Nat → Bool} {L : Nat → Nat} {x : Int32} {i : Nat} {b : Option Nat} (_ : (∀ g, b = some g → g < i ∧ A g = true ∧ x = nI (L g)) ∧ (b = none → ∀ g, g < i → A g = true → ¬ x = nI (L g))) (ha : A i = true) (hn : x = nI (L i)) : (∀ g, some i = some g → g < i + 1 ∧ A g = true ∧ x = nI (L g)) ∧ (some i = none → ∀ g, g < i + 1 → A g = true → ¬ x = nI (L g)) := by
  refine ⟨fun g e => ?_, fun e => by cases e⟩
  cases e
  exact ⟨by omega, ha, hn⟩
theorem ord_stepX {A : Nat → Bool} {L : Nat → Nat} {x : Int32} {i : Nat} (h : ∀ f, f < i → A f = true → ¬ x = nI (L f)) (hn : ¬ A i = true) : ∀ f, f < i + 1 → A f = true → ¬ x = nI (L f) := fun f hf ha => by
  by_cases q : f = i
  · subst q; exact absurd ha hn
  · exact h f (by omega) ha
theorem ord_stepY {A : Nat → Bool} {L : Nat → Nat} {x : Int32} {i : Nat} (h : ∀ f, f < i → A f = true → ¬ x = nI (L f)) (hn : ¬ x = nI (L i)) : ∀ f, f < i + 1 → A f = true → ¬ x = nI (L f) := fun f hf ha => by
  by_cases q : f = i
  · subst q; exact hn
  · exact h f (by omega) ha
set_option maxHeartbeats 4000000 in
set_option maxRecDepth 100000 in
theorem m_draw (l : Launch) (D : va_G) {ct : Nat → ClassId} {mo : Nat → Nat} {nd : Nat} {nb : Nat} {nf : Nat} {bdk : Nat → Nat} {num : Nat → Nat} {thg : Nat → Nat} {knd : Nat → Nat} {dy : Nat → Nat} {val : Nat → Int64} {tim : Nat → Nat} {rep : Nat → Nat → Bool} {kn : Nat → Nat → Bool} {clk : Nat → Nat} {tol : Nat → Nat} {opn : Nat → Option Nat} {bof : Nat → Option Nat} {std : Nat → Bool} {xd : Int64} (b0 : Nat) (hb0 : 0 < b0) (hb1 : b0 < 2 ^ 31) : CI l y_M_draw b_M_draw 2 (some .int) (rmK 0 0 0) D (tyL ct) (MW ct mo nd nb nf bdk num thg knd dy val tim rep kn clk tol opn bof std xd) [.ref (mo 0), .int (nI (b0))] 0 0 (fun r u => r = nI (rnd (drw xd) b0) ∧ u = MW ct mo nd nb nf bdk num thg knd dy val tim rep kn clk tol opn bof std (drw xd)) := by
  refine CI.start (by decide) (Nat.le_of_ble_eq_true rfl) ?_
  intro p e s m below meth c F hr hnm
  show V p l e (rmK 0 0 0) s m [.ref (mo 0), .int (nI (b0))].toArray below meth c D (va_A (MW ct mo nd nb nf bdk num thg knd dy val tim rep kn clk tol opn bof std xd) s.heap.size) 2 0 0 (EI D below (MW ct mo nd nb nf bdk num thg knd dy val tim rep kn clk tol opn bof std xd) [.ref (mo 0), .int (nI (b0))].toArray s 0 0 (fun r u => r = nI (rnd (drw xd) b0) ∧ u = MW ct mo nd nb nf bdk num thg knd dy val tim rep kn clk tol opn bof std (drw xd))) (MW ct mo nd nb nf bdk num thg knd dy val tim rep kn clk tol opn bof std xd) [(0, .ref (mo 0)), (1, .int (nI (b0)))] 0 []
  have h33 := uN33 (drw xd)
  refine V.aload_n F d_M_draw_0 rfl 0 rfl ?_
  refine V.aload_n F d_M_draw_1 rfl 0 rfl ?_
  refine V.get F ck_M d_M_draw_2 17 (by decide) lk_M_111 0 rfl rfl ?_
  refine V.ldc2 F d_M_draw_5 (v := 6364136223846793005) lk_M_115 ?_
  refine V.lmul F d_M_draw_8 (v := (xd) * (6364136223846793005)) rfl ?_
  refine V.ldc2 F d_M_draw_9 (v := 1442695040888963407) lk_M_117 ?_
  refine V.ladd F d_M_draw_12 (v := drw xd) rfl ?_
  refine V.put (ws2 := MW ct mo nd nb nf bdk num thg knd dy val tim rep kn clk tol opn bof std (drw xd)) F ck_M d_M_draw_13 17 (by decide) lk_M_111 0 rfl rfl rfl rfl (Nat.le_of_ble_eq_true rfl) mw_set_xd ?_
  refine V.aload_n F d_M_draw_16 rfl 0 rfl ?_
  refine V.get F ck_M d_M_draw_17 17 (by decide) lk_M_111 0 rfl rfl ?_
  refine V.bipush F d_M_draw_20 (v := nI (33)) (by decide) ?_
  refine V.lushr F d_M_draw_22 (v := lN (uN (drw xd) / 8589934592)) (ush33 _) ?_
  refine V.iload_n F d_M_draw_23 rfl 1 rfl ?_
  refine V.i2l F d_M_draw_24 (nI_l (by omega)) ?_
  refine V.lremN F d_M_draw_25 (by omega) (by omega) (by omega) ?_
  refine V.l2i F d_M_draw_26 (lN_i _) ?_
  exact V.iret F hr d_M_draw_27 (⟨rfl, rfl⟩)

set_option maxHeartbeats 4000000 in
set_option maxRecDepth 100000 in
theorem m_corNoD (l : Launch) (D : va_G) {ct : Nat → ClassId} {mo : Nat → Nat} {nd : Nat} {nb : Nat} {nf : Nat} {bdk : Nat → Nat} {num : Nat → Nat} {thg : Nat → Nat} {knd : Nat → Nat} {dy : Nat → Nat} {val : Nat → Int64} {tim : Nat → Nat} {rep : Nat → Nat → Bool} {kn : Nat → Nat → Bool} {clk : Nat → Nat} {tol : Nat → Nat} {opn : Nat → Option Nat} {bof : Nat → Option Nat} {std : Nat → Bool} {xd : Int64} (x0 x : Int32) (v : Int64) (hx : x0 < 0 ∨ nI nd ≤ x0) : CI l y_M_correct b_M_correct 7 (some .int) (rmK 1 0 0) D (tyL ct) (MW ct mo nd nb nf bdk num thg knd dy val tim rep kn clk tol opn bof std xd) [.ref (mo 0), .int (x0), .int (x), .long (v)] 0 0 (fun r u => r = -1 ∧ u = MW ct mo nd nb nf bdk num thg knd dy val tim rep kn clk tol opn bof std xd) := by
  refine CI.start (by decide) (Nat.le_of_ble_eq_true rfl) ?_
  intro p e s m below meth c F hr hnm
  show V p l e (rmK 1 0 0) s m [.ref (mo 0), .int (x0), .int (x), .long (v)].toArray below meth c D (va_A (MW ct mo nd nb nf bdk num thg knd dy val tim rep kn clk tol opn bof std xd) s.heap.size) 7 0 0 (EI D below (MW ct mo nd nb nf bdk num thg knd dy val tim rep kn clk tol opn bof std xd) [.ref (mo 0), .int (x0), .int (x), .long (v)].toArray s 0 0 (fun r u => r = -1 ∧ u = MW ct mo nd nb nf bdk num thg knd dy val tim rep kn clk tol opn bof std xd)) (MW ct mo nd nb nf bdk num thg knd dy val tim rep kn clk tol opn bof std xd) [(0, .ref (mo 0)), (1, .int (x0)), (2, .int (x)), (3, .long (v))] 0 []
  refine V.aload_n F d_M_correct_0 rfl 0 rfl ?_
  refine V.iload_n F d_M_correct_1 rfl 1 rfl ?_
  refine V.callVI0 (As := [.int (x0)]) (rest := []) F (m_isDeskNo l D x0 hx) d_M_correct_2 sv_M_62 im_y_M_isDesk sl_y_M_isDesk 0 rfl rfl rfl rfl rfl (Nat.le_of_ble_eq_true rfl) ⟨rfl, rfl, (Nat.le_of_ble_eq_true rfl), (Nat.le_of_ble_eq_true rfl)⟩ ⟨(Nat.le_of_ble_eq_true rfl), (Nat.le_of_ble_eq_true rfl)⟩ (fun r9 u9 h9 => ?_)
  obtain ⟨rfl, rfl⟩ := h9
  refine V.if_eqB (b := false) (tgt := 16) F d_M_correct_5 (by decide) (fun c5 => ?_) (fun c5 => ?_)
  · skip
    refine V.iconst F d_M_correct_16 (v := -1) (by decide) ?_
    refine V.istore (lv2 := [(5, .int (-1)), (0, .ref (mo 0)), (1, .int (x0)), (2, .int (x)), (3, .long (v))]) F d_M_correct_17 (by decide) rfl ?_
    refine V.iload F d_M_correct_19 0 rfl ?_
    refine V.iconst F d_M_correct_21 (v := -1) (by decide) ?_
    refine V.icmp_ne (x := -1) (y := -1) (tgt := 27) F d_M_correct_22 (by decide) (fun c22 => ?_) (fun c22 => ?_)
    · skip
      exact absurd rfl c22
    · skip
      refine V.iconst F d_M_correct_25 (v := -1) (by decide) ?_
      exact V.iret F hr d_M_correct_26 (⟨rfl, rfl⟩)
  · skip
    exact absurd c5 (by decide)

set_option maxHeartbeats 4000000 in
set_option maxRecDepth 100000 in
theorem m_corNF (l : Launch) (D : va_G) {ct : Nat → ClassId} {mo : Nat → Nat} {nd : Nat} {nb : Nat} {nf : Nat} {bdk : Nat → Nat} {num : Nat → Nat} {thg : Nat → Nat} {knd : Nat → Nat} {dy : Nat → Nat} {val : Nat → Int64} {tim : Nat → Nat} {rep : Nat → Nat → Bool} {kn : Nat → Nat → Bool} {clk : Nat → Nat} {tol : Nat → Nat} {opn : Nat → Option Nat} {bof : Nat → Option Nat} {std : Nat → Bool} {xd : Int64} (hnf : nf ≤ 300) (hnd : nd ≤ 8) (d : Nat) (hd0 : d < nd) (x : Int32) (v : Int64) (hnn : ∀ k, k < nf → ¬ nI (num k) = x) : CI l y_M_correct b_M_correct 7 (some .int) (rmK 1 0 0) D (tyL ct) (MW ct mo nd nb nf bdk num thg knd dy val tim rep kn clk tol opn bof std xd) [.ref (mo 0), .int (nI (d)), .int (x), .long (v)] 0 0 (fun r u => r = -1 ∧ u = MW ct mo nd nb nf bdk num thg knd dy val tim rep kn clk tol opn bof std xd) := by
  refine CI.start (by decide) (Nat.le_of_ble_eq_true rfl) ?_
  intro p e s m below meth c F hr hnm
  show V p l e (rmK 1 0 0) s m [.ref (mo 0), .int (nI (d)), .int (x), .long (v)].toArray below meth c D (va_A (MW ct mo nd nb nf bdk num thg knd dy val tim rep kn clk tol opn bof std xd) s.heap.size) 7 0 0 (EI D below (MW ct mo nd nb nf bdk num thg knd dy val tim rep kn clk tol opn bof std xd) [.ref (mo 0), .int (nI (d)), .int (x), .long (v)].toArray s 0 0 (fun r u => r = -1 ∧ u = MW ct mo nd nb nf bdk num thg knd dy val tim rep kn clk tol opn bof std xd)) (MW ct mo nd nb nf bdk num thg knd dy val tim rep kn clk tol opn bof std xd) [(0, .ref (mo 0)), (1, .int (nI (d))), (2, .int (x)), (3, .long (v))] 0 []
  refine V.aload_n F d_M_correct_0 rfl 0 rfl ?_
  refine V.iload_n F d_M_correct_1 rfl 1 rfl ?_
  refine V.callVI0 (As := [.int (nI (d))]) (rest := []) F (m_isDesk l D hnd d hd0) d_M_correct_2 sv_M_62 im_y_M_isDesk sl_y_M_isDesk 0 rfl rfl rfl rfl rfl (Nat.le_of_ble_eq_true rfl) ⟨rfl, rfl, (Nat.le_of_ble_eq_true rfl), (Nat.le_of_ble_eq_true rfl)⟩ ⟨(Nat.le_of_ble_eq_true rfl), (Nat.le_of_ble_eq_true rfl)⟩ (fun r9 u9 h9 => ?_)
  obtain ⟨rfl, rfl⟩ := h9
  refine V.if_eqB (b := true) (tgt := 16) F d_M_correct_5 (by decide) (fun c5 => ?_) (fun c5 => ?_)
  · skip
    exact absurd c5 (by decide)
  · skip
    refine V.aload_n F d_M_correct_8 rfl 0 rfl ?_
    refine V.iload_n F d_M_correct_9 rfl 2 rfl ?_
    refine V.callVI0 (As := [.int (x)]) (rest := []) F (m_place l D hnf x) d_M_correct_10 sv_M_76 im_y_M_place sl_y_M_place 0 rfl rfl rfl rfl rfl (Nat.le_of_ble_eq_true rfl) ⟨rfl, rfl, (Nat.le_of_ble_eq_true rfl), (Nat.le_of_ble_eq_true rfl)⟩ ⟨(Nat.le_of_ble_eq_true rfl), (Nat.le_of_ble_eq_true rfl)⟩ (fun r9 u9 h9 => ?_)
    have e9 := wn_no h9.1 hnn
    obtain rfl := h9.2
    subst e9
    refine V.goto (tgt := 17) F d_M_correct_13 (by decide) ?_
    refine V.istore (lv2 := [(5, .int (-1)), (0, .ref (mo 0)), (1, .int (nI (d))), (2, .int (x)), (3, .long (v))]) F d_M_correct_17 (by decide) rfl ?_
    refine V.iload F d_M_correct_19 0 rfl ?_
    refine V.iconst F d_M_correct_21 (v := -1) (by decide) ?_
    refine V.icmp_ne (x := -1) (y := -1) (tgt := 27) F d_M_correct_22 (by decide) (fun c22 => ?_) (fun c22 => ?_)
    · skip
      exact absurd rfl c22
    · skip
      refine V.iconst F d_M_correct_25 (v := -1) (by decide) ?_
      exact V.iret F hr d_M_correct_26 (⟨rfl, rfl⟩)

set_option maxHeartbeats 4000000 in
set_option maxRecDepth 100000 in
theorem m_corNS (l : Launch) (D : va_G) {ct : Nat → ClassId} {mo : Nat → Nat} {nd : Nat} {nb : Nat} {nf : Nat} {bdk : Nat → Nat} {num : Nat → Nat} {thg : Nat → Nat} {knd : Nat → Nat} {dy : Nat → Nat} {val : Nat → Int64} {tim : Nat → Nat} {rep : Nat → Nat → Bool} {kn : Nat → Nat → Bool} {clk : Nat → Nat} {tol : Nat → Nat} {opn : Nat → Option Nat} {bof : Nat → Option Nat} {std : Nat → Bool} {xd : Int64} (hnf : nf ≤ 300) (hnd : nd ≤ 8) (d : Nat) (hd0 : d < nd) (x : Int32) (v : Int64) (f : Nat) (hf : f < nf) (hfx : nI (num f) = x) (hfm : ∀ k, k < f → ¬ nI (num k) = x) (hst : lkB (kn d) rep f nf = false) : CI l y_M_correct b_M_correct 7 (some .int) (rmK 1 0 0) D (tyL ct) (MW ct mo nd nb nf bdk num thg knd dy val tim rep kn clk tol opn bof std xd) [.ref (mo 0), .int (nI (d)), .int (x), .long (v)] 0 0 (fun r u => r = -1 ∧ ∃ P : Nat → Bool, u = MW ct mo nd nb nf bdk num thg knd dy val tim rep kn clk tol opn bof P xd) := by
  refine CI.start (by decide) (Nat.le_of_ble_eq_true rfl) ?_
  intro p e s m below meth c F hr hnm
  show V p l e (rmK 1 0 0) s m [.ref (mo 0), .int (nI (d)), .int (x), .long (v)].toArray below meth c D (va_A (MW ct mo nd nb nf bdk num thg knd dy val tim rep kn clk tol opn bof std xd) s.heap.size) 7 0 0 (EI D below (MW ct mo nd nb nf bdk num thg knd dy val tim rep kn clk tol opn bof std xd) [.ref (mo 0), .int (nI (d)), .int (x), .long (v)].toArray s 0 0 (fun r u => r = -1 ∧ ∃ P : Nat → Bool, u = MW ct mo nd nb nf bdk num thg knd dy val tim rep kn clk tol opn bof P xd)) (MW ct mo nd nb nf bdk num thg knd dy val tim rep kn clk tol opn bof std xd) [(0, .ref (mo 0)), (1, .int (nI (d))), (2, .int (x)), (3, .long (v))] 0 []
  refine V.aload_n F d_M_correct_0 rfl 0 rfl ?_
  refine V.iload_n F d_M_correct_1 rfl 1 rfl ?_
  refine V.callVI0 (As := [.int (nI (d))]) (rest := []) F (m_isDesk l D hnd d hd0) d_M_correct_2 sv_M_62 im_y_M_isDesk sl_y_M_isDesk 0 rfl rfl rfl rfl rfl (Nat.le_of_ble_eq_true rfl) ⟨rfl, rfl, (Nat.le_of_ble_eq_true rfl), (Nat.le_of_ble_eq_true rfl)⟩ ⟨(Nat.le_of_ble_eq_true rfl), (Nat.le_of_ble_eq_true rfl)⟩ (fun r9 u9 h9 => ?_)
  obtain ⟨rfl, rfl⟩ := h9
  refine V.if_eqB (b := true) (tgt := 16) F d_M_correct_5 (by decide) (fun c5 => ?_) (fun c5 => ?_)
  · skip
    exact absurd c5 (by decide)
  · skip
    refine V.aload_n F d_M_correct_8 rfl 0 rfl ?_
    refine V.iload_n F d_M_correct_9 rfl 2 rfl ?_
    refine V.callVI0 (As := [.int (x)]) (rest := []) F (m_place l D hnf x) d_M_correct_10 sv_M_76 im_y_M_place sl_y_M_place 0 rfl rfl rfl rfl rfl (Nat.le_of_ble_eq_true rfl) ⟨rfl, rfl, (Nat.le_of_ble_eq_true rfl), (Nat.le_of_ble_eq_true rfl)⟩ ⟨(Nat.le_of_ble_eq_true rfl), (Nat.le_of_ble_eq_true rfl)⟩ (fun r9 u9 h9 => ?_)
    have e9 := wn_yes h9.1 hf hfx hfm
    obtain rfl := h9.2
    subst e9
    refine V.goto (tgt := 17) F d_M_correct_13 (by decide) ?_
    refine V.istore (lv2 := [(5, .int (nI (f))), (0, .ref (mo 0)), (1, .int (nI (d))), (2, .int (x)), (3, .long (v))]) F d_M_correct_17 (by decide) rfl ?_
    refine V.iload F d_M_correct_19 0 rfl ?_
    refine V.iconst F d_M_correct_21 (v := -1) (by decide) ?_
    refine V.icmp_ne (x := nI (f)) (y := -1) (tgt := 27) F d_M_correct_22 (by decide) (fun c22 => ?_) (fun c22 => ?_)
    · skip
      refine V.aload_n F d_M_correct_27 rfl 1 rfl ?_
      refine V.iload_n F d_M_correct_28 rfl 2 rfl ?_
      refine V.callVV0 (As := [.int (nI (d))]) (rest := []) F (m_look l D hnf hnd d hd0) d_M_correct_29 sv_M_80 im_y_M_look sl_y_M_look 0 rfl rfl rfl rfl rfl (Nat.le_of_ble_eq_true rfl) ⟨rfl, rfl, (Nat.le_of_ble_eq_true rfl), (Nat.le_of_ble_eq_true rfl)⟩ ⟨(Nat.le_of_ble_eq_true rfl), (Nat.le_of_ble_eq_true rfl)⟩ (fun u9 h9 => ?_)
      obtain ⟨P, hP, rfl⟩ := h9
      refine V.aload_n F d_M_correct_32 rfl 1 rfl ?_
      refine V.get F ck_M d_M_correct_33 16 (by decide) lk_M_52 0 rfl rfl ?_
      refine V.iload F d_M_correct_36 0 rfl ?_
      refine V.zald (v := bI (P (f))) F d_M_correct_38 14 3 rfl rfl (by omega) (by decide) rfl ?_
      refine V.if_neB (b := P (f)) (tgt := 44) F d_M_correct_39 (by decide) (fun c39 => ?_) (fun c39 => ?_)
      · skip
        exact absurd (c39.symm.trans ((hP f hf).trans hst)) (by decide)
      · skip
        refine V.iconst F d_M_correct_42 (v := -1) (by decide) ?_
        exact V.iret F hr d_M_correct_43 (⟨rfl, P, rfl⟩)
    · skip
      exact absurd c22 (nI_nm1 (by omega))

set_option maxHeartbeats 4000000 in
set_option maxRecDepth 100000 in
theorem m_corFull (l : Launch) (D : va_G) {ct : Nat → ClassId} {mo : Nat → Nat} {nd : Nat} {nb : Nat} {nf : Nat} {bdk : Nat → Nat} {num : Nat → Nat} {thg : Nat → Nat} {knd : Nat → Nat} {dy : Nat → Nat} {val : Nat → Int64} {tim : Nat → Nat} {rep : Nat → Nat → Bool} {kn : Nat → Nat → Bool} {clk : Nat → Nat} {tol : Nat → Nat} {opn : Nat → Option Nat} {bof : Nat → Option Nat} {std : Nat → Bool} {xd : Int64} (hnd : nd ≤ 8) (d : Nat) (hd0 : d < nd) (x : Int32) (v : Int64) (f : Nat) (hf : f < nf) (hfx : nI (num f) = x) (hfm : ∀ k, k < f → ¬ nI (num k) = x) (hst : lkB (kn d) rep f nf = true) (hnf9 : nf = 300) : CI l y_M_correct b_M_correct 7 (some .int) (rmK 1 0 0) D (tyL ct) (MW ct mo nd nb nf bdk num thg knd dy val tim rep kn clk tol opn bof std xd) [.ref (mo 0), .int (nI (d)), .int (x), .long (v)] 0 0 (fun r u => r = -2 ∧ ∃ P : Nat → Bool, u = MW ct mo nd nb nf bdk num thg knd dy val tim rep kn clk tol opn bof P xd) := by
  refine CI.start (by decide) (Nat.le_of_ble_eq_true rfl) ?_
  intro p e s m below meth c F hr hnm
  show V p l e (rmK 1 0 0) s m [.ref (mo 0), .int (nI (d)), .int (x), .long (v)].toArray below meth c D (va_A (MW ct mo nd nb nf bdk num thg knd dy val tim rep kn clk tol opn bof std xd) s.heap.size) 7 0 0 (EI D below (MW ct mo nd nb nf bdk num thg knd dy val tim rep kn clk tol opn bof std xd) [.ref (mo 0), .int (nI (d)), .int (x), .long (v)].toArray s 0 0 (fun r u => r = -2 ∧ ∃ P : Nat → Bool, u = MW ct mo nd nb nf bdk num thg knd dy val tim rep kn clk tol opn bof P xd)) (MW ct mo nd nb nf bdk num thg knd dy val tim rep kn clk tol opn bof std xd) [(0, .ref (mo 0)), (1, .int (nI (d))), (2, .int (x)), (3, .long (v))] 0 []
  have hnf : nf ≤ 300 := by omega
  refine V.aload_n F d_M_correct_0 rfl 0 rfl ?_
  refine V.iload_n F d_M_correct_1 rfl 1 rfl ?_
  refine V.callVI0 (As := [.int (nI (d))]) (rest := []) F (m_isDesk l D hnd d hd0) d_M_correct_2 sv_M_62 im_y_M_isDesk sl_y_M_isDesk 0 rfl rfl rfl rfl rfl (Nat.le_of_ble_eq_true rfl) ⟨rfl, rfl, (Nat.le_of_ble_eq_true rfl), (Nat.le_of_ble_eq_true rfl)⟩ ⟨(Nat.le_of_ble_eq_true rfl), (Nat.le_of_ble_eq_true rfl)⟩ (fun r9 u9 h9 => ?_)
  obtain ⟨rfl, rfl⟩ := h9
  refine V.if_eqB (b := true) (tgt := 16) F d_M_correct_5 (by decide) (fun c5 => ?_) (fun c5 => ?_)
  · skip
    exact absurd c5 (by decide)
  · skip
    refine V.aload_n F d_M_correct_8 rfl 0 rfl ?_
    refine V.iload_n F d_M_correct_9 rfl 2 rfl ?_
    refine V.callVI0 (As := [.int (x)]) (rest := []) F (m_place l D hnf x) d_M_correct_10 sv_M_76 im_y_M_place sl_y_M_place 0 rfl rfl rfl rfl rfl (Nat.le_of_ble_eq_true rfl) ⟨rfl, rfl, (Nat.le_of_ble_eq_true rfl), (Nat.le_of_ble_eq_true rfl)⟩ ⟨(Nat.le_of_ble_eq_true rfl), (Nat.le_of_ble_eq_true rfl)⟩ (fun r9 u9 h9 => ?_)
    have e9 := wn_yes h9.1 hf hfx hfm
    obtain rfl := h9.2
    subst e9
    refine V.goto (tgt := 17) F d_M_correct_13 (by decide) ?_
    refine V.istore (lv2 := [(5, .int (nI (f))), (0, .ref (mo 0)), (1, .int (nI (d))), (2, .int (x)), (3, .long (v))]) F d_M_correct_17 (by decide) rfl ?_
    refine V.iload F d_M_correct_19 0 rfl ?_
    refine V.iconst F d_M_correct_21 (v := -1) (by decide) ?_
    refine V.icmp_ne (x := nI (f)) (y := -1) (tgt := 27) F d_M_correct_22 (by decide) (fun c22 => ?_) (fun c22 => ?_)
    · skip
      refine V.aload_n F d_M_correct_27 rfl 1 rfl ?_
      refine V.iload_n F d_M_correct_28 rfl 2 rfl ?_
      refine V.callVV0 (As := [.int (nI (d))]) (rest := []) F (m_look l D hnf hnd d hd0) d_M_correct_29 sv_M_80 im_y_M_look sl_y_M_look 0 rfl rfl rfl rfl rfl (Nat.le_of_ble_eq_true rfl) ⟨rfl, rfl, (Nat.le_of_ble_eq_true rfl), (Nat.le_of_ble_eq_true rfl)⟩ ⟨(Nat.le_of_ble_eq_true rfl), (Nat.le_of_ble_eq_true rfl)⟩ (fun u9 h9 => ?_)
      obtain ⟨P, hP, rfl⟩ := h9
      refine V.aload_n F d_M_correct_32 rfl 1 rfl ?_
      refine V.get F ck_M d_M_correct_33 16 (by decide) lk_M_52 0 rfl rfl ?_
      refine V.iload F d_M_correct_36 0 rfl ?_
      refine V.zald (v := bI (P (f))) F d_M_correct_38 14 3 rfl rfl (by omega) (by decide) rfl ?_
      refine V.if_neB (b := P (f)) (tgt := 44) F d_M_correct_39 (by decide) (fun c39 => ?_) (fun c39 => ?_)
      · skip
        refine V.aload_n F d_M_correct_44 rfl 1 rfl ?_
        refine V.get F ck_M d_M_correct_45 13 (by decide) lk_M_59 0 rfl rfl ?_
        refine V.sipush F d_M_correct_48 (v := nI (300)) (by decide) ?_
        refine V.icmp_neN (tgt := 57) F d_M_correct_51 (by decide) (by omega) (by omega) (fun c51 => ?_) (fun c51 => ?_)
        · skip
          exact absurd hnf9 c51
        · skip
          refine V.bipush F d_M_correct_54 (v := -2) (by decide) ?_
          exact V.iret F hr d_M_correct_56 (⟨rfl, P, rfl⟩)
      · skip
        exact absurd (c39.symm.trans ((hP f hf).trans hst)) (by decide)
    · skip
      exact absurd c22 (nI_nm1 (by omega))

set_option maxHeartbeats 4000000 in
set_option maxRecDepth 100000 in
theorem m_cor (l : Launch) (D : va_G) {ct : Nat → ClassId} {mo : Nat → Nat} {nd : Nat} {nb : Nat} {nf : Nat} {bdk : Nat → Nat} {num : Nat → Nat} {thg : Nat → Nat} {knd : Nat → Nat} {dy : Nat → Nat} {val : Nat → Int64} {tim : Nat → Nat} {rep : Nat → Nat → Bool} {kn : Nat → Nat → Bool} {clk : Nat → Nat} {tol : Nat → Nat} {opn : Nat → Option Nat} {bof : Nat → Option Nat} {std : Nat → Bool} {xd : Int64} (hlt : nf < 300) (hnd : nd ≤ 8) (d : Nat) (hd0 : d < nd) (x : Int32) (v : Int64) (f : Nat) (hf : f < nf) (hfx : nI (num f) = x) (hfm : ∀ k, k < f → ¬ nI (num k) = x) (hst : lkB (kn d) rep f nf = true) (hob : ∀ b0, opn d = some b0 → b0 < 2 ^ 31) : CI l y_M_correct b_M_correct 7 (some .int) (rmK 1 0 0) D (tyL ct) (MW ct mo nd nb nf bdk num thg knd dy val tim rep kn clk tol opn bof std xd) [.ref (mo 0), .int (nI (d)), .int (x), .long (v)] 0 0 (fun r u => r = nI (8 * tol d + d) ∧ ∃ P : Nat → Bool, u = MW ct mo nd nb (nf + 1) bdk (va_up num nf (8 * tol d + d)) (va_up thg nf (thg f)) (va_up knd nf (knd f)) (va_up dy nf (dy f)) (va_up val nf v) (va_up tim nf (clk d + 1)) (up2 rep f nf true) (up2 kn d nf (oB (opn d))) (va_up clk d (clk d + 1)) (va_up tol d (tol d + 1)) opn (va_up bof nf (opn d)) P xd) := by
  refine CI.start (by decide) (Nat.le_of_ble_eq_true rfl) ?_
  intro p e s m below meth c F hr hnm
  show V p l e (rmK 1 0 0) s m [.ref (mo 0), .int (nI (d)), .int (x), .long (v)].toArray below meth c D (va_A (MW ct mo nd nb nf bdk num thg knd dy val tim rep kn clk tol opn bof std xd) s.heap.size) 7 0 0 (EI D below (MW ct mo nd nb nf bdk num thg knd dy val tim rep kn clk tol opn bof std xd) [.ref (mo 0), .int (nI (d)), .int (x), .long (v)].toArray s 0 0 (fun r u => r = nI (8 * tol d + d) ∧ ∃ P : Nat → Bool, u = MW ct mo nd nb (nf + 1) bdk (va_up num nf (8 * tol d + d)) (va_up thg nf (thg f)) (va_up knd nf (knd f)) (va_up dy nf (dy f)) (va_up val nf v) (va_up tim nf (clk d + 1)) (up2 rep f nf true) (up2 kn d nf (oB (opn d))) (va_up clk d (clk d + 1)) (va_up tol d (tol d + 1)) opn (va_up bof nf (opn d)) P xd)) (MW ct mo nd nb nf bdk num thg knd dy val tim rep kn clk tol opn bof std xd) [(0, .ref (mo 0)), (1, .int (nI (d))), (2, .int (x)), (3, .long (v))] 0 []
  have hnf : nf ≤ 300 := by omega
  refine V.aload_n F d_M_correct_0 rfl 0 rfl ?_
  refine V.iload_n F d_M_correct_1 rfl 1 rfl ?_
  refine V.callVI0 (As := [.int (nI (d))]) (rest := []) F (m_isDesk l D hnd d hd0) d_M_correct_2 sv_M_62 im_y_M_isDesk sl_y_M_isDesk 0 rfl rfl rfl rfl rfl (Nat.le_of_ble_eq_true rfl) ⟨rfl, rfl, (Nat.le_of_ble_eq_true rfl), (Nat.le_of_ble_eq_true rfl)⟩ ⟨(Nat.le_of_ble_eq_true rfl), (Nat.le_of_ble_eq_true rfl)⟩ (fun r9 u9 h9 => ?_)
  obtain ⟨rfl, rfl⟩ := h9
  refine V.if_eqB (b := true) (tgt := 16) F d_M_correct_5 (by decide) (fun c5 => ?_) (fun c5 => ?_)
  · skip
    exact absurd c5 (by decide)
  · skip
    refine V.aload_n F d_M_correct_8 rfl 0 rfl ?_
    refine V.iload_n F d_M_correct_9 rfl 2 rfl ?_
    refine V.callVI0 (As := [.int (x)]) (rest := []) F (m_place l D hnf x) d_M_correct_10 sv_M_76 im_y_M_place sl_y_M_place 0 rfl rfl rfl rfl rfl (Nat.le_of_ble_eq_true rfl) ⟨rfl, rfl, (Nat.le_of_ble_eq_true rfl), (Nat.le_of_ble_eq_true rfl)⟩ ⟨(Nat.le_of_ble_eq_true rfl), (Nat.le_of_ble_eq_true rfl)⟩ (fun r9 u9 h9 => ?_)
    have e9 := wn_yes h9.1 hf hfx hfm
    obtain rfl := h9.2
    subst e9
    refine V.goto (tgt := 17) F d_M_correct_13 (by decide) ?_
    refine V.istore (lv2 := [(5, .int (nI (f))), (0, .ref (mo 0)), (1, .int (nI (d))), (2, .int (x)), (3, .long (v))]) F d_M_correct_17 (by decide) rfl ?_
    refine V.iload F d_M_correct_19 0 rfl ?_
    refine V.iconst F d_M_correct_21 (v := -1) (by decide) ?_
    refine V.icmp_ne (x := nI (f)) (y := -1) (tgt := 27) F d_M_correct_22 (by decide) (fun c22 => ?_) (fun c22 => ?_)
    · skip
      refine V.aload_n F d_M_correct_27 rfl 1 rfl ?_
      refine V.iload_n F d_M_correct_28 rfl 2 rfl ?_
      refine V.callVV0 (As := [.int (nI (d))]) (rest := []) F (m_look l D hnf hnd d hd0) d_M_correct_29 sv_M_80 im_y_M_look sl_y_M_look 0 rfl rfl rfl rfl rfl (Nat.le_of_ble_eq_true rfl) ⟨rfl, rfl, (Nat.le_of_ble_eq_true rfl), (Nat.le_of_ble_eq_true rfl)⟩ ⟨(Nat.le_of_ble_eq_true rfl), (Nat.le_of_ble_eq_true rfl)⟩ (fun u9 h9 => ?_)
      obtain ⟨P, hP, rfl⟩ := h9
      refine V.aload_n F d_M_correct_32 rfl 1 rfl ?_
      refine V.get F ck_M d_M_correct_33 16 (by decide) lk_M_52 0 rfl rfl ?_
      refine V.iload F d_M_correct_36 0 rfl ?_
      refine V.zald (v := bI (P (f))) F d_M_correct_38 14 3 rfl rfl (by omega) (by decide) rfl ?_
      refine V.if_neB (b := P (f)) (tgt := 44) F d_M_correct_39 (by decide) (fun c39 => ?_) (fun c39 => ?_)
      · skip
        refine V.aload_n F d_M_correct_44 rfl 1 rfl ?_
        refine V.get F ck_M d_M_correct_45 13 (by decide) lk_M_59 0 rfl rfl ?_
        refine V.sipush F d_M_correct_48 (v := nI (300)) (by decide) ?_
        refine V.icmp_neN (tgt := 57) F d_M_correct_51 (by decide) (by omega) (by omega) (fun c51 => ?_) (fun c51 => ?_)
        · skip
          refine V.aload_n F d_M_correct_57 rfl 1 rfl ?_
          refine V.iload_n F d_M_correct_58 rfl 2 rfl ?_
          refine V.aload_n F d_M_correct_59 rfl 1 rfl ?_
          refine V.get F ck_M d_M_correct_60 5 (by decide) lk_M_23 0 rfl rfl ?_
          refine V.iload F d_M_correct_63 0 rfl ?_
          refine V.iald (v := nI (thg (f))) F d_M_correct_65 5 0 rfl rfl (by omega) (by decide) rfl ?_
          refine V.aload_n F d_M_correct_66 rfl 1 rfl ?_
          refine V.get F ck_M d_M_correct_67 6 (by decide) lk_M_26 0 rfl rfl ?_
          refine V.iload F d_M_correct_70 0 rfl ?_
          refine V.iald (v := nI (knd (f))) F d_M_correct_72 6 0 rfl rfl (by omega) (by decide) rfl ?_
          refine V.aload_n F d_M_correct_73 rfl 1 rfl ?_
          refine V.get F ck_M d_M_correct_74 7 (by decide) lk_M_29 0 rfl rfl ?_
          refine V.iload F d_M_correct_77 0 rfl ?_
          refine V.lald (v := lN (dy (f))) F d_M_correct_79 7 1 rfl rfl (by omega) (by decide) rfl ?_
          refine V.lload_n F d_M_correct_80 rfl 4 rfl ?_
          refine V.callVI0 (As := [.int (nI (d)), .int (nI (thg (f))), .int (nI (knd (f))), .long (lN (dy (f))), .long (v)]) (rest := []) F (m_add l D hlt hnd d hd0 (thg f) (knd f) (dy f) v hob) d_M_correct_81 sv_M_68 im_y_M_add sl_y_M_add 0 rfl rfl rfl rfl rfl (Nat.le_of_ble_eq_true rfl) ⟨rfl, rfl, (Nat.le_of_ble_eq_true rfl), (Nat.le_of_ble_eq_true rfl)⟩ ⟨(Nat.le_of_ble_eq_true rfl), (Nat.le_of_ble_eq_true rfl)⟩ (fun r9 u9 h9 => ?_)
          obtain ⟨rfl, rfl⟩ := h9
          refine V.istore (lv2 := [(6, .int (nI (nf))), (5, .int (nI (f))), (0, .ref (mo 0)), (1, .int (nI (d))), (2, .int (x)), (3, .long (v))]) F d_M_correct_84 (by decide) rfl ?_
          refine V.aload_n F d_M_correct_86 rfl 2 rfl ?_
          refine V.get F ck_M d_M_correct_87 11 (by decide) lk_M_42 0 rfl rfl ?_
          refine V.iload F d_M_correct_90 0 rfl ?_
          refine V.sipush F d_M_correct_92 (v := nI (300)) (by decide) ?_
          refine V.imulN F d_M_correct_95 ?_
          refine V.iload F d_M_correct_96 1 rfl ?_
          refine V.iaddN F d_M_correct_98 ?_
          refine V.iconst F d_M_correct_99 (v := nI (1)) (by decide) ?_
          refine V.zast (b := true) (ws2 := MW ct mo nd nb (nf + 1) bdk (va_up num nf (8 * tol d + d)) (va_up thg nf (thg f)) (va_up knd nf (knd f)) (va_up dy nf (dy f)) (va_up val nf v) (va_up tim nf (clk d + 1)) (up2 rep (f) (nf) (true)) (up2 kn d nf (oB (opn d))) (va_up clk d (clk d + 1)) (va_up tol d (tol d + 1)) opn (va_up bof nf (opn d)) P xd) F d_M_correct_100 11 3 rfl rfl (by omega) (by decide) (by rw [rp_up (by omega)]; exact mw_set_rep) ?_
          refine V.aload_n F d_M_correct_101 rfl 2 rfl ?_
          refine V.get F ck_M d_M_correct_102 4 (by decide) lk_M_20 0 rfl rfl ?_
          refine V.iload F d_M_correct_105 0 rfl ?_
          refine V.iald (v := nI (8 * tol d + d)) F d_M_correct_107 4 0 rfl rfl (by omega) (by decide) (by show nI (va_up num nf _ nf) = _; rw [va_up_self]) ?_
          exact V.iret F hr d_M_correct_108 (⟨rfl, P, rfl⟩)
        · skip
          exact absurd c51 (by omega)
      · skip
        exact absurd (c39.symm.trans ((hP f hf).trans hst)) (by decide)
    · skip
      exact absurd c22 (nI_nm1 (by omega))

set_option maxHeartbeats 4000000 in
set_option maxRecDepth 100000 in
theorem m_standing (l : Launch) (D : va_G) {ct : Nat → ClassId} {mo : Nat → Nat} {nd : Nat} {nb : Nat} {nf : Nat} {bdk : Nat → Nat} {num : Nat → Nat} {thg : Nat → Nat} {knd : Nat → Nat} {dy : Nat → Nat} {val : Nat → Int64} {tim : Nat → Nat} {rep : Nat → Nat → Bool} {kn : Nat → Nat → Bool} {clk : Nat → Nat} {tol : Nat → Nat} {opn : Nat → Option Nat} {bof : Nat → Option Nat} {std : Nat → Bool} {xd : Int64} (hnf : nf ≤ 300) (spt : Nat → Nat) (hsp : SpR spt thg knd dy nf) (hnum : ∀ k, k < nf → num k < 2 ^ 31) (f : Nat) (hf : f < nf) (x : Int32) : CI l y_M_standing b_M_standing 8 (some .int) (rmK 1 0 0) D (tyL ct) (MW ct mo nd nb nf bdk num thg knd dy val tim rep kn clk tol opn bof std xd) [.ref (mo 0), .int (nI (f)), .int (x)] 0 0 (fun r u => ((x = -1 → r = nI (cnt (fun g => decide (spt f = spt g) && std g) nf)) ∧ (¬ x = -1 → ∃ b : Option Nat, r = oI b ∧ (∀ g, b = some g → g < nf ∧ (fun g => decide (spt f = spt g) && std g) g = true ∧ x = nI (cnt (fun h => decide (spt f = spt h) && (decide (num h < num g) && std h)) nf)) ∧ (b = none → ∀ g, g < nf → (fun g => decide (spt f = spt g) && std g) g = true → ¬ x = nI (cnt (fun h => decide (spt f = spt h) && (decide (num h < num g) && std h)) nf)))) ∧ u = MW ct mo nd nb nf bdk num thg knd dy val tim rep kn clk tol opn bof std xd) := by
  refine CI.start (by decide) (Nat.le_of_ble_eq_true rfl) ?_
  intro p e s m below meth c F hr hnm
  show V p l e (rmK 1 0 0) s m [.ref (mo 0), .int (nI (f)), .int (x)].toArray below meth c D (va_A (MW ct mo nd nb nf bdk num thg knd dy val tim rep kn clk tol opn bof std xd) s.heap.size) 8 0 0 (EI D below (MW ct mo nd nb nf bdk num thg knd dy val tim rep kn clk tol opn bof std xd) [.ref (mo 0), .int (nI (f)), .int (x)].toArray s 0 0 (fun r u => ((x = -1 → r = nI (cnt (fun g => decide (spt f = spt g) && std g) nf)) ∧ (¬ x = -1 → ∃ b : Option Nat, r = oI b ∧ (∀ g, b = some g → g < nf ∧ (fun g => decide (spt f = spt g) && std g) g = true ∧ x = nI (cnt (fun h => decide (spt f = spt h) && (decide (num h < num g) && std h)) nf)) ∧ (b = none → ∀ g, g < nf → (fun g => decide (spt f = spt g) && std g) g = true → ¬ x = nI (cnt (fun h => decide (spt f = spt h) && (decide (num h < num g) && std h)) nf)))) ∧ u = MW ct mo nd nb nf bdk num thg knd dy val tim rep kn clk tol opn bof std xd)) (MW ct mo nd nb nf bdk num thg knd dy val tim rep kn clk tol opn bof std xd) [(0, .ref (mo 0)), (1, .int (nI (f))), (2, .int (x))] 0 []
  refine V.iconst F d_M_standing_0 (v := -1) (by decide) ?_
  refine V.istore_n (lv2 := [(3, .int (-1)), (0, .ref (mo 0)), (1, .int (nI (f))), (2, .int (x))]) F d_M_standing_1 rfl (by decide) rfl ?_
  refine V.iconst F d_M_standing_2 (v := nI (0)) (by decide) ?_
  refine V.istore (lv2 := [(4, .int (nI (0))), (3, .int (-1)), (0, .ref (mo 0)), (1, .int (nI (f))), (2, .int (x))]) F d_M_standing_3 (by decide) rfl ?_
  refine V.iconst F d_M_standing_5 (v := nI (0)) (by decide) ?_
  refine V.istore (lv2 := [(5, .int (nI (0))), (4, .int (nI (0))), (3, .int (-1)), (0, .ref (mo 0)), (1, .int (nI (f))), (2, .int (x))]) F d_M_standing_6 (by decide) rfl ?_
  have L8 : ∀ (n9 : Nat) (i : Nat) (z : Nat) (b : Option Nat), nf - i < n9 → (i ≤ nf) → (z = cnt (fun g => decide (spt f = spt g) && std g) i) → ((∀ g, b = some g → g < i ∧ (fun g => decide (spt f = spt g) && std g) g = true ∧ x = nI (cnt (fun h => decide (spt f = spt h) && (decide (num h < num g) && std h)) nf)) ∧ (b = none → ∀ g, g < i → (fun g => decide (spt f = spt g) && std g) g = true → ¬ x = nI (cnt (fun h => decide (spt f = spt h) && (decide (num h < num g) && std h)) nf))) → V p l e (rmK 1 0 0) s m [.ref (mo 0), .int (nI (f)), .int (x)].toArray below meth c D (va_A (MW ct mo nd nb nf bdk num thg knd dy val tim rep kn clk tol opn bof std xd) s.heap.size) 8 0 0 (EI D below (MW ct mo nd nb nf bdk num thg knd dy val tim rep kn clk tol opn bof std xd) [.ref (mo 0), .int (nI (f)), .int (x)].toArray s 0 0 (fun r u => ((x = -1 → r = nI (cnt (fun g => decide (spt f = spt g) && std g) nf)) ∧ (¬ x = -1 → ∃ b : Option Nat, r = oI b ∧ (∀ g, b = some g → g < nf ∧ (fun g => decide (spt f = spt g) && std g) g = true ∧ x = nI (cnt (fun h => decide (spt f = spt h) && (decide (num h < num g) && std h)) nf)) ∧ (b = none → ∀ g, g < nf → (fun g => decide (spt f = spt g) && std g) g = true → ¬ x = nI (cnt (fun h => decide (spt f = spt h) && (decide (num h < num g) && std h)) nf)))) ∧ u = MW ct mo nd nb nf bdk num thg knd dy val tim rep kn clk tol opn bof std xd)) (MW ct mo nd nb nf bdk num thg knd dy val tim rep kn clk tol opn bof std xd) [(5, .int (nI (i))), (4, .int (nI (z))), (3, .int (oI b)), (0, .ref (mo 0)), (1, .int (nI (f))), (2, .int (x))] 8 [] := by
    intro n9
    induction n9 with
    | zero => intro i z b h9 hi hz hb; exact absurd h9 (Nat.not_lt_zero _)
    | succ n9 ih8 =>
      intro i z b h9 hi hz hb
      refine V.iload F d_M_standing_8 0 rfl ?_
      refine V.aload_n F d_M_standing_10 rfl 3 rfl ?_
      refine V.get F ck_M d_M_standing_11 13 (by decide) lk_M_59 0 rfl rfl ?_
      refine V.icmp_geN (tgt := 127) F d_M_standing_14 (by decide) (by omega) (by omega) (fun c14 => ?_) (fun c14 => ?_)
      · skip
        have e8 : i = nf := by omega
        refine V.iload_n F d_M_standing_127 rfl 5 rfl ?_
        refine V.iconst F d_M_standing_128 (v := -1) (by decide) ?_
        refine V.icmp_ne (x := x) (y := -1) (tgt := 137) F d_M_standing_129 (by decide) (fun c129 => ?_) (fun c129 => ?_)
        · skip
          refine V.iload_n F d_M_standing_137 rfl 2 rfl ?_
          exact V.iret F hr d_M_standing_138 (⟨⟨fun q => absurd q c129, fun _ => ⟨b, rfl, by rw [e8] at hb; exact hb⟩⟩, rfl⟩)
        · skip
          refine V.iload F d_M_standing_132 1 rfl ?_
          refine V.goto (tgt := 138) F d_M_standing_134 (by decide) ?_
          exact V.iret F hr d_M_standing_138 (⟨⟨fun _ => by rw [hz, e8], fun q => absurd c129 q⟩, rfl⟩)
      · skip
        have hn8 := hnum i (by omega)
        refine V.aload_n F d_M_standing_17 rfl 3 rfl ?_
        refine V.iload_n F d_M_standing_18 rfl 4 rfl ?_
        refine V.iload F d_M_standing_19 0 rfl ?_
        refine V.callVI0 (As := [.int (nI (f)), .int (nI (i))]) (rest := []) F (m_areOne l D hnf spt hsp f i (by omega) (by omega)) d_M_standing_21 sv_M_84 im_y_M_areOne sl_y_M_areOne 0 rfl rfl rfl rfl rfl (Nat.le_of_ble_eq_true rfl) ⟨rfl, rfl, (Nat.le_of_ble_eq_true rfl), (Nat.le_of_ble_eq_true rfl)⟩ ⟨(Nat.le_of_ble_eq_true rfl), (Nat.le_of_ble_eq_true rfl)⟩ (fun r9 u9 h9 => ?_)
        obtain ⟨rfl, rfl⟩ := h9
        refine V.if_eqB (b := decide (spt f = spt i)) (tgt := 121) F d_M_standing_24 (by decide) (fun c24 => ?_) (fun c24 => ?_)
        · skip
          refine V.iincN (k := 1) (lv2 := [(5, .int (nI (i + 1))), (4, .int (nI (z))), (3, .int (oI b)), (0, .ref (mo 0)), (1, .int (nI (f))), (2, .int (x))]) F d_M_standing_121 0 rfl (by decide) (by decide) rfl ?_
          refine V.goto (tgt := 8) F d_M_standing_124 (by decide) ?_
          exact ih8 (i + 1) (z) (b) (by omega) (by omega) (by rw [hz, cnt, if_neg (by show ¬ (decide (spt f = spt i) && std i) = true; rw [c24]; simp)]; rfl) (st_skip hb (by show ¬ (decide (spt f = spt i) && std i) = true; rw [c24]; simp))
        · skip
          refine V.aload_n F d_M_standing_27 rfl 3 rfl ?_
          refine V.get F ck_M d_M_standing_28 16 (by decide) lk_M_52 0 rfl rfl ?_
          refine V.iload F d_M_standing_31 0 rfl ?_
          refine V.zald (v := bI (std (i))) F d_M_standing_33 14 3 rfl rfl (by omega) (by decide) rfl ?_
          refine V.if_eqB (b := std (i)) (tgt := 121) F d_M_standing_34 (by decide) (fun c34 => ?_) (fun c34 => ?_)
          · skip
            refine V.iincN (k := 1) (lv2 := [(5, .int (nI (i + 1))), (4, .int (nI (z))), (3, .int (oI b)), (0, .ref (mo 0)), (1, .int (nI (f))), (2, .int (x))]) F d_M_standing_121 0 rfl (by decide) (by decide) rfl ?_
            refine V.goto (tgt := 8) F d_M_standing_124 (by decide) ?_
            exact ih8 (i + 1) (z) (b) (by omega) (by omega) (by rw [hz, cnt, if_neg (by show ¬ (decide (spt f = spt i) && std i) = true; rw [c34]; simp)]; rfl) (st_skip hb (by show ¬ (decide (spt f = spt i) && std i) = true; rw [c34]; simp))
          · skip
            refine V.iconst F d_M_standing_37 (v := nI (0)) (by decide) ?_
            refine V.istore (lv2 := [(6, .int (nI (0))), (5, .int (nI (i))), (4, .int (nI (z))), (3, .int (oI b)), (0, .ref (mo 0)), (1, .int (nI (f))), (2, .int (x))]) F d_M_standing_38 (by decide) rfl ?_
            refine V.iconst F d_M_standing_40 (v := nI (0)) (by decide) ?_
            refine V.istore (lv2 := [(7, .int (nI (0))), (6, .int (nI (0))), (5, .int (nI (i))), (4, .int (nI (z))), (3, .int (oI b)), (0, .ref (mo 0)), (1, .int (nI (f))), (2, .int (x))]) F d_M_standing_41 (by decide) rfl ?_
            have L43 : ∀ (n9 : Nat) (j : Nat) (q : Nat), nf - j < n9 → (j ≤ nf) → (q = cnt (fun h => decide (spt f = spt h) && (decide (num h < num i) && std h)) j) → V p l e (rmK 1 0 0) s m [.ref (mo 0), .int (nI (f)), .int (x)].toArray below meth c D (va_A (MW ct mo nd nb nf bdk num thg knd dy val tim rep kn clk tol opn bof std xd) s.heap.size) 8 0 0 (EI D below (MW ct mo nd nb nf bdk num thg knd dy val tim rep kn clk tol opn bof std xd) [.ref (mo 0), .int (nI (f)), .int (x)].toArray s 0 0 (fun r u => ((x = -1 → r = nI (cnt (fun g => decide (spt f = spt g) && std g) nf)) ∧ (¬ x = -1 → ∃ b : Option Nat, r = oI b ∧ (∀ g, b = some g → g < nf ∧ (fun g => decide (spt f = spt g) && std g) g = true ∧ x = nI (cnt (fun h => decide (spt f = spt h) && (decide (num h < num g) && std h)) nf)) ∧ (b = none → ∀ g, g < nf → (fun g => decide (spt f = spt g) && std g) g = true → ¬ x = nI (cnt (fun h => decide (spt f = spt h) && (decide (num h < num g) && std h)) nf)))) ∧ u = MW ct mo nd nb nf bdk num thg knd dy val tim rep kn clk tol opn bof std xd)) (MW ct mo nd nb nf bdk num thg knd dy val tim rep kn clk tol opn bof std xd) [(7, .int (nI (j))), (6, .int (nI (q))), (5, .int (nI (i))), (4, .int (nI (z))), (3, .int (oI b)), (0, .ref (mo 0)), (1, .int (nI (f))), (2, .int (x))] 43 [] := by
              intro n9
              induction n9 with
              | zero => intro j q h9 hj hq; exact absurd h9 (Nat.not_lt_zero _)
              | succ n9 ih43 =>
                intro j q h9 hj hq
                refine V.iload F d_M_standing_43 0 rfl ?_
                refine V.aload_n F d_M_standing_45 rfl 5 rfl ?_
                refine V.get F ck_M d_M_standing_46 13 (by decide) lk_M_59 0 rfl rfl ?_
                refine V.icmp_geN (tgt := 105) F d_M_standing_49 (by decide) (by omega) (by omega) (fun c49 => ?_) (fun c49 => ?_)
                · skip
                  have e7 : j = nf := by omega
                  rw [e7] at hq
                  subst hq
                  refine V.iload F d_M_standing_105 1 rfl ?_
                  refine V.iload_n F d_M_standing_107 rfl 7 rfl ?_
                  refine V.icmp_ne (x := nI (cnt (fun h => decide (spt f = spt h) && (decide (num h < num i) && std h)) nf)) (y := x) (tgt := 116) F d_M_standing_108 (by decide) (fun c108 => ?_) (fun c108 => ?_)
                  · skip
                    refine V.iload_n F d_M_standing_116 rfl 4 rfl ?_
                    refine V.istore_n (lv2 := [(3, .int (oI b)), (7, .int (nI (j))), (6, .int (nI (cnt (fun h => decide (spt f = spt h) && (decide (num h < num i) && std h)) nf))), (5, .int (nI (i))), (4, .int (nI (z))), (0, .ref (mo 0)), (1, .int (nI (f))), (2, .int (x))]) F d_M_standing_117 rfl (by decide) rfl ?_
                    refine V.iincN (k := 1) (lv2 := [(4, .int (nI (z + 1))), (3, .int (oI b)), (7, .int (nI (j))), (6, .int (nI (cnt (fun h => decide (spt f = spt h) && (decide (num h < num i) && std h)) nf))), (5, .int (nI (i))), (0, .ref (mo 0)), (1, .int (nI (f))), (2, .int (x))]) F d_M_standing_118 4 rfl (by decide) (by decide) rfl ?_
                    refine V.iincN (k := 1) (lv2 := [(5, .int (nI (i + 1))), (4, .int (nI (z + 1))), (3, .int (oI b)), (7, .int (nI (j))), (6, .int (nI (cnt (fun h => decide (spt f = spt h) && (decide (num h < num i) && std h)) nf))), (0, .ref (mo 0)), (1, .int (nI (f))), (2, .int (x))]) F d_M_standing_121 4 rfl (by decide) (by decide) rfl ?_
                    refine V.goto (tgt := 8) F d_M_standing_124 (by decide) ?_
                    refine V.lvs [0, 1, 2, 5, 6, 7] rfl ?_
                    exact ih8 (i + 1) (z + 1) (b) (by omega) (by omega) (by rw [hz, cnt, if_pos (by show (decide (spt f = spt i) && std i) = true; rw [c24, c34]; rfl)]) (st_no hb (fun q => c108 q.symm))
                  · skip
                    refine V.iload F d_M_standing_111 2 rfl ?_
                    refine V.goto (tgt := 117) F d_M_standing_113 (by decide) ?_
                    refine V.istore_n (lv2 := [(3, .int (nI (i))), (7, .int (nI (j))), (6, .int (nI (cnt (fun h => decide (spt f = spt h) && (decide (num h < num i) && std h)) nf))), (5, .int (nI (i))), (4, .int (nI (z))), (0, .ref (mo 0)), (1, .int (nI (f))), (2, .int (x))]) F d_M_standing_117 rfl (by decide) rfl ?_
                    refine V.iincN (k := 1) (lv2 := [(4, .int (nI (z + 1))), (3, .int (nI (i))), (7, .int (nI (j))), (6, .int (nI (cnt (fun h => decide (spt f = spt h) && (decide (num h < num i) && std h)) nf))), (5, .int (nI (i))), (0, .ref (mo 0)), (1, .int (nI (f))), (2, .int (x))]) F d_M_standing_118 4 rfl (by decide) (by decide) rfl ?_
                    refine V.iincN (k := 1) (lv2 := [(5, .int (nI (i + 1))), (4, .int (nI (z + 1))), (3, .int (nI (i))), (7, .int (nI (j))), (6, .int (nI (cnt (fun h => decide (spt f = spt h) && (decide (num h < num i) && std h)) nf))), (0, .ref (mo 0)), (1, .int (nI (f))), (2, .int (x))]) F d_M_standing_121 4 rfl (by decide) (by decide) rfl ?_
                    refine V.goto (tgt := 8) F d_M_standing_124 (by decide) ?_
                    refine V.lvs [0, 1, 2, 5, 6, 7] rfl ?_
                    exact ih8 (i + 1) (z + 1) (some i) (by omega) (by omega) (by rw [hz, cnt, if_pos (by show (decide (spt f = spt i) && std i) = true; rw [c24, c34]; rfl)]) (st_yes hb (by show (decide (spt f = spt i) && std i) = true; rw [c24, c34]; rfl) c108.symm)
                · skip
                  have hn9 := hnum j (by omega)
                  refine V.iload F d_M_standing_52 1 rfl ?_
                  refine V.aload_n F d_M_standing_54 rfl 5 rfl ?_
                  refine V.iload_n F d_M_standing_55 rfl 6 rfl ?_
                  refine V.iload F d_M_standing_56 0 rfl ?_
                  refine V.callVI0 (As := [.int (nI (f)), .int (nI (j))]) (rest := [.int (nI (q))]) F (m_areOne l D hnf spt hsp f j (by omega) (by omega)) d_M_standing_58 sv_M_84 im_y_M_areOne sl_y_M_areOne 0 rfl rfl rfl rfl rfl (Nat.le_of_ble_eq_true rfl) ⟨rfl, rfl, (Nat.le_of_ble_eq_true rfl), (Nat.le_of_ble_eq_true rfl)⟩ ⟨(Nat.le_of_ble_eq_true rfl), (Nat.le_of_ble_eq_true rfl)⟩ (fun r9 u9 h9 => ?_)
                  obtain ⟨rfl, rfl⟩ := h9
                  refine V.if_eqB (b := decide (spt f = spt j)) (tgt := 95) F d_M_standing_61 (by decide) (fun c61 => ?_) (fun c61 => ?_)
                  · skip
                    refine V.iconst F d_M_standing_95 (v := nI (0)) (by decide) ?_
                    refine V.iaddN F d_M_standing_96 ?_
                    refine V.istore (lv2 := [(6, .int (nI ((q) + (0)))), (7, .int (nI (j))), (5, .int (nI (i))), (4, .int (nI (z))), (3, .int (oI b)), (0, .ref (mo 0)), (1, .int (nI (f))), (2, .int (x))]) F d_M_standing_97 (by decide) rfl ?_
                    refine V.iincN (k := 1) (lv2 := [(7, .int (nI (j + 1))), (6, .int (nI ((q) + (0)))), (5, .int (nI (i))), (4, .int (nI (z))), (3, .int (oI b)), (0, .ref (mo 0)), (1, .int (nI (f))), (2, .int (x))]) F d_M_standing_99 1 rfl (by decide) (by decide) rfl ?_
                    refine V.goto (tgt := 43) F d_M_standing_102 (by decide) ?_
                    exact ih43 (j + 1) (q) (by omega) (by omega) (by rw [hq, cnt, if_neg (by show ¬ (decide (spt f = spt j) && (decide (num j < num i) && std j)) = true; rw [c61]; simp)]; rfl)
                  · skip
                    refine V.aload_n F d_M_standing_64 rfl 5 rfl ?_
                    refine V.get F ck_M d_M_standing_65 4 (by decide) lk_M_20 0 rfl rfl ?_
                    refine V.iload F d_M_standing_68 0 rfl ?_
                    refine V.iald (v := nI (num (j))) F d_M_standing_70 4 0 rfl rfl (by omega) (by decide) rfl ?_
                    refine V.aload_n F d_M_standing_71 rfl 5 rfl ?_
                    refine V.get F ck_M d_M_standing_72 4 (by decide) lk_M_20 0 rfl rfl ?_
                    refine V.iload F d_M_standing_75 2 rfl ?_
                    refine V.iald (v := nI (num (i))) F d_M_standing_77 4 0 rfl rfl (by omega) (by decide) rfl ?_
                    refine V.icmp_geN (tgt := 95) F d_M_standing_78 (by decide) (by omega) (by omega) (fun c78 => ?_) (fun c78 => ?_)
                    · skip
                      refine V.iconst F d_M_standing_95 (v := nI (0)) (by decide) ?_
                      refine V.iaddN F d_M_standing_96 ?_
                      refine V.istore (lv2 := [(6, .int (nI ((q) + (0)))), (7, .int (nI (j))), (5, .int (nI (i))), (4, .int (nI (z))), (3, .int (oI b)), (0, .ref (mo 0)), (1, .int (nI (f))), (2, .int (x))]) F d_M_standing_97 (by decide) rfl ?_
                      refine V.iincN (k := 1) (lv2 := [(7, .int (nI (j + 1))), (6, .int (nI ((q) + (0)))), (5, .int (nI (i))), (4, .int (nI (z))), (3, .int (oI b)), (0, .ref (mo 0)), (1, .int (nI (f))), (2, .int (x))]) F d_M_standing_99 1 rfl (by decide) (by decide) rfl ?_
                      refine V.goto (tgt := 43) F d_M_standing_102 (by decide) ?_
                      exact ih43 (j + 1) (q) (by omega) (by omega) (by rw [hq, cnt, if_neg (by show ¬ (decide (spt f = spt j) && (decide (num j < num i) && std j)) = true; rw [decide_eq_false (by omega : ¬ num j < num i)]; simp)]; rfl)
                    · skip
                      refine V.aload_n F d_M_standing_81 rfl 5 rfl ?_
                      refine V.get F ck_M d_M_standing_82 16 (by decide) lk_M_52 0 rfl rfl ?_
                      refine V.iload F d_M_standing_85 0 rfl ?_
                      refine V.zald (v := bI (std (j))) F d_M_standing_87 14 3 rfl rfl (by omega) (by decide) rfl ?_
                      refine V.if_eqB (b := std (j)) (tgt := 95) F d_M_standing_88 (by decide) (fun c88 => ?_) (fun c88 => ?_)
                      · skip
                        refine V.iconst F d_M_standing_95 (v := nI (0)) (by decide) ?_
                        refine V.iaddN F d_M_standing_96 ?_
                        refine V.istore (lv2 := [(6, .int (nI ((q) + (0)))), (7, .int (nI (j))), (5, .int (nI (i))), (4, .int (nI (z))), (3, .int (oI b)), (0, .ref (mo 0)), (1, .int (nI (f))), (2, .int (x))]) F d_M_standing_97 (by decide) rfl ?_
                        refine V.iincN (k := 1) (lv2 := [(7, .int (nI (j + 1))), (6, .int (nI ((q) + (0)))), (5, .int (nI (i))), (4, .int (nI (z))), (3, .int (oI b)), (0, .ref (mo 0)), (1, .int (nI (f))), (2, .int (x))]) F d_M_standing_99 1 rfl (by decide) (by decide) rfl ?_
                        refine V.goto (tgt := 43) F d_M_standing_102 (by decide) ?_
                        exact ih43 (j + 1) (q) (by omega) (by omega) (by rw [hq, cnt, if_neg (by show ¬ (decide (spt f = spt j) && (decide (num j < num i) && std j)) = true; rw [c88]; simp)]; rfl)
                      · skip
                        refine V.iconst F d_M_standing_91 (v := nI (1)) (by decide) ?_
                        refine V.goto (tgt := 96) F d_M_standing_92 (by decide) ?_
                        refine V.iaddN F d_M_standing_96 ?_
                        refine V.istore (lv2 := [(6, .int (nI ((q) + (1)))), (7, .int (nI (j))), (5, .int (nI (i))), (4, .int (nI (z))), (3, .int (oI b)), (0, .ref (mo 0)), (1, .int (nI (f))), (2, .int (x))]) F d_M_standing_97 (by decide) rfl ?_
                        refine V.iincN (k := 1) (lv2 := [(7, .int (nI (j + 1))), (6, .int (nI ((q) + (1)))), (5, .int (nI (i))), (4, .int (nI (z))), (3, .int (oI b)), (0, .ref (mo 0)), (1, .int (nI (f))), (2, .int (x))]) F d_M_standing_99 1 rfl (by decide) (by decide) rfl ?_
                        refine V.goto (tgt := 43) F d_M_standing_102 (by decide) ?_
                        exact ih43 (j + 1) (q + 1) (by omega) (by omega) (by rw [hq, cnt, if_pos (by show (decide (spt f = spt j) && (decide (num j < num i) && std j)) = true; rw [c61, decide_eq_true c78, c88]; rfl)])
            exact L43 _ (0) (0) (Nat.lt_succ_self _) (by omega) (rfl)
  exact L8 _ (0) (0) (none) (Nat.lt_succ_self _) (by omega) (rfl) (⟨fun g q => (by cases q), fun _ g hg => absurd hg (by omega)⟩)

set_option maxHeartbeats 4000000 in
set_option maxRecDepth 100000 in
theorem m_findNoD (l : Launch) (D : va_G) {ct : Nat → ClassId} {mo : Nat → Nat} {nd : Nat} {nb : Nat} {nf : Nat} {bdk : Nat → Nat} {num : Nat → Nat} {thg : Nat → Nat} {knd : Nat → Nat} {dy : Nat → Nat} {val : Nat → Int64} {tim : Nat → Nat} {rep : Nat → Nat → Bool} {kn : Nat → Nat → Bool} {clk : Nat → Nat} {tol : Nat → Nat} {opn : Nat → Option Nat} {bof : Nat → Option Nat} {std : Nat → Bool} {xd : Int64} (x0 kd x : Int32) (v : Int64) (hx : x0 < 0 ∨ nI nd ≤ x0) : CI l y_M_find b_M_find 9 (some .int) (rmK 1 0 0) D (tyL ct) (MW ct mo nd nb nf bdk num thg knd dy val tim rep kn clk tol opn bof std xd) [.ref (mo 0), .int (x0), .int (kd), .long (v), .int (x)] 0 0 (fun r u => r = -1 ∧ u = MW ct mo nd nb nf bdk num thg knd dy val tim rep kn clk tol opn bof std xd) := by
  refine CI.start (by decide) (Nat.le_of_ble_eq_true rfl) ?_
  intro p e s m below meth c F hr hnm
  show V p l e (rmK 1 0 0) s m [.ref (mo 0), .int (x0), .int (kd), .long (v), .int (x)].toArray below meth c D (va_A (MW ct mo nd nb nf bdk num thg knd dy val tim rep kn clk tol opn bof std xd) s.heap.size) 9 0 0 (EI D below (MW ct mo nd nb nf bdk num thg knd dy val tim rep kn clk tol opn bof std xd) [.ref (mo 0), .int (x0), .int (kd), .long (v), .int (x)].toArray s 0 0 (fun r u => r = -1 ∧ u = MW ct mo nd nb nf bdk num thg knd dy val tim rep kn clk tol opn bof std xd)) (MW ct mo nd nb nf bdk num thg knd dy val tim rep kn clk tol opn bof std xd) [(0, .ref (mo 0)), (1, .int (x0)), (2, .int (kd)), (3, .long (v)), (5, .int (x))] 0 []
  refine V.aload_n F d_M_find_0 rfl 0 rfl ?_
  refine V.iload_n F d_M_find_1 rfl 1 rfl ?_
  refine V.callVI0 (As := [.int (x0)]) (rest := []) F (m_isDeskNo l D x0 hx) d_M_find_2 sv_M_62 im_y_M_isDesk sl_y_M_isDesk 0 rfl rfl rfl rfl rfl (Nat.le_of_ble_eq_true rfl) ⟨rfl, rfl, (Nat.le_of_ble_eq_true rfl), (Nat.le_of_ble_eq_true rfl)⟩ ⟨(Nat.le_of_ble_eq_true rfl), (Nat.le_of_ble_eq_true rfl)⟩ (fun r9 u9 h9 => ?_)
  obtain ⟨rfl, rfl⟩ := h9
  refine V.if_eqB (b := false) (tgt := 13) F d_M_find_5 (by decide) (fun c5 => ?_) (fun c5 => ?_)
  · skip
    refine V.iconst F d_M_find_13 (v := -1) (by decide) ?_
    exact V.iret F hr d_M_find_14 (⟨rfl, rfl⟩)
  · skip
    exact absurd c5 (by decide)

set_option maxHeartbeats 4000000 in
set_option maxRecDepth 100000 in
theorem m_findNeg (l : Launch) (D : va_G) {ct : Nat → ClassId} {mo : Nat → Nat} {nd : Nat} {nb : Nat} {nf : Nat} {bdk : Nat → Nat} {num : Nat → Nat} {thg : Nat → Nat} {knd : Nat → Nat} {dy : Nat → Nat} {val : Nat → Int64} {tim : Nat → Nat} {rep : Nat → Nat → Bool} {kn : Nat → Nat → Bool} {clk : Nat → Nat} {tol : Nat → Nat} {opn : Nat → Option Nat} {bof : Nat → Option Nat} {std : Nat → Bool} {xd : Int64} (hnd : nd ≤ 8) (d : Nat) (hd0 : d < nd) (kd x : Int32) (v : Int64) (hx : x < 0) : CI l y_M_find b_M_find 9 (some .int) (rmK 1 0 0) D (tyL ct) (MW ct mo nd nb nf bdk num thg knd dy val tim rep kn clk tol opn bof std xd) [.ref (mo 0), .int (nI (d)), .int (kd), .long (v), .int (x)] 0 0 (fun r u => r = -1 ∧ u = MW ct mo nd nb nf bdk num thg knd dy val tim rep kn clk tol opn bof std xd) := by
  refine CI.start (by decide) (Nat.le_of_ble_eq_true rfl) ?_
  intro p e s m below meth c F hr hnm
  show V p l e (rmK 1 0 0) s m [.ref (mo 0), .int (nI (d)), .int (kd), .long (v), .int (x)].toArray below meth c D (va_A (MW ct mo nd nb nf bdk num thg knd dy val tim rep kn clk tol opn bof std xd) s.heap.size) 9 0 0 (EI D below (MW ct mo nd nb nf bdk num thg knd dy val tim rep kn clk tol opn bof std xd) [.ref (mo 0), .int (nI (d)), .int (kd), .long (v), .int (x)].toArray s 0 0 (fun r u => r = -1 ∧ u = MW ct mo nd nb nf bdk num thg knd dy val tim rep kn clk tol opn bof std xd)) (MW ct mo nd nb nf bdk num thg knd dy val tim rep kn clk tol opn bof std xd) [(0, .ref (mo 0)), (1, .int (nI (d))), (2, .int (kd)), (3, .long (v)), (5, .int (x))] 0 []
  refine V.aload_n F d_M_find_0 rfl 0 rfl ?_
  refine V.iload_n F d_M_find_1 rfl 1 rfl ?_
  refine V.callVI0 (As := [.int (nI (d))]) (rest := []) F (m_isDesk l D hnd d hd0) d_M_find_2 sv_M_62 im_y_M_isDesk sl_y_M_isDesk 0 rfl rfl rfl rfl rfl (Nat.le_of_ble_eq_true rfl) ⟨rfl, rfl, (Nat.le_of_ble_eq_true rfl), (Nat.le_of_ble_eq_true rfl)⟩ ⟨(Nat.le_of_ble_eq_true rfl), (Nat.le_of_ble_eq_true rfl)⟩ (fun r9 u9 h9 => ?_)
  obtain ⟨rfl, rfl⟩ := h9
  refine V.if_eqB (b := true) (tgt := 13) F d_M_find_5 (by decide) (fun c5 => ?_) (fun c5 => ?_)
  · skip
    exact absurd c5 (by decide)
  · skip
    refine V.iload F d_M_find_8 4 rfl ?_
    refine V.if_ge (x := x) (tgt := 15) F d_M_find_10 (by decide) (fun c10 => ?_) (fun c10 => ?_)
    · skip
      exact absurd hx (i32_ge c10)
    · skip
      refine V.iconst F d_M_find_13 (v := -1) (by decide) ?_
      exact V.iret F hr d_M_find_14 (⟨rfl, rfl⟩)

set_option maxHeartbeats 4000000 in
set_option maxRecDepth 100000 in
theorem m_find (l : Launch) (D : va_G) {ct : Nat → ClassId} {mo : Nat → Nat} {nd : Nat} {nb : Nat} {nf : Nat} {bdk : Nat → Nat} {num : Nat → Nat} {thg : Nat → Nat} {knd : Nat → Nat} {dy : Nat → Nat} {val : Nat → Int64} {tim : Nat → Nat} {rep : Nat → Nat → Bool} {kn : Nat → Nat → Bool} {clk : Nat → Nat} {tol : Nat → Nat} {opn : Nat → Option Nat} {bof : Nat → Option Nat} {std : Nat → Bool} {xd : Int64} (hnf : nf ≤ 300) (hnd : nd ≤ 8) (d : Nat) (hd0 : d < nd) (hnum : ∀ k, k < nf → num k < 2 ^ 31) (kd x : Int32) (v : Int64) (hx : ¬ x < 0) : CI l y_M_find b_M_find 9 (some .int) (rmK 1 0 0) D (tyL ct) (MW ct mo nd nb nf bdk num thg knd dy val tim rep kn clk tol opn bof std xd) [.ref (mo 0), .int (nI (d)), .int (kd), .long (v), .int (x)] 0 0 (fun r u => ((∃ f, f < nf ∧ (fun k => kn d k && (decide (nI (knd k) = kd) && decide (val k = v))) f = true ∧ x = nI (cnt (fun h => (kn d h && (decide (nI (knd h) = kd) && decide (val h = v))) && decide (num h < num f)) nf) ∧ r = nI (num f)) ∨ ((∀ f, f < nf → (fun k => kn d k && (decide (nI (knd k) = kd) && decide (val k = v))) f = true → ¬ x = nI (cnt (fun h => (kn d h && (decide (nI (knd h) = kd) && decide (val h = v))) && decide (num h < num f)) nf)) ∧ r = -1)) ∧ u = MW ct mo nd nb nf bdk num thg knd dy val tim rep kn clk tol opn bof std xd) := by
  refine CI.start (by decide) (Nat.le_of_ble_eq_true rfl) ?_
  intro p e s m below meth c F hr hnm
  show V p l e (rmK 1 0 0) s m [.ref (mo 0), .int (nI (d)), .int (kd), .long (v), .int (x)].toArray below meth c D (va_A (MW ct mo nd nb nf bdk num thg knd dy val tim rep kn clk tol opn bof std xd) s.heap.size) 9 0 0 (EI D below (MW ct mo nd nb nf bdk num thg knd dy val tim rep kn clk tol opn bof std xd) [.ref (mo 0), .int (nI (d)), .int (kd), .long (v), .int (x)].toArray s 0 0 (fun r u => ((∃ f, f < nf ∧ (fun k => kn d k && (decide (nI (knd k) = kd) && decide (val k = v))) f = true ∧ x = nI (cnt (fun h => (kn d h && (decide (nI (knd h) = kd) && decide (val h = v))) && decide (num h < num f)) nf) ∧ r = nI (num f)) ∨ ((∀ f, f < nf → (fun k => kn d k && (decide (nI (knd k) = kd) && decide (val k = v))) f = true → ¬ x = nI (cnt (fun h => (kn d h && (decide (nI (knd h) = kd) && decide (val h = v))) && decide (num h < num f)) nf)) ∧ r = -1)) ∧ u = MW ct mo nd nb nf bdk num thg knd dy val tim rep kn clk tol opn bof std xd)) (MW ct mo nd nb nf bdk num thg knd dy val tim rep kn clk tol opn bof std xd) [(0, .ref (mo 0)), (1, .int (nI (d))), (2, .int (kd)), (3, .long (v)), (5, .int (x))] 0 []
  refine V.aload_n F d_M_find_0 rfl 0 rfl ?_
  refine V.iload_n F d_M_find_1 rfl 1 rfl ?_
  refine V.callVI0 (As := [.int (nI (d))]) (rest := []) F (m_isDesk l D hnd d hd0) d_M_find_2 sv_M_62 im_y_M_isDesk sl_y_M_isDesk 0 rfl rfl rfl rfl rfl (Nat.le_of_ble_eq_true rfl) ⟨rfl, rfl, (Nat.le_of_ble_eq_true rfl), (Nat.le_of_ble_eq_true rfl)⟩ ⟨(Nat.le_of_ble_eq_true rfl), (Nat.le_of_ble_eq_true rfl)⟩ (fun r9 u9 h9 => ?_)
  obtain ⟨rfl, rfl⟩ := h9
  refine V.if_eqB (b := true) (tgt := 13) F d_M_find_5 (by decide) (fun c5 => ?_) (fun c5 => ?_)
  · skip
    exact absurd c5 (by decide)
  · skip
    refine V.iload F d_M_find_8 4 rfl ?_
    refine V.if_ge (x := x) (tgt := 15) F d_M_find_10 (by decide) (fun c10 => ?_) (fun c10 => ?_)
    · skip
      refine V.iconst F d_M_find_15 (v := nI (0)) (by decide) ?_
      refine V.istore (lv2 := [(6, .int (nI (0))), (0, .ref (mo 0)), (1, .int (nI (d))), (2, .int (kd)), (3, .long (v)), (5, .int (x))]) F d_M_find_16 (by decide) rfl ?_
      have L18 : ∀ (n9 : Nat) (i : Nat), nf - i < n9 → (i ≤ nf) → (∀ f, f < i → (fun k => kn d k && (decide (nI (knd k) = kd) && decide (val k = v))) f = true → ¬ x = nI (cnt (fun h => (kn d h && (decide (nI (knd h) = kd) && decide (val h = v))) && decide (num h < num f)) nf)) → V p l e (rmK 1 0 0) s m [.ref (mo 0), .int (nI (d)), .int (kd), .long (v), .int (x)].toArray below meth c D (va_A (MW ct mo nd nb nf bdk num thg knd dy val tim rep kn clk tol opn bof std xd) s.heap.size) 9 0 0 (EI D below (MW ct mo nd nb nf bdk num thg knd dy val tim rep kn clk tol opn bof std xd) [.ref (mo 0), .int (nI (d)), .int (kd), .long (v), .int (x)].toArray s 0 0 (fun r u => ((∃ f, f < nf ∧ (fun k => kn d k && (decide (nI (knd k) = kd) && decide (val k = v))) f = true ∧ x = nI (cnt (fun h => (kn d h && (decide (nI (knd h) = kd) && decide (val h = v))) && decide (num h < num f)) nf) ∧ r = nI (num f)) ∨ ((∀ f, f < nf → (fun k => kn d k && (decide (nI (knd k) = kd) && decide (val k = v))) f = true → ¬ x = nI (cnt (fun h => (kn d h && (decide (nI (knd h) = kd) && decide (val h = v))) && decide (num h < num f)) nf)) ∧ r = -1)) ∧ u = MW ct mo nd nb nf bdk num thg knd dy val tim rep kn clk tol opn bof std xd)) (MW ct mo nd nb nf bdk num thg knd dy val tim rep kn clk tol opn bof std xd) [(6, .int (nI (i))), (0, .ref (mo 0)), (1, .int (nI (d))), (2, .int (kd)), (3, .long (v)), (5, .int (x))] 18 [] := by
        intro n9
        induction n9 with
        | zero => intro i h9 hi hin; exact absurd h9 (Nat.not_lt_zero _)
        | succ n9 ih18 =>
          intro i h9 hi hin
          refine V.iload F d_M_find_18 0 rfl ?_
          refine V.aload_n F d_M_find_20 rfl 1 rfl ?_
          refine V.get F ck_M d_M_find_21 13 (by decide) lk_M_59 0 rfl rfl ?_
          refine V.icmp_geN (tgt := 174) F d_M_find_24 (by decide) (by omega) (by omega) (fun c24 => ?_) (fun c24 => ?_)
          · skip
            refine V.iconst F d_M_find_174 (v := -1) (by decide) ?_
            exact V.iret F hr d_M_find_175 (⟨Or.inr ⟨fun f hf => hin f (by omega), rfl⟩, rfl⟩)
          · skip
            have hn8 := hnum i (by omega)
            refine V.aload_n F d_M_find_27 rfl 1 rfl ?_
            refine V.get F ck_M d_M_find_28 12 (by decide) lk_M_46 0 rfl rfl ?_
            refine V.iload_n F d_M_find_31 rfl 2 rfl ?_
            refine V.sipush F d_M_find_32 (v := nI (300)) (by decide) ?_
            refine V.imulN F d_M_find_35 ?_
            refine V.iload F d_M_find_36 0 rfl ?_
            refine V.iaddN F d_M_find_38 ?_
            refine V.zald (v := bI (kn (d) (i))) F d_M_find_39 12 3 rfl rfl (by omega) (by decide) (kn_at (by omega)) ?_
            refine V.if_eqB (b := kn (d) (i)) (tgt := 168) F d_M_find_40 (by decide) (fun c40 => ?_) (fun c40 => ?_)
            · skip
              refine V.iincN (k := 1) (lv2 := [(6, .int (nI (i + 1))), (0, .ref (mo 0)), (1, .int (nI (d))), (2, .int (kd)), (3, .long (v)), (5, .int (x))]) F d_M_find_168 0 rfl (by decide) (by decide) rfl ?_
              refine V.goto (tgt := 18) F d_M_find_171 (by decide) ?_
              exact ih18 (i + 1) (by omega) (by omega) (ord_stepX hin (by show ¬ (kn d i && (decide (nI (knd i) = kd) && decide (val i = v))) = true; rw [c40]; simp))
            · skip
              refine V.aload_n F d_M_find_43 rfl 1 rfl ?_
              refine V.get F ck_M d_M_find_44 6 (by decide) lk_M_26 0 rfl rfl ?_
              refine V.iload F d_M_find_47 0 rfl ?_
              refine V.iald (v := nI (knd (i))) F d_M_find_49 6 0 rfl rfl (by omega) (by decide) rfl ?_
              refine V.iload_n F d_M_find_50 rfl 3 rfl ?_
              refine V.icmp_ne (x := nI (knd (i))) (y := kd) (tgt := 168) F d_M_find_51 (by decide) (fun c51 => ?_) (fun c51 => ?_)
              · skip
                refine V.iincN (k := 1) (lv2 := [(6, .int (nI (i + 1))), (0, .ref (mo 0)), (1, .int (nI (d))), (2, .int (kd)), (3, .long (v)), (5, .int (x))]) F d_M_find_168 0 rfl (by decide) (by decide) rfl ?_
                refine V.goto (tgt := 18) F d_M_find_171 (by decide) ?_
                exact ih18 (i + 1) (by omega) (by omega) (ord_stepX hin (by show ¬ (kn d i && (decide (nI (knd i) = kd) && decide (val i = v))) = true; rw [decide_eq_false c51]; simp))
              · skip
                refine V.aload_n F d_M_find_54 rfl 1 rfl ?_
                refine V.get F ck_M d_M_find_55 8 (by decide) lk_M_32 0 rfl rfl ?_
                refine V.iload F d_M_find_58 0 rfl ?_
                refine V.lald (v := val (i)) F d_M_find_60 8 1 rfl rfl (by omega) (by decide) rfl ?_
                refine V.lload_n F d_M_find_61 rfl 4 rfl ?_
                refine V.lcmp_ne (tgt := 168) F d_M_find_62 d_M_find_63 (by decide) (fun c62 => ?_) (fun c62 => ?_)
                · skip
                  refine V.iincN (k := 1) (lv2 := [(6, .int (nI (i + 1))), (0, .ref (mo 0)), (1, .int (nI (d))), (2, .int (kd)), (3, .long (v)), (5, .int (x))]) F d_M_find_168 0 rfl (by decide) (by decide) rfl ?_
                  refine V.goto (tgt := 18) F d_M_find_171 (by decide) ?_
                  exact ih18 (i + 1) (by omega) (by omega) (ord_stepX hin (by show ¬ (kn d i && (decide (nI (knd i) = kd) && decide (val i = v))) = true; rw [decide_eq_false c62]; simp))
                · skip
                  refine V.iconst F d_M_find_66 (v := nI (0)) (by decide) ?_
                  refine V.istore (lv2 := [(7, .int (nI (0))), (6, .int (nI (i))), (0, .ref (mo 0)), (1, .int (nI (d))), (2, .int (kd)), (3, .long (v)), (5, .int (x))]) F d_M_find_67 (by decide) rfl ?_
                  refine V.iconst F d_M_find_69 (v := nI (0)) (by decide) ?_
                  refine V.istore (lv2 := [(8, .int (nI (0))), (7, .int (nI (0))), (6, .int (nI (i))), (0, .ref (mo 0)), (1, .int (nI (d))), (2, .int (kd)), (3, .long (v)), (5, .int (x))]) F d_M_find_70 (by decide) rfl ?_
                  have L72 : ∀ (n9 : Nat) (j : Nat) (q : Nat), nf - j < n9 → (j ≤ nf) → (q = cnt (fun h => (kn d h && (decide (nI (knd h) = kd) && decide (val h = v))) && decide (num h < num i)) j) → V p l e (rmK 1 0 0) s m [.ref (mo 0), .int (nI (d)), .int (kd), .long (v), .int (x)].toArray below meth c D (va_A (MW ct mo nd nb nf bdk num thg knd dy val tim rep kn clk tol opn bof std xd) s.heap.size) 9 0 0 (EI D below (MW ct mo nd nb nf bdk num thg knd dy val tim rep kn clk tol opn bof std xd) [.ref (mo 0), .int (nI (d)), .int (kd), .long (v), .int (x)].toArray s 0 0 (fun r u => ((∃ f, f < nf ∧ (fun k => kn d k && (decide (nI (knd k) = kd) && decide (val k = v))) f = true ∧ x = nI (cnt (fun h => (kn d h && (decide (nI (knd h) = kd) && decide (val h = v))) && decide (num h < num f)) nf) ∧ r = nI (num f)) ∨ ((∀ f, f < nf → (fun k => kn d k && (decide (nI (knd k) = kd) && decide (val k = v))) f = true → ¬ x = nI (cnt (fun h => (kn d h && (decide (nI (knd h) = kd) && decide (val h = v))) && decide (num h < num f)) nf)) ∧ r = -1)) ∧ u = MW ct mo nd nb nf bdk num thg knd dy val tim rep kn clk tol opn bof std xd)) (MW ct mo nd nb nf bdk num thg knd dy val tim rep kn clk tol opn bof std xd) [(8, .int (nI (j))), (7, .int (nI (q))), (6, .int (nI (i))), (0, .ref (mo 0)), (1, .int (nI (d))), (2, .int (kd)), (3, .long (v)), (5, .int (x))] 72 [] := by
                    intro n9
                    induction n9 with
                    | zero => intro j q h9 hj hq; exact absurd h9 (Nat.not_lt_zero _)
                    | succ n9 ih72 =>
                      intro j q h9 hj hq
                      refine V.iload F d_M_find_72 0 rfl ?_
                      refine V.aload_n F d_M_find_74 rfl 3 rfl ?_
                      refine V.get F ck_M d_M_find_75 13 (by decide) lk_M_59 0 rfl rfl ?_
                      refine V.icmp_geN (tgt := 153) F d_M_find_78 (by decide) (by omega) (by omega) (fun c78 => ?_) (fun c78 => ?_)
                      · skip
                        have e7 : j = nf := by omega
                        rw [e7] at hq
                        subst hq
                        refine V.iload F d_M_find_153 1 rfl ?_
                        refine V.iload F d_M_find_155 7 rfl ?_
                        refine V.icmp_ne (x := nI (cnt (fun h => (kn d h && (decide (nI (knd h) = kd) && decide (val h = v))) && decide (num h < num i)) nf)) (y := x) (tgt := 168) F d_M_find_157 (by decide) (fun c157 => ?_) (fun c157 => ?_)
                        · skip
                          refine V.iincN (k := 1) (lv2 := [(6, .int (nI (i + 1))), (8, .int (nI (j))), (7, .int (nI (cnt (fun h => (kn d h && (decide (nI (knd h) = kd) && decide (val h = v))) && decide (num h < num i)) nf))), (0, .ref (mo 0)), (1, .int (nI (d))), (2, .int (kd)), (3, .long (v)), (5, .int (x))]) F d_M_find_168 2 rfl (by decide) (by decide) rfl ?_
                          refine V.goto (tgt := 18) F d_M_find_171 (by decide) ?_
                          refine V.lvs [0, 3, 4, 5, 6, 7] rfl ?_
                          exact ih18 (i + 1) (by omega) (by omega) (ord_stepY hin (fun q => c157 q.symm))
                        · skip
                          refine V.aload_n F d_M_find_160 rfl 3 rfl ?_
                          refine V.get F ck_M d_M_find_161 4 (by decide) lk_M_20 0 rfl rfl ?_
                          refine V.iload F d_M_find_164 2 rfl ?_
                          refine V.iald (v := nI (num (i))) F d_M_find_166 4 0 rfl rfl (by omega) (by decide) rfl ?_
                          exact V.iret F hr d_M_find_167 (⟨Or.inl ⟨i, by omega, by show (kn d i && (decide (nI (knd i) = kd) && decide (val i = v))) = true; rw [c40, decide_eq_true c51, decide_eq_true c62]; rfl, c157.symm, rfl⟩, rfl⟩)
                      · skip
                        have hn9 := hnum j (by omega)
                        refine V.iload F d_M_find_81 1 rfl ?_
                        refine V.aload_n F d_M_find_83 rfl 3 rfl ?_
                        refine V.get F ck_M d_M_find_84 12 (by decide) lk_M_46 0 rfl rfl ?_
                        refine V.iload_n F d_M_find_87 rfl 4 rfl ?_
                        refine V.sipush F d_M_find_88 (v := nI (300)) (by decide) ?_
                        refine V.imulN F d_M_find_91 ?_
                        refine V.iload F d_M_find_92 0 rfl ?_
                        refine V.iaddN F d_M_find_94 ?_
                        refine V.zald (v := bI (kn (d) (j))) F d_M_find_95 12 3 rfl rfl (by omega) (by decide) (kn_at (by omega)) ?_
                        refine V.if_eqB (b := kn (d) (j)) (tgt := 143) F d_M_find_96 (by decide) (fun c96 => ?_) (fun c96 => ?_)
                        · skip
                          refine V.iconst F d_M_find_143 (v := nI (0)) (by decide) ?_
                          refine V.iaddN F d_M_find_144 ?_
                          refine V.istore (lv2 := [(7, .int (nI ((q) + (0)))), (8, .int (nI (j))), (6, .int (nI (i))), (0, .ref (mo 0)), (1, .int (nI (d))), (2, .int (kd)), (3, .long (v)), (5, .int (x))]) F d_M_find_145 (by decide) rfl ?_
                          refine V.iincN (k := 1) (lv2 := [(8, .int (nI (j + 1))), (7, .int (nI ((q) + (0)))), (6, .int (nI (i))), (0, .ref (mo 0)), (1, .int (nI (d))), (2, .int (kd)), (3, .long (v)), (5, .int (x))]) F d_M_find_147 1 rfl (by decide) (by decide) rfl ?_
                          refine V.goto (tgt := 72) F d_M_find_150 (by decide) ?_
                          exact ih72 (j + 1) (q) (by omega) (by omega) (by rw [hq, cnt, if_neg (by show ¬ ((kn d j && (decide (nI (knd j) = kd) && decide (val j = v))) && decide (num j < num i)) = true; rw [c96]; simp)]; rfl)
                        · skip
                          refine V.aload_n F d_M_find_99 rfl 3 rfl ?_
                          refine V.get F ck_M d_M_find_100 6 (by decide) lk_M_26 0 rfl rfl ?_
                          refine V.iload F d_M_find_103 0 rfl ?_
                          refine V.iald (v := nI (knd (j))) F d_M_find_105 6 0 rfl rfl (by omega) (by decide) rfl ?_
                          refine V.iload_n F d_M_find_106 rfl 5 rfl ?_
                          refine V.icmp_ne (x := nI (knd (j))) (y := kd) (tgt := 143) F d_M_find_107 (by decide) (fun c107 => ?_) (fun c107 => ?_)
                          · skip
                            refine V.iconst F d_M_find_143 (v := nI (0)) (by decide) ?_
                            refine V.iaddN F d_M_find_144 ?_
                            refine V.istore (lv2 := [(7, .int (nI ((q) + (0)))), (8, .int (nI (j))), (6, .int (nI (i))), (0, .ref (mo 0)), (1, .int (nI (d))), (2, .int (kd)), (3, .long (v)), (5, .int (x))]) F d_M_find_145 (by decide) rfl ?_
                            refine V.iincN (k := 1) (lv2 := [(8, .int (nI (j + 1))), (7, .int (nI ((q) + (0)))), (6, .int (nI (i))), (0, .ref (mo 0)), (1, .int (nI (d))), (2, .int (kd)), (3, .long (v)), (5, .int (x))]) F d_M_find_147 1 rfl (by decide) (by decide) rfl ?_
                            refine V.goto (tgt := 72) F d_M_find_150 (by decide) ?_
                            exact ih72 (j + 1) (q) (by omega) (by omega) (by rw [hq, cnt, if_neg (by show ¬ ((kn d j && (decide (nI (knd j) = kd) && decide (val j = v))) && decide (num j < num i)) = true; rw [decide_eq_false c107]; simp)]; rfl)
                          · skip
                            refine V.aload_n F d_M_find_110 rfl 3 rfl ?_
                            refine V.get F ck_M d_M_find_111 8 (by decide) lk_M_32 0 rfl rfl ?_
                            refine V.iload F d_M_find_114 0 rfl ?_
                            refine V.lald (v := val (j)) F d_M_find_116 8 1 rfl rfl (by omega) (by decide) rfl ?_
                            refine V.lload_n F d_M_find_117 rfl 6 rfl ?_
                            refine V.lcmp_ne (tgt := 143) F d_M_find_118 d_M_find_119 (by decide) (fun c118 => ?_) (fun c118 => ?_)
                            · skip
                              refine V.iconst F d_M_find_143 (v := nI (0)) (by decide) ?_
                              refine V.iaddN F d_M_find_144 ?_
                              refine V.istore (lv2 := [(7, .int (nI ((q) + (0)))), (8, .int (nI (j))), (6, .int (nI (i))), (0, .ref (mo 0)), (1, .int (nI (d))), (2, .int (kd)), (3, .long (v)), (5, .int (x))]) F d_M_find_145 (by decide) rfl ?_
                              refine V.iincN (k := 1) (lv2 := [(8, .int (nI (j + 1))), (7, .int (nI ((q) + (0)))), (6, .int (nI (i))), (0, .ref (mo 0)), (1, .int (nI (d))), (2, .int (kd)), (3, .long (v)), (5, .int (x))]) F d_M_find_147 1 rfl (by decide) (by decide) rfl ?_
                              refine V.goto (tgt := 72) F d_M_find_150 (by decide) ?_
                              exact ih72 (j + 1) (q) (by omega) (by omega) (by rw [hq, cnt, if_neg (by show ¬ ((kn d j && (decide (nI (knd j) = kd) && decide (val j = v))) && decide (num j < num i)) = true; rw [decide_eq_false c118]; simp)]; rfl)
                            · skip
                              refine V.aload_n F d_M_find_122 rfl 3 rfl ?_
                              refine V.get F ck_M d_M_find_123 4 (by decide) lk_M_20 0 rfl rfl ?_
                              refine V.iload F d_M_find_126 0 rfl ?_
                              refine V.iald (v := nI (num (j))) F d_M_find_128 4 0 rfl rfl (by omega) (by decide) rfl ?_
                              refine V.aload_n F d_M_find_129 rfl 3 rfl ?_
                              refine V.get F ck_M d_M_find_130 4 (by decide) lk_M_20 0 rfl rfl ?_
                              refine V.iload F d_M_find_133 2 rfl ?_
                              refine V.iald (v := nI (num (i))) F d_M_find_135 4 0 rfl rfl (by omega) (by decide) rfl ?_
                              refine V.icmp_geN (tgt := 143) F d_M_find_136 (by decide) (by omega) (by omega) (fun c136 => ?_) (fun c136 => ?_)
                              · skip
                                refine V.iconst F d_M_find_143 (v := nI (0)) (by decide) ?_
                                refine V.iaddN F d_M_find_144 ?_
                                refine V.istore (lv2 := [(7, .int (nI ((q) + (0)))), (8, .int (nI (j))), (6, .int (nI (i))), (0, .ref (mo 0)), (1, .int (nI (d))), (2, .int (kd)), (3, .long (v)), (5, .int (x))]) F d_M_find_145 (by decide) rfl ?_
                                refine V.iincN (k := 1) (lv2 := [(8, .int (nI (j + 1))), (7, .int (nI ((q) + (0)))), (6, .int (nI (i))), (0, .ref (mo 0)), (1, .int (nI (d))), (2, .int (kd)), (3, .long (v)), (5, .int (x))]) F d_M_find_147 1 rfl (by decide) (by decide) rfl ?_
                                refine V.goto (tgt := 72) F d_M_find_150 (by decide) ?_
                                exact ih72 (j + 1) (q) (by omega) (by omega) (by rw [hq, cnt, if_neg (by show ¬ ((kn d j && (decide (nI (knd j) = kd) && decide (val j = v))) && decide (num j < num i)) = true; rw [decide_eq_false (by omega : ¬ num j < num i)]; simp)]; rfl)
                              · skip
                                refine V.iconst F d_M_find_139 (v := nI (1)) (by decide) ?_
                                refine V.goto (tgt := 144) F d_M_find_140 (by decide) ?_
                                refine V.iaddN F d_M_find_144 ?_
                                refine V.istore (lv2 := [(7, .int (nI ((q) + (1)))), (8, .int (nI (j))), (6, .int (nI (i))), (0, .ref (mo 0)), (1, .int (nI (d))), (2, .int (kd)), (3, .long (v)), (5, .int (x))]) F d_M_find_145 (by decide) rfl ?_
                                refine V.iincN (k := 1) (lv2 := [(8, .int (nI (j + 1))), (7, .int (nI ((q) + (1)))), (6, .int (nI (i))), (0, .ref (mo 0)), (1, .int (nI (d))), (2, .int (kd)), (3, .long (v)), (5, .int (x))]) F d_M_find_147 1 rfl (by decide) (by decide) rfl ?_
                                refine V.goto (tgt := 72) F d_M_find_150 (by decide) ?_
                                exact ih72 (j + 1) (q + 1) (by omega) (by omega) (by rw [hq, cnt, if_pos (by show ((kn d j && (decide (nI (knd j) = kd) && decide (val j = v))) && decide (num j < num i)) = true; rw [c96, decide_eq_true c107, decide_eq_true c118, decide_eq_true c136]; rfl)])
                  exact L72 _ (0) (0) (Nat.lt_succ_self _) (by omega) (rfl)
      exact L18 _ (0) (Nat.lt_succ_self _) (by omega) (fun f hf => absurd hf (by omega))
    · skip
      exact absurd (i32_nl c10) hx

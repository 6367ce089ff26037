def jn (kn : Nat → Nat → Bool) (d d2 n : Nat) : Nat → Nat → Bool := fun a b => if a = d ∧ b < n then kn d b || kn d2 b else kn a b
theorem jn_0 (kn : Nat → Nat → Bool) (d d2 : Nat) : kn = jn kn d d2 0 := by
  funext a b
  unfold jn
  rw [if_neg (by omega)]
theorem jn_step {kn : Nat → Nat → Bool} {d d2 i : Nat} (hne : d2 ≠ d) : up2 (jn kn d d2 i) d i (jn kn d d2 i d i || jn kn d d2 i d2 i) = jn kn d d2 (i + 1) := by
  funext a b
  unfold up2 jn
  rw [if_neg (show ¬ (d = d ∧ i < i) by omega), if_neg (show ¬ (d2 = d ∧ i < i) by omega)]
  by_cases h : a = d ∧ b = i
  · rw [if_pos h, if_pos ⟨h.1, by omega⟩, h.2]
  · rw [if_neg h]
    by_cases h2 : a = d ∧ b < i
    · rw [if_pos h2, if_pos ⟨h2.1, by omega⟩]
    · rw [if_neg h2, if_neg (by omega)]
def en (kn : Nat → Nat → Bool) (bof : Nat → Option Nat) (d n b0 : Nat) : Nat → Nat → Bool := fun a b => if a = d ∧ b < n then kn d b || decide (bof b = some b0) else kn a b
theorem en_0 (kn : Nat → Nat → Bool) (bof : Nat → Option Nat) (d b0 : Nat) : kn = en kn bof d 0 b0 := by
  funext a b
  unfold en
  rw [if_neg (by omega)]
theorem en_step {kn : Nat → Nat → Bool} {bof : Nat → Option Nat} {d i b0 : Nat} {x : Bool} (hx : x = decide (bof i = some b0)) : up2 (en kn bof d i b0) d i (en kn bof d i b0 d i || x) = en kn bof d (i + 1) b0 := by
  funext a b
  unfold up2 en
  rw [if_neg (show ¬ (d = d ∧ i < i) by omega), hx]
  by_cases h : a = d ∧ b = i
  · rw [if_pos h, if_pos ⟨h.1, by omega⟩, h.2]
  · rw [if_neg h]
    by_cases h2 : a = d ∧ b < i
    · rw [if_pos h2, if_pos ⟨h2.1, by omega⟩]
    · rw [if_neg h2, if_neg (by omega)]
theorem oI_eq {o : Option Nat} {b : Nat} (ho : ∀ g, o = some g → g < 2 ^ 31) (hb : b < 2 ^ 31) : oI o = nI b ↔ o = some b := by
  cases o with
  | none => exact ⟨fun q => absurd q.symm (nI_nm1 hb), fun q => by cases q⟩
  | some g => exact ⟨fun q => by rw [(nI_eq (ho g rfl) hb).mp q], fun q => by cases q; rfl⟩
theorem bI_inj {a b : Bool} (h : bI a = bI b) : a = b := by
  cases a <;> cases b <;> first | rfl | exact absurd h (by decide)
theorem sm_e {S T : Nat → Bool} {i n : Nat} (h : sameB S T i = false) (hi : i ≤ n) : sameB S T n = false := by
  cases e : sameB S T n with
  | false => rfl
  | true =>
    have := (sameB_iff S T i).mpr (fun k hk => (sameB_iff S T n).mp e k (by omega))
    rw [h] at this
    cases this
set_option maxHeartbeats 4000000 in
set_option maxRecDepth 100000 in
theorem m_conflicts (l : Launch) (D : va_G) {ct : Nat → ClassId} {mo : Nat → Nat} {nd : Nat} {nb : Nat} {nf : Nat} {bdk : Nat → Nat} {num : Nat → Nat} {thg : Nat → Nat} {knd : Nat → Nat} {dy : Nat → Nat} {val : Nat → Int64} {tim : Nat → Nat} {rep : Nat → Nat → Bool} {kn : Nat → Nat → Bool} {clk : Nat → Nat} {tol : Nat → Nat} {opn : Nat → Option Nat} {bof : Nat → Option Nat} {std : Nat → Bool} {xd : Int64} (hnf : nf ≤ 300) (hnd : nd ≤ 8) (d : Nat) (hd0 : d < nd) (spt : Nat → Nat) (hsp : SpR spt thg knd dy nf) : CI l y_M_conflicts b_M_conflicts 4 (some .int) (rmK 2 0 0) D (tyL ct) (MW ct mo nd nb nf bdk num thg knd dy val tim rep kn clk tol opn bof std xd) [.ref (mo 0), .int (nI (d))] 0 0 (fun r u => ∃ P : Nat → Bool, (∀ f, f < nf → P f = lkB (kn d) rep f nf) ∧ r = nI (cnt (fun f => fcB spt val P nf f) nf) ∧ u = MW ct mo nd nb nf bdk num thg knd dy val tim rep kn clk tol opn bof P xd) := by
  refine CI.start (by decide) (Nat.le_of_ble_eq_true rfl) ?_
  intro p e s m below meth c F hr hnm
  show V p l e (rmK 2 0 0) s m [.ref (mo 0), .int (nI (d))].toArray below meth c D (va_A (MW ct mo nd nb nf bdk num thg knd dy val tim rep kn clk tol opn bof std xd) s.heap.size) 4 0 0 (EI D below (MW ct mo nd nb nf bdk num thg knd dy val tim rep kn clk tol opn bof std xd) [.ref (mo 0), .int (nI (d))].toArray s 0 0 (fun r u => ∃ P : Nat → Bool, (∀ f, f < nf → P f = lkB (kn d) rep f nf) ∧ r = nI (cnt (fun f => fcB spt val P nf f) nf) ∧ u = MW ct mo nd nb nf bdk num thg knd dy val tim rep kn clk tol opn bof P xd)) (MW ct mo nd nb nf bdk num thg knd dy val tim rep kn clk tol opn bof std xd) [(0, .ref (mo 0)), (1, .int (nI (d)))] 0 []
  refine V.aload_n F d_M_conflicts_0 rfl 0 rfl ?_
  refine V.iload_n F d_M_conflicts_1 rfl 1 rfl ?_
  refine V.callVV0 (As := [.int (nI (d))]) (rest := []) F (m_look l D hnf hnd d hd0) d_M_conflicts_2 sv_M_80 im_y_M_look sl_y_M_look 0 rfl rfl rfl rfl rfl (Nat.le_of_ble_eq_true rfl) ⟨rfl, rfl, (Nat.le_of_ble_eq_true rfl), (Nat.le_of_ble_eq_true rfl)⟩ ⟨(Nat.le_of_ble_eq_true rfl), (Nat.le_of_ble_eq_true rfl)⟩ (fun u9 h9 => ?_)
  obtain ⟨P, hP, rfl⟩ := h9
  refine V.iconst F d_M_conflicts_5 (v := nI (0)) (by decide) ?_
  refine V.istore_n (lv2 := [(2, .int (nI (0))), (0, .ref (mo 0)), (1, .int (nI (d)))]) F d_M_conflicts_6 rfl (by decide) rfl ?_
  refine V.iconst F d_M_conflicts_7 (v := nI (0)) (by decide) ?_
  refine V.istore_n (lv2 := [(3, .int (nI (0))), (2, .int (nI (0))), (0, .ref (mo 0)), (1, .int (nI (d)))]) F d_M_conflicts_8 rfl (by decide) rfl ?_
  have L9 : ∀ (n9 : Nat) (i : Nat) (z : Nat), nf - i < n9 → (i ≤ nf) → (z = cnt (fun f => fcB spt val P nf f) i) → V p l e (rmK 2 0 0) s m [.ref (mo 0), .int (nI (d))].toArray below meth c D (va_A (MW ct mo nd nb nf bdk num thg knd dy val tim rep kn clk tol opn bof std xd) s.heap.size) 4 0 0 (EI D below (MW ct mo nd nb nf bdk num thg knd dy val tim rep kn clk tol opn bof std xd) [.ref (mo 0), .int (nI (d))].toArray s 0 0 (fun r u => ∃ P : Nat → Bool, (∀ f, f < nf → P f = lkB (kn d) rep f nf) ∧ r = nI (cnt (fun f => fcB spt val P nf f) nf) ∧ u = MW ct mo nd nb nf bdk num thg knd dy val tim rep kn clk tol opn bof P xd)) (MW ct mo nd nb nf bdk num thg knd dy val tim rep kn clk tol opn bof P xd) [(3, .int (nI (i))), (2, .int (nI (z))), (0, .ref (mo 0)), (1, .int (nI (d)))] 9 [] := by
    intro n9
    induction n9 with
    | zero => intro i z h9 hi hz; exact absurd h9 (Nat.not_lt_zero _)
    | succ n9 ih9 =>
      intro i z h9 hi hz
      refine V.iload_n F d_M_conflicts_9 rfl 0 rfl ?_
      refine V.aload_n F d_M_conflicts_10 rfl 2 rfl ?_
      refine V.get F ck_M d_M_conflicts_11 13 (by decide) lk_M_59 0 rfl rfl ?_
      refine V.icmp_geN (tgt := 39) F d_M_conflicts_14 (by decide) (by omega) (by omega) (fun c14 => ?_) (fun c14 => ?_)
      · skip
        refine V.iload_n F d_M_conflicts_39 rfl 1 rfl ?_
        exact V.iret F hr d_M_conflicts_40 (⟨P, hP, by rw [hz, show i = nf by omega], rfl⟩)
      · skip
        refine V.iload_n F d_M_conflicts_17 rfl 1 rfl ?_
        refine V.aload_n F d_M_conflicts_18 rfl 2 rfl ?_
        refine V.iload_n F d_M_conflicts_19 rfl 0 rfl ?_
        refine V.callVI0 (As := [.int (nI (i))]) (rest := [.int (nI (z))]) F (m_isFC l D hnf spt hsp i (by omega)) d_M_conflicts_20 sv_M_88 im_y_M_isFirstOfConflict sl_y_M_isFirstOfConflict 0 rfl rfl rfl rfl rfl (Nat.le_of_ble_eq_true rfl) ⟨rfl, rfl, (Nat.le_of_ble_eq_true rfl), (Nat.le_of_ble_eq_true rfl)⟩ ⟨(Nat.le_of_ble_eq_true rfl), (Nat.le_of_ble_eq_true rfl)⟩ (fun r9 u9 h9 => ?_)
        obtain ⟨rfl, rfl⟩ := h9
        refine V.if_eqB (b := fcB spt val P nf i) (tgt := 30) F d_M_conflicts_23 (by decide) (fun c23 => ?_) (fun c23 => ?_)
        · skip
          refine V.iconst F d_M_conflicts_30 (v := nI (0)) (by decide) ?_
          refine V.iaddN F d_M_conflicts_31 ?_
          refine V.istore_n (lv2 := [(2, .int (nI ((z) + (0)))), (3, .int (nI (i))), (0, .ref (mo 0)), (1, .int (nI (d)))]) F d_M_conflicts_32 rfl (by decide) rfl ?_
          refine V.iincN (k := 1) (lv2 := [(3, .int (nI (i + 1))), (2, .int (nI ((z) + (0)))), (0, .ref (mo 0)), (1, .int (nI (d)))]) F d_M_conflicts_33 1 rfl (by decide) (by decide) rfl ?_
          refine V.goto (tgt := 9) F d_M_conflicts_36 (by decide) ?_
          exact ih9 (i + 1) (z) (by omega) (by omega) (by rw [hz, cnt, if_neg (by rw [c23]; decide)]; rfl)
        · skip
          refine V.iconst F d_M_conflicts_26 (v := nI (1)) (by decide) ?_
          refine V.goto (tgt := 31) F d_M_conflicts_27 (by decide) ?_
          refine V.iaddN F d_M_conflicts_31 ?_
          refine V.istore_n (lv2 := [(2, .int (nI ((z) + (1)))), (3, .int (nI (i))), (0, .ref (mo 0)), (1, .int (nI (d)))]) F d_M_conflicts_32 rfl (by decide) rfl ?_
          refine V.iincN (k := 1) (lv2 := [(3, .int (nI (i + 1))), (2, .int (nI ((z) + (1)))), (0, .ref (mo 0)), (1, .int (nI (d)))]) F d_M_conflicts_33 1 rfl (by decide) (by decide) rfl ?_
          refine V.goto (tgt := 9) F d_M_conflicts_36 (by decide) ?_
          exact ih9 (i + 1) (z + 1) (by omega) (by omega) (by rw [hz, cnt, if_pos c23])
  exact L9 _ (0) (0) (Nat.lt_succ_self _) (by omega) (rfl)

set_option maxHeartbeats 4000000 in
set_option maxRecDepth 100000 in
theorem m_isBefore (l : Launch) (D : va_G) {ct : Nat → ClassId} {mo : Nat → Nat} {nd : Nat} {nb : Nat} {nf : Nat} {bdk : Nat → Nat} {num : Nat → Nat} {thg : Nat → Nat} {knd : Nat → Nat} {dy : Nat → Nat} {val : Nat → Int64} {tim : Nat → Nat} {rep : Nat → Nat → Bool} {kn : Nat → Nat → Bool} {clk : Nat → Nat} {tol : Nat → Nat} {opn : Nat → Option Nat} {bof : Nat → Option Nat} {std : Nat → Bool} {xd : Int64} (hnf : nf ≤ 300) (spt : Nat → Nat) (hsp : SpR spt thg knd dy nf) (f g : Nat) (hf : f < nf) (hg : g < nf) : CI l y_M_isBefore b_M_isBefore 3 (some .boolean) (rmK 0 0 0) D (tyL ct) (MW ct mo nd nb nf bdk num thg knd dy val tim rep kn clk tol opn bof std xd) [.ref (mo 0), .int (nI (f)), .int (nI (g))] 0 0 (fun r u => r = bI (decide (spt f < spt g)) ∧ u = MW ct mo nd nb nf bdk num thg knd dy val tim rep kn clk tol opn bof std xd) := by
  refine CI.start (by decide) (Nat.le_of_ble_eq_true rfl) ?_
  intro p e s m below meth c F hr hnm
  show V p l e (rmK 0 0 0) s m [.ref (mo 0), .int (nI (f)), .int (nI (g))].toArray below meth c D (va_A (MW ct mo nd nb nf bdk num thg knd dy val tim rep kn clk tol opn bof std xd) s.heap.size) 3 0 0 (EI D below (MW ct mo nd nb nf bdk num thg knd dy val tim rep kn clk tol opn bof std xd) [.ref (mo 0), .int (nI (f)), .int (nI (g))].toArray s 0 0 (fun r u => r = bI (decide (spt f < spt g)) ∧ u = MW ct mo nd nb nf bdk num thg knd dy val tim rep kn clk tol opn bof std xd)) (MW ct mo nd nb nf bdk num thg knd dy val tim rep kn clk tol opn bof std xd) [(0, .ref (mo 0)), (1, .int (nI (f))), (2, .int (nI (g)))] 0 []
  obtain ⟨f1, f2, f3, f4⟩ := hsp f hf
  obtain ⟨g1, g2, g3, g4⟩ := hsp g hg
  refine V.aload_n F d_M_isBefore_0 rfl 0 rfl ?_
  refine V.get F ck_M d_M_isBefore_1 5 (by decide) lk_M_23 0 rfl rfl ?_
  refine V.iload_n F d_M_isBefore_4 rfl 1 rfl ?_
  refine V.iald (v := nI (thg (f))) F d_M_isBefore_5 5 0 rfl rfl (by omega) (by decide) rfl ?_
  refine V.aload_n F d_M_isBefore_6 rfl 0 rfl ?_
  refine V.get F ck_M d_M_isBefore_7 5 (by decide) lk_M_23 0 rfl rfl ?_
  refine V.iload_n F d_M_isBefore_10 rfl 2 rfl ?_
  refine V.iald (v := nI (thg (g))) F d_M_isBefore_11 5 0 rfl rfl (by omega) (by decide) rfl ?_
  refine V.icmp_eqN (tgt := 38) F d_M_isBefore_12 (by decide) (by omega) (by omega) (fun c12 => ?_) (fun c12 => ?_)
  · skip
    refine V.aload_n F d_M_isBefore_38 rfl 0 rfl ?_
    refine V.get F ck_M d_M_isBefore_39 6 (by decide) lk_M_26 0 rfl rfl ?_
    refine V.iload_n F d_M_isBefore_42 rfl 1 rfl ?_
    refine V.iald (v := nI (knd (f))) F d_M_isBefore_43 6 0 rfl rfl (by omega) (by decide) rfl ?_
    refine V.aload_n F d_M_isBefore_44 rfl 0 rfl ?_
    refine V.get F ck_M d_M_isBefore_45 6 (by decide) lk_M_26 0 rfl rfl ?_
    refine V.iload_n F d_M_isBefore_48 rfl 2 rfl ?_
    refine V.iald (v := nI (knd (g))) F d_M_isBefore_49 6 0 rfl rfl (by omega) (by decide) rfl ?_
    refine V.icmp_eqN (tgt := 76) F d_M_isBefore_50 (by decide) (by omega) (by omega) (fun c50 => ?_) (fun c50 => ?_)
    · skip
      refine V.aload_n F d_M_isBefore_76 rfl 0 rfl ?_
      refine V.get F ck_M d_M_isBefore_77 7 (by decide) lk_M_29 0 rfl rfl ?_
      refine V.iload_n F d_M_isBefore_80 rfl 1 rfl ?_
      refine V.lald (v := lN (dy (f))) F d_M_isBefore_81 7 1 rfl rfl (by omega) (by decide) rfl ?_
      refine V.aload_n F d_M_isBefore_82 rfl 0 rfl ?_
      refine V.get F ck_M d_M_isBefore_83 7 (by decide) lk_M_29 0 rfl rfl ?_
      refine V.iload_n F d_M_isBefore_86 rfl 2 rfl ?_
      refine V.lald (v := lN (dy (g))) F d_M_isBefore_87 7 1 rfl rfl (by omega) (by decide) rfl ?_
      refine V.lcmp_ge (tgt := 96) F d_M_isBefore_88 d_M_isBefore_89 (by decide) (fun c88 => ?_) (fun c88 => ?_)
      · skip
        have c9 := (lN_le (by omega) (by omega)).mp c88
        refine V.iconst F d_M_isBefore_96 (v := nI (0)) (by decide) ?_
        exact V.zret F hr (nar_0) d_M_isBefore_97 (⟨by rw [decide_eq_false (by omega)]; exact bI_f, rfl⟩)
      · skip
        have c9 : dy f < dy g := Nat.lt_of_not_le (fun q => c88 ((lN_le (by omega) (by omega)).mpr q))
        refine V.iconst F d_M_isBefore_92 (v := nI (1)) (by decide) ?_
        refine V.goto (tgt := 97) F d_M_isBefore_93 (by decide) ?_
        exact V.zret F hr (nar_1) d_M_isBefore_97 (⟨by rw [decide_eq_true (by omega)]; exact bI_t, rfl⟩)
    · skip
      refine V.aload_n F d_M_isBefore_53 rfl 0 rfl ?_
      refine V.get F ck_M d_M_isBefore_54 6 (by decide) lk_M_26 0 rfl rfl ?_
      refine V.iload_n F d_M_isBefore_57 rfl 1 rfl ?_
      refine V.iald (v := nI (knd (f))) F d_M_isBefore_58 6 0 rfl rfl (by omega) (by decide) rfl ?_
      refine V.aload_n F d_M_isBefore_59 rfl 0 rfl ?_
      refine V.get F ck_M d_M_isBefore_60 6 (by decide) lk_M_26 0 rfl rfl ?_
      refine V.iload_n F d_M_isBefore_63 rfl 2 rfl ?_
      refine V.iald (v := nI (knd (g))) F d_M_isBefore_64 6 0 rfl rfl (by omega) (by decide) rfl ?_
      refine V.icmp_geN (tgt := 72) F d_M_isBefore_65 (by decide) (by omega) (by omega) (fun c65 => ?_) (fun c65 => ?_)
      · skip
        refine V.iconst F d_M_isBefore_72 (v := nI (0)) (by decide) ?_
        refine V.goto (tgt := 97) F d_M_isBefore_73 (by decide) ?_
        exact V.zret F hr (nar_0) d_M_isBefore_97 (⟨by rw [decide_eq_false (by omega)]; exact bI_f, rfl⟩)
      · skip
        refine V.iconst F d_M_isBefore_68 (v := nI (1)) (by decide) ?_
        refine V.goto (tgt := 97) F d_M_isBefore_69 (by decide) ?_
        exact V.zret F hr (nar_1) d_M_isBefore_97 (⟨by rw [decide_eq_true (by omega)]; exact bI_t, rfl⟩)
  · skip
    refine V.aload_n F d_M_isBefore_15 rfl 0 rfl ?_
    refine V.get F ck_M d_M_isBefore_16 5 (by decide) lk_M_23 0 rfl rfl ?_
    refine V.iload_n F d_M_isBefore_19 rfl 1 rfl ?_
    refine V.iald (v := nI (thg (f))) F d_M_isBefore_20 5 0 rfl rfl (by omega) (by decide) rfl ?_
    refine V.aload_n F d_M_isBefore_21 rfl 0 rfl ?_
    refine V.get F ck_M d_M_isBefore_22 5 (by decide) lk_M_23 0 rfl rfl ?_
    refine V.iload_n F d_M_isBefore_25 rfl 2 rfl ?_
    refine V.iald (v := nI (thg (g))) F d_M_isBefore_26 5 0 rfl rfl (by omega) (by decide) rfl ?_
    refine V.icmp_geN (tgt := 34) F d_M_isBefore_27 (by decide) (by omega) (by omega) (fun c27 => ?_) (fun c27 => ?_)
    · skip
      refine V.iconst F d_M_isBefore_34 (v := nI (0)) (by decide) ?_
      refine V.goto (tgt := 97) F d_M_isBefore_35 (by decide) ?_
      exact V.zret F hr (nar_0) d_M_isBefore_97 (⟨by rw [decide_eq_false (by omega)]; exact bI_f, rfl⟩)
    · skip
      refine V.iconst F d_M_isBefore_30 (v := nI (1)) (by decide) ?_
      refine V.goto (tgt := 97) F d_M_isBefore_31 (by decide) ?_
      exact V.zret F hr (nar_1) d_M_isBefore_97 (⟨by rw [decide_eq_true (by omega)]; exact bI_t, rfl⟩)

set_option maxHeartbeats 4000000 in
set_option maxRecDepth 100000 in
theorem m_joinNo1 (l : Launch) (D : va_G) {ct : Nat → ClassId} {mo : Nat → Nat} {nd : Nat} {nb : Nat} {nf : Nat} {bdk : Nat → Nat} {num : Nat → Nat} {thg : Nat → Nat} {knd : Nat → Nat} {dy : Nat → Nat} {val : Nat → Int64} {tim : Nat → Nat} {rep : Nat → Nat → Bool} {kn : Nat → Nat → Bool} {clk : Nat → Nat} {tol : Nat → Nat} {opn : Nat → Option Nat} {bof : Nat → Option Nat} {std : Nat → Bool} {xd : Int64} (x y : Int32) (hx : x < 0 ∨ nI nd ≤ x) : CI l y_M_join b_M_join 4 (some .int) (rmK 3 0 0) D (tyL ct) (MW ct mo nd nb nf bdk num thg knd dy val tim rep kn clk tol opn bof std xd) [.ref (mo 0), .int (x), .int (y)] 0 0 (fun r u => r = -1 ∧ u = MW ct mo nd nb nf bdk num thg knd dy val tim rep kn clk tol opn bof std xd) := by
  refine CI.start (by decide) (Nat.le_of_ble_eq_true rfl) ?_
  intro p e s m below meth c F hr hnm
  show V p l e (rmK 3 0 0) s m [.ref (mo 0), .int (x), .int (y)].toArray below meth c D (va_A (MW ct mo nd nb nf bdk num thg knd dy val tim rep kn clk tol opn bof std xd) s.heap.size) 4 0 0 (EI D below (MW ct mo nd nb nf bdk num thg knd dy val tim rep kn clk tol opn bof std xd) [.ref (mo 0), .int (x), .int (y)].toArray s 0 0 (fun r u => r = -1 ∧ u = MW ct mo nd nb nf bdk num thg knd dy val tim rep kn clk tol opn bof std xd)) (MW ct mo nd nb nf bdk num thg knd dy val tim rep kn clk tol opn bof std xd) [(0, .ref (mo 0)), (1, .int (x)), (2, .int (y))] 0 []
  refine V.aload_n F d_M_join_0 rfl 0 rfl ?_
  refine V.iload_n F d_M_join_1 rfl 1 rfl ?_
  refine V.callVI0 (As := [.int (x)]) (rest := []) F (m_isDeskNo l D x hx) d_M_join_2 sv_M_62 im_y_M_isDesk sl_y_M_isDesk 0 rfl rfl rfl rfl rfl (Nat.le_of_ble_eq_true rfl) ⟨rfl, rfl, (Nat.le_of_ble_eq_true rfl), (Nat.le_of_ble_eq_true rfl)⟩ ⟨(Nat.le_of_ble_eq_true rfl), (Nat.le_of_ble_eq_true rfl)⟩ (fun r9 u9 h9 => ?_)
  obtain ⟨rfl, rfl⟩ := h9
  refine V.if_eqB (b := false) (tgt := 21) F d_M_join_5 (by decide) (fun c5 => ?_) (fun c5 => ?_)
  · skip
    refine V.iconst F d_M_join_21 (v := -1) (by decide) ?_
    exact V.iret F hr d_M_join_22 (⟨rfl, rfl⟩)
  · skip
    exact absurd c5 (by decide)

set_option maxHeartbeats 4000000 in
set_option maxRecDepth 100000 in
theorem m_joinNo2 (l : Launch) (D : va_G) {ct : Nat → ClassId} {mo : Nat → Nat} {nd : Nat} {nb : Nat} {nf : Nat} {bdk : Nat → Nat} {num : Nat → Nat} {thg : Nat → Nat} {knd : Nat → Nat} {dy : Nat → Nat} {val : Nat → Int64} {tim : Nat → Nat} {rep : Nat → Nat → Bool} {kn : Nat → Nat → Bool} {clk : Nat → Nat} {tol : Nat → Nat} {opn : Nat → Option Nat} {bof : Nat → Option Nat} {std : Nat → Bool} {xd : Int64} (hnd : nd ≤ 8) (d : Nat) (hd0 : d < nd) (x : Int32) (hx : x < 0 ∨ nI nd ≤ x) : CI l y_M_join b_M_join 4 (some .int) (rmK 3 0 0) D (tyL ct) (MW ct mo nd nb nf bdk num thg knd dy val tim rep kn clk tol opn bof std xd) [.ref (mo 0), .int (nI (d)), .int (x)] 0 0 (fun r u => r = -1 ∧ u = MW ct mo nd nb nf bdk num thg knd dy val tim rep kn clk tol opn bof std xd) := by
  refine CI.start (by decide) (Nat.le_of_ble_eq_true rfl) ?_
  intro p e s m below meth c F hr hnm
  show V p l e (rmK 3 0 0) s m [.ref (mo 0), .int (nI (d)), .int (x)].toArray below meth c D (va_A (MW ct mo nd nb nf bdk num thg knd dy val tim rep kn clk tol opn bof std xd) s.heap.size) 4 0 0 (EI D below (MW ct mo nd nb nf bdk num thg knd dy val tim rep kn clk tol opn bof std xd) [.ref (mo 0), .int (nI (d)), .int (x)].toArray s 0 0 (fun r u => r = -1 ∧ u = MW ct mo nd nb nf bdk num thg knd dy val tim rep kn clk tol opn bof std xd)) (MW ct mo nd nb nf bdk num thg knd dy val tim rep kn clk tol opn bof std xd) [(0, .ref (mo 0)), (1, .int (nI (d))), (2, .int (x))] 0 []
  refine V.aload_n F d_M_join_0 rfl 0 rfl ?_
  refine V.iload_n F d_M_join_1 rfl 1 rfl ?_
  refine V.callVI0 (As := [.int (nI (d))]) (rest := []) F (m_isDesk l D hnd d hd0) d_M_join_2 sv_M_62 im_y_M_isDesk sl_y_M_isDesk 0 rfl rfl rfl rfl rfl (Nat.le_of_ble_eq_true rfl) ⟨rfl, rfl, (Nat.le_of_ble_eq_true rfl), (Nat.le_of_ble_eq_true rfl)⟩ ⟨(Nat.le_of_ble_eq_true rfl), (Nat.le_of_ble_eq_true rfl)⟩ (fun r9 u9 h9 => ?_)
  obtain ⟨rfl, rfl⟩ := h9
  refine V.if_eqB (b := true) (tgt := 21) F d_M_join_5 (by decide) (fun c5 => ?_) (fun c5 => ?_)
  · skip
    exact absurd c5 (by decide)
  · skip
    refine V.aload_n F d_M_join_8 rfl 0 rfl ?_
    refine V.iload_n F d_M_join_9 rfl 2 rfl ?_
    refine V.callVI0 (As := [.int (x)]) (rest := []) F (m_isDeskNo l D x hx) d_M_join_10 sv_M_62 im_y_M_isDesk sl_y_M_isDesk 0 rfl rfl rfl rfl rfl (Nat.le_of_ble_eq_true rfl) ⟨rfl, rfl, (Nat.le_of_ble_eq_true rfl), (Nat.le_of_ble_eq_true rfl)⟩ ⟨(Nat.le_of_ble_eq_true rfl), (Nat.le_of_ble_eq_true rfl)⟩ (fun r9 u9 h9 => ?_)
    obtain ⟨rfl, rfl⟩ := h9
    refine V.if_eqB (b := false) (tgt := 21) F d_M_join_13 (by decide) (fun c13 => ?_) (fun c13 => ?_)
    · skip
      refine V.iconst F d_M_join_21 (v := -1) (by decide) ?_
      exact V.iret F hr d_M_join_22 (⟨rfl, rfl⟩)
    · skip
      exact absurd c13 (by decide)

set_option maxHeartbeats 4000000 in
set_option maxRecDepth 100000 in
theorem m_joinSame (l : Launch) (D : va_G) {ct : Nat → ClassId} {mo : Nat → Nat} {nd : Nat} {nb : Nat} {nf : Nat} {bdk : Nat → Nat} {num : Nat → Nat} {thg : Nat → Nat} {knd : Nat → Nat} {dy : Nat → Nat} {val : Nat → Int64} {tim : Nat → Nat} {rep : Nat → Nat → Bool} {kn : Nat → Nat → Bool} {clk : Nat → Nat} {tol : Nat → Nat} {opn : Nat → Option Nat} {bof : Nat → Option Nat} {std : Nat → Bool} {xd : Int64} (hnd : nd ≤ 8) (d : Nat) (hd0 : d < nd) : CI l y_M_join b_M_join 4 (some .int) (rmK 3 0 0) D (tyL ct) (MW ct mo nd nb nf bdk num thg knd dy val tim rep kn clk tol opn bof std xd) [.ref (mo 0), .int (nI (d)), .int (nI (d))] 0 0 (fun r u => r = -1 ∧ u = MW ct mo nd nb nf bdk num thg knd dy val tim rep kn clk tol opn bof std xd) := by
  refine CI.start (by decide) (Nat.le_of_ble_eq_true rfl) ?_
  intro p e s m below meth c F hr hnm
  show V p l e (rmK 3 0 0) s m [.ref (mo 0), .int (nI (d)), .int (nI (d))].toArray below meth c D (va_A (MW ct mo nd nb nf bdk num thg knd dy val tim rep kn clk tol opn bof std xd) s.heap.size) 4 0 0 (EI D below (MW ct mo nd nb nf bdk num thg knd dy val tim rep kn clk tol opn bof std xd) [.ref (mo 0), .int (nI (d)), .int (nI (d))].toArray s 0 0 (fun r u => r = -1 ∧ u = MW ct mo nd nb nf bdk num thg knd dy val tim rep kn clk tol opn bof std xd)) (MW ct mo nd nb nf bdk num thg knd dy val tim rep kn clk tol opn bof std xd) [(0, .ref (mo 0)), (1, .int (nI (d))), (2, .int (nI (d)))] 0 []
  refine V.aload_n F d_M_join_0 rfl 0 rfl ?_
  refine V.iload_n F d_M_join_1 rfl 1 rfl ?_
  refine V.callVI0 (As := [.int (nI (d))]) (rest := []) F (m_isDesk l D hnd d hd0) d_M_join_2 sv_M_62 im_y_M_isDesk sl_y_M_isDesk 0 rfl rfl rfl rfl rfl (Nat.le_of_ble_eq_true rfl) ⟨rfl, rfl, (Nat.le_of_ble_eq_true rfl), (Nat.le_of_ble_eq_true rfl)⟩ ⟨(Nat.le_of_ble_eq_true rfl), (Nat.le_of_ble_eq_true rfl)⟩ (fun r9 u9 h9 => ?_)
  obtain ⟨rfl, rfl⟩ := h9
  refine V.if_eqB (b := true) (tgt := 21) F d_M_join_5 (by decide) (fun c5 => ?_) (fun c5 => ?_)
  · skip
    exact absurd c5 (by decide)
  · skip
    refine V.aload_n F d_M_join_8 rfl 0 rfl ?_
    refine V.iload_n F d_M_join_9 rfl 2 rfl ?_
    refine V.callVI0 (As := [.int (nI (d))]) (rest := []) F (m_isDesk l D hnd d hd0) d_M_join_10 sv_M_62 im_y_M_isDesk sl_y_M_isDesk 0 rfl rfl rfl rfl rfl (Nat.le_of_ble_eq_true rfl) ⟨rfl, rfl, (Nat.le_of_ble_eq_true rfl), (Nat.le_of_ble_eq_true rfl)⟩ ⟨(Nat.le_of_ble_eq_true rfl), (Nat.le_of_ble_eq_true rfl)⟩ (fun r9 u9 h9 => ?_)
    obtain ⟨rfl, rfl⟩ := h9
    refine V.if_eqB (b := true) (tgt := 21) F d_M_join_13 (by decide) (fun c13 => ?_) (fun c13 => ?_)
    · skip
      exact absurd c13 (by decide)
    · skip
      refine V.iload_n F d_M_join_16 rfl 1 rfl ?_
      refine V.iload_n F d_M_join_17 rfl 2 rfl ?_
      refine V.icmp_neN (tgt := 23) F d_M_join_18 (by decide) (by omega) (by omega) (fun c18 => ?_) (fun c18 => ?_)
      · skip
        exact absurd rfl c18
      · skip
        refine V.iconst F d_M_join_21 (v := -1) (by decide) ?_
        exact V.iret F hr d_M_join_22 (⟨rfl, rfl⟩)

set_option maxHeartbeats 4000000 in
set_option maxRecDepth 100000 in
theorem m_join (l : Launch) (D : va_G) {ct : Nat → ClassId} {mo : Nat → Nat} {nd : Nat} {nb : Nat} {nf : Nat} {bdk : Nat → Nat} {num : Nat → Nat} {thg : Nat → Nat} {knd : Nat → Nat} {dy : Nat → Nat} {val : Nat → Int64} {tim : Nat → Nat} {rep : Nat → Nat → Bool} {kn : Nat → Nat → Bool} {clk : Nat → Nat} {tol : Nat → Nat} {opn : Nat → Option Nat} {bof : Nat → Option Nat} {std : Nat → Bool} {xd : Int64} (hnf : nf ≤ 300) (hnd : nd ≤ 8) (d : Nat) (hd0 : d < nd) (spt : Nat → Nat) (hsp : SpR spt thg knd dy nf) (d2 : Nat) (hd2 : d2 < nd) (hne : d2 ≠ d) (hc1 : clk d < 2 ^ 31) (hc2 : clk d2 < 2 ^ 31) : CI l y_M_join b_M_join 4 (some .int) (rmK 3 0 0) D (tyL ct) (MW ct mo nd nb nf bdk num thg knd dy val tim rep kn clk tol opn bof std xd) [.ref (mo 0), .int (nI (d)), .int (nI (d2))] 0 0 (fun r u => ∃ P : Nat → Bool, (∀ f, f < nf → P f = lkB (jn kn d d2 nf d) rep f nf) ∧ r = nI (cnt (fun f => fcB spt val P nf f) nf) ∧ u = MW ct mo nd nb nf bdk num thg knd dy val tim rep (jn kn d d2 nf) (va_up clk d (max (clk d) (clk d2))) tol opn bof P xd) := by
  refine CI.start (by decide) (Nat.le_of_ble_eq_true rfl) ?_
  intro p e s m below meth c F hr hnm
  show V p l e (rmK 3 0 0) s m [.ref (mo 0), .int (nI (d)), .int (nI (d2))].toArray below meth c D (va_A (MW ct mo nd nb nf bdk num thg knd dy val tim rep kn clk tol opn bof std xd) s.heap.size) 4 0 0 (EI D below (MW ct mo nd nb nf bdk num thg knd dy val tim rep kn clk tol opn bof std xd) [.ref (mo 0), .int (nI (d)), .int (nI (d2))].toArray s 0 0 (fun r u => ∃ P : Nat → Bool, (∀ f, f < nf → P f = lkB (jn kn d d2 nf d) rep f nf) ∧ r = nI (cnt (fun f => fcB spt val P nf f) nf) ∧ u = MW ct mo nd nb nf bdk num thg knd dy val tim rep (jn kn d d2 nf) (va_up clk d (max (clk d) (clk d2))) tol opn bof P xd)) (MW ct mo nd nb nf bdk num thg knd dy val tim rep kn clk tol opn bof std xd) [(0, .ref (mo 0)), (1, .int (nI (d))), (2, .int (nI (d2)))] 0 []
  refine V.aload_n F d_M_join_0 rfl 0 rfl ?_
  refine V.iload_n F d_M_join_1 rfl 1 rfl ?_
  refine V.callVI0 (As := [.int (nI (d))]) (rest := []) F (m_isDesk l D hnd d hd0) d_M_join_2 sv_M_62 im_y_M_isDesk sl_y_M_isDesk 0 rfl rfl rfl rfl rfl (Nat.le_of_ble_eq_true rfl) ⟨rfl, rfl, (Nat.le_of_ble_eq_true rfl), (Nat.le_of_ble_eq_true rfl)⟩ ⟨(Nat.le_of_ble_eq_true rfl), (Nat.le_of_ble_eq_true rfl)⟩ (fun r9 u9 h9 => ?_)
  obtain ⟨rfl, rfl⟩ := h9
  refine V.if_eqB (b := true) (tgt := 21) F d_M_join_5 (by decide) (fun c5 => ?_) (fun c5 => ?_)
  · skip
    exact absurd c5 (by decide)
  · skip
    refine V.aload_n F d_M_join_8 rfl 0 rfl ?_
    refine V.iload_n F d_M_join_9 rfl 2 rfl ?_
    refine V.callVI0 (As := [.int (nI (d2))]) (rest := []) F (m_isDesk l D hnd d2 hd2) d_M_join_10 sv_M_62 im_y_M_isDesk sl_y_M_isDesk 0 rfl rfl rfl rfl rfl (Nat.le_of_ble_eq_true rfl) ⟨rfl, rfl, (Nat.le_of_ble_eq_true rfl), (Nat.le_of_ble_eq_true rfl)⟩ ⟨(Nat.le_of_ble_eq_true rfl), (Nat.le_of_ble_eq_true rfl)⟩ (fun r9 u9 h9 => ?_)
    obtain ⟨rfl, rfl⟩ := h9
    refine V.if_eqB (b := true) (tgt := 21) F d_M_join_13 (by decide) (fun c13 => ?_) (fun c13 => ?_)
    · skip
      exact absurd c13 (by decide)
    · skip
      refine V.iload_n F d_M_join_16 rfl 1 rfl ?_
      refine V.iload_n F d_M_join_17 rfl 2 rfl ?_
      refine V.icmp_neN (tgt := 23) F d_M_join_18 (by decide) (by omega) (by omega) (fun c18 => ?_) (fun c18 => ?_)
      · skip
        refine V.iconst F d_M_join_23 (v := nI (0)) (by decide) ?_
        refine V.istore_n (lv2 := [(3, .int (nI (0))), (0, .ref (mo 0)), (1, .int (nI (d))), (2, .int (nI (d2)))]) F d_M_join_24 rfl (by decide) rfl ?_
        have L25 : ∀ (n9 : Nat) (i : Nat) (K : Nat → Nat → Bool), nf - i < n9 → (i ≤ nf) → (K = jn kn d d2 i) → V p l e (rmK 3 0 0) s m [.ref (mo 0), .int (nI (d)), .int (nI (d2))].toArray below meth c D (va_A (MW ct mo nd nb nf bdk num thg knd dy val tim rep kn clk tol opn bof std xd) s.heap.size) 4 0 0 (EI D below (MW ct mo nd nb nf bdk num thg knd dy val tim rep kn clk tol opn bof std xd) [.ref (mo 0), .int (nI (d)), .int (nI (d2))].toArray s 0 0 (fun r u => ∃ P : Nat → Bool, (∀ f, f < nf → P f = lkB (jn kn d d2 nf d) rep f nf) ∧ r = nI (cnt (fun f => fcB spt val P nf f) nf) ∧ u = MW ct mo nd nb nf bdk num thg knd dy val tim rep (jn kn d d2 nf) (va_up clk d (max (clk d) (clk d2))) tol opn bof P xd)) (MW ct mo nd nb nf bdk num thg knd dy val tim rep K clk tol opn bof std xd) [(3, .int (nI (i))), (0, .ref (mo 0)), (1, .int (nI (d))), (2, .int (nI (d2)))] 25 [] := by
          intro n9
          induction n9 with
          | zero => intro i K h9 hi hK; exact absurd h9 (Nat.not_lt_zero _)
          | succ n9 ih25 =>
            intro i K h9 hi hK
            refine V.iload_n F d_M_join_25 rfl 0 rfl ?_
            refine V.aload_n F d_M_join_26 rfl 1 rfl ?_
            refine V.get F ck_M d_M_join_27 13 (by decide) lk_M_59 0 rfl rfl ?_
            refine V.icmp_geN (tgt := 66) F d_M_join_30 (by decide) (by omega) (by omega) (fun c30 => ?_) (fun c30 => ?_)
            · skip
              have e8 : i = nf := by omega
              rw [e8] at hK
              subst hK
              refine V.aload_n F d_M_join_66 rfl 1 rfl ?_
              refine V.get F ck_M d_M_join_67 1 (by decide) lk_M_9 0 rfl rfl ?_
              refine V.iload_n F d_M_join_70 rfl 2 rfl ?_
              refine V.aload_n F d_M_join_71 rfl 1 rfl ?_
              refine V.get F ck_M d_M_join_72 1 (by decide) lk_M_9 0 rfl rfl ?_
              refine V.iload_n F d_M_join_75 rfl 3 rfl ?_
              refine V.lald (v := lN (clk (d2))) F d_M_join_76 1 1 rfl rfl (by omega) (by decide) rfl ?_
              refine V.aload_n F d_M_join_77 rfl 1 rfl ?_
              refine V.get F ck_M d_M_join_78 1 (by decide) lk_M_9 0 rfl rfl ?_
              refine V.iload_n F d_M_join_81 rfl 2 rfl ?_
              refine V.lald (v := lN (clk (d))) F d_M_join_82 1 1 rfl rfl (by omega) (by decide) rfl ?_
              refine V.lcmp_le (tgt := 96) F d_M_join_83 d_M_join_84 (by decide) (fun c83 => ?_) (fun c83 => ?_)
              · skip
                have hm : max (clk d) (clk d2) = clk d := Nat.max_eq_left ((lN_le hc2 hc1).mp c83)
                refine V.aload_n F d_M_join_96 rfl 1 rfl ?_
                refine V.get F ck_M d_M_join_97 1 (by decide) lk_M_9 0 rfl rfl ?_
                refine V.iload_n F d_M_join_100 rfl 2 rfl ?_
                refine V.lald (v := lN (clk (d))) F d_M_join_101 1 1 rfl rfl (by omega) (by decide) rfl ?_
                refine V.last (ws2 := MW ct mo nd nb nf bdk num thg knd dy val tim rep (jn kn d d2 nf) (va_up clk (d) (clk (d))) tol opn bof std xd) F d_M_join_102 1 1 rfl rfl (by omega) (by decide) (by rw [updL_lN]; exact mw_set_clk) ?_
                refine V.aload_n F d_M_join_103 rfl 1 rfl ?_
                refine V.iload_n F d_M_join_104 rfl 2 rfl ?_
                refine V.callVI0 (As := [.int (nI (d))]) (rest := []) F (m_conflicts l D hnf hnd d hd0 spt hsp) d_M_join_105 sv_M_91 im_y_M_conflicts sl_y_M_conflicts 0 rfl rfl rfl rfl rfl (Nat.le_of_ble_eq_true rfl) ⟨rfl, rfl, (Nat.le_of_ble_eq_true rfl), (Nat.le_of_ble_eq_true rfl)⟩ ⟨(Nat.le_of_ble_eq_true rfl), (Nat.le_of_ble_eq_true rfl)⟩ (fun r9 u9 h9 => ?_)
                obtain ⟨P, hP, rfl, rfl⟩ := h9
                exact V.iret F hr d_M_join_108 (⟨P, hP, rfl, by rw [hm]⟩)
              · skip
                have hm : max (clk d) (clk d2) = clk d2 := Nat.max_eq_right (Nat.le_of_lt (Nat.lt_of_not_le (fun q => c83 ((lN_le hc2 hc1).mpr q))))
                refine V.aload_n F d_M_join_87 rfl 1 rfl ?_
                refine V.get F ck_M d_M_join_88 1 (by decide) lk_M_9 0 rfl rfl ?_
                refine V.iload_n F d_M_join_91 rfl 3 rfl ?_
                refine V.lald (v := lN (clk (d2))) F d_M_join_92 1 1 rfl rfl (by omega) (by decide) rfl ?_
                refine V.goto (tgt := 102) F d_M_join_93 (by decide) ?_
                refine V.last (ws2 := MW ct mo nd nb nf bdk num thg knd dy val tim rep (jn kn d d2 nf) (va_up clk (d) (clk (d2))) tol opn bof std xd) F d_M_join_102 1 1 rfl rfl (by omega) (by decide) (by rw [updL_lN]; exact mw_set_clk) ?_
                refine V.aload_n F d_M_join_103 rfl 1 rfl ?_
                refine V.iload_n F d_M_join_104 rfl 2 rfl ?_
                refine V.callVI0 (As := [.int (nI (d))]) (rest := []) F (m_conflicts l D hnf hnd d hd0 spt hsp) d_M_join_105 sv_M_91 im_y_M_conflicts sl_y_M_conflicts 0 rfl rfl rfl rfl rfl (Nat.le_of_ble_eq_true rfl) ⟨rfl, rfl, (Nat.le_of_ble_eq_true rfl), (Nat.le_of_ble_eq_true rfl)⟩ ⟨(Nat.le_of_ble_eq_true rfl), (Nat.le_of_ble_eq_true rfl)⟩ (fun r9 u9 h9 => ?_)
                obtain ⟨P, hP, rfl, rfl⟩ := h9
                exact V.iret F hr d_M_join_108 (⟨P, hP, rfl, by rw [hm]⟩)
            · skip
              refine V.aload_n F d_M_join_33 rfl 1 rfl ?_
              refine V.get F ck_M d_M_join_34 12 (by decide) lk_M_46 0 rfl rfl ?_
              refine V.iload_n F d_M_join_37 rfl 2 rfl ?_
              refine V.sipush F d_M_join_38 (v := nI (300)) (by decide) ?_
              refine V.imulN F d_M_join_41 ?_
              refine V.iload_n F d_M_join_42 rfl 0 rfl ?_
              refine V.iaddN F d_M_join_43 ?_
              refine V.dup2_11 F d_M_join_44 rfl rfl ?_
              refine V.zald (v := bI (K (d) (i))) F d_M_join_45 12 3 rfl rfl (by omega) (by decide) (kn_at (by omega)) ?_
              refine V.aload_n F d_M_join_46 rfl 1 rfl ?_
              refine V.get F ck_M d_M_join_47 12 (by decide) lk_M_46 0 rfl rfl ?_
              refine V.iload_n F d_M_join_50 rfl 3 rfl ?_
              refine V.sipush F d_M_join_51 (v := nI (300)) (by decide) ?_
              refine V.imulN F d_M_join_54 ?_
              refine V.iload_n F d_M_join_55 rfl 0 rfl ?_
              refine V.iaddN F d_M_join_56 ?_
              refine V.zald (v := bI (K (d2) (i))) F d_M_join_57 12 3 rfl rfl (by omega) (by decide) (kn_at (by omega)) ?_
              refine V.iorB (a := K (d) (i)) (b := K (d2) (i)) F d_M_join_58 ?_
              refine V.zast (b := K (d) (i) || K (d2) (i)) (ws2 := MW ct mo nd nb nf bdk num thg knd dy val tim rep (up2 K (d) (i) (K (d) (i) || K (d2) (i))) clk tol opn bof std xd) F d_M_join_59 12 3 rfl rfl (by omega) (by decide) (by rw [kn_up (by omega)]; exact mw_set_kn) ?_
              refine V.iincN (k := 1) (lv2 := [(3, .int (nI (i + 1))), (0, .ref (mo 0)), (1, .int (nI (d))), (2, .int (nI (d2)))]) F d_M_join_60 0 rfl (by decide) (by decide) rfl ?_
              refine V.goto (tgt := 25) F d_M_join_63 (by decide) ?_
              exact ih25 (i + 1) (up2 K d i (K d i || K d2 i)) (by omega) (by omega) (by rw [hK]; exact jn_step hne)
        exact L25 _ (0) (kn) (Nat.lt_succ_self _) (by omega) (jn_0 kn d d2)
      · skip
        exact absurd c18.symm hne

set_option maxHeartbeats 4000000 in
set_option maxRecDepth 100000 in
theorem m_countsNo (l : Launch) (D : va_G) {ct : Nat → ClassId} {mo : Nat → Nat} {nd : Nat} {nb : Nat} {nf : Nat} {bdk : Nat → Nat} {num : Nat → Nat} {thg : Nat → Nat} {knd : Nat → Nat} {dy : Nat → Nat} {val : Nat → Int64} {tim : Nat → Nat} {rep : Nat → Nat → Bool} {kn : Nat → Nat → Bool} {clk : Nat → Nat} {tol : Nat → Nat} {opn : Nat → Option Nat} {bof : Nat → Option Nat} {std : Nat → Bool} {xd : Int64} (x : Int32) (hx : x < 0 ∨ nI nd ≤ x) : CI l y_M_counts b_M_counts 4 (some .int) (rmK 1 0 0) D (tyL ct) (MW ct mo nd nb nf bdk num thg knd dy val tim rep kn clk tol opn bof std xd) [.ref (mo 0), .int (x)] 0 0 (fun r u => r = -1 ∧ u = MW ct mo nd nb nf bdk num thg knd dy val tim rep kn clk tol opn bof std xd) := by
  refine CI.start (by decide) (Nat.le_of_ble_eq_true rfl) ?_
  intro p e s m below meth c F hr hnm
  show V p l e (rmK 1 0 0) s m [.ref (mo 0), .int (x)].toArray below meth c D (va_A (MW ct mo nd nb nf bdk num thg knd dy val tim rep kn clk tol opn bof std xd) s.heap.size) 4 0 0 (EI D below (MW ct mo nd nb nf bdk num thg knd dy val tim rep kn clk tol opn bof std xd) [.ref (mo 0), .int (x)].toArray s 0 0 (fun r u => r = -1 ∧ u = MW ct mo nd nb nf bdk num thg knd dy val tim rep kn clk tol opn bof std xd)) (MW ct mo nd nb nf bdk num thg knd dy val tim rep kn clk tol opn bof std xd) [(0, .ref (mo 0)), (1, .int (x))] 0 []
  refine V.aload_n F d_M_counts_0 rfl 0 rfl ?_
  refine V.iload_n F d_M_counts_1 rfl 1 rfl ?_
  refine V.callVI0 (As := [.int (x)]) (rest := []) F (m_isDeskNo l D x hx) d_M_counts_2 sv_M_62 im_y_M_isDesk sl_y_M_isDesk 0 rfl rfl rfl rfl rfl (Nat.le_of_ble_eq_true rfl) ⟨rfl, rfl, (Nat.le_of_ble_eq_true rfl), (Nat.le_of_ble_eq_true rfl)⟩ ⟨(Nat.le_of_ble_eq_true rfl), (Nat.le_of_ble_eq_true rfl)⟩ (fun r9 u9 h9 => ?_)
  obtain ⟨rfl, rfl⟩ := h9
  refine V.if_neB (b := false) (tgt := 10) F d_M_counts_5 (by decide) (fun c5 => ?_) (fun c5 => ?_)
  · skip
    exact absurd c5 (by decide)
  · skip
    refine V.iconst F d_M_counts_8 (v := -1) (by decide) ?_
    exact V.iret F hr d_M_counts_9 (⟨rfl, rfl⟩)

set_option maxHeartbeats 4000000 in
set_option maxRecDepth 100000 in
theorem m_counts (l : Launch) (D : va_G) {ct : Nat → ClassId} {mo : Nat → Nat} {nd : Nat} {nb : Nat} {nf : Nat} {bdk : Nat → Nat} {num : Nat → Nat} {thg : Nat → Nat} {knd : Nat → Nat} {dy : Nat → Nat} {val : Nat → Int64} {tim : Nat → Nat} {rep : Nat → Nat → Bool} {kn : Nat → Nat → Bool} {clk : Nat → Nat} {tol : Nat → Nat} {opn : Nat → Option Nat} {bof : Nat → Option Nat} {std : Nat → Bool} {xd : Int64} (hnf : nf ≤ 300) (hnd : nd ≤ 8) (d : Nat) (hd0 : d < nd) : CI l y_M_counts b_M_counts 4 (some .int) (rmK 1 0 0) D (tyL ct) (MW ct mo nd nb nf bdk num thg knd dy val tim rep kn clk tol opn bof std xd) [.ref (mo 0), .int (nI (d))] 0 0 (fun r u => r = nI (cnt (kn d) nf) ∧ u = MW ct mo nd nb nf bdk num thg knd dy val tim rep kn clk tol opn bof std xd) := by
  refine CI.start (by decide) (Nat.le_of_ble_eq_true rfl) ?_
  intro p e s m below meth c F hr hnm
  show V p l e (rmK 1 0 0) s m [.ref (mo 0), .int (nI (d))].toArray below meth c D (va_A (MW ct mo nd nb nf bdk num thg knd dy val tim rep kn clk tol opn bof std xd) s.heap.size) 4 0 0 (EI D below (MW ct mo nd nb nf bdk num thg knd dy val tim rep kn clk tol opn bof std xd) [.ref (mo 0), .int (nI (d))].toArray s 0 0 (fun r u => r = nI (cnt (kn d) nf) ∧ u = MW ct mo nd nb nf bdk num thg knd dy val tim rep kn clk tol opn bof std xd)) (MW ct mo nd nb nf bdk num thg knd dy val tim rep kn clk tol opn bof std xd) [(0, .ref (mo 0)), (1, .int (nI (d)))] 0 []
  refine V.aload_n F d_M_counts_0 rfl 0 rfl ?_
  refine V.iload_n F d_M_counts_1 rfl 1 rfl ?_
  refine V.callVI0 (As := [.int (nI (d))]) (rest := []) F (m_isDesk l D hnd d hd0) d_M_counts_2 sv_M_62 im_y_M_isDesk sl_y_M_isDesk 0 rfl rfl rfl rfl rfl (Nat.le_of_ble_eq_true rfl) ⟨rfl, rfl, (Nat.le_of_ble_eq_true rfl), (Nat.le_of_ble_eq_true rfl)⟩ ⟨(Nat.le_of_ble_eq_true rfl), (Nat.le_of_ble_eq_true rfl)⟩ (fun r9 u9 h9 => ?_)
  obtain ⟨rfl, rfl⟩ := h9
  refine V.if_neB (b := true) (tgt := 10) F d_M_counts_5 (by decide) (fun c5 => ?_) (fun c5 => ?_)
  · skip
    refine V.iconst F d_M_counts_10 (v := nI (0)) (by decide) ?_
    refine V.istore_n (lv2 := [(2, .int (nI (0))), (0, .ref (mo 0)), (1, .int (nI (d)))]) F d_M_counts_11 rfl (by decide) rfl ?_
    refine V.iconst F d_M_counts_12 (v := nI (0)) (by decide) ?_
    refine V.istore_n (lv2 := [(3, .int (nI (0))), (2, .int (nI (0))), (0, .ref (mo 0)), (1, .int (nI (d)))]) F d_M_counts_13 rfl (by decide) rfl ?_
    have L14 : ∀ (n9 : Nat) (i : Nat) (z : Nat), nf - i < n9 → (i ≤ nf) → (z = cnt (kn d) i) → V p l e (rmK 1 0 0) s m [.ref (mo 0), .int (nI (d))].toArray below meth c D (va_A (MW ct mo nd nb nf bdk num thg knd dy val tim rep kn clk tol opn bof std xd) s.heap.size) 4 0 0 (EI D below (MW ct mo nd nb nf bdk num thg knd dy val tim rep kn clk tol opn bof std xd) [.ref (mo 0), .int (nI (d))].toArray s 0 0 (fun r u => r = nI (cnt (kn d) nf) ∧ u = MW ct mo nd nb nf bdk num thg knd dy val tim rep kn clk tol opn bof std xd)) (MW ct mo nd nb nf bdk num thg knd dy val tim rep kn clk tol opn bof std xd) [(3, .int (nI (i))), (2, .int (nI (z))), (0, .ref (mo 0)), (1, .int (nI (d)))] 14 [] := by
      intro n9
      induction n9 with
      | zero => intro i z h9 hi hz; exact absurd h9 (Nat.not_lt_zero _)
      | succ n9 ih14 =>
        intro i z h9 hi hz
        refine V.iload_n F d_M_counts_14 rfl 0 rfl ?_
        refine V.aload_n F d_M_counts_15 rfl 2 rfl ?_
        refine V.get F ck_M d_M_counts_16 13 (by decide) lk_M_59 0 rfl rfl ?_
        refine V.icmp_geN (tgt := 51) F d_M_counts_19 (by decide) (by omega) (by omega) (fun c19 => ?_) (fun c19 => ?_)
        · skip
          refine V.iload_n F d_M_counts_51 rfl 1 rfl ?_
          exact V.iret F hr d_M_counts_52 (⟨by rw [hz, show i = nf by omega], rfl⟩)
        · skip
          refine V.iload_n F d_M_counts_22 rfl 1 rfl ?_
          refine V.aload_n F d_M_counts_23 rfl 2 rfl ?_
          refine V.get F ck_M d_M_counts_24 12 (by decide) lk_M_46 0 rfl rfl ?_
          refine V.iload_n F d_M_counts_27 rfl 3 rfl ?_
          refine V.sipush F d_M_counts_28 (v := nI (300)) (by decide) ?_
          refine V.imulN F d_M_counts_31 ?_
          refine V.iload_n F d_M_counts_32 rfl 0 rfl ?_
          refine V.iaddN F d_M_counts_33 ?_
          refine V.zald (v := bI (kn (d) (i))) F d_M_counts_34 12 3 rfl rfl (by omega) (by decide) (kn_at (by omega)) ?_
          refine V.if_eqB (b := kn (d) (i)) (tgt := 42) F d_M_counts_35 (by decide) (fun c35 => ?_) (fun c35 => ?_)
          · skip
            refine V.iconst F d_M_counts_42 (v := nI (0)) (by decide) ?_
            refine V.iaddN F d_M_counts_43 ?_
            refine V.istore_n (lv2 := [(2, .int (nI ((z) + (0)))), (3, .int (nI (i))), (0, .ref (mo 0)), (1, .int (nI (d)))]) F d_M_counts_44 rfl (by decide) rfl ?_
            refine V.iincN (k := 1) (lv2 := [(3, .int (nI (i + 1))), (2, .int (nI ((z) + (0)))), (0, .ref (mo 0)), (1, .int (nI (d)))]) F d_M_counts_45 1 rfl (by decide) (by decide) rfl ?_
            refine V.goto (tgt := 14) F d_M_counts_48 (by decide) ?_
            exact ih14 (i + 1) (z) (by omega) (by omega) (by rw [hz, cnt, if_neg (by rw [c35]; decide)]; rfl)
          · skip
            refine V.iconst F d_M_counts_38 (v := nI (1)) (by decide) ?_
            refine V.goto (tgt := 43) F d_M_counts_39 (by decide) ?_
            refine V.iaddN F d_M_counts_43 ?_
            refine V.istore_n (lv2 := [(2, .int (nI ((z) + (1)))), (3, .int (nI (i))), (0, .ref (mo 0)), (1, .int (nI (d)))]) F d_M_counts_44 rfl (by decide) rfl ?_
            refine V.iincN (k := 1) (lv2 := [(3, .int (nI (i + 1))), (2, .int (nI ((z) + (1)))), (0, .ref (mo 0)), (1, .int (nI (d)))]) F d_M_counts_45 1 rfl (by decide) (by decide) rfl ?_
            refine V.goto (tgt := 14) F d_M_counts_48 (by decide) ?_
            exact ih14 (i + 1) (z + 1) (by omega) (by omega) (by rw [hz, cnt, if_pos c35])
    exact L14 _ (0) (0) (Nat.lt_succ_self _) (by omega) (rfl)
  · skip
    exact absurd c5 (by decide)

set_option maxHeartbeats 4000000 in
set_option maxRecDepth 100000 in
theorem m_equalNo1 (l : Launch) (D : va_G) {ct : Nat → ClassId} {mo : Nat → Nat} {nd : Nat} {nb : Nat} {nf : Nat} {bdk : Nat → Nat} {num : Nat → Nat} {thg : Nat → Nat} {knd : Nat → Nat} {dy : Nat → Nat} {val : Nat → Int64} {tim : Nat → Nat} {rep : Nat → Nat → Bool} {kn : Nat → Nat → Bool} {clk : Nat → Nat} {tol : Nat → Nat} {opn : Nat → Option Nat} {bof : Nat → Option Nat} {std : Nat → Bool} {xd : Int64} (x y : Int32) (hx : x < 0 ∨ nI nd ≤ x) : CI l y_M_equal b_M_equal 5 (some .boolean) (rmK 1 0 0) D (tyL ct) (MW ct mo nd nb nf bdk num thg knd dy val tim rep kn clk tol opn bof std xd) [.ref (mo 0), .int (x), .int (y)] 0 0 (fun r u => r = bI false ∧ u = MW ct mo nd nb nf bdk num thg knd dy val tim rep kn clk tol opn bof std xd) := by
  refine CI.start (by decide) (Nat.le_of_ble_eq_true rfl) ?_
  intro p e s m below meth c F hr hnm
  show V p l e (rmK 1 0 0) s m [.ref (mo 0), .int (x), .int (y)].toArray below meth c D (va_A (MW ct mo nd nb nf bdk num thg knd dy val tim rep kn clk tol opn bof std xd) s.heap.size) 5 0 0 (EI D below (MW ct mo nd nb nf bdk num thg knd dy val tim rep kn clk tol opn bof std xd) [.ref (mo 0), .int (x), .int (y)].toArray s 0 0 (fun r u => r = bI false ∧ u = MW ct mo nd nb nf bdk num thg knd dy val tim rep kn clk tol opn bof std xd)) (MW ct mo nd nb nf bdk num thg knd dy val tim rep kn clk tol opn bof std xd) [(0, .ref (mo 0)), (1, .int (x)), (2, .int (y))] 0 []
  refine V.aload_n F d_M_equal_0 rfl 0 rfl ?_
  refine V.iload_n F d_M_equal_1 rfl 1 rfl ?_
  refine V.callVI0 (As := [.int (x)]) (rest := []) F (m_isDeskNo l D x hx) d_M_equal_2 sv_M_62 im_y_M_isDesk sl_y_M_isDesk 0 rfl rfl rfl rfl rfl (Nat.le_of_ble_eq_true rfl) ⟨rfl, rfl, (Nat.le_of_ble_eq_true rfl), (Nat.le_of_ble_eq_true rfl)⟩ ⟨(Nat.le_of_ble_eq_true rfl), (Nat.le_of_ble_eq_true rfl)⟩ (fun r9 u9 h9 => ?_)
  obtain ⟨rfl, rfl⟩ := h9
  refine V.if_eqB (b := false) (tgt := 16) F d_M_equal_5 (by decide) (fun c5 => ?_) (fun c5 => ?_)
  · skip
    refine V.iconst F d_M_equal_16 (v := nI (0)) (by decide) ?_
    exact V.zret F hr (nar_0) d_M_equal_17 (⟨bI_f, rfl⟩)
  · skip
    exact absurd c5 (by decide)

set_option maxHeartbeats 4000000 in
set_option maxRecDepth 100000 in
theorem m_equalNo2 (l : Launch) (D : va_G) {ct : Nat → ClassId} {mo : Nat → Nat} {nd : Nat} {nb : Nat} {nf : Nat} {bdk : Nat → Nat} {num : Nat → Nat} {thg : Nat → Nat} {knd : Nat → Nat} {dy : Nat → Nat} {val : Nat → Int64} {tim : Nat → Nat} {rep : Nat → Nat → Bool} {kn : Nat → Nat → Bool} {clk : Nat → Nat} {tol : Nat → Nat} {opn : Nat → Option Nat} {bof : Nat → Option Nat} {std : Nat → Bool} {xd : Int64} (hnd : nd ≤ 8) (d : Nat) (hd0 : d < nd) (x : Int32) (hx : x < 0 ∨ nI nd ≤ x) : CI l y_M_equal b_M_equal 5 (some .boolean) (rmK 1 0 0) D (tyL ct) (MW ct mo nd nb nf bdk num thg knd dy val tim rep kn clk tol opn bof std xd) [.ref (mo 0), .int (nI (d)), .int (x)] 0 0 (fun r u => r = bI false ∧ u = MW ct mo nd nb nf bdk num thg knd dy val tim rep kn clk tol opn bof std xd) := by
  refine CI.start (by decide) (Nat.le_of_ble_eq_true rfl) ?_
  intro p e s m below meth c F hr hnm
  show V p l e (rmK 1 0 0) s m [.ref (mo 0), .int (nI (d)), .int (x)].toArray below meth c D (va_A (MW ct mo nd nb nf bdk num thg knd dy val tim rep kn clk tol opn bof std xd) s.heap.size) 5 0 0 (EI D below (MW ct mo nd nb nf bdk num thg knd dy val tim rep kn clk tol opn bof std xd) [.ref (mo 0), .int (nI (d)), .int (x)].toArray s 0 0 (fun r u => r = bI false ∧ u = MW ct mo nd nb nf bdk num thg knd dy val tim rep kn clk tol opn bof std xd)) (MW ct mo nd nb nf bdk num thg knd dy val tim rep kn clk tol opn bof std xd) [(0, .ref (mo 0)), (1, .int (nI (d))), (2, .int (x))] 0 []
  refine V.aload_n F d_M_equal_0 rfl 0 rfl ?_
  refine V.iload_n F d_M_equal_1 rfl 1 rfl ?_
  refine V.callVI0 (As := [.int (nI (d))]) (rest := []) F (m_isDesk l D hnd d hd0) d_M_equal_2 sv_M_62 im_y_M_isDesk sl_y_M_isDesk 0 rfl rfl rfl rfl rfl (Nat.le_of_ble_eq_true rfl) ⟨rfl, rfl, (Nat.le_of_ble_eq_true rfl), (Nat.le_of_ble_eq_true rfl)⟩ ⟨(Nat.le_of_ble_eq_true rfl), (Nat.le_of_ble_eq_true rfl)⟩ (fun r9 u9 h9 => ?_)
  obtain ⟨rfl, rfl⟩ := h9
  refine V.if_eqB (b := true) (tgt := 16) F d_M_equal_5 (by decide) (fun c5 => ?_) (fun c5 => ?_)
  · skip
    exact absurd c5 (by decide)
  · skip
    refine V.aload_n F d_M_equal_8 rfl 0 rfl ?_
    refine V.iload_n F d_M_equal_9 rfl 2 rfl ?_
    refine V.callVI0 (As := [.int (x)]) (rest := []) F (m_isDeskNo l D x hx) d_M_equal_10 sv_M_62 im_y_M_isDesk sl_y_M_isDesk 0 rfl rfl rfl rfl rfl (Nat.le_of_ble_eq_true rfl) ⟨rfl, rfl, (Nat.le_of_ble_eq_true rfl), (Nat.le_of_ble_eq_true rfl)⟩ ⟨(Nat.le_of_ble_eq_true rfl), (Nat.le_of_ble_eq_true rfl)⟩ (fun r9 u9 h9 => ?_)
    obtain ⟨rfl, rfl⟩ := h9
    refine V.if_neB (b := false) (tgt := 18) F d_M_equal_13 (by decide) (fun c13 => ?_) (fun c13 => ?_)
    · skip
      exact absurd c13 (by decide)
    · skip
      refine V.iconst F d_M_equal_16 (v := nI (0)) (by decide) ?_
      exact V.zret F hr (nar_0) d_M_equal_17 (⟨bI_f, rfl⟩)

set_option maxHeartbeats 4000000 in
set_option maxRecDepth 100000 in
theorem m_equal (l : Launch) (D : va_G) {ct : Nat → ClassId} {mo : Nat → Nat} {nd : Nat} {nb : Nat} {nf : Nat} {bdk : Nat → Nat} {num : Nat → Nat} {thg : Nat → Nat} {knd : Nat → Nat} {dy : Nat → Nat} {val : Nat → Int64} {tim : Nat → Nat} {rep : Nat → Nat → Bool} {kn : Nat → Nat → Bool} {clk : Nat → Nat} {tol : Nat → Nat} {opn : Nat → Option Nat} {bof : Nat → Option Nat} {std : Nat → Bool} {xd : Int64} (hnf : nf ≤ 300) (hnd : nd ≤ 8) (d : Nat) (hd0 : d < nd) (d2 : Nat) (hd2 : d2 < nd) : CI l y_M_equal b_M_equal 5 (some .boolean) (rmK 1 0 0) D (tyL ct) (MW ct mo nd nb nf bdk num thg knd dy val tim rep kn clk tol opn bof std xd) [.ref (mo 0), .int (nI (d)), .int (nI (d2))] 0 0 (fun r u => r = bI (sameB (kn d) (kn d2) nf) ∧ u = MW ct mo nd nb nf bdk num thg knd dy val tim rep kn clk tol opn bof std xd) := by
  refine CI.start (by decide) (Nat.le_of_ble_eq_true rfl) ?_
  intro p e s m below meth c F hr hnm
  show V p l e (rmK 1 0 0) s m [.ref (mo 0), .int (nI (d)), .int (nI (d2))].toArray below meth c D (va_A (MW ct mo nd nb nf bdk num thg knd dy val tim rep kn clk tol opn bof std xd) s.heap.size) 5 0 0 (EI D below (MW ct mo nd nb nf bdk num thg knd dy val tim rep kn clk tol opn bof std xd) [.ref (mo 0), .int (nI (d)), .int (nI (d2))].toArray s 0 0 (fun r u => r = bI (sameB (kn d) (kn d2) nf) ∧ u = MW ct mo nd nb nf bdk num thg knd dy val tim rep kn clk tol opn bof std xd)) (MW ct mo nd nb nf bdk num thg knd dy val tim rep kn clk tol opn bof std xd) [(0, .ref (mo 0)), (1, .int (nI (d))), (2, .int (nI (d2)))] 0 []
  refine V.aload_n F d_M_equal_0 rfl 0 rfl ?_
  refine V.iload_n F d_M_equal_1 rfl 1 rfl ?_
  refine V.callVI0 (As := [.int (nI (d))]) (rest := []) F (m_isDesk l D hnd d hd0) d_M_equal_2 sv_M_62 im_y_M_isDesk sl_y_M_isDesk 0 rfl rfl rfl rfl rfl (Nat.le_of_ble_eq_true rfl) ⟨rfl, rfl, (Nat.le_of_ble_eq_true rfl), (Nat.le_of_ble_eq_true rfl)⟩ ⟨(Nat.le_of_ble_eq_true rfl), (Nat.le_of_ble_eq_true rfl)⟩ (fun r9 u9 h9 => ?_)
  obtain ⟨rfl, rfl⟩ := h9
  refine V.if_eqB (b := true) (tgt := 16) F d_M_equal_5 (by decide) (fun c5 => ?_) (fun c5 => ?_)
  · skip
    exact absurd c5 (by decide)
  · skip
    refine V.aload_n F d_M_equal_8 rfl 0 rfl ?_
    refine V.iload_n F d_M_equal_9 rfl 2 rfl ?_
    refine V.callVI0 (As := [.int (nI (d2))]) (rest := []) F (m_isDesk l D hnd d2 hd2) d_M_equal_10 sv_M_62 im_y_M_isDesk sl_y_M_isDesk 0 rfl rfl rfl rfl rfl (Nat.le_of_ble_eq_true rfl) ⟨rfl, rfl, (Nat.le_of_ble_eq_true rfl), (Nat.le_of_ble_eq_true rfl)⟩ ⟨(Nat.le_of_ble_eq_true rfl), (Nat.le_of_ble_eq_true rfl)⟩ (fun r9 u9 h9 => ?_)
    obtain ⟨rfl, rfl⟩ := h9
    refine V.if_neB (b := true) (tgt := 18) F d_M_equal_13 (by decide) (fun c13 => ?_) (fun c13 => ?_)
    · skip
      refine V.iconst F d_M_equal_18 (v := nI (1)) (by decide) ?_
      refine V.istore_n (lv2 := [(3, .int (nI (1))), (0, .ref (mo 0)), (1, .int (nI (d))), (2, .int (nI (d2)))]) F d_M_equal_19 rfl (by decide) rfl ?_
      refine V.iconst F d_M_equal_20 (v := nI (0)) (by decide) ?_
      refine V.istore (lv2 := [(4, .int (nI (0))), (3, .int (nI (1))), (0, .ref (mo 0)), (1, .int (nI (d))), (2, .int (nI (d2)))]) F d_M_equal_21 (by decide) rfl ?_
      have L23 : ∀ (n9 : Nat) (i : Nat) (z : Bool), nf - i < n9 → (i ≤ nf) → (z = sameB (kn d) (kn d2) i) → V p l e (rmK 1 0 0) s m [.ref (mo 0), .int (nI (d)), .int (nI (d2))].toArray below meth c D (va_A (MW ct mo nd nb nf bdk num thg knd dy val tim rep kn clk tol opn bof std xd) s.heap.size) 5 0 0 (EI D below (MW ct mo nd nb nf bdk num thg knd dy val tim rep kn clk tol opn bof std xd) [.ref (mo 0), .int (nI (d)), .int (nI (d2))].toArray s 0 0 (fun r u => r = bI (sameB (kn d) (kn d2) nf) ∧ u = MW ct mo nd nb nf bdk num thg knd dy val tim rep kn clk tol opn bof std xd)) (MW ct mo nd nb nf bdk num thg knd dy val tim rep kn clk tol opn bof std xd) [(4, .int (nI (i))), (3, .int (bI (z))), (0, .ref (mo 0)), (1, .int (nI (d))), (2, .int (nI (d2)))] 23 [] := by
        intro n9
        induction n9 with
        | zero => intro i z h9 hi hz; exact absurd h9 (Nat.not_lt_zero _)
        | succ n9 ih23 =>
          intro i z h9 hi hz
          refine V.iload F d_M_equal_23 0 rfl ?_
          refine V.aload_n F d_M_equal_25 rfl 2 rfl ?_
          refine V.get F ck_M d_M_equal_26 13 (by decide) lk_M_59 0 rfl rfl ?_
          refine V.icmp_geN (tgt := 77) F d_M_equal_29 (by decide) (by omega) (by omega) (fun c29 => ?_) (fun c29 => ?_)
          · skip
            refine V.iload_n F d_M_equal_77 rfl 1 rfl ?_
            exact V.zret F hr (nar_b _) d_M_equal_78 (⟨by rw [hz, show i = nf by omega], rfl⟩)
          · skip
            refine V.iload_n F d_M_equal_32 rfl 1 rfl ?_
            refine V.if_eqB (b := z) (tgt := 77) F d_M_equal_33 (by decide) (fun c33 => ?_) (fun c33 => ?_)
            · skip
              refine V.iload_n F d_M_equal_77 rfl 1 rfl ?_
              exact V.zret F hr (nar_b _) d_M_equal_78 (⟨by rw [c33]; exact congrArg bI (sm_e (hz.symm.trans c33) hi).symm, rfl⟩)
            · skip
              refine V.aload_n F d_M_equal_36 rfl 2 rfl ?_
              refine V.get F ck_M d_M_equal_37 12 (by decide) lk_M_46 0 rfl rfl ?_
              refine V.iload_n F d_M_equal_40 rfl 3 rfl ?_
              refine V.sipush F d_M_equal_41 (v := nI (300)) (by decide) ?_
              refine V.imulN F d_M_equal_44 ?_
              refine V.iload F d_M_equal_45 0 rfl ?_
              refine V.iaddN F d_M_equal_47 ?_
              refine V.zald (v := bI (kn (d) (i))) F d_M_equal_48 12 3 rfl rfl (by omega) (by decide) (kn_at (by omega)) ?_
              refine V.aload_n F d_M_equal_49 rfl 2 rfl ?_
              refine V.get F ck_M d_M_equal_50 12 (by decide) lk_M_46 0 rfl rfl ?_
              refine V.iload_n F d_M_equal_53 rfl 4 rfl ?_
              refine V.sipush F d_M_equal_54 (v := nI (300)) (by decide) ?_
              refine V.imulN F d_M_equal_57 ?_
              refine V.iload F d_M_equal_58 0 rfl ?_
              refine V.iaddN F d_M_equal_60 ?_
              refine V.zald (v := bI (kn (d2) (i))) F d_M_equal_61 12 3 rfl rfl (by omega) (by decide) (kn_at (by omega)) ?_
              refine V.icmp_ne (x := bI (kn (d) (i))) (y := bI (kn (d2) (i))) (tgt := 69) F d_M_equal_62 (by decide) (fun c62 => ?_) (fun c62 => ?_)
              · skip
                refine V.iconst F d_M_equal_69 (v := nI (0)) (by decide) ?_
                refine V.istore_n (lv2 := [(3, .int (nI (0))), (4, .int (nI (i))), (0, .ref (mo 0)), (1, .int (nI (d))), (2, .int (nI (d2)))]) F d_M_equal_70 rfl (by decide) rfl ?_
                refine V.iincN (k := 1) (lv2 := [(4, .int (nI (i + 1))), (3, .int (nI (0))), (0, .ref (mo 0)), (1, .int (nI (d))), (2, .int (nI (d2)))]) F d_M_equal_71 1 rfl (by decide) (by decide) rfl ?_
                refine V.goto (tgt := 23) F d_M_equal_74 (by decide) ?_
                exact ih23 (i + 1) (false) (by omega) (by omega) (by rw [sameB, show (kn d i == kn d2 i) = false from beq_eq_false_iff_ne.mpr (fun q => c62 (by rw [q])), Bool.and_false])
              · skip
                refine V.iconst F d_M_equal_65 (v := nI (1)) (by decide) ?_
                refine V.goto (tgt := 70) F d_M_equal_66 (by decide) ?_
                refine V.istore_n (lv2 := [(3, .int (nI (1))), (4, .int (nI (i))), (0, .ref (mo 0)), (1, .int (nI (d))), (2, .int (nI (d2)))]) F d_M_equal_70 rfl (by decide) rfl ?_
                refine V.iincN (k := 1) (lv2 := [(4, .int (nI (i + 1))), (3, .int (nI (1))), (0, .ref (mo 0)), (1, .int (nI (d))), (2, .int (nI (d2)))]) F d_M_equal_71 1 rfl (by decide) (by decide) rfl ?_
                refine V.goto (tgt := 23) F d_M_equal_74 (by decide) ?_
                exact ih23 (i + 1) (true) (by omega) (by omega) (by rw [sameB, ← hz, c33, show (kn d i == kn d2 i) = true from beq_iff_eq.mpr (bI_inj c62)]; rfl)
      exact L23 _ (0) (true) (Nat.lt_succ_self _) (by omega) (rfl)
    · skip
      exact absurd c13 (by decide)

set_option maxHeartbeats 4000000 in
set_option maxRecDepth 100000 in
theorem m_batchNo (l : Launch) (D : va_G) {ct : Nat → ClassId} {mo : Nat → Nat} {nd : Nat} {nb : Nat} {nf : Nat} {bdk : Nat → Nat} {num : Nat → Nat} {thg : Nat → Nat} {knd : Nat → Nat} {dy : Nat → Nat} {val : Nat → Int64} {tim : Nat → Nat} {rep : Nat → Nat → Bool} {kn : Nat → Nat → Bool} {clk : Nat → Nat} {tol : Nat → Nat} {opn : Nat → Option Nat} {bof : Nat → Option Nat} {std : Nat → Bool} {xd : Int64} (x : Int32) (hx : x < 0 ∨ nI nd ≤ x) : CI l y_M_batch b_M_batch 2 (some .int) (rmK 1 0 0) D (tyL ct) (MW ct mo nd nb nf bdk num thg knd dy val tim rep kn clk tol opn bof std xd) [.ref (mo 0), .int (x)] 0 0 (fun r u => r = -1 ∧ u = MW ct mo nd nb nf bdk num thg knd dy val tim rep kn clk tol opn bof std xd) := by
  refine CI.start (by decide) (Nat.le_of_ble_eq_true rfl) ?_
  intro p e s m below meth c F hr hnm
  show V p l e (rmK 1 0 0) s m [.ref (mo 0), .int (x)].toArray below meth c D (va_A (MW ct mo nd nb nf bdk num thg knd dy val tim rep kn clk tol opn bof std xd) s.heap.size) 2 0 0 (EI D below (MW ct mo nd nb nf bdk num thg knd dy val tim rep kn clk tol opn bof std xd) [.ref (mo 0), .int (x)].toArray s 0 0 (fun r u => r = -1 ∧ u = MW ct mo nd nb nf bdk num thg knd dy val tim rep kn clk tol opn bof std xd)) (MW ct mo nd nb nf bdk num thg knd dy val tim rep kn clk tol opn bof std xd) [(0, .ref (mo 0)), (1, .int (x))] 0 []
  refine V.aload_n F d_M_batch_0 rfl 0 rfl ?_
  refine V.iload_n F d_M_batch_1 rfl 1 rfl ?_
  refine V.callVI0 (As := [.int (x)]) (rest := []) F (m_isDeskNo l D x hx) d_M_batch_2 sv_M_62 im_y_M_isDesk sl_y_M_isDesk 0 rfl rfl rfl rfl rfl (Nat.le_of_ble_eq_true rfl) ⟨rfl, rfl, (Nat.le_of_ble_eq_true rfl), (Nat.le_of_ble_eq_true rfl)⟩ ⟨(Nat.le_of_ble_eq_true rfl), (Nat.le_of_ble_eq_true rfl)⟩ (fun r9 u9 h9 => ?_)
  obtain ⟨rfl, rfl⟩ := h9
  refine V.if_eqB (b := false) (tgt := 18) F d_M_batch_5 (by decide) (fun c5 => ?_) (fun c5 => ?_)
  · skip
    refine V.iconst F d_M_batch_18 (v := -1) (by decide) ?_
    exact V.iret F hr d_M_batch_19 (⟨rfl, rfl⟩)
  · skip
    exact absurd c5 (by decide)

set_option maxHeartbeats 4000000 in
set_option maxRecDepth 100000 in
theorem m_batchOpen (l : Launch) (D : va_G) {ct : Nat → ClassId} {mo : Nat → Nat} {nd : Nat} {nb : Nat} {nf : Nat} {bdk : Nat → Nat} {num : Nat → Nat} {thg : Nat → Nat} {knd : Nat → Nat} {dy : Nat → Nat} {val : Nat → Int64} {tim : Nat → Nat} {rep : Nat → Nat → Bool} {kn : Nat → Nat → Bool} {clk : Nat → Nat} {tol : Nat → Nat} {opn : Nat → Option Nat} {bof : Nat → Option Nat} {std : Nat → Bool} {xd : Int64} (hnd : nd ≤ 8) (d : Nat) (hd0 : d < nd) (b0 : Nat) (ho : opn d = some b0) (hb0 : b0 < 2 ^ 31) : CI l y_M_batch b_M_batch 2 (some .int) (rmK 1 0 0) D (tyL ct) (MW ct mo nd nb nf bdk num thg knd dy val tim rep kn clk tol opn bof std xd) [.ref (mo 0), .int (nI (d))] 0 0 (fun r u => r = -1 ∧ u = MW ct mo nd nb nf bdk num thg knd dy val tim rep kn clk tol opn bof std xd) := by
  refine CI.start (by decide) (Nat.le_of_ble_eq_true rfl) ?_
  intro p e s m below meth c F hr hnm
  show V p l e (rmK 1 0 0) s m [.ref (mo 0), .int (nI (d))].toArray below meth c D (va_A (MW ct mo nd nb nf bdk num thg knd dy val tim rep kn clk tol opn bof std xd) s.heap.size) 2 0 0 (EI D below (MW ct mo nd nb nf bdk num thg knd dy val tim rep kn clk tol opn bof std xd) [.ref (mo 0), .int (nI (d))].toArray s 0 0 (fun r u => r = -1 ∧ u = MW ct mo nd nb nf bdk num thg knd dy val tim rep kn clk tol opn bof std xd)) (MW ct mo nd nb nf bdk num thg knd dy val tim rep kn clk tol opn bof std xd) [(0, .ref (mo 0)), (1, .int (nI (d)))] 0 []
  refine V.aload_n F d_M_batch_0 rfl 0 rfl ?_
  refine V.iload_n F d_M_batch_1 rfl 1 rfl ?_
  refine V.callVI0 (As := [.int (nI (d))]) (rest := []) F (m_isDesk l D hnd d hd0) d_M_batch_2 sv_M_62 im_y_M_isDesk sl_y_M_isDesk 0 rfl rfl rfl rfl rfl (Nat.le_of_ble_eq_true rfl) ⟨rfl, rfl, (Nat.le_of_ble_eq_true rfl), (Nat.le_of_ble_eq_true rfl)⟩ ⟨(Nat.le_of_ble_eq_true rfl), (Nat.le_of_ble_eq_true rfl)⟩ (fun r9 u9 h9 => ?_)
  obtain ⟨rfl, rfl⟩ := h9
  refine V.if_eqB (b := true) (tgt := 18) F d_M_batch_5 (by decide) (fun c5 => ?_) (fun c5 => ?_)
  · skip
    exact absurd c5 (by decide)
  · skip
    refine V.aload_n F d_M_batch_8 rfl 0 rfl ?_
    refine V.get F ck_M d_M_batch_9 3 (by decide) lk_M_17 0 rfl rfl ?_
    refine V.iload_n F d_M_batch_12 rfl 1 rfl ?_
    refine V.iald (v := oI (opn (d))) F d_M_batch_13 3 0 rfl rfl (by omega) (by decide) rfl ?_
    refine V.iconst F d_M_batch_14 (v := -1) (by decide) ?_
    refine V.icmp_eq (x := oI (opn (d))) (y := -1) (tgt := 20) F d_M_batch_15 (by decide) (fun c15 => ?_) (fun c15 => ?_)
    · skip
      exact absurd (show nI b0 = -1 by rw [ho] at c15; exact c15) (nI_nm1 hb0)
    · skip
      refine V.iconst F d_M_batch_18 (v := -1) (by decide) ?_
      exact V.iret F hr d_M_batch_19 (⟨rfl, rfl⟩)

set_option maxHeartbeats 4000000 in
set_option maxRecDepth 100000 in
theorem m_batchFull (l : Launch) (D : va_G) {ct : Nat → ClassId} {mo : Nat → Nat} {nd : Nat} {nb : Nat} {nf : Nat} {bdk : Nat → Nat} {num : Nat → Nat} {thg : Nat → Nat} {knd : Nat → Nat} {dy : Nat → Nat} {val : Nat → Int64} {tim : Nat → Nat} {rep : Nat → Nat → Bool} {kn : Nat → Nat → Bool} {clk : Nat → Nat} {tol : Nat → Nat} {opn : Nat → Option Nat} {bof : Nat → Option Nat} {std : Nat → Bool} {xd : Int64} (hnd : nd ≤ 8) (d : Nat) (hd0 : d < nd) (ho : opn d = none) (hnb : nb = 40) : CI l y_M_batch b_M_batch 2 (some .int) (rmK 1 0 0) D (tyL ct) (MW ct mo nd nb nf bdk num thg knd dy val tim rep kn clk tol opn bof std xd) [.ref (mo 0), .int (nI (d))] 0 0 (fun r u => r = -2 ∧ u = MW ct mo nd nb nf bdk num thg knd dy val tim rep kn clk tol opn bof std xd) := by
  refine CI.start (by decide) (Nat.le_of_ble_eq_true rfl) ?_
  intro p e s m below meth c F hr hnm
  show V p l e (rmK 1 0 0) s m [.ref (mo 0), .int (nI (d))].toArray below meth c D (va_A (MW ct mo nd nb nf bdk num thg knd dy val tim rep kn clk tol opn bof std xd) s.heap.size) 2 0 0 (EI D below (MW ct mo nd nb nf bdk num thg knd dy val tim rep kn clk tol opn bof std xd) [.ref (mo 0), .int (nI (d))].toArray s 0 0 (fun r u => r = -2 ∧ u = MW ct mo nd nb nf bdk num thg knd dy val tim rep kn clk tol opn bof std xd)) (MW ct mo nd nb nf bdk num thg knd dy val tim rep kn clk tol opn bof std xd) [(0, .ref (mo 0)), (1, .int (nI (d)))] 0 []
  refine V.aload_n F d_M_batch_0 rfl 0 rfl ?_
  refine V.iload_n F d_M_batch_1 rfl 1 rfl ?_
  refine V.callVI0 (As := [.int (nI (d))]) (rest := []) F (m_isDesk l D hnd d hd0) d_M_batch_2 sv_M_62 im_y_M_isDesk sl_y_M_isDesk 0 rfl rfl rfl rfl rfl (Nat.le_of_ble_eq_true rfl) ⟨rfl, rfl, (Nat.le_of_ble_eq_true rfl), (Nat.le_of_ble_eq_true rfl)⟩ ⟨(Nat.le_of_ble_eq_true rfl), (Nat.le_of_ble_eq_true rfl)⟩ (fun r9 u9 h9 => ?_)
  obtain ⟨rfl, rfl⟩ := h9
  refine V.if_eqB (b := true) (tgt := 18) F d_M_batch_5 (by decide) (fun c5 => ?_) (fun c5 => ?_)
  · skip
    exact absurd c5 (by decide)
  · skip
    refine V.aload_n F d_M_batch_8 rfl 0 rfl ?_
    refine V.get F ck_M d_M_batch_9 3 (by decide) lk_M_17 0 rfl rfl ?_
    refine V.iload_n F d_M_batch_12 rfl 1 rfl ?_
    refine V.iald (v := oI (opn (d))) F d_M_batch_13 3 0 rfl rfl (by omega) (by decide) rfl ?_
    refine V.iconst F d_M_batch_14 (v := -1) (by decide) ?_
    refine V.icmp_eq (x := oI (opn (d))) (y := -1) (tgt := 20) F d_M_batch_15 (by decide) (fun c15 => ?_) (fun c15 => ?_)
    · skip
      refine V.aload_n F d_M_batch_20 rfl 0 rfl ?_
      refine V.get F ck_M d_M_batch_21 15 (by decide) lk_M_108 0 rfl rfl ?_
      refine V.bipush F d_M_batch_24 (v := nI (40)) (by decide) ?_
      refine V.icmp_neN (tgt := 32) F d_M_batch_26 (by decide) (by omega) (by omega) (fun c26 => ?_) (fun c26 => ?_)
      · skip
        exact absurd hnb c26
      · skip
        refine V.bipush F d_M_batch_29 (v := -2) (by decide) ?_
        exact V.iret F hr d_M_batch_31 (⟨rfl, rfl⟩)
    · skip
      exact absurd (by rw [ho]; rfl) c15

set_option maxHeartbeats 4000000 in
set_option maxRecDepth 100000 in
theorem m_batch (l : Launch) (D : va_G) {ct : Nat → ClassId} {mo : Nat → Nat} {nd : Nat} {nb : Nat} {nf : Nat} {bdk : Nat → Nat} {num : Nat → Nat} {thg : Nat → Nat} {knd : Nat → Nat} {dy : Nat → Nat} {val : Nat → Int64} {tim : Nat → Nat} {rep : Nat → Nat → Bool} {kn : Nat → Nat → Bool} {clk : Nat → Nat} {tol : Nat → Nat} {opn : Nat → Option Nat} {bof : Nat → Option Nat} {std : Nat → Bool} {xd : Int64} (hnd : nd ≤ 8) (d : Nat) (hd0 : d < nd) (ho : opn d = none) (hnb : nb < 40) : CI l y_M_batch b_M_batch 2 (some .int) (rmK 1 0 0) D (tyL ct) (MW ct mo nd nb nf bdk num thg knd dy val tim rep kn clk tol opn bof std xd) [.ref (mo 0), .int (nI (d))] 0 0 (fun r u => r = nI nb ∧ u = MW ct mo nd (nb + 1) nf (va_up bdk nb d) num thg knd dy val tim rep kn clk tol (va_up opn d (some nb)) bof std xd) := by
  refine CI.start (by decide) (Nat.le_of_ble_eq_true rfl) ?_
  intro p e s m below meth c F hr hnm
  show V p l e (rmK 1 0 0) s m [.ref (mo 0), .int (nI (d))].toArray below meth c D (va_A (MW ct mo nd nb nf bdk num thg knd dy val tim rep kn clk tol opn bof std xd) s.heap.size) 2 0 0 (EI D below (MW ct mo nd nb nf bdk num thg knd dy val tim rep kn clk tol opn bof std xd) [.ref (mo 0), .int (nI (d))].toArray s 0 0 (fun r u => r = nI nb ∧ u = MW ct mo nd (nb + 1) nf (va_up bdk nb d) num thg knd dy val tim rep kn clk tol (va_up opn d (some nb)) bof std xd)) (MW ct mo nd nb nf bdk num thg knd dy val tim rep kn clk tol opn bof std xd) [(0, .ref (mo 0)), (1, .int (nI (d)))] 0 []
  refine V.aload_n F d_M_batch_0 rfl 0 rfl ?_
  refine V.iload_n F d_M_batch_1 rfl 1 rfl ?_
  refine V.callVI0 (As := [.int (nI (d))]) (rest := []) F (m_isDesk l D hnd d hd0) d_M_batch_2 sv_M_62 im_y_M_isDesk sl_y_M_isDesk 0 rfl rfl rfl rfl rfl (Nat.le_of_ble_eq_true rfl) ⟨rfl, rfl, (Nat.le_of_ble_eq_true rfl), (Nat.le_of_ble_eq_true rfl)⟩ ⟨(Nat.le_of_ble_eq_true rfl), (Nat.le_of_ble_eq_true rfl)⟩ (fun r9 u9 h9 => ?_)
  obtain ⟨rfl, rfl⟩ := h9
  refine V.if_eqB (b := true) (tgt := 18) F d_M_batch_5 (by decide) (fun c5 => ?_) (fun c5 => ?_)
  · skip
    exact absurd c5 (by decide)
  · skip
    refine V.aload_n F d_M_batch_8 rfl 0 rfl ?_
    refine V.get F ck_M d_M_batch_9 3 (by decide) lk_M_17 0 rfl rfl ?_
    refine V.iload_n F d_M_batch_12 rfl 1 rfl ?_
    refine V.iald (v := oI (opn (d))) F d_M_batch_13 3 0 rfl rfl (by omega) (by decide) rfl ?_
    refine V.iconst F d_M_batch_14 (v := -1) (by decide) ?_
    refine V.icmp_eq (x := oI (opn (d))) (y := -1) (tgt := 20) F d_M_batch_15 (by decide) (fun c15 => ?_) (fun c15 => ?_)
    · skip
      refine V.aload_n F d_M_batch_20 rfl 0 rfl ?_
      refine V.get F ck_M d_M_batch_21 15 (by decide) lk_M_108 0 rfl rfl ?_
      refine V.bipush F d_M_batch_24 (v := nI (40)) (by decide) ?_
      refine V.icmp_neN (tgt := 32) F d_M_batch_26 (by decide) (by omega) (by omega) (fun c26 => ?_) (fun c26 => ?_)
      · skip
        refine V.aload_n F d_M_batch_32 rfl 0 rfl ?_
        refine V.get F ck_M d_M_batch_33 14 (by decide) lk_M_49 0 rfl rfl ?_
        refine V.aload_n F d_M_batch_36 rfl 0 rfl ?_
        refine V.get F ck_M d_M_batch_37 15 (by decide) lk_M_108 0 rfl rfl ?_
        refine V.iload_n F d_M_batch_40 rfl 1 rfl ?_
        refine V.iast (ws2 := MW ct mo nd nb nf (va_up bdk (nb) (d)) num thg knd dy val tim rep kn clk tol opn bof std xd) F d_M_batch_41 13 0 rfl rfl (by omega) (by decide) (by rw [upd_nF]; exact mw_set_bdk) ?_
        refine V.aload_n F d_M_batch_42 rfl 0 rfl ?_
        refine V.get F ck_M d_M_batch_43 3 (by decide) lk_M_17 0 rfl rfl ?_
        refine V.iload_n F d_M_batch_46 rfl 1 rfl ?_
        refine V.aload_n F d_M_batch_47 rfl 0 rfl ?_
        refine V.get F ck_M d_M_batch_48 15 (by decide) lk_M_108 0 rfl rfl ?_
        refine V.iast (ws2 := MW ct mo nd nb nf (va_up bdk (nb) (d)) num thg knd dy val tim rep kn clk tol (va_up opn (d) (some (nb))) bof std xd) F d_M_batch_51 3 0 rfl rfl (by omega) (by decide) (by show (MW ct mo nd nb nf (va_up bdk (nb) (d)) num thg knd dy val tim rep kn clk tol opn bof std xd).set _ (_, .inl (_, _, .inl (upd _ _ (oI (some (nb)))))) = _; rw [upd_oI]; exact mw_set_opn) ?_
        refine V.aload_n F d_M_batch_52 rfl 0 rfl ?_
        refine V.dup F d_M_batch_53 rfl ?_
        refine V.get F ck_M d_M_batch_54 15 (by decide) lk_M_108 0 rfl rfl ?_
        refine V.iconst F d_M_batch_57 (v := nI (1)) (by decide) ?_
        refine V.iaddN F d_M_batch_58 ?_
        refine V.put (ws2 := MW ct mo nd ((nb) + (1)) nf (va_up bdk (nb) (d)) num thg knd dy val tim rep kn clk tol (va_up opn (d) (some (nb))) bof std xd) F ck_M d_M_batch_59 15 (by decide) lk_M_108 0 rfl rfl rfl rfl (Nat.le_of_ble_eq_true rfl) mw_set_nb ?_
        refine V.aload_n F d_M_batch_62 rfl 0 rfl ?_
        refine V.get F ck_M d_M_batch_63 15 (by decide) lk_M_108 0 rfl rfl ?_
        refine V.iconst F d_M_batch_66 (v := nI (1)) (by decide) ?_
        refine V.isubN F d_M_batch_67 (by omega) ?_
        exact V.iret F hr d_M_batch_68 (⟨rfl, rfl⟩)
      · skip
        exact absurd c26 (by omega)
    · skip
      exact absurd (by rw [ho]; rfl) c15

set_option maxHeartbeats 4000000 in
set_option maxRecDepth 100000 in
theorem m_endNo (l : Launch) (D : va_G) {ct : Nat → ClassId} {mo : Nat → Nat} {nd : Nat} {nb : Nat} {nf : Nat} {bdk : Nat → Nat} {num : Nat → Nat} {thg : Nat → Nat} {knd : Nat → Nat} {dy : Nat → Nat} {val : Nat → Int64} {tim : Nat → Nat} {rep : Nat → Nat → Bool} {kn : Nat → Nat → Bool} {clk : Nat → Nat} {tol : Nat → Nat} {opn : Nat → Option Nat} {bof : Nat → Option Nat} {std : Nat → Bool} {xd : Int64} (x : Int32) (hx : x < 0 ∨ nI nb ≤ x) : CI l y_M_endBatch b_M_endBatch 4 (some .boolean) (rmK 0 0 0) D (tyL ct) (MW ct mo nd nb nf bdk num thg knd dy val tim rep kn clk tol opn bof std xd) [.ref (mo 0), .int (x)] 0 0 (fun r u => r = bI false ∧ u = MW ct mo nd nb nf bdk num thg knd dy val tim rep kn clk tol opn bof std xd) := by
  refine CI.start (by decide) (Nat.le_of_ble_eq_true rfl) ?_
  intro p e s m below meth c F hr hnm
  show V p l e (rmK 0 0 0) s m [.ref (mo 0), .int (x)].toArray below meth c D (va_A (MW ct mo nd nb nf bdk num thg knd dy val tim rep kn clk tol opn bof std xd) s.heap.size) 4 0 0 (EI D below (MW ct mo nd nb nf bdk num thg knd dy val tim rep kn clk tol opn bof std xd) [.ref (mo 0), .int (x)].toArray s 0 0 (fun r u => r = bI false ∧ u = MW ct mo nd nb nf bdk num thg knd dy val tim rep kn clk tol opn bof std xd)) (MW ct mo nd nb nf bdk num thg knd dy val tim rep kn clk tol opn bof std xd) [(0, .ref (mo 0)), (1, .int (x))] 0 []
  refine V.iload_n F d_M_endBatch_0 rfl 1 rfl ?_
  refine V.if_lt (x := x) (tgt := 27) F d_M_endBatch_1 (by decide) (fun c1 => ?_) (fun c1 => ?_)
  · skip
    refine V.iconst F d_M_endBatch_27 (v := nI (0)) (by decide) ?_
    exact V.zret F hr (nar_0) d_M_endBatch_28 (⟨bI_f, rfl⟩)
  · skip
    refine V.iload_n F d_M_endBatch_4 rfl 1 rfl ?_
    refine V.aload_n F d_M_endBatch_5 rfl 0 rfl ?_
    refine V.get F ck_M d_M_endBatch_6 15 (by decide) lk_M_108 0 rfl rfl ?_
    refine V.icmp_ge (x := x) (y := nI (nb)) (tgt := 27) F d_M_endBatch_9 (by decide) (fun c9 => ?_) (fun c9 => ?_)
    · skip
      refine V.iconst F d_M_endBatch_27 (v := nI (0)) (by decide) ?_
      exact V.zret F hr (nar_0) d_M_endBatch_28 (⟨bI_f, rfl⟩)
    · skip
      exact absurd c9 (fun q => hx.elim c1 (fun z => q z))

set_option maxHeartbeats 4000000 in
set_option maxRecDepth 100000 in
theorem m_endOld (l : Launch) (D : va_G) {ct : Nat → ClassId} {mo : Nat → Nat} {nd : Nat} {nb : Nat} {nf : Nat} {bdk : Nat → Nat} {num : Nat → Nat} {thg : Nat → Nat} {knd : Nat → Nat} {dy : Nat → Nat} {val : Nat → Int64} {tim : Nat → Nat} {rep : Nat → Nat → Bool} {kn : Nat → Nat → Bool} {clk : Nat → Nat} {tol : Nat → Nat} {opn : Nat → Option Nat} {bof : Nat → Option Nat} {std : Nat → Bool} {xd : Int64} (b0 : Nat) (hb0 : b0 < nb) (hnb : nb ≤ 40) (hbd : bdk b0 < nd) (hnd : nd ≤ 8) (hob : ∀ g, opn (bdk b0) = some g → g < 2 ^ 31) (ho : ¬ opn (bdk b0) = some b0) : CI l y_M_endBatch b_M_endBatch 4 (some .boolean) (rmK 0 0 0) D (tyL ct) (MW ct mo nd nb nf bdk num thg knd dy val tim rep kn clk tol opn bof std xd) [.ref (mo 0), .int (nI (b0))] 0 0 (fun r u => r = bI false ∧ u = MW ct mo nd nb nf bdk num thg knd dy val tim rep kn clk tol opn bof std xd) := by
  refine CI.start (by decide) (Nat.le_of_ble_eq_true rfl) ?_
  intro p e s m below meth c F hr hnm
  show V p l e (rmK 0 0 0) s m [.ref (mo 0), .int (nI (b0))].toArray below meth c D (va_A (MW ct mo nd nb nf bdk num thg knd dy val tim rep kn clk tol opn bof std xd) s.heap.size) 4 0 0 (EI D below (MW ct mo nd nb nf bdk num thg knd dy val tim rep kn clk tol opn bof std xd) [.ref (mo 0), .int (nI (b0))].toArray s 0 0 (fun r u => r = bI false ∧ u = MW ct mo nd nb nf bdk num thg knd dy val tim rep kn clk tol opn bof std xd)) (MW ct mo nd nb nf bdk num thg knd dy val tim rep kn clk tol opn bof std xd) [(0, .ref (mo 0)), (1, .int (nI (b0)))] 0 []
  refine V.iload_n F d_M_endBatch_0 rfl 1 rfl ?_
  refine V.if_lt (x := nI (b0)) (tgt := 27) F d_M_endBatch_1 (by decide) (fun c1 => ?_) (fun c1 => ?_)
  · skip
    exact absurd c1 (nI_pos (by omega))
  · skip
    refine V.iload_n F d_M_endBatch_4 rfl 1 rfl ?_
    refine V.aload_n F d_M_endBatch_5 rfl 0 rfl ?_
    refine V.get F ck_M d_M_endBatch_6 15 (by decide) lk_M_108 0 rfl rfl ?_
    refine V.icmp_geN (tgt := 27) F d_M_endBatch_9 (by decide) (by omega) (by omega) (fun c9 => ?_) (fun c9 => ?_)
    · skip
      exact absurd c9 (by omega)
    · skip
      refine V.aload_n F d_M_endBatch_12 rfl 0 rfl ?_
      refine V.get F ck_M d_M_endBatch_13 3 (by decide) lk_M_17 0 rfl rfl ?_
      refine V.aload_n F d_M_endBatch_16 rfl 0 rfl ?_
      refine V.get F ck_M d_M_endBatch_17 14 (by decide) lk_M_49 0 rfl rfl ?_
      refine V.iload_n F d_M_endBatch_20 rfl 1 rfl ?_
      refine V.iald (v := nI (bdk (b0))) F d_M_endBatch_21 13 0 rfl rfl (by omega) (by decide) rfl ?_
      refine V.iald (v := oI (opn (bdk (b0)))) F d_M_endBatch_22 3 0 rfl rfl (by omega) (by decide) rfl ?_
      refine V.iload_n F d_M_endBatch_23 rfl 1 rfl ?_
      refine V.icmp_eq (x := oI (opn (bdk (b0)))) (y := nI (b0)) (tgt := 29) F d_M_endBatch_24 (by decide) (fun c24 => ?_) (fun c24 => ?_)
      · skip
        exact absurd ((oI_eq hob (by omega)).mp c24) ho
      · skip
        refine V.iconst F d_M_endBatch_27 (v := nI (0)) (by decide) ?_
        exact V.zret F hr (nar_0) d_M_endBatch_28 (⟨bI_f, rfl⟩)

set_option maxHeartbeats 4000000 in
set_option maxRecDepth 100000 in
theorem m_end (l : Launch) (D : va_G) {ct : Nat → ClassId} {mo : Nat → Nat} {nd : Nat} {nb : Nat} {nf : Nat} {bdk : Nat → Nat} {num : Nat → Nat} {thg : Nat → Nat} {knd : Nat → Nat} {dy : Nat → Nat} {val : Nat → Int64} {tim : Nat → Nat} {rep : Nat → Nat → Bool} {kn : Nat → Nat → Bool} {clk : Nat → Nat} {tol : Nat → Nat} {opn : Nat → Option Nat} {bof : Nat → Option Nat} {std : Nat → Bool} {xd : Int64} (hnf : nf ≤ 300) (b0 : Nat) (hb0 : b0 < nb) (hnb : nb ≤ 40) (hbd : bdk b0 < nd) (hnd : nd ≤ 8) (hob : ∀ g, opn (bdk b0) = some g → g < 2 ^ 31) (ho : opn (bdk b0) = some b0) (hbf : ∀ k, k < nf → ∀ g, bof k = some g → g < 2 ^ 31) : CI l y_M_endBatch b_M_endBatch 4 (some .boolean) (rmK 0 0 0) D (tyL ct) (MW ct mo nd nb nf bdk num thg knd dy val tim rep kn clk tol opn bof std xd) [.ref (mo 0), .int (nI (b0))] 0 0 (fun r u => r = bI true ∧ u = MW ct mo nd nb nf bdk num thg knd dy val tim rep (en kn bof (bdk b0) nf b0) clk tol (va_up opn (bdk b0) none) bof std xd) := by
  refine CI.start (by decide) (Nat.le_of_ble_eq_true rfl) ?_
  intro p e s m below meth c F hr hnm
  show V p l e (rmK 0 0 0) s m [.ref (mo 0), .int (nI (b0))].toArray below meth c D (va_A (MW ct mo nd nb nf bdk num thg knd dy val tim rep kn clk tol opn bof std xd) s.heap.size) 4 0 0 (EI D below (MW ct mo nd nb nf bdk num thg knd dy val tim rep kn clk tol opn bof std xd) [.ref (mo 0), .int (nI (b0))].toArray s 0 0 (fun r u => r = bI true ∧ u = MW ct mo nd nb nf bdk num thg knd dy val tim rep (en kn bof (bdk b0) nf b0) clk tol (va_up opn (bdk b0) none) bof std xd)) (MW ct mo nd nb nf bdk num thg knd dy val tim rep kn clk tol opn bof std xd) [(0, .ref (mo 0)), (1, .int (nI (b0)))] 0 []
  refine V.iload_n F d_M_endBatch_0 rfl 1 rfl ?_
  refine V.if_lt (x := nI (b0)) (tgt := 27) F d_M_endBatch_1 (by decide) (fun c1 => ?_) (fun c1 => ?_)
  · skip
    exact absurd c1 (nI_pos (by omega))
  · skip
    refine V.iload_n F d_M_endBatch_4 rfl 1 rfl ?_
    refine V.aload_n F d_M_endBatch_5 rfl 0 rfl ?_
    refine V.get F ck_M d_M_endBatch_6 15 (by decide) lk_M_108 0 rfl rfl ?_
    refine V.icmp_geN (tgt := 27) F d_M_endBatch_9 (by decide) (by omega) (by omega) (fun c9 => ?_) (fun c9 => ?_)
    · skip
      exact absurd c9 (by omega)
    · skip
      refine V.aload_n F d_M_endBatch_12 rfl 0 rfl ?_
      refine V.get F ck_M d_M_endBatch_13 3 (by decide) lk_M_17 0 rfl rfl ?_
      refine V.aload_n F d_M_endBatch_16 rfl 0 rfl ?_
      refine V.get F ck_M d_M_endBatch_17 14 (by decide) lk_M_49 0 rfl rfl ?_
      refine V.iload_n F d_M_endBatch_20 rfl 1 rfl ?_
      refine V.iald (v := nI (bdk (b0))) F d_M_endBatch_21 13 0 rfl rfl (by omega) (by decide) rfl ?_
      refine V.iald (v := oI (opn (bdk (b0)))) F d_M_endBatch_22 3 0 rfl rfl (by omega) (by decide) rfl ?_
      refine V.iload_n F d_M_endBatch_23 rfl 1 rfl ?_
      refine V.icmp_eq (x := oI (opn (bdk (b0)))) (y := nI (b0)) (tgt := 29) F d_M_endBatch_24 (by decide) (fun c24 => ?_) (fun c24 => ?_)
      · skip
        refine V.aload_n F d_M_endBatch_29 rfl 0 rfl ?_
        refine V.get F ck_M d_M_endBatch_30 14 (by decide) lk_M_49 0 rfl rfl ?_
        refine V.iload_n F d_M_endBatch_33 rfl 1 rfl ?_
        refine V.iald (v := nI (bdk (b0))) F d_M_endBatch_34 13 0 rfl rfl (by omega) (by decide) rfl ?_
        refine V.istore_n (lv2 := [(2, .int (nI (bdk (b0)))), (0, .ref (mo 0)), (1, .int (nI (b0)))]) F d_M_endBatch_35 rfl (by decide) rfl ?_
        refine V.aload_n F d_M_endBatch_36 rfl 1 rfl ?_
        refine V.get F ck_M d_M_endBatch_37 3 (by decide) lk_M_17 0 rfl rfl ?_
        refine V.iload_n F d_M_endBatch_40 rfl 0 rfl ?_
        refine V.iconst F d_M_endBatch_41 (v := -1) (by decide) ?_
        refine V.iast (ws2 := MW ct mo nd nb nf bdk num thg knd dy val tim rep kn clk tol (va_up opn (bdk (b0)) (none)) bof std xd) F d_M_endBatch_42 3 0 rfl rfl (by omega) (by decide) (by show (MW ct mo nd nb nf bdk num thg knd dy val tim rep kn clk tol opn bof std xd).set _ (_, .inl (_, _, .inl (upd _ _ (oI (none))))) = _; rw [upd_oI]; exact mw_set_opn) ?_
        refine V.iconst F d_M_endBatch_43 (v := nI (0)) (by decide) ?_
        refine V.istore_n (lv2 := [(3, .int (nI (0))), (2, .int (nI (bdk (b0)))), (0, .ref (mo 0)), (1, .int (nI (b0)))]) F d_M_endBatch_44 rfl (by decide) rfl ?_
        have L45 : ∀ (n9 : Nat) (i : Nat) (K : Nat → Nat → Bool), nf - i < n9 → (i ≤ nf) → (K = en kn bof (bdk b0) i b0) → V p l e (rmK 0 0 0) s m [.ref (mo 0), .int (nI (b0))].toArray below meth c D (va_A (MW ct mo nd nb nf bdk num thg knd dy val tim rep kn clk tol opn bof std xd) s.heap.size) 4 0 0 (EI D below (MW ct mo nd nb nf bdk num thg knd dy val tim rep kn clk tol opn bof std xd) [.ref (mo 0), .int (nI (b0))].toArray s 0 0 (fun r u => r = bI true ∧ u = MW ct mo nd nb nf bdk num thg knd dy val tim rep (en kn bof (bdk b0) nf b0) clk tol (va_up opn (bdk b0) none) bof std xd)) (MW ct mo nd nb nf bdk num thg knd dy val tim rep K clk tol (va_up opn (bdk b0) none) bof std xd) [(3, .int (nI (i))), (2, .int (nI (bdk (b0)))), (0, .ref (mo 0)), (1, .int (nI (b0)))] 45 [] := by
          intro n9
          induction n9 with
          | zero => intro i K h9 hi hK; exact absurd h9 (Nat.not_lt_zero _)
          | succ n9 ih45 =>
            intro i K h9 hi hK
            refine V.iload_n F d_M_endBatch_45 rfl 0 rfl ?_
            refine V.aload_n F d_M_endBatch_46 rfl 2 rfl ?_
            refine V.get F ck_M d_M_endBatch_47 13 (by decide) lk_M_59 0 rfl rfl ?_
            refine V.icmp_geN (tgt := 89) F d_M_endBatch_50 (by decide) (by omega) (by omega) (fun c50 => ?_) (fun c50 => ?_)
            · skip
              have e8 : i = nf := by omega
              rw [e8] at hK
              subst hK
              refine V.iconst F d_M_endBatch_89 (v := nI (1)) (by decide) ?_
              exact V.zret F hr (nar_1) d_M_endBatch_90 (⟨bI_t, rfl⟩)
            · skip
              refine V.aload_n F d_M_endBatch_53 rfl 2 rfl ?_
              refine V.get F ck_M d_M_endBatch_54 12 (by decide) lk_M_46 0 rfl rfl ?_
              refine V.iload_n F d_M_endBatch_57 rfl 1 rfl ?_
              refine V.sipush F d_M_endBatch_58 (v := nI (300)) (by decide) ?_
              refine V.imulN F d_M_endBatch_61 ?_
              refine V.iload_n F d_M_endBatch_62 rfl 0 rfl ?_
              refine V.iaddN F d_M_endBatch_63 ?_
              refine V.dup2_11 F d_M_endBatch_64 rfl rfl ?_
              refine V.zald (v := bI (K (bdk (b0)) (i))) F d_M_endBatch_65 12 3 rfl rfl (by omega) (by decide) (kn_at (by omega)) ?_
              refine V.aload_n F d_M_endBatch_66 rfl 2 rfl ?_
              refine V.get F ck_M d_M_endBatch_67 10 (by decide) lk_M_38 0 rfl rfl ?_
              refine V.iload_n F d_M_endBatch_70 rfl 0 rfl ?_
              refine V.iald (v := oI (bof (i))) F d_M_endBatch_71 10 0 rfl rfl (by omega) (by decide) rfl ?_
              refine V.iload_n F d_M_endBatch_72 rfl 3 rfl ?_
              refine V.icmp_ne (x := oI (bof (i))) (y := nI (b0)) (tgt := 80) F d_M_endBatch_73 (by decide) (fun c73 => ?_) (fun c73 => ?_)
              · skip
                refine V.iconst F d_M_endBatch_80 (v := nI (0)) (by decide) ?_
                refine V.iorB (a := K (bdk (b0)) (i)) (b := false) F d_M_endBatch_81 ?_
                refine V.zast (b := K (bdk (b0)) (i) || false) (ws2 := MW ct mo nd nb nf bdk num thg knd dy val tim rep (up2 K (bdk (b0)) (i) (K (bdk (b0)) (i) || false)) clk tol (va_up opn (bdk b0) none) bof std xd) F d_M_endBatch_82 12 3 rfl rfl (by omega) (by decide) (by rw [kn_up (by omega)]; exact mw_set_kn) ?_
                refine V.iincN (k := 1) (lv2 := [(3, .int (nI (i + 1))), (2, .int (nI (bdk (b0)))), (0, .ref (mo 0)), (1, .int (nI (b0)))]) F d_M_endBatch_83 0 rfl (by decide) (by decide) rfl ?_
                refine V.goto (tgt := 45) F d_M_endBatch_86 (by decide) ?_
                exact ih45 (i + 1) (up2 K (bdk b0) i (K (bdk b0) i || false)) (by omega) (by omega) (by rw [hK]; exact en_step (decide_eq_false (fun q => c73 ((oI_eq (hbf i (by omega)) (by omega)).mpr q))).symm)
              · skip
                refine V.iconst F d_M_endBatch_76 (v := nI (1)) (by decide) ?_
                refine V.goto (tgt := 81) F d_M_endBatch_77 (by decide) ?_
                refine V.iorB (a := K (bdk (b0)) (i)) (b := true) F d_M_endBatch_81 ?_
                refine V.zast (b := K (bdk (b0)) (i) || true) (ws2 := MW ct mo nd nb nf bdk num thg knd dy val tim rep (up2 K (bdk (b0)) (i) (K (bdk (b0)) (i) || true)) clk tol (va_up opn (bdk b0) none) bof std xd) F d_M_endBatch_82 12 3 rfl rfl (by omega) (by decide) (by rw [kn_up (by omega)]; exact mw_set_kn) ?_
                refine V.iincN (k := 1) (lv2 := [(3, .int (nI (i + 1))), (2, .int (nI (bdk (b0)))), (0, .ref (mo 0)), (1, .int (nI (b0)))]) F d_M_endBatch_83 0 rfl (by decide) (by decide) rfl ?_
                refine V.goto (tgt := 45) F d_M_endBatch_86 (by decide) ?_
                exact ih45 (i + 1) (up2 K (bdk b0) i (K (bdk b0) i || true)) (by omega) (by omega) (by rw [hK]; exact en_step (decide_eq_true ((oI_eq (hbf i (by omega)) (by omega)).mp c73)).symm)
        exact L45 _ (0) (kn) (Nat.lt_succ_self _) (by omega) (en_0 kn bof (bdk b0) b0)
      · skip
        exact absurd ((oI_eq hob (by omega)).mpr ho) c24

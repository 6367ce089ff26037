def oB (o : Option Nat) : Bool := match o with
  | none => true
  | some _ => false
theorem oB_t {o : Option Nat} (hb : ∀ g, o = some g → g < 2 ^ 31) (h : oI o = -1) : oB o = true := by rw [oI_none hb h]; rfl
theorem oB_f {o : Option Nat} (h : ¬ oI o = -1) : oB o = false := by
  obtain ⟨g, rfl⟩ := oI_some h
  rfl
def lkB (S : Nat → Bool) (rep : Nat → Nat → Bool) (f n : Nat) : Bool := S f && !(anyB (fun k => rep f k && S k) n)
theorem lkB_st {S : Nat → Bool} {rep : Nat → Nat → Bool} {f nf : Nat} (hk : ∀ k, S k = true → k < nf) (hn : nf ≤ 320) : lkB S rep f nf = stB S rep f := by
  unfold lkB stB
  have e : anyB (fun k => rep f k && S k) nf = anyB (fun k => rep f k && S k) 320 := by
    rw [Bool.eq_iff_iff, anyB_iff, anyB_iff]
    constructor
    · rintro ⟨k, h1, h2⟩
      exact ⟨k, by omega, h2⟩
    · rintro ⟨k, h1, h2⟩
      refine ⟨k, hk k ?_, h2⟩
      rw [Bool.and_eq_true] at h2
      exact h2.2
  rw [e]
theorem lk_1 {P S : Nat → Bool} {rep : Nat → Nat → Bool} {nf g j : Nat} {b : Bool} (hP : ∀ f, f < nf → P f = lkB S rep f (if f < j then g + 1 else g)) (hg : S g = true) (hj : j < nf) (hb : b = (P j && !(rep j g))) : ∀ f, f < nf → va_up P j b f = lkB S rep f (if f < j + 1 then g + 1 else g) := by
  intro f hf
  by_cases e : f = j
  · subst e
    rw [va_up_self, if_pos (by omega), hb, hP f hf, if_neg (by omega)]
    unfold lkB
    rw [anyB, hg, Bool.and_true, Bool.not_or, Bool.and_assoc]
  · rw [va_up_ne _ _ e, hP f hf]
    have : (if f < j then g + 1 else g) = (if f < j + 1 then g + 1 else g) := by
      by_cases h : f < j
      · rw [if_pos h, if_pos (by omega)]
      · rw [if_neg h, if_neg (by omega)]
    rw [this]
theorem lk_0 {P S : Nat → Bool} {rep : Nat → Nat → Bool} {nf g j : Nat} (hP : ∀ f, f < nf → P f = lkB S rep f (if f < j then g + 1 else g)) (hg : S g = false) : ∀ f, f < nf → P f = lkB S rep f (g + 1) := by
  intro f hf
  rw [hP f hf]
  have e : lkB S rep f (g + 1) = lkB S rep f g := by
    unfold lkB
    rw [anyB, hg, Bool.and_false, Bool.or_false]
  by_cases h : f < j
  · rw [if_pos h]
  · rw [if_neg h, e]
theorem lk_e {P S : Nat → Bool} {rep : Nat → Nat → Bool} {nf g j : Nat} (hP : ∀ f, f < nf → P f = lkB S rep f (if f < j then g + 1 else g)) (hj : nf ≤ j) : ∀ f, f < nf → P f = lkB S rep f (g + 1) := fun f hf => by rw [hP f hf, if_pos (by omega)]
def fcB (spt : Nat → Nat) (val : Nat → Int64) (std : Nat → Bool) (nf f : Nat) : Bool := (std f && !(anyB (fun g => decide (spt f = spt g) && std g) f)) && anyB (fun g => (decide (spt f = spt g) && std g) && decide (val g ≠ val f)) nf
theorem fc_no {spt : Nat → Nat} {val : Nat → Int64} {std : Nat → Bool} {nf f : Nat} (h : std f = false) : fcB spt val std nf f = false := by unfold fcB; rw [h]; rfl
theorem fc_early {spt : Nat → Nat} {val : Nat → Int64} {std : Nat → Bool} {nf f g : Nat} (hg : g < f) (h1 : decide (spt f = spt g) = true) (h2 : std g = true) : fcB spt val std nf f = false := by
  unfold fcB
  rw [anyB_true (k := g) hg (by rw [h1, h2]; rfl)]
  simp
theorem fc_end {spt : Nat → Nat} {val : Nat → Int64} {std : Nat → Bool} {nf f : Nat} {u : Bool} (h0 : std f = true) (he : ∀ g, g < nf → g < f → (decide (spt f = spt g) && std g) = false) (hf : f < nf) (hu : u = anyB (fun g => (decide (spt f = spt g) && std g) && decide (val g ≠ val f)) nf) : u = fcB spt val std nf f := by
  unfold fcB
  rw [h0, anyB_false (fun k hk => he k (by omega) hk), ← hu]
  rfl
theorem fcB_congr {spt : Nat → Nat} {val : Nat → Int64} {s1 s2 : Nat → Bool} {nf f : Nat} (hf : f < nf) (h : ∀ g, g < nf → s1 g = s2 g) : fcB spt val s1 nf f = fcB spt val s2 nf f := by
  unfold fcB
  have c : ∀ (p q : Nat → Bool) (n : Nat), (∀ k, k < n → p k = q k) → anyB p n = anyB q n := by
    intro p q n hpq
    rw [Bool.eq_iff_iff, anyB_iff, anyB_iff]
    exact ⟨fun ⟨k, a, b⟩ => ⟨k, a, by rw [← hpq k a]; exact b⟩, fun ⟨k, a, b⟩ => ⟨k, a, by rw [hpq k a]; exact b⟩⟩
  rw [h f hf, c _ (fun g => decide (spt f = spt g) && s2 g) f (fun k hk => by rw [h k (by omega)]), c _ (fun g => (decide (spt f = spt g) && s2 g) && decide (val g ≠ val f)) nf (fun k hk => by rw [h k hk])]
def SpR (spt thg knd dy : Nat → Nat) (nf : Nat) : Prop := ∀ f, f < nf → spt f = (thg f * 10 + knd f) * 100001 + dy f ∧ thg f < 100 ∧ knd f < 10 ∧ dy f < 100001
theorem i64_ll {a b : Int64} (h : a ≤ b) (h2 : b < a) : False := by
  simp only [Int64.lt_iff_toInt_lt, Int64.le_iff_toInt_le] at *
  omega
theorem lN_n0 {n : Nat} (h : n < 2 ^ 31) : ¬ lN n < 0 := fun q => by
  have := (lN_lt (b := 0) h (by decide)).mp q
  omega
theorem lN_le5 {n : Nat} (h : n < 100001) : lN n ≤ 100000 := (lN_le (b := 100000) (by omega) (by decide)).mpr (by omega)
theorem ss_1 {S : Nat → Bool} {rep : Nat → Nat → Bool} {f i : Nat} {z : Bool} (hz : z = lkB S rep f i) (hc : z = true) (h : (rep f i && S i) = false) : true = lkB S rep f (i + 1) := by
  rw [hc] at hz
  unfold lkB at *
  rw [anyB, h, Bool.or_false]
  exact hz
theorem ss_0 {S : Nat → Bool} {rep : Nat → Nat → Bool} {f i : Nat} (h : (rep f i && S i) = true) : false = lkB S rep f (i + 1) := by
  unfold lkB
  rw [anyB, h, Bool.or_true]
  simp
theorem ss_e {S : Nat → Bool} {rep : Nat → Nat → Bool} {f i n : Nat} (h : lkB S rep f i = false) (hi : i ≤ n) : lkB S rep f n = false := by
  unfold lkB at *
  cases e : S f with
  | false => rfl
  | true =>
    rw [e, Bool.true_and] at h
    have h2 : anyB (fun k => rep f k && S k) i = true := by simpa using h
    obtain ⟨k, h3, h4⟩ := (anyB_iff _ _).mp h2
    rw [anyB_true (k := k) (by omega) h4]
    rfl
set_option maxHeartbeats 4000000 in
set_option maxRecDepth 100000 in
theorem m_isDesk (l : Launch) (D : va_G) {ct : Nat → ClassId} {mo : Nat → Nat} {nd : Nat} {nb : Nat} {nf : Nat} {bdk : Nat → Nat} {num : Nat → Nat} {thg : Nat → Nat} {knd : Nat → Nat} {dy : Nat → Nat} {val : Nat → Int64} {tim : Nat → Nat} {rep : Nat → Nat → Bool} {kn : Nat → Nat → Bool} {clk : Nat → Nat} {tol : Nat → Nat} {opn : Nat → Option Nat} {bof : Nat → Option Nat} {std : Nat → Bool} {xd : Int64} (hnd : nd ≤ 8) (d : Nat) (hd0 : d < nd) : CI l y_M_isDesk b_M_isDesk 2 (some .boolean) (rmK 0 0 0) D (tyL ct) (MW ct mo nd nb nf bdk num thg knd dy val tim rep kn clk tol opn bof std xd) [.ref (mo 0), .int (nI (d))] 0 0 (fun r u => r = bI true ∧ u = MW ct mo nd nb nf bdk num thg knd dy val tim rep kn clk tol opn bof std xd) := by
  refine CI.start (by decide) (Nat.le_of_ble_eq_true rfl) ?_
  intro p e s m below meth c F hr hnm
  show V p l e (rmK 0 0 0) s m [.ref (mo 0), .int (nI (d))].toArray below meth c D (va_A (MW ct mo nd nb nf bdk num thg knd dy val tim rep kn clk tol opn bof std xd) s.heap.size) 2 0 0 (EI D below (MW ct mo nd nb nf bdk num thg knd dy val tim rep kn clk tol opn bof std xd) [.ref (mo 0), .int (nI (d))].toArray s 0 0 (fun r u => r = bI true ∧ u = MW ct mo nd nb nf bdk num thg knd dy val tim rep kn clk tol opn bof std xd)) (MW ct mo nd nb nf bdk num thg knd dy val tim rep kn clk tol opn bof std xd) [(0, .ref (mo 0)), (1, .int (nI (d)))] 0 []
  refine V.iload_n F d_M_isDesk_0 rfl 1 rfl ?_
  refine V.if_lt (x := nI (d)) (tgt := 16) F d_M_isDesk_1 (by decide) (fun c1 => ?_) (fun c1 => ?_)
  · skip
    exact absurd c1 (nI_pos (by omega))
  · skip
    refine V.iload_n F d_M_isDesk_4 rfl 1 rfl ?_
    refine V.aload_n F d_M_isDesk_5 rfl 0 rfl ?_
    refine V.get F ck_M d_M_isDesk_6 0 (by decide) lk_M_55 0 rfl rfl ?_
    refine V.icmp_geN (tgt := 16) F d_M_isDesk_9 (by decide) (by omega) (by omega) (fun c9 => ?_) (fun c9 => ?_)
    · skip
      exact absurd c9 (by omega)
    · skip
      refine V.iconst F d_M_isDesk_12 (v := nI (1)) (by decide) ?_
      refine V.goto (tgt := 17) F d_M_isDesk_13 (by decide) ?_
      exact V.zret F hr (nar_1) d_M_isDesk_17 (⟨bI_t, rfl⟩)

set_option maxHeartbeats 4000000 in
set_option maxRecDepth 100000 in
theorem m_isDeskNo (l : Launch) (D : va_G) {ct : Nat → ClassId} {mo : Nat → Nat} {nd : Nat} {nb : Nat} {nf : Nat} {bdk : Nat → Nat} {num : Nat → Nat} {thg : Nat → Nat} {knd : Nat → Nat} {dy : Nat → Nat} {val : Nat → Int64} {tim : Nat → Nat} {rep : Nat → Nat → Bool} {kn : Nat → Nat → Bool} {clk : Nat → Nat} {tol : Nat → Nat} {opn : Nat → Option Nat} {bof : Nat → Option Nat} {std : Nat → Bool} {xd : Int64} (x : Int32) (hx : x < 0 ∨ nI nd ≤ x) : CI l y_M_isDesk b_M_isDesk 2 (some .boolean) (rmK 0 0 0) D (tyL ct) (MW ct mo nd nb nf bdk num thg knd dy val tim rep kn clk tol opn bof std xd) [.ref (mo 0), .int (x)] 0 0 (fun r u => r = bI false ∧ u = MW ct mo nd nb nf bdk num thg knd dy val tim rep kn clk tol opn bof std xd) := by
  refine CI.start (by decide) (Nat.le_of_ble_eq_true rfl) ?_
  intro p e s m below meth c F hr hnm
  show V p l e (rmK 0 0 0) s m [.ref (mo 0), .int (x)].toArray below meth c D (va_A (MW ct mo nd nb nf bdk num thg knd dy val tim rep kn clk tol opn bof std xd) s.heap.size) 2 0 0 (EI D below (MW ct mo nd nb nf bdk num thg knd dy val tim rep kn clk tol opn bof std xd) [.ref (mo 0), .int (x)].toArray s 0 0 (fun r u => r = bI false ∧ u = MW ct mo nd nb nf bdk num thg knd dy val tim rep kn clk tol opn bof std xd)) (MW ct mo nd nb nf bdk num thg knd dy val tim rep kn clk tol opn bof std xd) [(0, .ref (mo 0)), (1, .int (x))] 0 []
  refine V.iload_n F d_M_isDesk_0 rfl 1 rfl ?_
  refine V.if_lt (x := x) (tgt := 16) F d_M_isDesk_1 (by decide) (fun c1 => ?_) (fun c1 => ?_)
  · skip
    refine V.iconst F d_M_isDesk_16 (v := nI (0)) (by decide) ?_
    exact V.zret F hr (nar_0) d_M_isDesk_17 (⟨bI_f, rfl⟩)
  · skip
    refine V.iload_n F d_M_isDesk_4 rfl 1 rfl ?_
    refine V.aload_n F d_M_isDesk_5 rfl 0 rfl ?_
    refine V.get F ck_M d_M_isDesk_6 0 (by decide) lk_M_55 0 rfl rfl ?_
    refine V.icmp_ge (x := x) (y := nI (nd)) (tgt := 16) F d_M_isDesk_9 (by decide) (fun c9 => ?_) (fun c9 => ?_)
    · skip
      refine V.iconst F d_M_isDesk_16 (v := nI (0)) (by decide) ?_
      exact V.zret F hr (nar_0) d_M_isDesk_17 (⟨bI_f, rfl⟩)
    · skip
      exact absurd c9 (fun q => hx.elim c1 (fun z => q z))

set_option maxHeartbeats 4000000 in
set_option maxRecDepth 100000 in
theorem m_deskFull (l : Launch) (D : va_G) {ct : Nat → ClassId} {mo : Nat → Nat} {nd : Nat} {nb : Nat} {nf : Nat} {bdk : Nat → Nat} {num : Nat → Nat} {thg : Nat → Nat} {knd : Nat → Nat} {dy : Nat → Nat} {val : Nat → Int64} {tim : Nat → Nat} {rep : Nat → Nat → Bool} {kn : Nat → Nat → Bool} {clk : Nat → Nat} {tol : Nat → Nat} {opn : Nat → Option Nat} {bof : Nat → Option Nat} {std : Nat → Bool} {xd : Int64} (hnd : nd = 8) : CI l y_M_desk b_M_desk 1 (some .int) (rmK 0 0 0) D (tyL ct) (MW ct mo nd nb nf bdk num thg knd dy val tim rep kn clk tol opn bof std xd) [.ref (mo 0)] 0 0 (fun r u => r = -2 ∧ u = MW ct mo nd nb nf bdk num thg knd dy val tim rep kn clk tol opn bof std xd) := by
  refine CI.start (by decide) (Nat.le_of_ble_eq_true rfl) ?_
  intro p e s m below meth c F hr hnm
  show V p l e (rmK 0 0 0) s m [.ref (mo 0)].toArray below meth c D (va_A (MW ct mo nd nb nf bdk num thg knd dy val tim rep kn clk tol opn bof std xd) s.heap.size) 1 0 0 (EI D below (MW ct mo nd nb nf bdk num thg knd dy val tim rep kn clk tol opn bof std xd) [.ref (mo 0)].toArray s 0 0 (fun r u => r = -2 ∧ u = MW ct mo nd nb nf bdk num thg knd dy val tim rep kn clk tol opn bof std xd)) (MW ct mo nd nb nf bdk num thg knd dy val tim rep kn clk tol opn bof std xd) [(0, .ref (mo 0))] 0 []
  refine V.aload_n F d_M_desk_0 rfl 0 rfl ?_
  refine V.get F ck_M d_M_desk_1 0 (by decide) lk_M_55 0 rfl rfl ?_
  refine V.bipush F d_M_desk_4 (v := nI (8)) (by decide) ?_
  refine V.icmp_neN (tgt := 12) F d_M_desk_6 (by decide) (by omega) (by omega) (fun c6 => ?_) (fun c6 => ?_)
  · skip
    exact absurd hnd c6
  · skip
    refine V.bipush F d_M_desk_9 (v := -2) (by decide) ?_
    exact V.iret F hr d_M_desk_11 (⟨rfl, rfl⟩)

set_option maxHeartbeats 4000000 in
set_option maxRecDepth 100000 in
theorem m_desk (l : Launch) (D : va_G) {ct : Nat → ClassId} {mo : Nat → Nat} {nd : Nat} {nb : Nat} {nf : Nat} {bdk : Nat → Nat} {num : Nat → Nat} {thg : Nat → Nat} {knd : Nat → Nat} {dy : Nat → Nat} {val : Nat → Int64} {tim : Nat → Nat} {rep : Nat → Nat → Bool} {kn : Nat → Nat → Bool} {clk : Nat → Nat} {tol : Nat → Nat} {opn : Nat → Option Nat} {bof : Nat → Option Nat} {std : Nat → Bool} {xd : Int64} (hnd : nd < 8) : CI l y_M_desk b_M_desk 1 (some .int) (rmK 0 0 0) D (tyL ct) (MW ct mo nd nb nf bdk num thg knd dy val tim rep kn clk tol opn bof std xd) [.ref (mo 0)] 0 0 (fun r u => r = nI nd ∧ u = MW ct mo (nd + 1) nb nf bdk num thg knd dy val tim rep kn clk tol (va_up opn nd none) bof std xd) := by
  refine CI.start (by decide) (Nat.le_of_ble_eq_true rfl) ?_
  intro p e s m below meth c F hr hnm
  show V p l e (rmK 0 0 0) s m [.ref (mo 0)].toArray below meth c D (va_A (MW ct mo nd nb nf bdk num thg knd dy val tim rep kn clk tol opn bof std xd) s.heap.size) 1 0 0 (EI D below (MW ct mo nd nb nf bdk num thg knd dy val tim rep kn clk tol opn bof std xd) [.ref (mo 0)].toArray s 0 0 (fun r u => r = nI nd ∧ u = MW ct mo (nd + 1) nb nf bdk num thg knd dy val tim rep kn clk tol (va_up opn nd none) bof std xd)) (MW ct mo nd nb nf bdk num thg knd dy val tim rep kn clk tol opn bof std xd) [(0, .ref (mo 0))] 0 []
  refine V.aload_n F d_M_desk_0 rfl 0 rfl ?_
  refine V.get F ck_M d_M_desk_1 0 (by decide) lk_M_55 0 rfl rfl ?_
  refine V.bipush F d_M_desk_4 (v := nI (8)) (by decide) ?_
  refine V.icmp_neN (tgt := 12) F d_M_desk_6 (by decide) (by omega) (by omega) (fun c6 => ?_) (fun c6 => ?_)
  · skip
    refine V.aload_n F d_M_desk_12 rfl 0 rfl ?_
    refine V.get F ck_M d_M_desk_13 3 (by decide) lk_M_17 0 rfl rfl ?_
    refine V.aload_n F d_M_desk_16 rfl 0 rfl ?_
    refine V.get F ck_M d_M_desk_17 0 (by decide) lk_M_55 0 rfl rfl ?_
    refine V.iconst F d_M_desk_20 (v := -1) (by decide) ?_
    refine V.iast (ws2 := MW ct mo nd nb nf bdk num thg knd dy val tim rep kn clk tol (va_up opn (nd) (none)) bof std xd) F d_M_desk_21 3 0 rfl rfl (by omega) (by decide) (by show (MW ct mo nd nb nf bdk num thg knd dy val tim rep kn clk tol opn bof std xd).set _ (_, .inl (_, _, .inl (upd _ _ (oI (none))))) = _; rw [upd_oI]; exact mw_set_opn) ?_
    refine V.aload_n F d_M_desk_22 rfl 0 rfl ?_
    refine V.dup F d_M_desk_23 rfl ?_
    refine V.get F ck_M d_M_desk_24 0 (by decide) lk_M_55 0 rfl rfl ?_
    refine V.iconst F d_M_desk_27 (v := nI (1)) (by decide) ?_
    refine V.iaddN F d_M_desk_28 ?_
    refine V.put (ws2 := MW ct mo ((nd) + (1)) nb nf bdk num thg knd dy val tim rep kn clk tol (va_up opn (nd) (none)) bof std xd) F ck_M d_M_desk_29 0 (by decide) lk_M_55 0 rfl rfl rfl rfl (Nat.le_of_ble_eq_true rfl) mw_set_nd ?_
    refine V.aload_n F d_M_desk_32 rfl 0 rfl ?_
    refine V.get F ck_M d_M_desk_33 0 (by decide) lk_M_55 0 rfl rfl ?_
    refine V.iconst F d_M_desk_36 (v := nI (1)) (by decide) ?_
    refine V.isubN F d_M_desk_37 (by omega) ?_
    exact V.iret F hr d_M_desk_38 (⟨rfl, rfl⟩)
  · skip
    exact absurd c6 (by omega)

set_option maxHeartbeats 4000000 in
set_option maxRecDepth 100000 in
theorem m_add (l : Launch) (D : va_G) {ct : Nat → ClassId} {mo : Nat → Nat} {nd : Nat} {nb : Nat} {nf : Nat} {bdk : Nat → Nat} {num : Nat → Nat} {thg : Nat → Nat} {knd : Nat → Nat} {dy : Nat → Nat} {val : Nat → Int64} {tim : Nat → Nat} {rep : Nat → Nat → Bool} {kn : Nat → Nat → Bool} {clk : Nat → Nat} {tol : Nat → Nat} {opn : Nat → Option Nat} {bof : Nat → Option Nat} {std : Nat → Bool} {xd : Int64} (hlt : nf < 300) (hnd : nd ≤ 8) (d : Nat) (hd0 : d < nd) (t k y : Nat) (v : Int64) (hob : ∀ b0, opn d = some b0 → b0 < 2 ^ 31) : CI l y_M_add b_M_add 9 (some .int) (rmK 0 0 0) D (tyL ct) (MW ct mo nd nb nf bdk num thg knd dy val tim rep kn clk tol opn bof std xd) [.ref (mo 0), .int (nI (d)), .int (nI (t)), .int (nI (k)), .long (lN (y)), .long (v)] 0 0 (fun r u => r = nI nf ∧ u = MW ct mo nd nb (nf + 1) bdk (va_up num nf (8 * tol d + d)) (va_up thg nf t) (va_up knd nf k) (va_up dy nf y) (va_up val nf v) (va_up tim nf (clk d + 1)) rep (up2 kn d nf (oB (opn d))) (va_up clk d (clk d + 1)) (va_up tol d (tol d + 1)) opn (va_up bof nf (opn d)) std xd) := by
  refine CI.start (by decide) (Nat.le_of_ble_eq_true rfl) ?_
  intro p e s m below meth c F hr hnm
  show V p l e (rmK 0 0 0) s m [.ref (mo 0), .int (nI (d)), .int (nI (t)), .int (nI (k)), .long (lN (y)), .long (v)].toArray below meth c D (va_A (MW ct mo nd nb nf bdk num thg knd dy val tim rep kn clk tol opn bof std xd) s.heap.size) 9 0 0 (EI D below (MW ct mo nd nb nf bdk num thg knd dy val tim rep kn clk tol opn bof std xd) [.ref (mo 0), .int (nI (d)), .int (nI (t)), .int (nI (k)), .long (lN (y)), .long (v)].toArray s 0 0 (fun r u => r = nI nf ∧ u = MW ct mo nd nb (nf + 1) bdk (va_up num nf (8 * tol d + d)) (va_up thg nf t) (va_up knd nf k) (va_up dy nf y) (va_up val nf v) (va_up tim nf (clk d + 1)) rep (up2 kn d nf (oB (opn d))) (va_up clk d (clk d + 1)) (va_up tol d (tol d + 1)) opn (va_up bof nf (opn d)) std xd)) (MW ct mo nd nb nf bdk num thg knd dy val tim rep kn clk tol opn bof std xd) [(0, .ref (mo 0)), (1, .int (nI (d))), (2, .int (nI (t))), (3, .int (nI (k))), (4, .long (lN (y))), (6, .long (v))] 0 []
  refine V.aload_n F d_M_add_0 rfl 0 rfl ?_
  refine V.get F ck_M d_M_add_1 13 (by decide) lk_M_59 0 rfl rfl ?_
  refine V.istore (lv2 := [(8, .int (nI (nf))), (0, .ref (mo 0)), (1, .int (nI (d))), (2, .int (nI (t))), (3, .int (nI (k))), (4, .long (lN (y))), (6, .long (v))]) F d_M_add_4 (by decide) rfl ?_
  refine V.aload_n F d_M_add_6 rfl 1 rfl ?_
  refine V.get F ck_M d_M_add_7 4 (by decide) lk_M_20 0 rfl rfl ?_
  refine V.iload F d_M_add_10 0 rfl ?_
  refine V.bipush F d_M_add_12 (v := nI (8)) (by decide) ?_
  refine V.aload_n F d_M_add_14 rfl 1 rfl ?_
  refine V.get F ck_M d_M_add_15 2 (by decide) lk_M_13 0 rfl rfl ?_
  refine V.iload_n F d_M_add_18 rfl 2 rfl ?_
  refine V.iald (v := nI (tol (d))) F d_M_add_19 2 0 rfl rfl (by omega) (by decide) rfl ?_
  refine V.imulN F d_M_add_20 ?_
  refine V.iload_n F d_M_add_21 rfl 2 rfl ?_
  refine V.iaddN F d_M_add_22 ?_
  refine V.iast (ws2 := MW ct mo nd nb nf bdk (va_up num (nf) (((8) * (tol (d))) + (d))) thg knd dy val tim rep kn clk tol opn bof std xd) F d_M_add_23 4 0 rfl rfl (by omega) (by decide) (by rw [upd_nF]; exact mw_set_num) ?_
  refine V.aload_n F d_M_add_24 rfl 1 rfl ?_
  refine V.get F ck_M d_M_add_25 2 (by decide) lk_M_13 0 rfl rfl ?_
  refine V.iload_n F d_M_add_28 rfl 2 rfl ?_
  refine V.dup2_11 F d_M_add_29 rfl rfl ?_
  refine V.iald (v := nI (tol (d))) F d_M_add_30 2 0 rfl rfl (by omega) (by decide) rfl ?_
  refine V.iconst F d_M_add_31 (v := nI (1)) (by decide) ?_
  refine V.iaddN F d_M_add_32 ?_
  refine V.iast (ws2 := MW ct mo nd nb nf bdk (va_up num (nf) (((8) * (tol (d))) + (d))) thg knd dy val tim rep kn clk (va_up tol (d) ((tol (d)) + (1))) opn bof std xd) F d_M_add_33 2 0 rfl rfl (by omega) (by decide) (by rw [upd_nF]; exact mw_set_tol) ?_
  refine V.aload_n F d_M_add_34 rfl 1 rfl ?_
  refine V.get F ck_M d_M_add_35 1 (by decide) lk_M_9 0 rfl rfl ?_
  refine V.iload_n F d_M_add_38 rfl 2 rfl ?_
  refine V.dup2_11 F d_M_add_39 rfl rfl ?_
  refine V.lald (v := lN (clk (d))) F d_M_add_40 1 1 rfl rfl (by omega) (by decide) rfl ?_
  refine V.lconst F d_M_add_41 (v := 1) (by decide) ?_
  refine V.ladd F d_M_add_42 (v := lN (clk (d) + 1)) (lN_1 _) ?_
  refine V.last (ws2 := MW ct mo nd nb nf bdk (va_up num (nf) (((8) * (tol (d))) + (d))) thg knd dy val tim rep kn (va_up clk (d) (clk (d) + 1)) (va_up tol (d) ((tol (d)) + (1))) opn bof std xd) F d_M_add_43 1 1 rfl rfl (by omega) (by decide) (by rw [updL_lN]; exact mw_set_clk) ?_
  refine V.aload_n F d_M_add_44 rfl 1 rfl ?_
  refine V.get F ck_M d_M_add_45 5 (by decide) lk_M_23 0 rfl rfl ?_
  refine V.iload F d_M_add_48 0 rfl ?_
  refine V.iload_n F d_M_add_50 rfl 3 rfl ?_
  refine V.iast (ws2 := MW ct mo nd nb nf bdk (va_up num (nf) (((8) * (tol (d))) + (d))) (va_up thg (nf) (t)) knd dy val tim rep kn (va_up clk (d) (clk (d) + 1)) (va_up tol (d) ((tol (d)) + (1))) opn bof std xd) F d_M_add_51 5 0 rfl rfl (by omega) (by decide) (by rw [upd_nF]; exact mw_set_thg) ?_
  refine V.aload_n F d_M_add_52 rfl 1 rfl ?_
  refine V.get F ck_M d_M_add_53 6 (by decide) lk_M_26 0 rfl rfl ?_
  refine V.iload F d_M_add_56 0 rfl ?_
  refine V.iload_n F d_M_add_58 rfl 4 rfl ?_
  refine V.iast (ws2 := MW ct mo nd nb nf bdk (va_up num (nf) (((8) * (tol (d))) + (d))) (va_up thg (nf) (t)) (va_up knd (nf) (k)) dy val tim rep kn (va_up clk (d) (clk (d) + 1)) (va_up tol (d) ((tol (d)) + (1))) opn bof std xd) F d_M_add_59 6 0 rfl rfl (by omega) (by decide) (by rw [upd_nF]; exact mw_set_knd) ?_
  refine V.aload_n F d_M_add_60 rfl 1 rfl ?_
  refine V.get F ck_M d_M_add_61 7 (by decide) lk_M_29 0 rfl rfl ?_
  refine V.iload F d_M_add_64 0 rfl ?_
  refine V.lload F d_M_add_66 5 rfl ?_
  refine V.last (ws2 := MW ct mo nd nb nf bdk (va_up num (nf) (((8) * (tol (d))) + (d))) (va_up thg (nf) (t)) (va_up knd (nf) (k)) (va_up dy (nf) (y)) val tim rep kn (va_up clk (d) (clk (d) + 1)) (va_up tol (d) ((tol (d)) + (1))) opn bof std xd) F d_M_add_68 7 1 rfl rfl (by omega) (by decide) (by rw [updL_lN]; exact mw_set_dy) ?_
  refine V.aload_n F d_M_add_69 rfl 1 rfl ?_
  refine V.get F ck_M d_M_add_70 8 (by decide) lk_M_32 0 rfl rfl ?_
  refine V.iload F d_M_add_73 0 rfl ?_
  refine V.lload F d_M_add_75 6 rfl ?_
  refine V.last (ws2 := MW ct mo nd nb nf bdk (va_up num (nf) (((8) * (tol (d))) + (d))) (va_up thg (nf) (t)) (va_up knd (nf) (k)) (va_up dy (nf) (y)) (va_up val (nf) (v)) tim rep kn (va_up clk (d) (clk (d) + 1)) (va_up tol (d) ((tol (d)) + (1))) opn bof std xd) F d_M_add_77 8 1 rfl rfl (by omega) (by decide) (by rw [updL_up]; exact mw_set_val) ?_
  refine V.aload_n F d_M_add_78 rfl 1 rfl ?_
  refine V.get F ck_M d_M_add_79 9 (by decide) lk_M_35 0 rfl rfl ?_
  refine V.iload F d_M_add_82 0 rfl ?_
  refine V.aload_n F d_M_add_84 rfl 1 rfl ?_
  refine V.get F ck_M d_M_add_85 1 (by decide) lk_M_9 0 rfl rfl ?_
  refine V.iload_n F d_M_add_88 rfl 2 rfl ?_
  refine V.lald (v := lN (clk d + 1)) F d_M_add_89 1 1 rfl rfl (by omega) (by decide) (by show lN (va_up clk d _ d) = _; rw [va_up_self]) ?_
  refine V.last (ws2 := MW ct mo nd nb nf bdk (va_up num (nf) (((8) * (tol (d))) + (d))) (va_up thg (nf) (t)) (va_up knd (nf) (k)) (va_up dy (nf) (y)) (va_up val (nf) (v)) (va_up tim (nf) (clk d + 1)) rep kn (va_up clk (d) (clk (d) + 1)) (va_up tol (d) ((tol (d)) + (1))) opn bof std xd) F d_M_add_90 9 1 rfl rfl (by omega) (by decide) (by rw [updL_lN]; exact mw_set_tim) ?_
  refine V.aload_n F d_M_add_91 rfl 1 rfl ?_
  refine V.get F ck_M d_M_add_92 10 (by decide) lk_M_38 0 rfl rfl ?_
  refine V.iload F d_M_add_95 0 rfl ?_
  refine V.aload_n F d_M_add_97 rfl 1 rfl ?_
  refine V.get F ck_M d_M_add_98 3 (by decide) lk_M_17 0 rfl rfl ?_
  refine V.iload_n F d_M_add_101 rfl 2 rfl ?_
  refine V.iald (v := oI (opn (d))) F d_M_add_102 3 0 rfl rfl (by omega) (by decide) rfl ?_
  refine V.iast (ws2 := MW ct mo nd nb nf bdk (va_up num (nf) (((8) * (tol (d))) + (d))) (va_up thg (nf) (t)) (va_up knd (nf) (k)) (va_up dy (nf) (y)) (va_up val (nf) (v)) (va_up tim (nf) (clk d + 1)) rep kn (va_up clk (d) (clk (d) + 1)) (va_up tol (d) ((tol (d)) + (1))) opn (va_up bof (nf) (opn (d))) std xd) F d_M_add_103 10 0 rfl rfl (by omega) (by decide) (by rw [upd_oI]; exact mw_set_bof) ?_
  refine V.aload_n F d_M_add_104 rfl 1 rfl ?_
  refine V.get F ck_M d_M_add_105 12 (by decide) lk_M_46 0 rfl rfl ?_
  refine V.iload_n F d_M_add_108 rfl 2 rfl ?_
  refine V.sipush F d_M_add_109 (v := nI (300)) (by decide) ?_
  refine V.imulN F d_M_add_112 ?_
  refine V.iload F d_M_add_113 0 rfl ?_
  refine V.iaddN F d_M_add_115 ?_
  refine V.aload_n F d_M_add_116 rfl 1 rfl ?_
  refine V.get F ck_M d_M_add_117 3 (by decide) lk_M_17 0 rfl rfl ?_
  refine V.iload_n F d_M_add_120 rfl 2 rfl ?_
  refine V.iald (v := oI (opn (d))) F d_M_add_121 3 0 rfl rfl (by omega) (by decide) rfl ?_
  refine V.iconst F d_M_add_122 (v := -1) (by decide) ?_
  refine V.icmp_ne (x := oI (opn (d))) (y := -1) (tgt := 130) F d_M_add_123 (by decide) (fun c123 => ?_) (fun c123 => ?_)
  · skip
    refine V.iconst F d_M_add_130 (v := nI (0)) (by decide) ?_
    refine V.zast (b := false) (ws2 := MW ct mo nd nb nf bdk (va_up num (nf) (((8) * (tol (d))) + (d))) (va_up thg (nf) (t)) (va_up knd (nf) (k)) (va_up dy (nf) (y)) (va_up val (nf) (v)) (va_up tim (nf) (clk d + 1)) rep (up2 kn (d) (nf) (false)) (va_up clk (d) (clk (d) + 1)) (va_up tol (d) ((tol (d)) + (1))) opn (va_up bof (nf) (opn (d))) std xd) F d_M_add_131 12 3 rfl rfl (by omega) (by decide) (by rw [kn_up (by omega)]; exact mw_set_kn) ?_
    refine V.aload_n F d_M_add_132 rfl 1 rfl ?_
    refine V.dup F d_M_add_133 rfl ?_
    refine V.get F ck_M d_M_add_134 13 (by decide) lk_M_59 0 rfl rfl ?_
    refine V.iconst F d_M_add_137 (v := nI (1)) (by decide) ?_
    refine V.iaddN F d_M_add_138 ?_
    refine V.put (ws2 := MW ct mo nd nb ((nf) + (1)) bdk (va_up num (nf) (((8) * (tol (d))) + (d))) (va_up thg (nf) (t)) (va_up knd (nf) (k)) (va_up dy (nf) (y)) (va_up val (nf) (v)) (va_up tim (nf) (clk d + 1)) rep (up2 kn (d) (nf) (false)) (va_up clk (d) (clk (d) + 1)) (va_up tol (d) ((tol (d)) + (1))) opn (va_up bof (nf) (opn (d))) std xd) F ck_M d_M_add_139 13 (by decide) lk_M_59 0 rfl rfl rfl rfl (Nat.le_of_ble_eq_true rfl) mw_set_nf ?_
    refine V.iload F d_M_add_142 0 rfl ?_
    exact V.iret F hr d_M_add_144 (⟨rfl, by rw [oB_f c123]⟩)
  · skip
    refine V.iconst F d_M_add_126 (v := nI (1)) (by decide) ?_
    refine V.goto (tgt := 131) F d_M_add_127 (by decide) ?_
    refine V.zast (b := true) (ws2 := MW ct mo nd nb nf bdk (va_up num (nf) (((8) * (tol (d))) + (d))) (va_up thg (nf) (t)) (va_up knd (nf) (k)) (va_up dy (nf) (y)) (va_up val (nf) (v)) (va_up tim (nf) (clk d + 1)) rep (up2 kn (d) (nf) (true)) (va_up clk (d) (clk (d) + 1)) (va_up tol (d) ((tol (d)) + (1))) opn (va_up bof (nf) (opn (d))) std xd) F d_M_add_131 12 3 rfl rfl (by omega) (by decide) (by rw [kn_up (by omega)]; exact mw_set_kn) ?_
    refine V.aload_n F d_M_add_132 rfl 1 rfl ?_
    refine V.dup F d_M_add_133 rfl ?_
    refine V.get F ck_M d_M_add_134 13 (by decide) lk_M_59 0 rfl rfl ?_
    refine V.iconst F d_M_add_137 (v := nI (1)) (by decide) ?_
    refine V.iaddN F d_M_add_138 ?_
    refine V.put (ws2 := MW ct mo nd nb ((nf) + (1)) bdk (va_up num (nf) (((8) * (tol (d))) + (d))) (va_up thg (nf) (t)) (va_up knd (nf) (k)) (va_up dy (nf) (y)) (va_up val (nf) (v)) (va_up tim (nf) (clk d + 1)) rep (up2 kn (d) (nf) (true)) (va_up clk (d) (clk (d) + 1)) (va_up tol (d) ((tol (d)) + (1))) opn (va_up bof (nf) (opn (d))) std xd) F ck_M d_M_add_139 13 (by decide) lk_M_59 0 rfl rfl rfl rfl (Nat.le_of_ble_eq_true rfl) mw_set_nf ?_
    refine V.iload F d_M_add_142 0 rfl ?_
    exact V.iret F hr d_M_add_144 (⟨rfl, by rw [oB_t hob c123]⟩)

set_option maxHeartbeats 4000000 in
set_option maxRecDepth 100000 in
theorem m_tellNo (l : Launch) (D : va_G) {ct : Nat → ClassId} {mo : Nat → Nat} {nd : Nat} {nb : Nat} {nf : Nat} {bdk : Nat → Nat} {num : Nat → Nat} {thg : Nat → Nat} {knd : Nat → Nat} {dy : Nat → Nat} {val : Nat → Int64} {tim : Nat → Nat} {rep : Nat → Nat → Bool} {kn : Nat → Nat → Bool} {clk : Nat → Nat} {tol : Nat → Nat} {opn : Nat → Option Nat} {bof : Nat → Option Nat} {std : Nat → Bool} {xd : Int64} (x t k : Int32) (y v : Int64) (hx : x < 0 ∨ nI nd ≤ x) : CI l y_M_tell b_M_tell 8 (some .int) (rmK 1 0 0) D (tyL ct) (MW ct mo nd nb nf bdk num thg knd dy val tim rep kn clk tol opn bof std xd) [.ref (mo 0), .int (x), .int (t), .int (k), .long (y), .long (v)] 0 0 (fun r u => r = -1 ∧ u = MW ct mo nd nb nf bdk num thg knd dy val tim rep kn clk tol opn bof std xd) := by
  refine CI.start (by decide) (Nat.le_of_ble_eq_true rfl) ?_
  intro p e s m below meth c F hr hnm
  show V p l e (rmK 1 0 0) s m [.ref (mo 0), .int (x), .int (t), .int (k), .long (y), .long (v)].toArray below meth c D (va_A (MW ct mo nd nb nf bdk num thg knd dy val tim rep kn clk tol opn bof std xd) s.heap.size) 8 0 0 (EI D below (MW ct mo nd nb nf bdk num thg knd dy val tim rep kn clk tol opn bof std xd) [.ref (mo 0), .int (x), .int (t), .int (k), .long (y), .long (v)].toArray s 0 0 (fun r u => r = -1 ∧ u = MW ct mo nd nb nf bdk num thg knd dy val tim rep kn clk tol opn bof std xd)) (MW ct mo nd nb nf bdk num thg knd dy val tim rep kn clk tol opn bof std xd) [(0, .ref (mo 0)), (1, .int (x)), (2, .int (t)), (3, .int (k)), (4, .long (y)), (6, .long (v))] 0 []
  refine V.aload_n F d_M_tell_0 rfl 0 rfl ?_
  refine V.iload_n F d_M_tell_1 rfl 1 rfl ?_
  refine V.callVI0 (As := [.int (x)]) (rest := []) F (m_isDeskNo l D x hx) d_M_tell_2 sv_M_62 im_y_M_isDesk sl_y_M_isDesk 0 rfl rfl rfl rfl rfl (Nat.le_of_ble_eq_true rfl) ⟨rfl, rfl, (Nat.le_of_ble_eq_true rfl), (Nat.le_of_ble_eq_true rfl)⟩ ⟨(Nat.le_of_ble_eq_true rfl), (Nat.le_of_ble_eq_true rfl)⟩ (fun r9 u9 h9 => ?_)
  obtain ⟨rfl, rfl⟩ := h9
  refine V.if_eqB (b := false) (tgt := 44) F d_M_tell_5 (by decide) (fun c5 => ?_) (fun c5 => ?_)
  · skip
    refine V.iconst F d_M_tell_44 (v := -1) (by decide) ?_
    exact V.iret F hr d_M_tell_45 (⟨rfl, rfl⟩)
  · skip
    exact absurd c5 (by decide)

set_option maxHeartbeats 4000000 in
set_option maxRecDepth 100000 in
theorem m_tellBad (l : Launch) (D : va_G) {ct : Nat → ClassId} {mo : Nat → Nat} {nd : Nat} {nb : Nat} {nf : Nat} {bdk : Nat → Nat} {num : Nat → Nat} {thg : Nat → Nat} {knd : Nat → Nat} {dy : Nat → Nat} {val : Nat → Int64} {tim : Nat → Nat} {rep : Nat → Nat → Bool} {kn : Nat → Nat → Bool} {clk : Nat → Nat} {tol : Nat → Nat} {opn : Nat → Option Nat} {bof : Nat → Option Nat} {std : Nat → Bool} {xd : Int64} (hnd : nd ≤ 8) (d : Nat) (hd0 : d < nd) (t k : Int32) (y v : Int64) (hz : t < 0 ∨ nI 100 ≤ t ∨ k < 0 ∨ nI 10 ≤ k ∨ y < 0 ∨ 100000 < y) : CI l y_M_tell b_M_tell 8 (some .int) (rmK 1 0 0) D (tyL ct) (MW ct mo nd nb nf bdk num thg knd dy val tim rep kn clk tol opn bof std xd) [.ref (mo 0), .int (nI (d)), .int (t), .int (k), .long (y), .long (v)] 0 0 (fun r u => r = -1 ∧ u = MW ct mo nd nb nf bdk num thg knd dy val tim rep kn clk tol opn bof std xd) := by
  refine CI.start (by decide) (Nat.le_of_ble_eq_true rfl) ?_
  intro p e s m below meth c F hr hnm
  show V p l e (rmK 1 0 0) s m [.ref (mo 0), .int (nI (d)), .int (t), .int (k), .long (y), .long (v)].toArray below meth c D (va_A (MW ct mo nd nb nf bdk num thg knd dy val tim rep kn clk tol opn bof std xd) s.heap.size) 8 0 0 (EI D below (MW ct mo nd nb nf bdk num thg knd dy val tim rep kn clk tol opn bof std xd) [.ref (mo 0), .int (nI (d)), .int (t), .int (k), .long (y), .long (v)].toArray s 0 0 (fun r u => r = -1 ∧ u = MW ct mo nd nb nf bdk num thg knd dy val tim rep kn clk tol opn bof std xd)) (MW ct mo nd nb nf bdk num thg knd dy val tim rep kn clk tol opn bof std xd) [(0, .ref (mo 0)), (1, .int (nI (d))), (2, .int (t)), (3, .int (k)), (4, .long (y)), (6, .long (v))] 0 []
  refine V.aload_n F d_M_tell_0 rfl 0 rfl ?_
  refine V.iload_n F d_M_tell_1 rfl 1 rfl ?_
  refine V.callVI0 (As := [.int (nI (d))]) (rest := []) F (m_isDesk l D hnd d hd0) d_M_tell_2 sv_M_62 im_y_M_isDesk sl_y_M_isDesk 0 rfl rfl rfl rfl rfl (Nat.le_of_ble_eq_true rfl) ⟨rfl, rfl, (Nat.le_of_ble_eq_true rfl), (Nat.le_of_ble_eq_true rfl)⟩ ⟨(Nat.le_of_ble_eq_true rfl), (Nat.le_of_ble_eq_true rfl)⟩ (fun r9 u9 h9 => ?_)
  obtain ⟨rfl, rfl⟩ := h9
  refine V.if_eqB (b := true) (tgt := 44) F d_M_tell_5 (by decide) (fun c5 => ?_) (fun c5 => ?_)
  · skip
    exact absurd c5 (by decide)
  · skip
    refine V.iload_n F d_M_tell_8 rfl 2 rfl ?_
    refine V.if_lt (x := t) (tgt := 44) F d_M_tell_9 (by decide) (fun c9 => ?_) (fun c9 => ?_)
    · skip
      refine V.iconst F d_M_tell_44 (v := -1) (by decide) ?_
      exact V.iret F hr d_M_tell_45 (⟨rfl, rfl⟩)
    · skip
      refine V.iload_n F d_M_tell_12 rfl 2 rfl ?_
      refine V.bipush F d_M_tell_13 (v := nI (100)) (by decide) ?_
      refine V.icmp_ge (x := t) (y := nI (100)) (tgt := 44) F d_M_tell_15 (by decide) (fun c15 => ?_) (fun c15 => ?_)
      · skip
        refine V.iconst F d_M_tell_44 (v := -1) (by decide) ?_
        exact V.iret F hr d_M_tell_45 (⟨rfl, rfl⟩)
      · skip
        refine V.iload_n F d_M_tell_18 rfl 3 rfl ?_
        refine V.if_lt (x := k) (tgt := 44) F d_M_tell_19 (by decide) (fun c19 => ?_) (fun c19 => ?_)
        · skip
          refine V.iconst F d_M_tell_44 (v := -1) (by decide) ?_
          exact V.iret F hr d_M_tell_45 (⟨rfl, rfl⟩)
        · skip
          refine V.iload_n F d_M_tell_22 rfl 3 rfl ?_
          refine V.bipush F d_M_tell_23 (v := nI (10)) (by decide) ?_
          refine V.icmp_ge (x := k) (y := nI (10)) (tgt := 44) F d_M_tell_25 (by decide) (fun c25 => ?_) (fun c25 => ?_)
          · skip
            refine V.iconst F d_M_tell_44 (v := -1) (by decide) ?_
            exact V.iret F hr d_M_tell_45 (⟨rfl, rfl⟩)
          · skip
            refine V.lload F d_M_tell_28 4 rfl ?_
            refine V.lconst F d_M_tell_30 (v := 0) (by decide) ?_
            refine V.lcmp_lt (tgt := 44) F d_M_tell_31 d_M_tell_32 (by decide) (fun c31 => ?_) (fun c31 => ?_)
            · skip
              refine V.iconst F d_M_tell_44 (v := -1) (by decide) ?_
              exact V.iret F hr d_M_tell_45 (⟨rfl, rfl⟩)
            · skip
              refine V.lload F d_M_tell_35 4 rfl ?_
              refine V.ldc2 F d_M_tell_37 (v := 100000) lk_M_66 ?_
              refine V.lcmp_le (tgt := 46) F d_M_tell_40 d_M_tell_41 (by decide) (fun c40 => ?_) (fun c40 => ?_)
              · skip
                exact absurd hz (fun q => q.elim c9 (fun q => q.elim c15 (fun q => q.elim c19 (fun q => q.elim c25 (fun q => q.elim c31 (fun q => i64_ll c40 q))))))
              · skip
                refine V.iconst F d_M_tell_44 (v := -1) (by decide) ?_
                exact V.iret F hr d_M_tell_45 (⟨rfl, rfl⟩)

set_option maxHeartbeats 4000000 in
set_option maxRecDepth 100000 in
theorem m_tellFull (l : Launch) (D : va_G) {ct : Nat → ClassId} {mo : Nat → Nat} {nd : Nat} {nb : Nat} {nf : Nat} {bdk : Nat → Nat} {num : Nat → Nat} {thg : Nat → Nat} {knd : Nat → Nat} {dy : Nat → Nat} {val : Nat → Int64} {tim : Nat → Nat} {rep : Nat → Nat → Bool} {kn : Nat → Nat → Bool} {clk : Nat → Nat} {tol : Nat → Nat} {opn : Nat → Option Nat} {bof : Nat → Option Nat} {std : Nat → Bool} {xd : Int64} (hnd : nd ≤ 8) (d : Nat) (hd0 : d < nd) (t k y : Nat) (v : Int64) (ht : t < 100) (hk : k < 10) (hy : y < 100001) (hnf : nf = 300) : CI l y_M_tell b_M_tell 8 (some .int) (rmK 1 0 0) D (tyL ct) (MW ct mo nd nb nf bdk num thg knd dy val tim rep kn clk tol opn bof std xd) [.ref (mo 0), .int (nI (d)), .int (nI (t)), .int (nI (k)), .long (lN (y)), .long (v)] 0 0 (fun r u => r = -2 ∧ u = MW ct mo nd nb nf bdk num thg knd dy val tim rep kn clk tol opn bof std xd) := by
  refine CI.start (by decide) (Nat.le_of_ble_eq_true rfl) ?_
  intro p e s m below meth c F hr hnm
  show V p l e (rmK 1 0 0) s m [.ref (mo 0), .int (nI (d)), .int (nI (t)), .int (nI (k)), .long (lN (y)), .long (v)].toArray below meth c D (va_A (MW ct mo nd nb nf bdk num thg knd dy val tim rep kn clk tol opn bof std xd) s.heap.size) 8 0 0 (EI D below (MW ct mo nd nb nf bdk num thg knd dy val tim rep kn clk tol opn bof std xd) [.ref (mo 0), .int (nI (d)), .int (nI (t)), .int (nI (k)), .long (lN (y)), .long (v)].toArray s 0 0 (fun r u => r = -2 ∧ u = MW ct mo nd nb nf bdk num thg knd dy val tim rep kn clk tol opn bof std xd)) (MW ct mo nd nb nf bdk num thg knd dy val tim rep kn clk tol opn bof std xd) [(0, .ref (mo 0)), (1, .int (nI (d))), (2, .int (nI (t))), (3, .int (nI (k))), (4, .long (lN (y))), (6, .long (v))] 0 []
  refine V.aload_n F d_M_tell_0 rfl 0 rfl ?_
  refine V.iload_n F d_M_tell_1 rfl 1 rfl ?_
  refine V.callVI0 (As := [.int (nI (d))]) (rest := []) F (m_isDesk l D hnd d hd0) d_M_tell_2 sv_M_62 im_y_M_isDesk sl_y_M_isDesk 0 rfl rfl rfl rfl rfl (Nat.le_of_ble_eq_true rfl) ⟨rfl, rfl, (Nat.le_of_ble_eq_true rfl), (Nat.le_of_ble_eq_true rfl)⟩ ⟨(Nat.le_of_ble_eq_true rfl), (Nat.le_of_ble_eq_true rfl)⟩ (fun r9 u9 h9 => ?_)
  obtain ⟨rfl, rfl⟩ := h9
  refine V.if_eqB (b := true) (tgt := 44) F d_M_tell_5 (by decide) (fun c5 => ?_) (fun c5 => ?_)
  · skip
    exact absurd c5 (by decide)
  · skip
    refine V.iload_n F d_M_tell_8 rfl 2 rfl ?_
    refine V.if_lt (x := nI (t)) (tgt := 44) F d_M_tell_9 (by decide) (fun c9 => ?_) (fun c9 => ?_)
    · skip
      exact absurd c9 (nI_pos (by omega))
    · skip
      refine V.iload_n F d_M_tell_12 rfl 2 rfl ?_
      refine V.bipush F d_M_tell_13 (v := nI (100)) (by decide) ?_
      refine V.icmp_geN (tgt := 44) F d_M_tell_15 (by decide) (by omega) (by omega) (fun c15 => ?_) (fun c15 => ?_)
      · skip
        exact absurd c15 (by omega)
      · skip
        refine V.iload_n F d_M_tell_18 rfl 3 rfl ?_
        refine V.if_lt (x := nI (k)) (tgt := 44) F d_M_tell_19 (by decide) (fun c19 => ?_) (fun c19 => ?_)
        · skip
          exact absurd c19 (nI_pos (by omega))
        · skip
          refine V.iload_n F d_M_tell_22 rfl 3 rfl ?_
          refine V.bipush F d_M_tell_23 (v := nI (10)) (by decide) ?_
          refine V.icmp_geN (tgt := 44) F d_M_tell_25 (by decide) (by omega) (by omega) (fun c25 => ?_) (fun c25 => ?_)
          · skip
            exact absurd c25 (by omega)
          · skip
            refine V.lload F d_M_tell_28 4 rfl ?_
            refine V.lconst F d_M_tell_30 (v := 0) (by decide) ?_
            refine V.lcmp_lt (tgt := 44) F d_M_tell_31 d_M_tell_32 (by decide) (fun c31 => ?_) (fun c31 => ?_)
            · skip
              exact absurd c31 (lN_n0 (by omega))
            · skip
              refine V.lload F d_M_tell_35 4 rfl ?_
              refine V.ldc2 F d_M_tell_37 (v := 100000) lk_M_66 ?_
              refine V.lcmp_le (tgt := 46) F d_M_tell_40 d_M_tell_41 (by decide) (fun c40 => ?_) (fun c40 => ?_)
              · skip
                refine V.aload_n F d_M_tell_46 rfl 0 rfl ?_
                refine V.get F ck_M d_M_tell_47 13 (by decide) lk_M_59 0 rfl rfl ?_
                refine V.sipush F d_M_tell_50 (v := nI (300)) (by decide) ?_
                refine V.icmp_neN (tgt := 61) F d_M_tell_53 (by decide) (by omega) (by omega) (fun c53 => ?_) (fun c53 => ?_)
                · skip
                  exact absurd hnf c53
                · skip
                  refine V.bipush F d_M_tell_56 (v := -2) (by decide) ?_
                  refine V.goto (tgt := 77) F d_M_tell_58 (by decide) ?_
                  exact V.iret F hr d_M_tell_77 (⟨rfl, rfl⟩)
              · skip
                exact absurd (lN_le5 (by omega)) c40

set_option maxHeartbeats 4000000 in
set_option maxRecDepth 100000 in
theorem m_tell (l : Launch) (D : va_G) {ct : Nat → ClassId} {mo : Nat → Nat} {nd : Nat} {nb : Nat} {nf : Nat} {bdk : Nat → Nat} {num : Nat → Nat} {thg : Nat → Nat} {knd : Nat → Nat} {dy : Nat → Nat} {val : Nat → Int64} {tim : Nat → Nat} {rep : Nat → Nat → Bool} {kn : Nat → Nat → Bool} {clk : Nat → Nat} {tol : Nat → Nat} {opn : Nat → Option Nat} {bof : Nat → Option Nat} {std : Nat → Bool} {xd : Int64} (hlt : nf < 300) (hnd : nd ≤ 8) (d : Nat) (hd0 : d < nd) (t k y : Nat) (v : Int64) (ht : t < 100) (hk : k < 10) (hy : y < 100001) (hob : ∀ b0, opn d = some b0 → b0 < 2 ^ 31) : CI l y_M_tell b_M_tell 8 (some .int) (rmK 1 0 0) D (tyL ct) (MW ct mo nd nb nf bdk num thg knd dy val tim rep kn clk tol opn bof std xd) [.ref (mo 0), .int (nI (d)), .int (nI (t)), .int (nI (k)), .long (lN (y)), .long (v)] 0 0 (fun r u => r = nI (8 * tol d + d) ∧ u = MW ct mo nd nb (nf + 1) bdk (va_up num nf (8 * tol d + d)) (va_up thg nf t) (va_up knd nf k) (va_up dy nf y) (va_up val nf v) (va_up tim nf (clk d + 1)) rep (up2 kn d nf (oB (opn d))) (va_up clk d (clk d + 1)) (va_up tol d (tol d + 1)) opn (va_up bof nf (opn d)) std xd) := by
  refine CI.start (by decide) (Nat.le_of_ble_eq_true rfl) ?_
  intro p e s m below meth c F hr hnm
  show V p l e (rmK 1 0 0) s m [.ref (mo 0), .int (nI (d)), .int (nI (t)), .int (nI (k)), .long (lN (y)), .long (v)].toArray below meth c D (va_A (MW ct mo nd nb nf bdk num thg knd dy val tim rep kn clk tol opn bof std xd) s.heap.size) 8 0 0 (EI D below (MW ct mo nd nb nf bdk num thg knd dy val tim rep kn clk tol opn bof std xd) [.ref (mo 0), .int (nI (d)), .int (nI (t)), .int (nI (k)), .long (lN (y)), .long (v)].toArray s 0 0 (fun r u => r = nI (8 * tol d + d) ∧ u = MW ct mo nd nb (nf + 1) bdk (va_up num nf (8 * tol d + d)) (va_up thg nf t) (va_up knd nf k) (va_up dy nf y) (va_up val nf v) (va_up tim nf (clk d + 1)) rep (up2 kn d nf (oB (opn d))) (va_up clk d (clk d + 1)) (va_up tol d (tol d + 1)) opn (va_up bof nf (opn d)) std xd)) (MW ct mo nd nb nf bdk num thg knd dy val tim rep kn clk tol opn bof std xd) [(0, .ref (mo 0)), (1, .int (nI (d))), (2, .int (nI (t))), (3, .int (nI (k))), (4, .long (lN (y))), (6, .long (v))] 0 []
  refine V.aload_n F d_M_tell_0 rfl 0 rfl ?_
  refine V.iload_n F d_M_tell_1 rfl 1 rfl ?_
  refine V.callVI0 (As := [.int (nI (d))]) (rest := []) F (m_isDesk l D hnd d hd0) d_M_tell_2 sv_M_62 im_y_M_isDesk sl_y_M_isDesk 0 rfl rfl rfl rfl rfl (Nat.le_of_ble_eq_true rfl) ⟨rfl, rfl, (Nat.le_of_ble_eq_true rfl), (Nat.le_of_ble_eq_true rfl)⟩ ⟨(Nat.le_of_ble_eq_true rfl), (Nat.le_of_ble_eq_true rfl)⟩ (fun r9 u9 h9 => ?_)
  obtain ⟨rfl, rfl⟩ := h9
  refine V.if_eqB (b := true) (tgt := 44) F d_M_tell_5 (by decide) (fun c5 => ?_) (fun c5 => ?_)
  · skip
    exact absurd c5 (by decide)
  · skip
    refine V.iload_n F d_M_tell_8 rfl 2 rfl ?_
    refine V.if_lt (x := nI (t)) (tgt := 44) F d_M_tell_9 (by decide) (fun c9 => ?_) (fun c9 => ?_)
    · skip
      exact absurd c9 (nI_pos (by omega))
    · skip
      refine V.iload_n F d_M_tell_12 rfl 2 rfl ?_
      refine V.bipush F d_M_tell_13 (v := nI (100)) (by decide) ?_
      refine V.icmp_geN (tgt := 44) F d_M_tell_15 (by decide) (by omega) (by omega) (fun c15 => ?_) (fun c15 => ?_)
      · skip
        exact absurd c15 (by omega)
      · skip
        refine V.iload_n F d_M_tell_18 rfl 3 rfl ?_
        refine V.if_lt (x := nI (k)) (tgt := 44) F d_M_tell_19 (by decide) (fun c19 => ?_) (fun c19 => ?_)
        · skip
          exact absurd c19 (nI_pos (by omega))
        · skip
          refine V.iload_n F d_M_tell_22 rfl 3 rfl ?_
          refine V.bipush F d_M_tell_23 (v := nI (10)) (by decide) ?_
          refine V.icmp_geN (tgt := 44) F d_M_tell_25 (by decide) (by omega) (by omega) (fun c25 => ?_) (fun c25 => ?_)
          · skip
            exact absurd c25 (by omega)
          · skip
            refine V.lload F d_M_tell_28 4 rfl ?_
            refine V.lconst F d_M_tell_30 (v := 0) (by decide) ?_
            refine V.lcmp_lt (tgt := 44) F d_M_tell_31 d_M_tell_32 (by decide) (fun c31 => ?_) (fun c31 => ?_)
            · skip
              exact absurd c31 (lN_n0 (by omega))
            · skip
              refine V.lload F d_M_tell_35 4 rfl ?_
              refine V.ldc2 F d_M_tell_37 (v := 100000) lk_M_66 ?_
              refine V.lcmp_le (tgt := 46) F d_M_tell_40 d_M_tell_41 (by decide) (fun c40 => ?_) (fun c40 => ?_)
              · skip
                refine V.aload_n F d_M_tell_46 rfl 0 rfl ?_
                refine V.get F ck_M d_M_tell_47 13 (by decide) lk_M_59 0 rfl rfl ?_
                refine V.sipush F d_M_tell_50 (v := nI (300)) (by decide) ?_
                refine V.icmp_neN (tgt := 61) F d_M_tell_53 (by decide) (by omega) (by omega) (fun c53 => ?_) (fun c53 => ?_)
                · skip
                  refine V.aload_n F d_M_tell_61 rfl 0 rfl ?_
                  refine V.get F ck_M d_M_tell_62 4 (by decide) lk_M_20 0 rfl rfl ?_
                  refine V.aload_n F d_M_tell_65 rfl 0 rfl ?_
                  refine V.iload_n F d_M_tell_66 rfl 1 rfl ?_
                  refine V.iload_n F d_M_tell_67 rfl 2 rfl ?_
                  refine V.iload_n F d_M_tell_68 rfl 3 rfl ?_
                  refine V.lload F d_M_tell_69 4 rfl ?_
                  refine V.lload F d_M_tell_71 5 rfl ?_
                  refine V.callVI0 (As := [.int (nI (d)), .int (nI (t)), .int (nI (k)), .long (lN (y)), .long (v)]) (rest := [.ref (mo 4)]) F (m_add l D hlt hnd d hd0 t k y v hob) d_M_tell_73 sv_M_68 im_y_M_add sl_y_M_add 0 rfl rfl rfl rfl rfl (Nat.le_of_ble_eq_true rfl) ⟨rfl, rfl, (Nat.le_of_ble_eq_true rfl), (Nat.le_of_ble_eq_true rfl)⟩ ⟨(Nat.le_of_ble_eq_true rfl), (Nat.le_of_ble_eq_true rfl)⟩ (fun r9 u9 h9 => ?_)
                  obtain ⟨rfl, rfl⟩ := h9
                  refine V.iald (v := nI (8 * tol d + d)) F d_M_tell_76 4 0 rfl rfl (by omega) (by decide) (by show nI (va_up num nf _ nf) = _; rw [va_up_self]) ?_
                  exact V.iret F hr d_M_tell_77 (⟨rfl, rfl⟩)
                · skip
                  exact absurd c53 (by omega)
              · skip
                exact absurd (lN_le5 (by omega)) c40

set_option maxHeartbeats 4000000 in
set_option maxRecDepth 100000 in
theorem m_place (l : Launch) (D : va_G) {ct : Nat → ClassId} {mo : Nat → Nat} {nd : Nat} {nb : Nat} {nf : Nat} {bdk : Nat → Nat} {num : Nat → Nat} {thg : Nat → Nat} {knd : Nat → Nat} {dy : Nat → Nat} {val : Nat → Int64} {tim : Nat → Nat} {rep : Nat → Nat → Bool} {kn : Nat → Nat → Bool} {clk : Nat → Nat} {tol : Nat → Nat} {opn : Nat → Option Nat} {bof : Nat → Option Nat} {std : Nat → Bool} {xd : Int64} (hnf : nf ≤ 300) (x : Int32) : CI l y_M_place b_M_place 3 (some .int) (rmK 0 0 0) D (tyL ct) (MW ct mo nd nb nf bdk num thg knd dy val tim rep kn clk tol opn bof std xd) [.ref (mo 0), .int (x)] 0 0 (fun r u => ((∃ f, f < nf ∧ nI (num f) = x ∧ (∀ k, k < f → ¬ nI (num k) = x) ∧ r = nI f) ∨ ((∀ k, k < nf → ¬ nI (num k) = x) ∧ r = -1)) ∧ u = MW ct mo nd nb nf bdk num thg knd dy val tim rep kn clk tol opn bof std xd) := by
  refine CI.start (by decide) (Nat.le_of_ble_eq_true rfl) ?_
  intro p e s m below meth c F hr hnm
  show V p l e (rmK 0 0 0) s m [.ref (mo 0), .int (x)].toArray below meth c D (va_A (MW ct mo nd nb nf bdk num thg knd dy val tim rep kn clk tol opn bof std xd) s.heap.size) 3 0 0 (EI D below (MW ct mo nd nb nf bdk num thg knd dy val tim rep kn clk tol opn bof std xd) [.ref (mo 0), .int (x)].toArray s 0 0 (fun r u => ((∃ f, f < nf ∧ nI (num f) = x ∧ (∀ k, k < f → ¬ nI (num k) = x) ∧ r = nI f) ∨ ((∀ k, k < nf → ¬ nI (num k) = x) ∧ r = -1)) ∧ u = MW ct mo nd nb nf bdk num thg knd dy val tim rep kn clk tol opn bof std xd)) (MW ct mo nd nb nf bdk num thg knd dy val tim rep kn clk tol opn bof std xd) [(0, .ref (mo 0)), (1, .int (x))] 0 []
  refine V.iconst F d_M_place_0 (v := nI (0)) (by decide) ?_
  refine V.istore_n (lv2 := [(2, .int (nI (0))), (0, .ref (mo 0)), (1, .int (x))]) F d_M_place_1 rfl (by decide) rfl ?_
  have L2 : ∀ (n9 : Nat) (i : Nat), nf - i < n9 → (i ≤ nf) → (∀ k, k < i → ¬ nI (num k) = x) → V p l e (rmK 0 0 0) s m [.ref (mo 0), .int (x)].toArray below meth c D (va_A (MW ct mo nd nb nf bdk num thg knd dy val tim rep kn clk tol opn bof std xd) s.heap.size) 3 0 0 (EI D below (MW ct mo nd nb nf bdk num thg knd dy val tim rep kn clk tol opn bof std xd) [.ref (mo 0), .int (x)].toArray s 0 0 (fun r u => ((∃ f, f < nf ∧ nI (num f) = x ∧ (∀ k, k < f → ¬ nI (num k) = x) ∧ r = nI f) ∨ ((∀ k, k < nf → ¬ nI (num k) = x) ∧ r = -1)) ∧ u = MW ct mo nd nb nf bdk num thg knd dy val tim rep kn clk tol opn bof std xd)) (MW ct mo nd nb nf bdk num thg knd dy val tim rep kn clk tol opn bof std xd) [(2, .int (nI (i))), (0, .ref (mo 0)), (1, .int (x))] 2 [] := by
    intro n9
    induction n9 with
    | zero => intro i h9 hi hin; exact absurd h9 (Nat.not_lt_zero _)
    | succ n9 ih2 =>
      intro i h9 hi hin
      refine V.iload_n F d_M_place_2 rfl 0 rfl ?_
      refine V.aload_n F d_M_place_3 rfl 1 rfl ?_
      refine V.get F ck_M d_M_place_4 13 (by decide) lk_M_59 0 rfl rfl ?_
      refine V.icmp_geN (tgt := 28) F d_M_place_7 (by decide) (by omega) (by omega) (fun c7 => ?_) (fun c7 => ?_)
      · skip
        refine V.iconst F d_M_place_28 (v := -1) (by decide) ?_
        exact V.iret F hr d_M_place_29 (⟨Or.inr ⟨fun k hk => hin k (by omega), rfl⟩, rfl⟩)
      · skip
        refine V.aload_n F d_M_place_10 rfl 1 rfl ?_
        refine V.get F ck_M d_M_place_11 4 (by decide) lk_M_20 0 rfl rfl ?_
        refine V.iload_n F d_M_place_14 rfl 0 rfl ?_
        refine V.iald (v := nI (num (i))) F d_M_place_15 4 0 rfl rfl (by omega) (by decide) rfl ?_
        refine V.iload_n F d_M_place_16 rfl 2 rfl ?_
        refine V.icmp_ne (x := nI (num (i))) (y := x) (tgt := 22) F d_M_place_17 (by decide) (fun c17 => ?_) (fun c17 => ?_)
        · skip
          refine V.iincN (k := 1) (lv2 := [(2, .int (nI (i + 1))), (0, .ref (mo 0)), (1, .int (x))]) F d_M_place_22 0 rfl (by decide) (by decide) rfl ?_
          refine V.goto (tgt := 2) F d_M_place_25 (by decide) ?_
          exact ih2 (i + 1) (by omega) (by omega) (fun k hk => by
          by_cases e9 : k = i
          · rw [e9]; exact c17
          · exact hin k (by omega))
        · skip
          refine V.iload_n F d_M_place_20 rfl 0 rfl ?_
          exact V.iret F hr d_M_place_21 (⟨Or.inl ⟨i, by omega, c17, hin, rfl⟩, rfl⟩)
  exact L2 _ (0) (Nat.lt_succ_self _) (by omega) (fun k hk => absurd hk (by omega))

set_option maxHeartbeats 4000000 in
set_option maxRecDepth 100000 in
theorem m_isKnown (l : Launch) (D : va_G) {ct : Nat → ClassId} {mo : Nat → Nat} {nd : Nat} {nb : Nat} {nf : Nat} {bdk : Nat → Nat} {num : Nat → Nat} {thg : Nat → Nat} {knd : Nat → Nat} {dy : Nat → Nat} {val : Nat → Int64} {tim : Nat → Nat} {rep : Nat → Nat → Bool} {kn : Nat → Nat → Bool} {clk : Nat → Nat} {tol : Nat → Nat} {opn : Nat → Option Nat} {bof : Nat → Option Nat} {std : Nat → Bool} {xd : Int64} (hnd : nd ≤ 8) (d : Nat) (hd0 : d < nd) (f : Nat) (hf : f < 300) (on : Int64) : CI l y_M_isKnown b_M_isKnown 5 (some .boolean) (rmK 0 0 0) D (tyL ct) (MW ct mo nd nb nf bdk num thg knd dy val tim rep kn clk tol opn bof std xd) [.ref (mo 0), .int (nI (d)), .int (nI (f)), .long (on)] 0 0 (fun r u => r = bI (kn d f && decide (¬ on < lN (tim f))) ∧ u = MW ct mo nd nb nf bdk num thg knd dy val tim rep kn clk tol opn bof std xd) := by
  refine CI.start (by decide) (Nat.le_of_ble_eq_true rfl) ?_
  intro p e s m below meth c F hr hnm
  show V p l e (rmK 0 0 0) s m [.ref (mo 0), .int (nI (d)), .int (nI (f)), .long (on)].toArray below meth c D (va_A (MW ct mo nd nb nf bdk num thg knd dy val tim rep kn clk tol opn bof std xd) s.heap.size) 5 0 0 (EI D below (MW ct mo nd nb nf bdk num thg knd dy val tim rep kn clk tol opn bof std xd) [.ref (mo 0), .int (nI (d)), .int (nI (f)), .long (on)].toArray s 0 0 (fun r u => r = bI (kn d f && decide (¬ on < lN (tim f))) ∧ u = MW ct mo nd nb nf bdk num thg knd dy val tim rep kn clk tol opn bof std xd)) (MW ct mo nd nb nf bdk num thg knd dy val tim rep kn clk tol opn bof std xd) [(0, .ref (mo 0)), (1, .int (nI (d))), (2, .int (nI (f))), (3, .long (on))] 0 []
  refine V.aload_n F d_M_isKnown_0 rfl 0 rfl ?_
  refine V.get F ck_M d_M_isKnown_1 12 (by decide) lk_M_46 0 rfl rfl ?_
  refine V.iload_n F d_M_isKnown_4 rfl 1 rfl ?_
  refine V.sipush F d_M_isKnown_5 (v := nI (300)) (by decide) ?_
  refine V.imulN F d_M_isKnown_8 ?_
  refine V.iload_n F d_M_isKnown_9 rfl 2 rfl ?_
  refine V.iaddN F d_M_isKnown_10 ?_
  refine V.zald (v := bI (kn (d) (f))) F d_M_isKnown_11 12 3 rfl rfl (by omega) (by decide) (kn_at (by omega)) ?_
  refine V.if_eqB (b := kn (d) (f)) (tgt := 30) F d_M_isKnown_12 (by decide) (fun c12 => ?_) (fun c12 => ?_)
  · skip
    refine V.iconst F d_M_isKnown_30 (v := nI (0)) (by decide) ?_
    exact V.zret F hr (nar_0) d_M_isKnown_31 (⟨by rw [c12]; exact bI_f, rfl⟩)
  · skip
    refine V.aload_n F d_M_isKnown_15 rfl 0 rfl ?_
    refine V.get F ck_M d_M_isKnown_16 9 (by decide) lk_M_35 0 rfl rfl ?_
    refine V.iload_n F d_M_isKnown_19 rfl 2 rfl ?_
    refine V.lald (v := lN (tim (f))) F d_M_isKnown_20 9 1 rfl rfl (by omega) (by decide) rfl ?_
    refine V.lload_n F d_M_isKnown_21 rfl 3 rfl ?_
    refine V.lcmp_gt (tgt := 30) F d_M_isKnown_22 d_M_isKnown_23 (by decide) (fun c22 => ?_) (fun c22 => ?_)
    · skip
      refine V.iconst F d_M_isKnown_30 (v := nI (0)) (by decide) ?_
      exact V.zret F hr (nar_0) d_M_isKnown_31 (⟨by rw [decide_eq_false (fun q => q c22), Bool.and_false]; exact bI_f, rfl⟩)
    · skip
      refine V.iconst F d_M_isKnown_26 (v := nI (1)) (by decide) ?_
      refine V.goto (tgt := 31) F d_M_isKnown_27 (by decide) ?_
      exact V.zret F hr (nar_1) d_M_isKnown_31 (⟨by rw [c12, decide_eq_true c22]; exact bI_t, rfl⟩)

set_option maxHeartbeats 4000000 in
set_option maxRecDepth 100000 in
theorem m_stands (l : Launch) (D : va_G) {ct : Nat → ClassId} {mo : Nat → Nat} {nd : Nat} {nb : Nat} {nf : Nat} {bdk : Nat → Nat} {num : Nat → Nat} {thg : Nat → Nat} {knd : Nat → Nat} {dy : Nat → Nat} {val : Nat → Int64} {tim : Nat → Nat} {rep : Nat → Nat → Bool} {kn : Nat → Nat → Bool} {clk : Nat → Nat} {tol : Nat → Nat} {opn : Nat → Option Nat} {bof : Nat → Option Nat} {std : Nat → Bool} {xd : Int64} (hnf : nf ≤ 300) (hnd : nd ≤ 8) (d : Nat) (hd0 : d < nd) (f : Nat) (hf : f < nf) (on : Int64) : CI l y_M_stands b_M_stands 7 (some .boolean) (rmK 1 0 0) D (tyL ct) (MW ct mo nd nb nf bdk num thg knd dy val tim rep kn clk tol opn bof std xd) [.ref (mo 0), .int (nI (d)), .int (nI (f)), .long (on)] 0 0 (fun r u => r = bI (lkB (fun k => (kn d k && decide (¬ on < lN (tim k)))) rep f nf) ∧ u = MW ct mo nd nb nf bdk num thg knd dy val tim rep kn clk tol opn bof std xd) := by
  refine CI.start (by decide) (Nat.le_of_ble_eq_true rfl) ?_
  intro p e s m below meth c F hr hnm
  show V p l e (rmK 1 0 0) s m [.ref (mo 0), .int (nI (d)), .int (nI (f)), .long (on)].toArray below meth c D (va_A (MW ct mo nd nb nf bdk num thg knd dy val tim rep kn clk tol opn bof std xd) s.heap.size) 7 0 0 (EI D below (MW ct mo nd nb nf bdk num thg knd dy val tim rep kn clk tol opn bof std xd) [.ref (mo 0), .int (nI (d)), .int (nI (f)), .long (on)].toArray s 0 0 (fun r u => r = bI (lkB (fun k => (kn d k && decide (¬ on < lN (tim k)))) rep f nf) ∧ u = MW ct mo nd nb nf bdk num thg knd dy val tim rep kn clk tol opn bof std xd)) (MW ct mo nd nb nf bdk num thg knd dy val tim rep kn clk tol opn bof std xd) [(0, .ref (mo 0)), (1, .int (nI (d))), (2, .int (nI (f))), (3, .long (on))] 0 []
  refine V.aload_n F d_M_stands_0 rfl 0 rfl ?_
  refine V.iload_n F d_M_stands_1 rfl 1 rfl ?_
  refine V.iload_n F d_M_stands_2 rfl 2 rfl ?_
  refine V.lload_n F d_M_stands_3 rfl 3 rfl ?_
  refine V.callVI0 (As := [.int (nI (d)), .int (nI (f)), .long (on)]) (rest := []) F (m_isKnown l D hnd d hd0 f (by omega) on) d_M_stands_4 sv_M_72 im_y_M_isKnown sl_y_M_isKnown 0 rfl rfl rfl rfl rfl (Nat.le_of_ble_eq_true rfl) ⟨rfl, rfl, (Nat.le_of_ble_eq_true rfl), (Nat.le_of_ble_eq_true rfl)⟩ ⟨(Nat.le_of_ble_eq_true rfl), (Nat.le_of_ble_eq_true rfl)⟩ (fun r9 u9 h9 => ?_)
  obtain ⟨rfl, rfl⟩ := h9
  refine V.istore (lv2 := [(5, .int (bI ((kn d f && decide (¬ on < lN (tim f)))))), (0, .ref (mo 0)), (1, .int (nI (d))), (2, .int (nI (f))), (3, .long (on))]) F d_M_stands_7 (by decide) rfl ?_
  refine V.iconst F d_M_stands_9 (v := nI (0)) (by decide) ?_
  refine V.istore (lv2 := [(6, .int (nI (0))), (5, .int (bI ((kn d f && decide (¬ on < lN (tim f)))))), (0, .ref (mo 0)), (1, .int (nI (d))), (2, .int (nI (f))), (3, .long (on))]) F d_M_stands_10 (by decide) rfl ?_
  have L12 : ∀ (n9 : Nat) (i : Nat) (z : Bool), nf - i < n9 → (i ≤ nf) → (z = lkB (fun k => (kn d k && decide (¬ on < lN (tim k)))) rep f i) → V p l e (rmK 1 0 0) s m [.ref (mo 0), .int (nI (d)), .int (nI (f)), .long (on)].toArray below meth c D (va_A (MW ct mo nd nb nf bdk num thg knd dy val tim rep kn clk tol opn bof std xd) s.heap.size) 7 0 0 (EI D below (MW ct mo nd nb nf bdk num thg knd dy val tim rep kn clk tol opn bof std xd) [.ref (mo 0), .int (nI (d)), .int (nI (f)), .long (on)].toArray s 0 0 (fun r u => r = bI (lkB (fun k => (kn d k && decide (¬ on < lN (tim k)))) rep f nf) ∧ u = MW ct mo nd nb nf bdk num thg knd dy val tim rep kn clk tol opn bof std xd)) (MW ct mo nd nb nf bdk num thg knd dy val tim rep kn clk tol opn bof std xd) [(6, .int (nI (i))), (5, .int (bI (z))), (0, .ref (mo 0)), (1, .int (nI (d))), (2, .int (nI (f))), (3, .long (on))] 12 [] := by
    intro n9
    induction n9 with
    | zero => intro i z h9 hi hz; exact absurd h9 (Nat.not_lt_zero _)
    | succ n9 ih12 =>
      intro i z h9 hi hz
      refine V.iload F d_M_stands_12 0 rfl ?_
      refine V.aload_n F d_M_stands_14 rfl 2 rfl ?_
      refine V.get F ck_M d_M_stands_15 13 (by decide) lk_M_59 0 rfl rfl ?_
      refine V.icmp_geN (tgt := 66) F d_M_stands_18 (by decide) (by omega) (by omega) (fun c18 => ?_) (fun c18 => ?_)
      · skip
        refine V.iload F d_M_stands_66 1 rfl ?_
        exact V.zret F hr (nar_b _) d_M_stands_68 (⟨by rw [hz, show nf = i by omega], rfl⟩)
      · skip
        refine V.iload F d_M_stands_21 1 rfl ?_
        refine V.if_eqB (b := z) (tgt := 66) F d_M_stands_23 (by decide) (fun c23 => ?_) (fun c23 => ?_)
        · skip
          refine V.iload F d_M_stands_66 1 rfl ?_
          exact V.zret F hr (nar_b _) d_M_stands_68 (⟨by rw [c23]; exact congrArg bI (ss_e (hz.symm.trans c23) hi).symm, rfl⟩)
        · skip
          refine V.aload_n F d_M_stands_26 rfl 2 rfl ?_
          refine V.get F ck_M d_M_stands_27 11 (by decide) lk_M_42 0 rfl rfl ?_
          refine V.iload F d_M_stands_30 0 rfl ?_
          refine V.sipush F d_M_stands_32 (v := nI (300)) (by decide) ?_
          refine V.imulN F d_M_stands_35 ?_
          refine V.iload_n F d_M_stands_36 rfl 4 rfl ?_
          refine V.iaddN F d_M_stands_37 ?_
          refine V.zald (v := bI (rep (f) (i))) F d_M_stands_38 11 3 rfl rfl (by omega) (by decide) (rp_at (by omega)) ?_
          refine V.if_eqB (b := rep (f) (i)) (tgt := 53) F d_M_stands_39 (by decide) (fun c39 => ?_) (fun c39 => ?_)
          · skip
            refine V.iconst F d_M_stands_53 (v := nI (1)) (by decide) ?_
            refine V.goto (tgt := 58) F d_M_stands_54 (by decide) ?_
            refine V.istore (lv2 := [(5, .int (nI (1))), (6, .int (nI (i))), (0, .ref (mo 0)), (1, .int (nI (d))), (2, .int (nI (f))), (3, .long (on))]) F d_M_stands_58 (by decide) rfl ?_
            refine V.iincN (k := 1) (lv2 := [(6, .int (nI (i + 1))), (5, .int (nI (1))), (0, .ref (mo 0)), (1, .int (nI (d))), (2, .int (nI (f))), (3, .long (on))]) F d_M_stands_60 1 rfl (by decide) (by decide) rfl ?_
            refine V.goto (tgt := 12) F d_M_stands_63 (by decide) ?_
            exact ih12 (i + 1) (true) (by omega) (by omega) (ss_1 hz c23 (by show (rep f i && _) = false; rw [c39]; rfl))
          · skip
            refine V.aload_n F d_M_stands_42 rfl 2 rfl ?_
            refine V.iload_n F d_M_stands_43 rfl 3 rfl ?_
            refine V.iload F d_M_stands_44 0 rfl ?_
            refine V.lload_n F d_M_stands_46 rfl 5 rfl ?_
            refine V.callVI0 (As := [.int (nI (d)), .int (nI (i)), .long (on)]) (rest := []) F (m_isKnown l D hnd d hd0 i (by omega) on) d_M_stands_47 sv_M_72 im_y_M_isKnown sl_y_M_isKnown 0 rfl rfl rfl rfl rfl (Nat.le_of_ble_eq_true rfl) ⟨rfl, rfl, (Nat.le_of_ble_eq_true rfl), (Nat.le_of_ble_eq_true rfl)⟩ ⟨(Nat.le_of_ble_eq_true rfl), (Nat.le_of_ble_eq_true rfl)⟩ (fun r9 u9 h9 => ?_)
            obtain ⟨rfl, rfl⟩ := h9
            refine V.if_neB (b := (kn d i && decide (¬ on < lN (tim i)))) (tgt := 57) F d_M_stands_50 (by decide) (fun c50 => ?_) (fun c50 => ?_)
            · skip
              refine V.iconst F d_M_stands_57 (v := nI (0)) (by decide) ?_
              refine V.istore (lv2 := [(5, .int (nI (0))), (6, .int (nI (i))), (0, .ref (mo 0)), (1, .int (nI (d))), (2, .int (nI (f))), (3, .long (on))]) F d_M_stands_58 (by decide) rfl ?_
              refine V.iincN (k := 1) (lv2 := [(6, .int (nI (i + 1))), (5, .int (nI (0))), (0, .ref (mo 0)), (1, .int (nI (d))), (2, .int (nI (f))), (3, .long (on))]) F d_M_stands_60 1 rfl (by decide) (by decide) rfl ?_
              refine V.goto (tgt := 12) F d_M_stands_63 (by decide) ?_
              exact ih12 (i + 1) (false) (by omega) (by omega) (ss_0 (by show (rep f i && _) = true; rw [c39, c50]; rfl))
            · skip
              refine V.iconst F d_M_stands_53 (v := nI (1)) (by decide) ?_
              refine V.goto (tgt := 58) F d_M_stands_54 (by decide) ?_
              refine V.istore (lv2 := [(5, .int (nI (1))), (6, .int (nI (i))), (0, .ref (mo 0)), (1, .int (nI (d))), (2, .int (nI (f))), (3, .long (on))]) F d_M_stands_58 (by decide) rfl ?_
              refine V.iincN (k := 1) (lv2 := [(6, .int (nI (i + 1))), (5, .int (nI (1))), (0, .ref (mo 0)), (1, .int (nI (d))), (2, .int (nI (f))), (3, .long (on))]) F d_M_stands_60 1 rfl (by decide) (by decide) rfl ?_
              refine V.goto (tgt := 12) F d_M_stands_63 (by decide) ?_
              exact ih12 (i + 1) (true) (by omega) (by omega) (ss_1 hz c23 (by show (rep f i && _) = false; rw [c50, Bool.and_false]))
  exact L12 _ (0) ((kn d f && decide (¬ on < lN (tim f)))) (Nat.lt_succ_self _) (by omega) (by unfold lkB; rw [anyB]; simp)

set_option maxHeartbeats 4000000 in
set_option maxRecDepth 100000 in
theorem m_look (l : Launch) (D : va_G) {ct : Nat → ClassId} {mo : Nat → Nat} {nd : Nat} {nb : Nat} {nf : Nat} {bdk : Nat → Nat} {num : Nat → Nat} {thg : Nat → Nat} {knd : Nat → Nat} {dy : Nat → Nat} {val : Nat → Int64} {tim : Nat → Nat} {rep : Nat → Nat → Bool} {kn : Nat → Nat → Bool} {clk : Nat → Nat} {tol : Nat → Nat} {opn : Nat → Option Nat} {bof : Nat → Option Nat} {std : Nat → Bool} {xd : Int64} (hnf : nf ≤ 300) (hnd : nd ≤ 8) (d : Nat) (hd0 : d < nd) : CV l y_M_look b_M_look 4 none (rmK 0 0 0) D (tyL ct) (MW ct mo nd nb nf bdk num thg knd dy val tim rep kn clk tol opn bof std xd) [.ref (mo 0), .int (nI (d))] 0 0 (fun u => ∃ P : Nat → Bool, (∀ f, f < nf → P f = lkB (kn d) rep f nf) ∧ u = MW ct mo nd nb nf bdk num thg knd dy val tim rep kn clk tol opn bof P xd) := by
  refine CV.start (by decide) (Nat.le_of_ble_eq_true rfl) ?_
  intro p e s m below meth c F hr hnm
  show V p l e (rmK 0 0 0) s m [.ref (mo 0), .int (nI (d))].toArray below meth c D (va_A (MW ct mo nd nb nf bdk num thg knd dy val tim rep kn clk tol opn bof std xd) s.heap.size) 4 0 0 (EV D below (MW ct mo nd nb nf bdk num thg knd dy val tim rep kn clk tol opn bof std xd) [.ref (mo 0), .int (nI (d))].toArray s 0 0 (fun u => ∃ P : Nat → Bool, (∀ f, f < nf → P f = lkB (kn d) rep f nf) ∧ u = MW ct mo nd nb nf bdk num thg knd dy val tim rep kn clk tol opn bof P xd)) (MW ct mo nd nb nf bdk num thg knd dy val tim rep kn clk tol opn bof std xd) [(0, .ref (mo 0)), (1, .int (nI (d)))] 0 []
  refine V.iconst F d_M_look_0 (v := nI (0)) (by decide) ?_
  refine V.istore_n (lv2 := [(2, .int (nI (0))), (0, .ref (mo 0)), (1, .int (nI (d)))]) F d_M_look_1 rfl (by decide) rfl ?_
  have L2 : ∀ (n9 : Nat) (i : Nat) (P : Nat → Bool), nf - i < n9 → (i ≤ nf) → (∀ f, f < i → P f = kn d f) → V p l e (rmK 0 0 0) s m [.ref (mo 0), .int (nI (d))].toArray below meth c D (va_A (MW ct mo nd nb nf bdk num thg knd dy val tim rep kn clk tol opn bof std xd) s.heap.size) 4 0 0 (EV D below (MW ct mo nd nb nf bdk num thg knd dy val tim rep kn clk tol opn bof std xd) [.ref (mo 0), .int (nI (d))].toArray s 0 0 (fun u => ∃ P : Nat → Bool, (∀ f, f < nf → P f = lkB (kn d) rep f nf) ∧ u = MW ct mo nd nb nf bdk num thg knd dy val tim rep kn clk tol opn bof P xd)) (MW ct mo nd nb nf bdk num thg knd dy val tim rep kn clk tol opn bof P xd) [(2, .int (nI (i))), (0, .ref (mo 0)), (1, .int (nI (d)))] 2 [] := by
    intro n9
    induction n9 with
    | zero => intro i P h9 hi hP; exact absurd h9 (Nat.not_lt_zero _)
    | succ n9 ih2 =>
      intro i P h9 hi hP
      refine V.iload_n F d_M_look_2 rfl 0 rfl ?_
      refine V.aload_n F d_M_look_3 rfl 1 rfl ?_
      refine V.get F ck_M d_M_look_4 13 (by decide) lk_M_59 0 rfl rfl ?_
      refine V.icmp_geN (tgt := 34) F d_M_look_7 (by decide) (by omega) (by omega) (fun c7 => ?_) (fun c7 => ?_)
      · skip
        refine V.iconst F d_M_look_34 (v := nI (0)) (by decide) ?_
        refine V.istore_n (lv2 := [(2, .int (nI (0))), (0, .ref (mo 0)), (1, .int (nI (d)))]) F d_M_look_35 rfl (by decide) rfl ?_
        have L36 : ∀ (n9 : Nat) (g : Nat) (P : Nat → Bool), nf - g < n9 → (g ≤ nf) → (∀ f, f < nf → P f = lkB (kn d) rep f g) → V p l e (rmK 0 0 0) s m [.ref (mo 0), .int (nI (d))].toArray below meth c D (va_A (MW ct mo nd nb nf bdk num thg knd dy val tim rep kn clk tol opn bof std xd) s.heap.size) 4 0 0 (EV D below (MW ct mo nd nb nf bdk num thg knd dy val tim rep kn clk tol opn bof std xd) [.ref (mo 0), .int (nI (d))].toArray s 0 0 (fun u => ∃ P : Nat → Bool, (∀ f, f < nf → P f = lkB (kn d) rep f nf) ∧ u = MW ct mo nd nb nf bdk num thg knd dy val tim rep kn clk tol opn bof P xd)) (MW ct mo nd nb nf bdk num thg knd dy val tim rep kn clk tol opn bof P xd) [(2, .int (nI (g))), (0, .ref (mo 0)), (1, .int (nI (d)))] 36 [] := by
          intro n9
          induction n9 with
          | zero => intro g P h9 hg hP; exact absurd h9 (Nat.not_lt_zero _)
          | succ n9 ih36 =>
            intro g P h9 hg hP
            refine V.iload_n F d_M_look_36 rfl 0 rfl ?_
            refine V.aload_n F d_M_look_37 rfl 1 rfl ?_
            refine V.get F ck_M d_M_look_38 13 (by decide) lk_M_59 0 rfl rfl ?_
            refine V.icmp_geN (tgt := 116) F d_M_look_41 (by decide) (by omega) (by omega) (fun c41 => ?_) (fun c41 => ?_)
            · skip
              exact V.vret F hr d_M_look_116 (⟨P, fun f hf => by rw [hP f hf, show g = nf by omega], rfl⟩)
            · skip
              refine V.iconst F d_M_look_44 (v := nI (0)) (by decide) ?_
              refine V.istore_n (lv2 := [(3, .int (nI (0))), (2, .int (nI (g))), (0, .ref (mo 0)), (1, .int (nI (d)))]) F d_M_look_45 rfl (by decide) rfl ?_
              have L46 : ∀ (n9 : Nat) (j : Nat) (P : Nat → Bool), nf - j < n9 → (j ≤ nf) → (∀ f, f < nf → P f = lkB (kn d) rep f (if f < j then g + 1 else g)) → V p l e (rmK 0 0 0) s m [.ref (mo 0), .int (nI (d))].toArray below meth c D (va_A (MW ct mo nd nb nf bdk num thg knd dy val tim rep kn clk tol opn bof std xd) s.heap.size) 4 0 0 (EV D below (MW ct mo nd nb nf bdk num thg knd dy val tim rep kn clk tol opn bof std xd) [.ref (mo 0), .int (nI (d))].toArray s 0 0 (fun u => ∃ P : Nat → Bool, (∀ f, f < nf → P f = lkB (kn d) rep f nf) ∧ u = MW ct mo nd nb nf bdk num thg knd dy val tim rep kn clk tol opn bof P xd)) (MW ct mo nd nb nf bdk num thg knd dy val tim rep kn clk tol opn bof P xd) [(3, .int (nI (j))), (2, .int (nI (g))), (0, .ref (mo 0)), (1, .int (nI (d)))] 46 [] := by
                intro n9
                induction n9 with
                | zero => intro j P h9 hj hP; exact absurd h9 (Nat.not_lt_zero _)
                | succ n9 ih46 =>
                  intro j P h9 hj hP
                  refine V.iload_n F d_M_look_46 rfl 0 rfl ?_
                  refine V.aload_n F d_M_look_47 rfl 2 rfl ?_
                  refine V.get F ck_M d_M_look_48 13 (by decide) lk_M_59 0 rfl rfl ?_
                  refine V.icmp_geN (tgt := 110) F d_M_look_51 (by decide) (by omega) (by omega) (fun c51 => ?_) (fun c51 => ?_)
                  · skip
                    refine V.iincN (k := 1) (lv2 := [(2, .int (nI (g + 1))), (3, .int (nI (j))), (0, .ref (mo 0)), (1, .int (nI (d)))]) F d_M_look_110 1 rfl (by decide) (by decide) rfl ?_
                    refine V.goto (tgt := 36) F d_M_look_113 (by decide) ?_
                    refine V.lvs [0, 2, 3] rfl ?_
                    exact ih36 (g + 1) (P) (by omega) (by omega) (lk_e hP c51)
                  · skip
                    refine V.aload_n F d_M_look_54 rfl 2 rfl ?_
                    refine V.get F ck_M d_M_look_55 12 (by decide) lk_M_46 0 rfl rfl ?_
                    refine V.iload_n F d_M_look_58 rfl 3 rfl ?_
                    refine V.sipush F d_M_look_59 (v := nI (300)) (by decide) ?_
                    refine V.imulN F d_M_look_62 ?_
                    refine V.iload_n F d_M_look_63 rfl 1 rfl ?_
                    refine V.iaddN F d_M_look_64 ?_
                    refine V.zald (v := bI (kn (d) (g))) F d_M_look_65 12 3 rfl rfl (by omega) (by decide) (kn_at (by omega)) ?_
                    refine V.if_eqB (b := kn (d) (g)) (tgt := 110) F d_M_look_66 (by decide) (fun c66 => ?_) (fun c66 => ?_)
                    · skip
                      refine V.iincN (k := 1) (lv2 := [(2, .int (nI (g + 1))), (3, .int (nI (j))), (0, .ref (mo 0)), (1, .int (nI (d)))]) F d_M_look_110 1 rfl (by decide) (by decide) rfl ?_
                      refine V.goto (tgt := 36) F d_M_look_113 (by decide) ?_
                      refine V.lvs [0, 2, 3] rfl ?_
                      exact ih36 (g + 1) (P) (by omega) (by omega) (lk_0 hP c66)
                    · skip
                      refine V.aload_n F d_M_look_69 rfl 2 rfl ?_
                      refine V.get F ck_M d_M_look_70 16 (by decide) lk_M_52 0 rfl rfl ?_
                      refine V.iload_n F d_M_look_73 rfl 0 rfl ?_
                      refine V.aload_n F d_M_look_74 rfl 2 rfl ?_
                      refine V.get F ck_M d_M_look_75 16 (by decide) lk_M_52 0 rfl rfl ?_
                      refine V.iload_n F d_M_look_78 rfl 0 rfl ?_
                      refine V.zald (v := bI (P (j))) F d_M_look_79 14 3 rfl rfl (by omega) (by decide) rfl ?_
                      refine V.if_eqB (b := P (j)) (tgt := 102) F d_M_look_80 (by decide) (fun c80 => ?_) (fun c80 => ?_)
                      · skip
                        refine V.iconst F d_M_look_102 (v := nI (0)) (by decide) ?_
                        refine V.zast (b := false) (ws2 := MW ct mo nd nb nf bdk num thg knd dy val tim rep kn clk tol opn bof (va_up P (j) (false)) xd) F d_M_look_103 14 3 rfl rfl (by omega) (by decide) (by rw [upd_bI]; exact mw_set_std) ?_
                        refine V.iincN (k := 1) (lv2 := [(3, .int (nI (j + 1))), (2, .int (nI (g))), (0, .ref (mo 0)), (1, .int (nI (d)))]) F d_M_look_104 0 rfl (by decide) (by decide) rfl ?_
                        refine V.goto (tgt := 46) F d_M_look_107 (by decide) ?_
                        exact ih46 (j + 1) (va_up P j false) (by omega) (by omega) (lk_1 hP c66 (by omega) (by rw [c80]; rfl))
                      · skip
                        refine V.aload_n F d_M_look_83 rfl 2 rfl ?_
                        refine V.get F ck_M d_M_look_84 11 (by decide) lk_M_42 0 rfl rfl ?_
                        refine V.iload_n F d_M_look_87 rfl 1 rfl ?_
                        refine V.sipush F d_M_look_88 (v := nI (300)) (by decide) ?_
                        refine V.imulN F d_M_look_91 ?_
                        refine V.iload_n F d_M_look_92 rfl 0 rfl ?_
                        refine V.iaddN F d_M_look_93 ?_
                        refine V.zald (v := bI (rep (j) (g))) F d_M_look_94 11 3 rfl rfl (by omega) (by decide) (rp_at (by omega)) ?_
                        refine V.if_neB (b := rep (j) (g)) (tgt := 102) F d_M_look_95 (by decide) (fun c95 => ?_) (fun c95 => ?_)
                        · skip
                          refine V.iconst F d_M_look_102 (v := nI (0)) (by decide) ?_
                          refine V.zast (b := false) (ws2 := MW ct mo nd nb nf bdk num thg knd dy val tim rep kn clk tol opn bof (va_up P (j) (false)) xd) F d_M_look_103 14 3 rfl rfl (by omega) (by decide) (by rw [upd_bI]; exact mw_set_std) ?_
                          refine V.iincN (k := 1) (lv2 := [(3, .int (nI (j + 1))), (2, .int (nI (g))), (0, .ref (mo 0)), (1, .int (nI (d)))]) F d_M_look_104 0 rfl (by decide) (by decide) rfl ?_
                          refine V.goto (tgt := 46) F d_M_look_107 (by decide) ?_
                          exact ih46 (j + 1) (va_up P j false) (by omega) (by omega) (lk_1 hP c66 (by omega) (by rw [c95]; simp))
                        · skip
                          refine V.iconst F d_M_look_98 (v := nI (1)) (by decide) ?_
                          refine V.goto (tgt := 103) F d_M_look_99 (by decide) ?_
                          refine V.zast (b := true) (ws2 := MW ct mo nd nb nf bdk num thg knd dy val tim rep kn clk tol opn bof (va_up P (j) (true)) xd) F d_M_look_103 14 3 rfl rfl (by omega) (by decide) (by rw [upd_bI]; exact mw_set_std) ?_
                          refine V.iincN (k := 1) (lv2 := [(3, .int (nI (j + 1))), (2, .int (nI (g))), (0, .ref (mo 0)), (1, .int (nI (d)))]) F d_M_look_104 0 rfl (by decide) (by decide) rfl ?_
                          refine V.goto (tgt := 46) F d_M_look_107 (by decide) ?_
                          exact ih46 (j + 1) (va_up P j true) (by omega) (by omega) (lk_1 hP c66 (by omega) (by rw [c80, c95]; rfl))
              exact L46 _ (0) (P) (Nat.lt_succ_self _) (by omega) (fun f hf => by rw [hP f hf, if_neg (by omega)])
        exact L36 _ (0) (P) (Nat.lt_succ_self _) (by omega) (fun f hf => by rw [hP f (by omega)]; unfold lkB; rw [anyB]; simp)
      · skip
        refine V.aload_n F d_M_look_10 rfl 1 rfl ?_
        refine V.get F ck_M d_M_look_11 16 (by decide) lk_M_52 0 rfl rfl ?_
        refine V.iload_n F d_M_look_14 rfl 0 rfl ?_
        refine V.aload_n F d_M_look_15 rfl 1 rfl ?_
        refine V.get F ck_M d_M_look_16 12 (by decide) lk_M_46 0 rfl rfl ?_
        refine V.iload_n F d_M_look_19 rfl 2 rfl ?_
        refine V.sipush F d_M_look_20 (v := nI (300)) (by decide) ?_
        refine V.imulN F d_M_look_23 ?_
        refine V.iload_n F d_M_look_24 rfl 0 rfl ?_
        refine V.iaddN F d_M_look_25 ?_
        refine V.zald (v := bI (kn (d) (i))) F d_M_look_26 12 3 rfl rfl (by omega) (by decide) (kn_at (by omega)) ?_
        refine V.zast (b := kn (d) (i)) (ws2 := MW ct mo nd nb nf bdk num thg knd dy val tim rep kn clk tol opn bof (va_up P (i) (kn (d) (i))) xd) F d_M_look_27 14 3 rfl rfl (by omega) (by decide) (by rw [upd_bI]; exact mw_set_std) ?_
        refine V.iincN (k := 1) (lv2 := [(2, .int (nI (i + 1))), (0, .ref (mo 0)), (1, .int (nI (d)))]) F d_M_look_28 0 rfl (by decide) (by decide) rfl ?_
        refine V.goto (tgt := 2) F d_M_look_31 (by decide) ?_
        exact ih2 (i + 1) (va_up P i (kn d i)) (by omega) (by omega) (fun f hf => by
          by_cases e9 : f = i
          · rw [e9, va_up_self]
          · rw [va_up_ne _ _ e9]; exact hP f (by omega))
  exact L2 _ (0) (std) (Nat.lt_succ_self _) (by omega) (fun f hf => absurd hf (by omega))

set_option maxHeartbeats 4000000 in
set_option maxRecDepth 100000 in
theorem m_areOne (l : Launch) (D : va_G) {ct : Nat → ClassId} {mo : Nat → Nat} {nd : Nat} {nb : Nat} {nf : Nat} {bdk : Nat → Nat} {num : Nat → Nat} {thg : Nat → Nat} {knd : Nat → Nat} {dy : Nat → Nat} {val : Nat → Int64} {tim : Nat → Nat} {rep : Nat → Nat → Bool} {kn : Nat → Nat → Bool} {clk : Nat → Nat} {tol : Nat → Nat} {opn : Nat → Option Nat} {bof : Nat → Option Nat} {std : Nat → Bool} {xd : Int64} (hnf : nf ≤ 300) (spt : Nat → Nat) (hsp : SpR spt thg knd dy nf) (f g : Nat) (hf : f < nf) (hg : g < nf) : CI l y_M_areOne b_M_areOne 3 (some .boolean) (rmK 0 0 0) D (tyL ct) (MW ct mo nd nb nf bdk num thg knd dy val tim rep kn clk tol opn bof std xd) [.ref (mo 0), .int (nI (f)), .int (nI (g))] 0 0 (fun r u => r = bI (decide (spt f = spt g)) ∧ u = MW ct mo nd nb nf bdk num thg knd dy val tim rep kn clk tol opn bof std xd) := by
  refine CI.start (by decide) (Nat.le_of_ble_eq_true rfl) ?_
  intro p e s m below meth c F hr hnm
  show V p l e (rmK 0 0 0) s m [.ref (mo 0), .int (nI (f)), .int (nI (g))].toArray below meth c D (va_A (MW ct mo nd nb nf bdk num thg knd dy val tim rep kn clk tol opn bof std xd) s.heap.size) 3 0 0 (EI D below (MW ct mo nd nb nf bdk num thg knd dy val tim rep kn clk tol opn bof std xd) [.ref (mo 0), .int (nI (f)), .int (nI (g))].toArray s 0 0 (fun r u => r = bI (decide (spt f = spt g)) ∧ u = MW ct mo nd nb nf bdk num thg knd dy val tim rep kn clk tol opn bof std xd)) (MW ct mo nd nb nf bdk num thg knd dy val tim rep kn clk tol opn bof std xd) [(0, .ref (mo 0)), (1, .int (nI (f))), (2, .int (nI (g)))] 0 []
  obtain ⟨f1, f2, f3, f4⟩ := hsp f hf
  obtain ⟨g1, g2, g3, g4⟩ := hsp g hg
  refine V.aload_n F d_M_areOne_0 rfl 0 rfl ?_
  refine V.get F ck_M d_M_areOne_1 5 (by decide) lk_M_23 0 rfl rfl ?_
  refine V.iload_n F d_M_areOne_4 rfl 1 rfl ?_
  refine V.iald (v := nI (thg (f))) F d_M_areOne_5 5 0 rfl rfl (by omega) (by decide) rfl ?_
  refine V.aload_n F d_M_areOne_6 rfl 0 rfl ?_
  refine V.get F ck_M d_M_areOne_7 5 (by decide) lk_M_23 0 rfl rfl ?_
  refine V.iload_n F d_M_areOne_10 rfl 2 rfl ?_
  refine V.iald (v := nI (thg (g))) F d_M_areOne_11 5 0 rfl rfl (by omega) (by decide) rfl ?_
  refine V.icmp_neN (tgt := 50) F d_M_areOne_12 (by decide) (by omega) (by omega) (fun c12 => ?_) (fun c12 => ?_)
  · skip
    refine V.iconst F d_M_areOne_50 (v := nI (0)) (by decide) ?_
    exact V.zret F hr (nar_0) d_M_areOne_51 (⟨by rw [decide_eq_false (by omega)]; exact bI_f, rfl⟩)
  · skip
    refine V.aload_n F d_M_areOne_15 rfl 0 rfl ?_
    refine V.get F ck_M d_M_areOne_16 6 (by decide) lk_M_26 0 rfl rfl ?_
    refine V.iload_n F d_M_areOne_19 rfl 1 rfl ?_
    refine V.iald (v := nI (knd (f))) F d_M_areOne_20 6 0 rfl rfl (by omega) (by decide) rfl ?_
    refine V.aload_n F d_M_areOne_21 rfl 0 rfl ?_
    refine V.get F ck_M d_M_areOne_22 6 (by decide) lk_M_26 0 rfl rfl ?_
    refine V.iload_n F d_M_areOne_25 rfl 2 rfl ?_
    refine V.iald (v := nI (knd (g))) F d_M_areOne_26 6 0 rfl rfl (by omega) (by decide) rfl ?_
    refine V.icmp_neN (tgt := 50) F d_M_areOne_27 (by decide) (by omega) (by omega) (fun c27 => ?_) (fun c27 => ?_)
    · skip
      refine V.iconst F d_M_areOne_50 (v := nI (0)) (by decide) ?_
      exact V.zret F hr (nar_0) d_M_areOne_51 (⟨by rw [decide_eq_false (by omega)]; exact bI_f, rfl⟩)
    · skip
      refine V.aload_n F d_M_areOne_30 rfl 0 rfl ?_
      refine V.get F ck_M d_M_areOne_31 7 (by decide) lk_M_29 0 rfl rfl ?_
      refine V.iload_n F d_M_areOne_34 rfl 1 rfl ?_
      refine V.lald (v := lN (dy (f))) F d_M_areOne_35 7 1 rfl rfl (by omega) (by decide) rfl ?_
      refine V.aload_n F d_M_areOne_36 rfl 0 rfl ?_
      refine V.get F ck_M d_M_areOne_37 7 (by decide) lk_M_29 0 rfl rfl ?_
      refine V.iload_n F d_M_areOne_40 rfl 2 rfl ?_
      refine V.lald (v := lN (dy (g))) F d_M_areOne_41 7 1 rfl rfl (by omega) (by decide) rfl ?_
      refine V.lcmp_ne (tgt := 50) F d_M_areOne_42 d_M_areOne_43 (by decide) (fun c42 => ?_) (fun c42 => ?_)
      · skip
        refine V.iconst F d_M_areOne_50 (v := nI (0)) (by decide) ?_
        exact V.zret F hr (nar_0) d_M_areOne_51 (⟨by rw [decide_eq_false (fun q => c42 (by rw [show dy f = dy g by omega]))]; exact bI_f, rfl⟩)
      · skip
        refine V.iconst F d_M_areOne_46 (v := nI (1)) (by decide) ?_
        refine V.goto (tgt := 51) F d_M_areOne_47 (by decide) ?_
        exact V.zret F hr (nar_1) d_M_areOne_51 (⟨by rw [decide_eq_true (by have c9 := (lN_eq (by omega) (by omega)).mp c42; rw [f1, g1, c12, c27, c9])]; exact bI_t, rfl⟩)

set_option maxHeartbeats 4000000 in
set_option maxRecDepth 100000 in
theorem m_isFC (l : Launch) (D : va_G) {ct : Nat → ClassId} {mo : Nat → Nat} {nd : Nat} {nb : Nat} {nf : Nat} {bdk : Nat → Nat} {num : Nat → Nat} {thg : Nat → Nat} {knd : Nat → Nat} {dy : Nat → Nat} {val : Nat → Int64} {tim : Nat → Nat} {rep : Nat → Nat → Bool} {kn : Nat → Nat → Bool} {clk : Nat → Nat} {tol : Nat → Nat} {opn : Nat → Option Nat} {bof : Nat → Option Nat} {std : Nat → Bool} {xd : Int64} (hnf : nf ≤ 300) (spt : Nat → Nat) (hsp : SpR spt thg knd dy nf) (f : Nat) (hf : f < nf) : CI l y_M_isFirstOfConflict b_M_isFirstOfConflict 4 (some .boolean) (rmK 1 0 0) D (tyL ct) (MW ct mo nd nb nf bdk num thg knd dy val tim rep kn clk tol opn bof std xd) [.ref (mo 0), .int (nI (f))] 0 0 (fun r u => r = bI (fcB spt val std nf f) ∧ u = MW ct mo nd nb nf bdk num thg knd dy val tim rep kn clk tol opn bof std xd) := by
  refine CI.start (by decide) (Nat.le_of_ble_eq_true rfl) ?_
  intro p e s m below meth c F hr hnm
  show V p l e (rmK 1 0 0) s m [.ref (mo 0), .int (nI (f))].toArray below meth c D (va_A (MW ct mo nd nb nf bdk num thg knd dy val tim rep kn clk tol opn bof std xd) s.heap.size) 4 0 0 (EI D below (MW ct mo nd nb nf bdk num thg knd dy val tim rep kn clk tol opn bof std xd) [.ref (mo 0), .int (nI (f))].toArray s 0 0 (fun r u => r = bI (fcB spt val std nf f) ∧ u = MW ct mo nd nb nf bdk num thg knd dy val tim rep kn clk tol opn bof std xd)) (MW ct mo nd nb nf bdk num thg knd dy val tim rep kn clk tol opn bof std xd) [(0, .ref (mo 0)), (1, .int (nI (f)))] 0 []
  refine V.aload_n F d_M_isFirstOfConflict_0 rfl 0 rfl ?_
  refine V.get F ck_M d_M_isFirstOfConflict_1 16 (by decide) lk_M_52 0 rfl rfl ?_
  refine V.iload_n F d_M_isFirstOfConflict_4 rfl 1 rfl ?_
  refine V.zald (v := bI (std (f))) F d_M_isFirstOfConflict_5 14 3 rfl rfl (by omega) (by decide) rfl ?_
  refine V.if_neB (b := std (f)) (tgt := 11) F d_M_isFirstOfConflict_6 (by decide) (fun c6 => ?_) (fun c6 => ?_)
  · skip
    refine V.iconst F d_M_isFirstOfConflict_11 (v := nI (0)) (by decide) ?_
    refine V.istore_n (lv2 := [(2, .int (nI (0))), (0, .ref (mo 0)), (1, .int (nI (f)))]) F d_M_isFirstOfConflict_12 rfl (by decide) rfl ?_
    refine V.iconst F d_M_isFirstOfConflict_13 (v := nI (0)) (by decide) ?_
    refine V.istore_n (lv2 := [(3, .int (nI (0))), (2, .int (nI (0))), (0, .ref (mo 0)), (1, .int (nI (f)))]) F d_M_isFirstOfConflict_14 rfl (by decide) rfl ?_
    have L15 : ∀ (n9 : Nat) (i : Nat) (u : Bool), nf - i < n9 → (i ≤ nf) → (u = anyB (fun g => (decide (spt f = spt g) && std g) && decide (val g ≠ val f)) i) → (∀ g, g < i → g < f → (decide (spt f = spt g) && std g) = false) → V p l e (rmK 1 0 0) s m [.ref (mo 0), .int (nI (f))].toArray below meth c D (va_A (MW ct mo nd nb nf bdk num thg knd dy val tim rep kn clk tol opn bof std xd) s.heap.size) 4 0 0 (EI D below (MW ct mo nd nb nf bdk num thg knd dy val tim rep kn clk tol opn bof std xd) [.ref (mo 0), .int (nI (f))].toArray s 0 0 (fun r u => r = bI (fcB spt val std nf f) ∧ u = MW ct mo nd nb nf bdk num thg knd dy val tim rep kn clk tol opn bof std xd)) (MW ct mo nd nb nf bdk num thg knd dy val tim rep kn clk tol opn bof std xd) [(3, .int (nI (i))), (2, .int (bI (u))), (0, .ref (mo 0)), (1, .int (nI (f)))] 15 [] := by
      intro n9
      induction n9 with
      | zero => intro i u h9 hi hu he; exact absurd h9 (Nat.not_lt_zero _)
      | succ n9 ih15 =>
        intro i u h9 hi hu he
        refine V.iload_n F d_M_isFirstOfConflict_15 rfl 0 rfl ?_
        refine V.aload_n F d_M_isFirstOfConflict_16 rfl 2 rfl ?_
        refine V.get F ck_M d_M_isFirstOfConflict_17 13 (by decide) lk_M_59 0 rfl rfl ?_
        refine V.icmp_geN (tgt := 80) F d_M_isFirstOfConflict_20 (by decide) (by omega) (by omega) (fun c20 => ?_) (fun c20 => ?_)
        · skip
          refine V.iload_n F d_M_isFirstOfConflict_80 rfl 1 rfl ?_
          exact V.zret F hr (nar_b _) d_M_isFirstOfConflict_81 (⟨congrArg bI (fc_end c6 (fun g g1 g2 => he g (by omega) g2) hf (by rw [hu, show nf = i by omega])), rfl⟩)
        · skip
          refine V.aload_n F d_M_isFirstOfConflict_23 rfl 2 rfl ?_
          refine V.iload_n F d_M_isFirstOfConflict_24 rfl 3 rfl ?_
          refine V.iload_n F d_M_isFirstOfConflict_25 rfl 0 rfl ?_
          refine V.callVI0 (As := [.int (nI (f)), .int (nI (i))]) (rest := []) F (m_areOne l D hnf spt hsp f i (by omega) (by omega)) d_M_isFirstOfConflict_26 sv_M_84 im_y_M_areOne sl_y_M_areOne 0 rfl rfl rfl rfl rfl (Nat.le_of_ble_eq_true rfl) ⟨rfl, rfl, (Nat.le_of_ble_eq_true rfl), (Nat.le_of_ble_eq_true rfl)⟩ ⟨(Nat.le_of_ble_eq_true rfl), (Nat.le_of_ble_eq_true rfl)⟩ (fun r9 u9 h9 => ?_)
          obtain ⟨rfl, rfl⟩ := h9
          refine V.if_eqB (b := decide (spt f = spt i)) (tgt := 74) F d_M_isFirstOfConflict_29 (by decide) (fun c29 => ?_) (fun c29 => ?_)
          · skip
            refine V.iincN (k := 1) (lv2 := [(3, .int (nI (i + 1))), (2, .int (bI (u))), (0, .ref (mo 0)), (1, .int (nI (f)))]) F d_M_isFirstOfConflict_74 0 rfl (by decide) (by decide) rfl ?_
            refine V.goto (tgt := 15) F d_M_isFirstOfConflict_77 (by decide) ?_
            exact ih15 (i + 1) (u) (by omega) (by omega) (by rw [hu, anyB, c29]; simp) (fun g hg1 hg2 => by
          by_cases e9 : g = i
          · rw [e9]; rw [c29]; rfl
          · exact he g (by omega) hg2)
          · skip
            refine V.aload_n F d_M_isFirstOfConflict_32 rfl 2 rfl ?_
            refine V.get F ck_M d_M_isFirstOfConflict_33 16 (by decide) lk_M_52 0 rfl rfl ?_
            refine V.iload_n F d_M_isFirstOfConflict_36 rfl 0 rfl ?_
            refine V.zald (v := bI (std (i))) F d_M_isFirstOfConflict_37 14 3 rfl rfl (by omega) (by decide) rfl ?_
            refine V.if_eqB (b := std (i)) (tgt := 74) F d_M_isFirstOfConflict_38 (by decide) (fun c38 => ?_) (fun c38 => ?_)
            · skip
              refine V.iincN (k := 1) (lv2 := [(3, .int (nI (i + 1))), (2, .int (bI (u))), (0, .ref (mo 0)), (1, .int (nI (f)))]) F d_M_isFirstOfConflict_74 0 rfl (by decide) (by decide) rfl ?_
              refine V.goto (tgt := 15) F d_M_isFirstOfConflict_77 (by decide) ?_
              exact ih15 (i + 1) (u) (by omega) (by omega) (by rw [hu, anyB, c38]; simp) (fun g hg1 hg2 => by
          by_cases e9 : g = i
          · rw [e9]; rw [c38, Bool.and_false]
          · exact he g (by omega) hg2)
            · skip
              refine V.iload_n F d_M_isFirstOfConflict_41 rfl 0 rfl ?_
              refine V.iload_n F d_M_isFirstOfConflict_42 rfl 3 rfl ?_
              refine V.icmp_geN (tgt := 48) F d_M_isFirstOfConflict_43 (by decide) (by omega) (by omega) (fun c43 => ?_) (fun c43 => ?_)
              · skip
                refine V.iload_n F d_M_isFirstOfConflict_48 rfl 1 rfl ?_
                refine V.if_neB (b := u) (tgt := 68) F d_M_isFirstOfConflict_49 (by decide) (fun c49 => ?_) (fun c49 => ?_)
                · skip
                  refine V.iconst F d_M_isFirstOfConflict_68 (v := nI (1)) (by decide) ?_
                  refine V.goto (tgt := 73) F d_M_isFirstOfConflict_69 (by decide) ?_
                  refine V.istore_n (lv2 := [(2, .int (nI (1))), (3, .int (nI (i))), (0, .ref (mo 0)), (1, .int (nI (f)))]) F d_M_isFirstOfConflict_73 rfl (by decide) rfl ?_
                  refine V.iincN (k := 1) (lv2 := [(3, .int (nI (i + 1))), (2, .int (nI (1))), (0, .ref (mo 0)), (1, .int (nI (f)))]) F d_M_isFirstOfConflict_74 1 rfl (by decide) (by decide) rfl ?_
                  refine V.goto (tgt := 15) F d_M_isFirstOfConflict_77 (by decide) ?_
                  exact ih15 (i + 1) (true) (by omega) (by omega) (by rw [anyB, ← hu, c49]; rfl) (fun g hg1 hg2 => by
          by_cases e9 : g = i
          · rw [e9]; omega
          · exact he g (by omega) hg2)
                · skip
                  refine V.aload_n F d_M_isFirstOfConflict_52 rfl 2 rfl ?_
                  refine V.get F ck_M d_M_isFirstOfConflict_53 8 (by decide) lk_M_32 0 rfl rfl ?_
                  refine V.iload_n F d_M_isFirstOfConflict_56 rfl 0 rfl ?_
                  refine V.lald (v := val (i)) F d_M_isFirstOfConflict_57 8 1 rfl rfl (by omega) (by decide) rfl ?_
                  refine V.aload_n F d_M_isFirstOfConflict_58 rfl 2 rfl ?_
                  refine V.get F ck_M d_M_isFirstOfConflict_59 8 (by decide) lk_M_32 0 rfl rfl ?_
                  refine V.iload_n F d_M_isFirstOfConflict_62 rfl 3 rfl ?_
                  refine V.lald (v := val (f)) F d_M_isFirstOfConflict_63 8 1 rfl rfl (by omega) (by decide) rfl ?_
                  refine V.lcmp_eq (tgt := 72) F d_M_isFirstOfConflict_64 d_M_isFirstOfConflict_65 (by decide) (fun c64 => ?_) (fun c64 => ?_)
                  · skip
                    refine V.iconst F d_M_isFirstOfConflict_72 (v := nI (0)) (by decide) ?_
                    refine V.istore_n (lv2 := [(2, .int (nI (0))), (3, .int (nI (i))), (0, .ref (mo 0)), (1, .int (nI (f)))]) F d_M_isFirstOfConflict_73 rfl (by decide) rfl ?_
                    refine V.iincN (k := 1) (lv2 := [(3, .int (nI (i + 1))), (2, .int (nI (0))), (0, .ref (mo 0)), (1, .int (nI (f)))]) F d_M_isFirstOfConflict_74 1 rfl (by decide) (by decide) rfl ?_
                    refine V.goto (tgt := 15) F d_M_isFirstOfConflict_77 (by decide) ?_
                    exact ih15 (i + 1) (false) (by omega) (by omega) (by rw [anyB, ← hu, c49, c29, c38, decide_eq_false (fun q => q c64)]; rfl) (fun g hg1 hg2 => by
          by_cases e9 : g = i
          · rw [e9]; omega
          · exact he g (by omega) hg2)
                  · skip
                    refine V.iconst F d_M_isFirstOfConflict_68 (v := nI (1)) (by decide) ?_
                    refine V.goto (tgt := 73) F d_M_isFirstOfConflict_69 (by decide) ?_
                    refine V.istore_n (lv2 := [(2, .int (nI (1))), (3, .int (nI (i))), (0, .ref (mo 0)), (1, .int (nI (f)))]) F d_M_isFirstOfConflict_73 rfl (by decide) rfl ?_
                    refine V.iincN (k := 1) (lv2 := [(3, .int (nI (i + 1))), (2, .int (nI (1))), (0, .ref (mo 0)), (1, .int (nI (f)))]) F d_M_isFirstOfConflict_74 1 rfl (by decide) (by decide) rfl ?_
                    refine V.goto (tgt := 15) F d_M_isFirstOfConflict_77 (by decide) ?_
                    exact ih15 (i + 1) (true) (by omega) (by omega) (by rw [anyB, c29, c38, decide_eq_true c64]; simp) (fun g hg1 hg2 => by
          by_cases e9 : g = i
          · rw [e9]; omega
          · exact he g (by omega) hg2)
              · skip
                refine V.iconst F d_M_isFirstOfConflict_46 (v := nI (0)) (by decide) ?_
                exact V.zret F hr (nar_0) d_M_isFirstOfConflict_47 (⟨by rw [fc_early c43 c29 c38]; exact bI_f, rfl⟩)
    exact L15 _ (0) (false) (Nat.lt_succ_self _) (by omega) (rfl) (fun g hg1 => absurd hg1 (by omega))
  · skip
    refine V.iconst F d_M_isFirstOfConflict_9 (v := nI (0)) (by decide) ?_
    exact V.zret F hr (nar_0) d_M_isFirstOfConflict_10 (⟨by rw [fc_no c6]; exact bI_f, rfl⟩)

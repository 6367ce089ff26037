theorem cf_run {spt byS : Nat → Nat} {nf j p : Nat} (hso : ∀ a b, a ≤ b → b < nf → spt (byS a) ≤ spt (byS b)) (hsu : ∀ f, f < nf → ∃ a, a < nf ∧ byS a = f) (hj : j < nf) (hfi : isF spt byS j = true) (hend : nf ≤ p ∨ (p < nf ∧ j ≤ p ∧ spt (byS p) ≠ spt (byS j))) {f : Nat} (hf : f < nf) (hs : spt f = spt (byS j)) : ∃ a, j ≤ a ∧ a < p ∧ a < nf ∧ byS a = f := by
  obtain ⟨a, ha, rfl⟩ := hsu f hf
  refine ⟨a, ?_, ?_, ha, rfl⟩
  · apply Nat.le_of_not_lt
    intro hlt
    have h1 := hso a (j - 1) (by omega) (by omega)
    have h2 := hso (j - 1) j (by omega) hj
    unfold isF at hfi
    rw [Bool.or_eq_true] at hfi
    rcases hfi with h | h
    · have := of_decide_eq_true h; omega
    · have := of_decide_eq_true h; omega
  · rcases hend with h | ⟨h1, h2, h3⟩
    · omega
    · apply Nat.lt_of_not_le
      intro hle
      have e1 := hso j p h2 h1
      have e2 := hso p a hle ha
      omega
theorem cf_no {spt byS : Nat → Nat} {val : Nat → Int64} {st : Nat → Bool} {nf j p : Nat} {b : Option Nat} (hso : ∀ a b, a ≤ b → b < nf → spt (byS a) ≤ spt (byS b)) (hsu : ∀ f, f < nf → ∃ a, a < nf ∧ byS a = f) (hj : j < nf) (hfi : isF spt byS j = true) (hend : nf ≤ p ∨ (p < nf ∧ j ≤ p ∧ spt (byS p) ≠ spt (byS j))) (hb : (b = none → ∀ a, j ≤ a → a < p → st (byS a) = false) ∧ ∀ g, b = some g → (g < nf ∧ spt g = spt (byS j) ∧ st g = true) ∧ ∀ a, j ≤ a → a < p → st (byS a) = true → val (byS a) = val g) : cfB spt val st nf (spt (byS j)) = false := by
  cases e : cfB spt val st nf (spt (byS j)) with
  | false => rfl
  | true =>
    obtain ⟨f, g, hf, hg, h1, h2, h3, h4, h5⟩ := cfB_iff.mp e
    obtain ⟨a, a1, a2, -, rfl⟩ := cf_run hso hsu hj hfi hend hf h1
    obtain ⟨c, c1, c2, -, rfl⟩ := cf_run hso hsu hj hfi hend hg h2
    cases b with
    | none => rw [hb.1 rfl a a1 a2] at h3; cases h3
    | some x =>
      obtain ⟨-, hx⟩ := hb.2 x rfl
      exact absurd ((hx a a1 a2 h3).trans (hx c c1 c2 h4).symm) h5
theorem cf_yes {spt : Nat → Nat} {val : Nat → Int64} {st : Nat → Bool} {nf s f g : Nat} (hf : f < nf) (hg : g < nf) (h1 : spt f = s) (h2 : spt g = s) (h3 : st f = true) (h4 : st g = true) (h5 : ¬ val f = val g) : cfB spt val st nf s = true := cfB_iff.mpr ⟨f, g, hf, hg, h1, h2, h3, h4, h5⟩
theorem rp_upd {Rp : Nat → Nat → Bool} {i n : Nat} (hn : n < 320) : vp_updL (rpW Rp) (i * 5 + n / 64) (rpW Rp (i * 5 + n / 64) ||| ((1 : Int64) <<< ((nI (n % 64)).toInt64 &&& 63))) = rpW (fun o k => Rp o k || (decide (o = i) && decide (k = n))) := by
  funext j
  unfold vp_updL
  by_cases hj : j = i * 5 + n / 64
  · rw [if_pos hj]
    subst hj
    rw [rpW_at (by omega), rpW_at (by omega), wd_or1]
    refine wd_eq fun b hb => ?_
    rw [decide_eq_true (rfl : i = i), Bool.true_and]
  · rw [if_neg hj]
    unfold rpW
    refine wd_eq fun b hb => ?_
    show Rp (j / 5) (64 * (j % 5) + b) = (Rp (j / 5) (64 * (j % 5) + b) || (decide (j / 5 = i) && decide (64 * (j % 5) + b = n)))
    by_cases e1 : j / 5 = i
    · have : ¬ (64 * (j % 5) + b = n) := by omega
      rw [decide_eq_false this, Bool.and_false, Bool.or_false]
    · rw [decide_eq_false e1, Bool.false_and, Bool.or_false]
theorem rp_step1 {Rp rep : Nat → Nat → Bool} {pk : Nat → Bool} {i m : Nat} (h : ∀ o n, Rp o n = (rep o n || (decide (o < i) && (pk o && decide (n = m))))) (hp : pk i = true) : ∀ o n, (fun o n => Rp o n || (decide (o = i) && decide (n = m))) o n = (rep o n || (decide (o < i + 1) && (pk o && decide (n = m)))) := by
  intro o n
  show (Rp o n || (decide (o = i) && decide (n = m))) = _
  rw [h o n]
  by_cases e : o = i
  · subst e
    simp [hp]
  · rw [decide_eq_false e, Bool.false_and, Bool.or_false, show decide (o < i + 1) = decide (o < i) from by rw [decide_eq_decide]; omega]
theorem rp_step0 {Rp rep : Nat → Nat → Bool} {pk : Nat → Bool} {i m : Nat} (h : ∀ o n, Rp o n = (rep o n || (decide (o < i) && (pk o && decide (n = m))))) (hp : pk i = false) : ∀ o n, Rp o n = (rep o n || (decide (o < i + 1) && (pk o && decide (n = m)))) := by
  intro o n
  rw [h o n]
  by_cases e : o = i
  · subst e
    simp [hp]
  · rw [show decide (o < i + 1) = decide (o < i) from by rw [decide_eq_decide]; omega]
set_option maxHeartbeats 4000000 in
set_option maxRecDepth 100000 in
theorem c_cf (l : Launch) (D : va_G) {ct : Nat → ClassId} {ad : Nat → Nat} {da : Nat → Nat → Nat} {nd : Nat} {nb : Nat} {nf : Nat} {bdk : Nat → Nat} {num : Nat → Nat} {spt : Nat → Nat} {val : Nat → Int64} {tim : Nat → Nat} {rep : Nat → Nat → Bool} {byN : Nat → Nat} {byS : Nat → Nat} {pk : Nat → Bool} {kn : Nat → Nat → Bool} {pe : Nat → Nat → Bool} {clk : Nat → Nat} {tol : Nat → Nat} {opn : Nat → Option Nat} (hnf : nf ≤ 300) (hbS : ∀ j, j < nf → byS j < nf) (hspt : ∀ k, k < nf → spt k < 2 ^ 31) (hso : ∀ a b, a ≤ b → b < nf → spt (byS a) ≤ spt (byS b)) (hsu : ∀ f, f < nf → ∃ a, a < nf ∧ byS a = f) (d : Nat) (hd0 : d < nd) (j : Nat) (hj : j < nf) (hfi : isF spt byS j = true) : CI l y_A_isConflictFrom b_A_isConflictFrom 7 (some .boolean) (rmK 3 0 0) D (tyL ct) (CW ct ad da nd nb nf bdk num spt val tim rep byN byS pk kn pe clk tol opn) [.ref (ad 3), .int (nI (j)), .ref (da (d) 1)] 0 0 (fun r u => r = bI (cfB spt val (stB (kn d) rep) nf (spt (byS j))) ∧ u = CW ct ad da nd nb nf bdk num spt val tim rep byN byS pk kn pe clk tol opn) := by
  refine CI.start (by decide) (Nat.le_of_ble_eq_true rfl) ?_
  intro p e s m below meth c F hr hnm
  show V p l e (rmK 3 0 0) s m [.ref (ad 3), .int (nI (j)), .ref (da (d) 1)].toArray below meth c D (va_A (CW ct ad da nd nb nf bdk num spt val tim rep byN byS pk kn pe clk tol opn) s.heap.size) 7 0 0 (EI D below (CW ct ad da nd nb nf bdk num spt val tim rep byN byS pk kn pe clk tol opn) [.ref (ad 3), .int (nI (j)), .ref (da (d) 1)].toArray s 0 0 (fun r u => r = bI (cfB spt val (stB (kn d) rep) nf (spt (byS j))) ∧ u = CW ct ad da nd nb nf bdk num spt val tim rep byN byS pk kn pe clk tol opn)) (CW ct ad da nd nb nf bdk num spt val tim rep byN byS pk kn pe clk tol opn) [(0, .ref (ad 3)), (1, .int (nI (j))), (2, .ref (da (d) 1))] 0 []
  have hb1 := hbS j hj
  have hs1 := hspt _ hb1
  refine V.aload_n F d_A_isConflictFrom_0 rfl 0 rfl ?_
  refine V.get F ck_A d_A_isConflictFrom_1 1 (by decide) lk_A_15 3 rfl rfl ?_
  refine V.aload_n F d_A_isConflictFrom_4 rfl 0 rfl ?_
  refine V.get F ck_A d_A_isConflictFrom_5 6 (by decide) lk_A_33 3 rfl rfl ?_
  refine V.iload_n F d_A_isConflictFrom_8 rfl 1 rfl ?_
  refine V.iald (v := nI (byS (j))) F d_A_isConflictFrom_9 10 0 rfl rfl (by omega) (by decide) rfl ?_
  refine V.iald (v := nI (spt (byS (j)))) F d_A_isConflictFrom_10 5 0 rfl rfl (by omega) (by decide) rfl ?_
  refine V.istore_n (lv2 := [(3, .int (nI (spt (byS (j))))), (0, .ref (ad 3)), (1, .int (nI (j))), (2, .ref (da (d) 1))]) F d_A_isConflictFrom_11 rfl (by decide) rfl ?_
  refine V.iconst F d_A_isConflictFrom_12 (v := -1) (by decide) ?_
  refine V.istore (lv2 := [(4, .int (-1)), (3, .int (nI (spt (byS (j))))), (0, .ref (ad 3)), (1, .int (nI (j))), (2, .ref (da (d) 1))]) F d_A_isConflictFrom_13 (by decide) rfl ?_
  refine V.iload_n F d_A_isConflictFrom_15 rfl 3 rfl ?_
  refine V.istore (lv2 := [(5, .int (nI (j))), (4, .int (-1)), (3, .int (nI (spt (byS (j))))), (0, .ref (ad 3)), (1, .int (nI (j))), (2, .ref (da (d) 1))]) F d_A_isConflictFrom_16 (by decide) rfl ?_
  have L18 : ∀ (n9 : Nat) (pa : Nat) (b : Option Nat), nf - pa < n9 → (j ≤ pa) → (pa ≤ nf) → (∀ a, j ≤ a → a < pa → spt (byS a) = spt (byS j)) → ((b = none → ∀ a, j ≤ a → a < pa → (stB (kn d) rep) (byS a) = false) ∧ ∀ g, b = some g → (g < nf ∧ spt g = spt (byS j) ∧ (stB (kn d) rep) g = true) ∧ ∀ a, j ≤ a → a < pa → (stB (kn d) rep) (byS a) = true → val (byS a) = val g) → V p l e (rmK 3 0 0) s m [.ref (ad 3), .int (nI (j)), .ref (da (d) 1)].toArray below meth c D (va_A (CW ct ad da nd nb nf bdk num spt val tim rep byN byS pk kn pe clk tol opn) s.heap.size) 7 0 0 (EI D below (CW ct ad da nd nb nf bdk num spt val tim rep byN byS pk kn pe clk tol opn) [.ref (ad 3), .int (nI (j)), .ref (da (d) 1)].toArray s 0 0 (fun r u => r = bI (cfB spt val (stB (kn d) rep) nf (spt (byS j))) ∧ u = CW ct ad da nd nb nf bdk num spt val tim rep byN byS pk kn pe clk tol opn)) (CW ct ad da nd nb nf bdk num spt val tim rep byN byS pk kn pe clk tol opn) [(5, .int (nI (pa))), (4, .int (oI b)), (3, .int (nI (spt (byS (j))))), (0, .ref (ad 3)), (1, .int (nI (j))), (2, .ref (da (d) 1))] 18 [] := by
    intro n9
    induction n9 with
    | zero => intro pa b h9 hp1 hp2 hrun hb; exact absurd h9 (Nat.not_lt_zero _)
    | succ n9 ih18 =>
      intro pa b h9 hp1 hp2 hrun hb
      refine V.iload F d_A_isConflictFrom_18 0 rfl ?_
      refine V.aload_n F d_A_isConflictFrom_20 rfl 3 rfl ?_
      refine V.get F ck_A d_A_isConflictFrom_21 7 (by decide) lk_A_36 3 rfl rfl ?_
      refine V.icmp_geN (tgt := 101) F d_A_isConflictFrom_24 (by decide) (by omega) (by omega) (fun c24 => ?_) (fun c24 => ?_)
      · skip
        refine V.iconst F d_A_isConflictFrom_101 (v := nI (0)) (by decide) ?_
        exact V.zret F hr (nar_0) d_A_isConflictFrom_102 (⟨by rw [cf_no (st := (stB (kn d) rep)) hso hsu hj hfi (Or.inl c24) hb]; exact bI_f, rfl⟩)
      · skip
        have hb9 := hbS pa (by omega)
        have hs9 := hspt _ hb9
        refine V.aload_n F d_A_isConflictFrom_27 rfl 3 rfl ?_
        refine V.get F ck_A d_A_isConflictFrom_28 1 (by decide) lk_A_15 3 rfl rfl ?_
        refine V.aload_n F d_A_isConflictFrom_31 rfl 3 rfl ?_
        refine V.get F ck_A d_A_isConflictFrom_32 6 (by decide) lk_A_33 3 rfl rfl ?_
        refine V.iload F d_A_isConflictFrom_35 0 rfl ?_
        refine V.iald (v := nI (byS (pa))) F d_A_isConflictFrom_37 10 0 rfl rfl (by omega) (by decide) rfl ?_
        refine V.iald (v := nI (spt (byS (pa)))) F d_A_isConflictFrom_38 5 0 rfl rfl (by omega) (by decide) rfl ?_
        refine V.iload_n F d_A_isConflictFrom_39 rfl 2 rfl ?_
        refine V.icmp_neN (tgt := 101) F d_A_isConflictFrom_40 (by decide) (by omega) (by omega) (fun c40 => ?_) (fun c40 => ?_)
        · skip
          refine V.iconst F d_A_isConflictFrom_101 (v := nI (0)) (by decide) ?_
          exact V.zret F hr (nar_0) d_A_isConflictFrom_102 (⟨by rw [cf_no (st := (stB (kn d) rep)) hso hsu hj hfi (Or.inr ⟨by omega, hp1, c40⟩) hb]; exact bI_f, rfl⟩)
        · skip
          refine V.aload_n F d_A_isConflictFrom_43 rfl 3 rfl ?_
          refine V.get F ck_A d_A_isConflictFrom_44 6 (by decide) lk_A_33 3 rfl rfl ?_
          refine V.iload F d_A_isConflictFrom_47 0 rfl ?_
          refine V.iald (v := nI (byS (pa))) F d_A_isConflictFrom_49 10 0 rfl rfl (by omega) (by decide) rfl ?_
          refine V.istore (lv2 := [(6, .int (nI (byS (pa)))), (5, .int (nI (pa))), (4, .int (oI b)), (3, .int (nI (spt (byS (j))))), (0, .ref (ad 3)), (1, .int (nI (j))), (2, .ref (da (d) 1))]) F d_A_isConflictFrom_50 (by decide) rfl ?_
          refine V.aload_n F d_A_isConflictFrom_52 rfl 4 rfl ?_
          refine V.aload_n F d_A_isConflictFrom_53 rfl 6 rfl ?_
          refine V.iload F d_A_isConflictFrom_54 0 rfl ?_
          refine V.callVI0 (As := [.ref (da (d) 1), .int (nI (byS (pa)))]) (rest := []) F (c_stands l D (some (d, false)) hd0 (byS pa) (by omega)) d_A_isConflictFrom_56 sv_A_54 im_y_A_standsAmong sl_y_A_standsAmong 3 rfl rfl rfl rfl rfl (Nat.le_of_ble_eq_true rfl) ⟨rfl, rfl, (Nat.le_of_ble_eq_true rfl), (Nat.le_of_ble_eq_true rfl)⟩ ⟨(Nat.le_of_ble_eq_true rfl), (Nat.le_of_ble_eq_true rfl)⟩ (fun r9 u9 h9 => ?_)
          obtain ⟨rfl, rfl⟩ := h9
          refine V.if_eqB (b := stB (kn (d)) rep (byS (pa))) (tgt := 95) F d_A_isConflictFrom_59 (by decide) (fun c59 => ?_) (fun c59 => ?_)
          · skip
            refine V.iincN (k := 1) (lv2 := [(5, .int (nI (pa + 1))), (6, .int (nI (byS (pa)))), (4, .int (oI b)), (3, .int (nI (spt (byS (j))))), (0, .ref (ad 3)), (1, .int (nI (j))), (2, .ref (da (d) 1))]) F d_A_isConflictFrom_95 1 rfl (by decide) (by decide) rfl ?_
            refine V.goto (tgt := 18) F d_A_isConflictFrom_98 (by decide) ?_
            refine V.lvs [0, 2, 3, 4, 5, 6] rfl ?_
            exact ih18 (pa + 1) (b) (by omega) (by omega) (by omega) (fun a a1 a2 => by
          by_cases e9 : a = pa
          · rw [e9]; exact c40
          · exact hrun a a1 (by omega)) (⟨fun q a a1 a2 => by
          by_cases e9 : a = pa
          · rw [e9]; exact c59
          · exact hb.1 q a a1 (by omega), fun g q => ⟨(hb.2 g q).1, fun a a1 a2 a3 => by
          by_cases e9 : a = pa
          · rw [e9, c59] at a3; cases a3
          · exact (hb.2 g q).2 a a1 (by omega) a3⟩⟩)
          · skip
            refine V.iload F d_A_isConflictFrom_62 2 rfl ?_
            refine V.iconst F d_A_isConflictFrom_64 (v := -1) (by decide) ?_
            refine V.icmp_ne (x := oI b) (y := -1) (tgt := 75) F d_A_isConflictFrom_65 (by decide) (fun c65 => ?_) (fun c65 => ?_)
            · skip
              obtain ⟨g, rfl⟩ := oI_some c65
              have hg9 := (hb.2 g rfl).1.1
              refine V.aload_n F d_A_isConflictFrom_75 rfl 4 rfl ?_
              refine V.get F ck_A d_A_isConflictFrom_76 2 (by decide) lk_A_18 3 rfl rfl ?_
              refine V.iload F d_A_isConflictFrom_79 0 rfl ?_
              refine V.lald (v := val (byS (pa))) F d_A_isConflictFrom_81 6 1 rfl rfl (by omega) (by decide) rfl ?_
              refine V.aload_n F d_A_isConflictFrom_82 rfl 4 rfl ?_
              refine V.get F ck_A d_A_isConflictFrom_83 2 (by decide) lk_A_18 3 rfl rfl ?_
              refine V.iload F d_A_isConflictFrom_86 2 rfl ?_
              refine V.lald (v := val (g)) F d_A_isConflictFrom_88 6 1 rfl rfl (by omega) (by decide) rfl ?_
              refine V.lcmp_eq (tgt := 95) F d_A_isConflictFrom_89 d_A_isConflictFrom_90 (by decide) (fun c89 => ?_) (fun c89 => ?_)
              · skip
                refine V.iincN (k := 1) (lv2 := [(5, .int (nI (pa + 1))), (6, .int (nI (byS (pa)))), (4, .int (nI (g))), (3, .int (nI (spt (byS (j))))), (0, .ref (ad 3)), (1, .int (nI (j))), (2, .ref (da (d) 1))]) F d_A_isConflictFrom_95 1 rfl (by decide) (by decide) rfl ?_
                refine V.goto (tgt := 18) F d_A_isConflictFrom_98 (by decide) ?_
                refine V.lvs [0, 2, 3, 4, 5, 6] rfl ?_
                exact ih18 (pa + 1) (some g) (by omega) (by omega) (by omega) (fun a a1 a2 => by
          by_cases e9 : a = pa
          · rw [e9]; exact c40
          · exact hrun a a1 (by omega)) (⟨fun q => (by cases q), fun x q => by cases q; exact ⟨(hb.2 g rfl).1, fun a a1 a2 a3 => by
          by_cases e9 : a = pa
          · rw [e9]; exact c89
          · exact (hb.2 g rfl).2 a a1 (by omega) a3⟩⟩)
              · skip
                refine V.iconst F d_A_isConflictFrom_93 (v := nI (1)) (by decide) ?_
                exact V.zret F hr (nar_1) d_A_isConflictFrom_94 (⟨by rw [cf_yes (st := (stB (kn d) rep)) hb9 (hb.2 g rfl).1.1 c40 (hb.2 g rfl).1.2.1 c59 (hb.2 g rfl).1.2.2 c89]; exact bI_t, rfl⟩)
            · skip
              refine V.iload F d_A_isConflictFrom_68 0 rfl ?_
              refine V.istore (lv2 := [(4, .int (nI (byS (pa)))), (6, .int (nI (byS (pa)))), (5, .int (nI (pa))), (3, .int (nI (spt (byS (j))))), (0, .ref (ad 3)), (1, .int (nI (j))), (2, .ref (da (d) 1))]) F d_A_isConflictFrom_70 (by decide) rfl ?_
              refine V.goto (tgt := 95) F d_A_isConflictFrom_72 (by decide) ?_
              refine V.iincN (k := 1) (lv2 := [(5, .int (nI (pa + 1))), (4, .int (nI (byS (pa)))), (6, .int (nI (byS (pa)))), (3, .int (nI (spt (byS (j))))), (0, .ref (ad 3)), (1, .int (nI (j))), (2, .ref (da (d) 1))]) F d_A_isConflictFrom_95 2 rfl (by decide) (by decide) rfl ?_
              refine V.goto (tgt := 18) F d_A_isConflictFrom_98 (by decide) ?_
              refine V.lvs [0, 1, 3, 4, 5, 6] rfl ?_
              exact ih18 (pa + 1) (some (byS pa)) (by omega) (by omega) (by omega) (fun a a1 a2 => by
          by_cases e9 : a = pa
          · rw [e9]; exact c40
          · exact hrun a a1 (by omega)) (⟨fun q => (by cases q), fun g q => by cases q; exact ⟨⟨hb9, c40, c59⟩, fun a a1 a2 a3 => by
          by_cases e9 : a = pa
          · rw [e9]
          · rw [hb.1 (oI_none (fun g q => by have := (hb.2 g q).1.1; omega) c65) a a1 (by omega)] at a3; cases a3⟩⟩)
  exact L18 _ (j) (none) (Nat.lt_succ_self _) (by omega) (by omega) (fun a a1 a2 => absurd a1 (by omega)) (⟨fun _ a a1 a2 => absurd a1 (by omega), fun g q => (by cases q)⟩)

set_option maxHeartbeats 4000000 in
set_option maxRecDepth 100000 in
theorem c_countCf (l : Launch) (D : va_G) {ct : Nat → ClassId} {ad : Nat → Nat} {da : Nat → Nat → Nat} {nd : Nat} {nb : Nat} {nf : Nat} {bdk : Nat → Nat} {num : Nat → Nat} {spt : Nat → Nat} {val : Nat → Int64} {tim : Nat → Nat} {rep : Nat → Nat → Bool} {byN : Nat → Nat} {byS : Nat → Nat} {pk : Nat → Bool} {kn : Nat → Nat → Bool} {pe : Nat → Nat → Bool} {clk : Nat → Nat} {tol : Nat → Nat} {opn : Nat → Option Nat} (hnf : nf ≤ 300) (hbS : ∀ j, j < nf → byS j < nf) (hspt : ∀ k, k < nf → spt k < 2 ^ 31) (hso : ∀ a b, a ≤ b → b < nf → spt (byS a) ≤ spt (byS b)) (hsu : ∀ f, f < nf → ∃ a, a < nf ∧ byS a = f) (d : Nat) (hd0 : d < nd) : CI l y_A_countConflicts b_A_countConflicts 4 (some .int) (rmK 4 0 0) D (tyL ct) (CW ct ad da nd nb nf bdk num spt val tim rep byN byS pk kn pe clk tol opn) [.ref (ad 3), .ref (da (d) 1)] 0 0 (fun r u => r = nI (cnt (fun a => isF spt byS a && cfB spt val (stB (kn d) rep) nf (spt (byS a))) nf) ∧ u = CW ct ad da nd nb nf bdk num spt val tim rep byN byS pk kn pe clk tol opn) := by
  refine CI.start (by decide) (Nat.le_of_ble_eq_true rfl) ?_
  intro p e s m below meth c F hr hnm
  show V p l e (rmK 4 0 0) s m [.ref (ad 3), .ref (da (d) 1)].toArray below meth c D (va_A (CW ct ad da nd nb nf bdk num spt val tim rep byN byS pk kn pe clk tol opn) s.heap.size) 4 0 0 (EI D below (CW ct ad da nd nb nf bdk num spt val tim rep byN byS pk kn pe clk tol opn) [.ref (ad 3), .ref (da (d) 1)].toArray s 0 0 (fun r u => r = nI (cnt (fun a => isF spt byS a && cfB spt val (stB (kn d) rep) nf (spt (byS a))) nf) ∧ u = CW ct ad da nd nb nf bdk num spt val tim rep byN byS pk kn pe clk tol opn)) (CW ct ad da nd nb nf bdk num spt val tim rep byN byS pk kn pe clk tol opn) [(0, .ref (ad 3)), (1, .ref (da (d) 1))] 0 []
  refine V.iconst F d_A_countConflicts_0 (v := nI (0)) (by decide) ?_
  refine V.istore_n (lv2 := [(2, .int (nI (0))), (0, .ref (ad 3)), (1, .ref (da (d) 1))]) F d_A_countConflicts_1 rfl (by decide) rfl ?_
  refine V.iconst F d_A_countConflicts_2 (v := nI (0)) (by decide) ?_
  refine V.istore_n (lv2 := [(3, .int (nI (0))), (2, .int (nI (0))), (0, .ref (ad 3)), (1, .ref (da (d) 1))]) F d_A_countConflicts_3 rfl (by decide) rfl ?_
  have L4 : ∀ (n9 : Nat) (i : Nat) (z : Nat), nf - i < n9 → (i ≤ nf) → (z = cnt (fun a => isF spt byS a && cfB spt val (stB (kn d) rep) nf (spt (byS a))) i) → V p l e (rmK 4 0 0) s m [.ref (ad 3), .ref (da (d) 1)].toArray below meth c D (va_A (CW ct ad da nd nb nf bdk num spt val tim rep byN byS pk kn pe clk tol opn) s.heap.size) 4 0 0 (EI D below (CW ct ad da nd nb nf bdk num spt val tim rep byN byS pk kn pe clk tol opn) [.ref (ad 3), .ref (da (d) 1)].toArray s 0 0 (fun r u => r = nI (cnt (fun a => isF spt byS a && cfB spt val (stB (kn d) rep) nf (spt (byS a))) nf) ∧ u = CW ct ad da nd nb nf bdk num spt val tim rep byN byS pk kn pe clk tol opn)) (CW ct ad da nd nb nf bdk num spt val tim rep byN byS pk kn pe clk tol opn) [(3, .int (nI (i))), (2, .int (nI (z))), (0, .ref (ad 3)), (1, .ref (da (d) 1))] 4 [] := by
    intro n9
    induction n9 with
    | zero => intro i z h9 hi hz; exact absurd h9 (Nat.not_lt_zero _)
    | succ n9 ih4 =>
      intro i z h9 hi hz
      refine V.iload_n F d_A_countConflicts_4 rfl 0 rfl ?_
      refine V.aload_n F d_A_countConflicts_5 rfl 2 rfl ?_
      refine V.get F ck_A d_A_countConflicts_6 7 (by decide) lk_A_36 3 rfl rfl ?_
      refine V.icmp_geN (tgt := 38) F d_A_countConflicts_9 (by decide) (by omega) (by omega) (fun c9 => ?_) (fun c9 => ?_)
      · skip
        refine V.iload_n F d_A_countConflicts_38 rfl 1 rfl ?_
        exact V.iret F hr d_A_countConflicts_39 (⟨by rw [hz, show nf = i by omega], rfl⟩)
      · skip
        refine V.aload_n F d_A_countConflicts_12 rfl 2 rfl ?_
        refine V.iload_n F d_A_countConflicts_13 rfl 0 rfl ?_
        refine V.callVI0 (As := [.int (nI (i))]) (rest := []) F (c_isFirst l D hnf hbS hspt i (by omega)) d_A_countConflicts_14 sv_A_74 im_y_A_isFirstOfSpot sl_y_A_isFirstOfSpot 3 rfl rfl rfl rfl rfl (Nat.le_of_ble_eq_true rfl) ⟨rfl, rfl, (Nat.le_of_ble_eq_true rfl), (Nat.le_of_ble_eq_true rfl)⟩ ⟨(Nat.le_of_ble_eq_true rfl), (Nat.le_of_ble_eq_true rfl)⟩ (fun r9 u9 h9 => ?_)
        obtain ⟨rfl, rfl⟩ := h9
        refine V.if_eqB (b := isF spt byS (i)) (tgt := 32) F d_A_countConflicts_17 (by decide) (fun c17 => ?_) (fun c17 => ?_)
        · skip
          refine V.iincN (k := 1) (lv2 := [(3, .int (nI (i + 1))), (2, .int (nI (z))), (0, .ref (ad 3)), (1, .ref (da (d) 1))]) F d_A_countConflicts_32 0 rfl (by decide) (by decide) rfl ?_
          refine V.goto (tgt := 4) F d_A_countConflicts_35 (by decide) ?_
          exact ih4 (i + 1) (z) (by omega) (by omega) (by rw [hz, cnt, if_neg (by show ¬ (isF spt byS i && cfB spt val (stB (kn d) rep) nf (spt (byS i))) = true; rw [c17]; simp)]; rfl)
        · skip
          refine V.aload_n F d_A_countConflicts_20 rfl 2 rfl ?_
          refine V.iload_n F d_A_countConflicts_21 rfl 0 rfl ?_
          refine V.aload_n F d_A_countConflicts_22 rfl 3 rfl ?_
          refine V.callVI0 (As := [.int (nI (i)), .ref (da (d) 1)]) (rest := []) F (c_cf l D hnf hbS hspt hso hsu d hd0 i (by omega) c17) d_A_countConflicts_23 sv_A_77 im_y_A_isConflictFrom sl_y_A_isConflictFrom 3 rfl rfl rfl rfl rfl (Nat.le_of_ble_eq_true rfl) ⟨rfl, rfl, (Nat.le_of_ble_eq_true rfl), (Nat.le_of_ble_eq_true rfl)⟩ ⟨(Nat.le_of_ble_eq_true rfl), (Nat.le_of_ble_eq_true rfl)⟩ (fun r9 u9 h9 => ?_)
          obtain ⟨rfl, rfl⟩ := h9
          refine V.if_eqB (b := cfB spt val (stB (kn d) rep) nf (spt (byS (i)))) (tgt := 32) F d_A_countConflicts_26 (by decide) (fun c26 => ?_) (fun c26 => ?_)
          · skip
            refine V.iincN (k := 1) (lv2 := [(3, .int (nI (i + 1))), (2, .int (nI (z))), (0, .ref (ad 3)), (1, .ref (da (d) 1))]) F d_A_countConflicts_32 0 rfl (by decide) (by decide) rfl ?_
            refine V.goto (tgt := 4) F d_A_countConflicts_35 (by decide) ?_
            exact ih4 (i + 1) (z) (by omega) (by omega) (by rw [hz, cnt, if_neg (by show ¬ (isF spt byS i && cfB spt val (stB (kn d) rep) nf (spt (byS i))) = true; rw [c26]; simp)]; rfl)
          · skip
            refine V.iincN (k := 1) (lv2 := [(2, .int (nI (z + 1))), (3, .int (nI (i))), (0, .ref (ad 3)), (1, .ref (da (d) 1))]) F d_A_countConflicts_29 1 rfl (by decide) (by decide) rfl ?_
            refine V.iincN (k := 1) (lv2 := [(3, .int (nI (i + 1))), (2, .int (nI (z + 1))), (0, .ref (ad 3)), (1, .ref (da (d) 1))]) F d_A_countConflicts_32 1 rfl (by decide) (by decide) rfl ?_
            refine V.goto (tgt := 4) F d_A_countConflicts_35 (by decide) ?_
            exact ih4 (i + 1) (z + 1) (by omega) (by omega) (by rw [hz, cnt, if_pos (by show (isF spt byS i && _) = true; rw [c17, c26]; rfl)])
  exact L4 _ (0) (0) (Nat.lt_succ_self _) (by omega) (rfl)

set_option maxHeartbeats 4000000 in
set_option maxRecDepth 100000 in
theorem c_cfSpot (l : Launch) (D : va_G) {ct : Nat → ClassId} {ad : Nat → Nat} {da : Nat → Nat → Nat} {nd : Nat} {nb : Nat} {nf : Nat} {bdk : Nat → Nat} {num : Nat → Nat} {spt : Nat → Nat} {val : Nat → Int64} {tim : Nat → Nat} {rep : Nat → Nat → Bool} {byN : Nat → Nat} {byS : Nat → Nat} {pk : Nat → Bool} {kn : Nat → Nat → Bool} {pe : Nat → Nat → Bool} {clk : Nat → Nat} {tol : Nat → Nat} {opn : Nat → Option Nat} (hnf : nf ≤ 300) (hbS : ∀ j, j < nf → byS j < nf) (hspt : ∀ k, k < nf → spt k < 2 ^ 31) (hso : ∀ a b, a ≤ b → b < nf → spt (byS a) ≤ spt (byS b)) (hsu : ∀ f, f < nf → ∃ a, a < nf ∧ byS a = f) (d : Nat) (hd0 : d < nd) (lo : Nat) (hlo : lo < 2 ^ 31) (k : Int32) : CI l y_A_conflictSpot b_A_conflictSpot 7 (some .int) (rmK 4 0 0) D (tyL ct) (CW ct ad da nd nb nf bdk num spt val tim rep byN byS pk kn pe clk tol opn) [.ref (ad 3), .ref (da (d) 1), .int (nI (lo)), .int (k)] 0 0 (fun r u => ((∃ m, m < nf ∧ (fun a => decide (lo ≤ spt (byS a)) && (isF spt byS a && cfB spt val (stB (kn d) rep) nf (spt (byS a)))) m = true ∧ k = nI (cnt (fun a => decide (lo ≤ spt (byS a)) && (isF spt byS a && cfB spt val (stB (kn d) rep) nf (spt (byS a)))) m) ∧ r = nI (spt (byS m))) ∨ ((∀ m, m < nf → (fun a => decide (lo ≤ spt (byS a)) && (isF spt byS a && cfB spt val (stB (kn d) rep) nf (spt (byS a)))) m = true → ¬ k = nI (cnt (fun a => decide (lo ≤ spt (byS a)) && (isF spt byS a && cfB spt val (stB (kn d) rep) nf (spt (byS a)))) m)) ∧ r = -1)) ∧ u = CW ct ad da nd nb nf bdk num spt val tim rep byN byS pk kn pe clk tol opn) := by
  refine CI.start (by decide) (Nat.le_of_ble_eq_true rfl) ?_
  intro p e s m below meth c F hr hnm
  show V p l e (rmK 4 0 0) s m [.ref (ad 3), .ref (da (d) 1), .int (nI (lo)), .int (k)].toArray below meth c D (va_A (CW ct ad da nd nb nf bdk num spt val tim rep byN byS pk kn pe clk tol opn) s.heap.size) 7 0 0 (EI D below (CW ct ad da nd nb nf bdk num spt val tim rep byN byS pk kn pe clk tol opn) [.ref (ad 3), .ref (da (d) 1), .int (nI (lo)), .int (k)].toArray s 0 0 (fun r u => ((∃ m, m < nf ∧ (fun a => decide (lo ≤ spt (byS a)) && (isF spt byS a && cfB spt val (stB (kn d) rep) nf (spt (byS a)))) m = true ∧ k = nI (cnt (fun a => decide (lo ≤ spt (byS a)) && (isF spt byS a && cfB spt val (stB (kn d) rep) nf (spt (byS a)))) m) ∧ r = nI (spt (byS m))) ∨ ((∀ m, m < nf → (fun a => decide (lo ≤ spt (byS a)) && (isF spt byS a && cfB spt val (stB (kn d) rep) nf (spt (byS a)))) m = true → ¬ k = nI (cnt (fun a => decide (lo ≤ spt (byS a)) && (isF spt byS a && cfB spt val (stB (kn d) rep) nf (spt (byS a)))) m)) ∧ r = -1)) ∧ u = CW ct ad da nd nb nf bdk num spt val tim rep byN byS pk kn pe clk tol opn)) (CW ct ad da nd nb nf bdk num spt val tim rep byN byS pk kn pe clk tol opn) [(0, .ref (ad 3)), (1, .ref (da (d) 1)), (2, .int (nI (lo))), (3, .int (k))] 0 []
  refine V.iconst F d_A_conflictSpot_0 (v := nI (0)) (by decide) ?_
  refine V.istore (lv2 := [(4, .int (nI (0))), (0, .ref (ad 3)), (1, .ref (da (d) 1)), (2, .int (nI (lo))), (3, .int (k))]) F d_A_conflictSpot_1 (by decide) rfl ?_
  refine V.iconst F d_A_conflictSpot_3 (v := nI (0)) (by decide) ?_
  refine V.istore (lv2 := [(5, .int (nI (0))), (4, .int (nI (0))), (0, .ref (ad 3)), (1, .ref (da (d) 1)), (2, .int (nI (lo))), (3, .int (k))]) F d_A_conflictSpot_4 (by decide) rfl ?_
  have L6 : ∀ (n9 : Nat) (i : Nat) (z : Nat), nf - i < n9 → (i ≤ nf) → (z = cnt (fun a => decide (lo ≤ spt (byS a)) && (isF spt byS a && cfB spt val (stB (kn d) rep) nf (spt (byS a)))) i) → (∀ m, m < i → (fun a => decide (lo ≤ spt (byS a)) && (isF spt byS a && cfB spt val (stB (kn d) rep) nf (spt (byS a)))) m = true → ¬ k = nI (cnt (fun a => decide (lo ≤ spt (byS a)) && (isF spt byS a && cfB spt val (stB (kn d) rep) nf (spt (byS a)))) m)) → V p l e (rmK 4 0 0) s m [.ref (ad 3), .ref (da (d) 1), .int (nI (lo)), .int (k)].toArray below meth c D (va_A (CW ct ad da nd nb nf bdk num spt val tim rep byN byS pk kn pe clk tol opn) s.heap.size) 7 0 0 (EI D below (CW ct ad da nd nb nf bdk num spt val tim rep byN byS pk kn pe clk tol opn) [.ref (ad 3), .ref (da (d) 1), .int (nI (lo)), .int (k)].toArray s 0 0 (fun r u => ((∃ m, m < nf ∧ (fun a => decide (lo ≤ spt (byS a)) && (isF spt byS a && cfB spt val (stB (kn d) rep) nf (spt (byS a)))) m = true ∧ k = nI (cnt (fun a => decide (lo ≤ spt (byS a)) && (isF spt byS a && cfB spt val (stB (kn d) rep) nf (spt (byS a)))) m) ∧ r = nI (spt (byS m))) ∨ ((∀ m, m < nf → (fun a => decide (lo ≤ spt (byS a)) && (isF spt byS a && cfB spt val (stB (kn d) rep) nf (spt (byS a)))) m = true → ¬ k = nI (cnt (fun a => decide (lo ≤ spt (byS a)) && (isF spt byS a && cfB spt val (stB (kn d) rep) nf (spt (byS a)))) m)) ∧ r = -1)) ∧ u = CW ct ad da nd nb nf bdk num spt val tim rep byN byS pk kn pe clk tol opn)) (CW ct ad da nd nb nf bdk num spt val tim rep byN byS pk kn pe clk tol opn) [(5, .int (nI (i))), (4, .int (nI (z))), (0, .ref (ad 3)), (1, .ref (da (d) 1)), (2, .int (nI (lo))), (3, .int (k))] 6 [] := by
    intro n9
    induction n9 with
    | zero => intro i z h9 hi hz hin; exact absurd h9 (Nat.not_lt_zero _)
    | succ n9 ih6 =>
      intro i z h9 hi hz hin
      refine V.iload F d_A_conflictSpot_6 0 rfl ?_
      refine V.aload_n F d_A_conflictSpot_8 rfl 2 rfl ?_
      refine V.get F ck_A d_A_conflictSpot_9 7 (by decide) lk_A_36 3 rfl rfl ?_
      refine V.icmp_geN (tgt := 72) F d_A_conflictSpot_12 (by decide) (by omega) (by omega) (fun c12 => ?_) (fun c12 => ?_)
      · skip
        refine V.iconst F d_A_conflictSpot_72 (v := -1) (by decide) ?_
        exact V.iret F hr d_A_conflictSpot_73 (⟨Or.inr ⟨fun m hm => hin m (by omega), rfl⟩, rfl⟩)
      · skip
        have hb9 := hbS i (by omega)
        have hs9 := hspt _ hb9
        refine V.aload_n F d_A_conflictSpot_15 rfl 2 rfl ?_
        refine V.get F ck_A d_A_conflictSpot_16 1 (by decide) lk_A_15 3 rfl rfl ?_
        refine V.aload_n F d_A_conflictSpot_19 rfl 2 rfl ?_
        refine V.get F ck_A d_A_conflictSpot_20 6 (by decide) lk_A_33 3 rfl rfl ?_
        refine V.iload F d_A_conflictSpot_23 0 rfl ?_
        refine V.iald (v := nI (byS (i))) F d_A_conflictSpot_25 10 0 rfl rfl (by omega) (by decide) rfl ?_
        refine V.iald (v := nI (spt (byS (i)))) F d_A_conflictSpot_26 5 0 rfl rfl (by omega) (by decide) rfl ?_
        refine V.istore (lv2 := [(6, .int (nI (spt (byS (i))))), (5, .int (nI (i))), (4, .int (nI (z))), (0, .ref (ad 3)), (1, .ref (da (d) 1)), (2, .int (nI (lo))), (3, .int (k))]) F d_A_conflictSpot_27 (by decide) rfl ?_
        refine V.iload F d_A_conflictSpot_29 0 rfl ?_
        refine V.iload_n F d_A_conflictSpot_31 rfl 5 rfl ?_
        refine V.icmp_ltN (tgt := 66) F d_A_conflictSpot_32 (by decide) (by omega) (by omega) (fun c32 => ?_) (fun c32 => ?_)
        · skip
          refine V.iincN (k := 1) (lv2 := [(5, .int (nI (i + 1))), (6, .int (nI (spt (byS (i))))), (4, .int (nI (z))), (0, .ref (ad 3)), (1, .ref (da (d) 1)), (2, .int (nI (lo))), (3, .int (k))]) F d_A_conflictSpot_66 1 rfl (by decide) (by decide) rfl ?_
          refine V.goto (tgt := 6) F d_A_conflictSpot_69 (by decide) ?_
          refine V.lvs [0, 2, 3, 4, 5, 6] rfl ?_
          exact ih6 (i + 1) (z) (by omega) (by omega) (by rw [hz, cnt, if_neg (show ¬ (decide (lo ≤ spt (byS i)) && (isF spt byS i && cfB spt val (stB (kn d) rep) nf (spt (byS i)))) = true by rw [decide_eq_false (by omega : ¬ lo ≤ spt (byS i))]; simp)]; rfl) (ord_step hin (fun q _ => absurd q (show ¬ (decide (lo ≤ spt (byS i)) && (isF spt byS i && cfB spt val (stB (kn d) rep) nf (spt (byS i)))) = true by rw [decide_eq_false (by omega : ¬ lo ≤ spt (byS i))]; simp)))
        · skip
          refine V.aload_n F d_A_conflictSpot_35 rfl 3 rfl ?_
          refine V.iload F d_A_conflictSpot_36 1 rfl ?_
          refine V.callVI0 (As := [.int (nI (i))]) (rest := []) F (c_isFirst l D hnf hbS hspt i (by omega)) d_A_conflictSpot_38 sv_A_74 im_y_A_isFirstOfSpot sl_y_A_isFirstOfSpot 3 rfl rfl rfl rfl rfl (Nat.le_of_ble_eq_true rfl) ⟨rfl, rfl, (Nat.le_of_ble_eq_true rfl), (Nat.le_of_ble_eq_true rfl)⟩ ⟨(Nat.le_of_ble_eq_true rfl), (Nat.le_of_ble_eq_true rfl)⟩ (fun r9 u9 h9 => ?_)
          obtain ⟨rfl, rfl⟩ := h9
          refine V.if_eqB (b := isF spt byS (i)) (tgt := 66) F d_A_conflictSpot_41 (by decide) (fun c41 => ?_) (fun c41 => ?_)
          · skip
            refine V.iincN (k := 1) (lv2 := [(5, .int (nI (i + 1))), (6, .int (nI (spt (byS (i))))), (4, .int (nI (z))), (0, .ref (ad 3)), (1, .ref (da (d) 1)), (2, .int (nI (lo))), (3, .int (k))]) F d_A_conflictSpot_66 1 rfl (by decide) (by decide) rfl ?_
            refine V.goto (tgt := 6) F d_A_conflictSpot_69 (by decide) ?_
            refine V.lvs [0, 2, 3, 4, 5, 6] rfl ?_
            exact ih6 (i + 1) (z) (by omega) (by omega) (by rw [hz, cnt, if_neg (show ¬ (decide (lo ≤ spt (byS i)) && (isF spt byS i && cfB spt val (stB (kn d) rep) nf (spt (byS i)))) = true by rw [c41]; simp)]; rfl) (ord_step hin (fun q _ => absurd q (show ¬ (decide (lo ≤ spt (byS i)) && (isF spt byS i && cfB spt val (stB (kn d) rep) nf (spt (byS i)))) = true by rw [c41]; simp)))
          · skip
            refine V.aload_n F d_A_conflictSpot_44 rfl 3 rfl ?_
            refine V.iload F d_A_conflictSpot_45 1 rfl ?_
            refine V.aload_n F d_A_conflictSpot_47 rfl 4 rfl ?_
            refine V.callVI0 (As := [.int (nI (i)), .ref (da (d) 1)]) (rest := []) F (c_cf l D hnf hbS hspt hso hsu d hd0 i (by omega) c41) d_A_conflictSpot_48 sv_A_77 im_y_A_isConflictFrom sl_y_A_isConflictFrom 3 rfl rfl rfl rfl rfl (Nat.le_of_ble_eq_true rfl) ⟨rfl, rfl, (Nat.le_of_ble_eq_true rfl), (Nat.le_of_ble_eq_true rfl)⟩ ⟨(Nat.le_of_ble_eq_true rfl), (Nat.le_of_ble_eq_true rfl)⟩ (fun r9 u9 h9 => ?_)
            obtain ⟨rfl, rfl⟩ := h9
            refine V.if_eqB (b := cfB spt val (stB (kn d) rep) nf (spt (byS (i)))) (tgt := 66) F d_A_conflictSpot_51 (by decide) (fun c51 => ?_) (fun c51 => ?_)
            · skip
              refine V.iincN (k := 1) (lv2 := [(5, .int (nI (i + 1))), (6, .int (nI (spt (byS (i))))), (4, .int (nI (z))), (0, .ref (ad 3)), (1, .ref (da (d) 1)), (2, .int (nI (lo))), (3, .int (k))]) F d_A_conflictSpot_66 1 rfl (by decide) (by decide) rfl ?_
              refine V.goto (tgt := 6) F d_A_conflictSpot_69 (by decide) ?_
              refine V.lvs [0, 2, 3, 4, 5, 6] rfl ?_
              exact ih6 (i + 1) (z) (by omega) (by omega) (by rw [hz, cnt, if_neg (show ¬ (decide (lo ≤ spt (byS i)) && (isF spt byS i && cfB spt val (stB (kn d) rep) nf (spt (byS i)))) = true by rw [c51]; simp)]; rfl) (ord_step hin (fun q _ => absurd q (show ¬ (decide (lo ≤ spt (byS i)) && (isF spt byS i && cfB spt val (stB (kn d) rep) nf (spt (byS i)))) = true by rw [c51]; simp)))
            · skip
              refine V.iload F d_A_conflictSpot_54 2 rfl ?_
              refine V.iload_n F d_A_conflictSpot_56 rfl 6 rfl ?_
              refine V.icmp_ne (x := nI (z)) (y := k) (tgt := 63) F d_A_conflictSpot_57 (by decide) (fun c57 => ?_) (fun c57 => ?_)
              · skip
                refine V.iincN (k := 1) (lv2 := [(4, .int (nI (z + 1))), (6, .int (nI (spt (byS (i))))), (5, .int (nI (i))), (0, .ref (ad 3)), (1, .ref (da (d) 1)), (2, .int (nI (lo))), (3, .int (k))]) F d_A_conflictSpot_63 2 rfl (by decide) (by decide) rfl ?_
                refine V.iincN (k := 1) (lv2 := [(5, .int (nI (i + 1))), (4, .int (nI (z + 1))), (6, .int (nI (spt (byS (i))))), (0, .ref (ad 3)), (1, .ref (da (d) 1)), (2, .int (nI (lo))), (3, .int (k))]) F d_A_conflictSpot_66 2 rfl (by decide) (by decide) rfl ?_
                refine V.goto (tgt := 6) F d_A_conflictSpot_69 (by decide) ?_
                refine V.lvs [0, 1, 3, 4, 5, 6] rfl ?_
                exact ih6 (i + 1) (z + 1) (by omega) (by omega) (by rw [hz, cnt, if_pos (show (decide (lo ≤ spt (byS i)) && (isF spt byS i && cfB spt val (stB (kn d) rep) nf (spt (byS i)))) = true by rw [decide_eq_true c32, c41, c51]; rfl)]) (ord_step hin (fun _ q => c57 (by rw [hz]; exact q.symm)))
              · skip
                refine V.iload F d_A_conflictSpot_60 0 rfl ?_
                exact V.iret F hr d_A_conflictSpot_62 (⟨Or.inl ⟨i, by omega, show (decide (lo ≤ spt (byS i)) && (isF spt byS i && cfB spt val (stB (kn d) rep) nf (spt (byS i)))) = true by rw [decide_eq_true c32, c41, c51]; rfl, by rw [← hz]; exact c57.symm, rfl⟩, rfl⟩)
  exact L6 _ (0) (0) (Nat.lt_succ_self _) (by omega) (rfl) (fun m hm => absurd hm (by omega))

set_option maxHeartbeats 4000000 in
set_option maxRecDepth 100000 in
theorem c_insN (l : Launch) (D : va_G) {ct : Nat → ClassId} {ad : Nat → Nat} {da : Nat → Nat → Nat} {nd : Nat} {nb : Nat} {nf : Nat} {bdk : Nat → Nat} {num : Nat → Nat} {spt : Nat → Nat} {val : Nat → Int64} {tim : Nat → Nat} {rep : Nat → Nat → Bool} {byN : Nat → Nat} {byS : Nat → Nat} {pk : Nat → Bool} {kn : Nat → Nat → Bool} {pe : Nat → Nat → Bool} {clk : Nat → Nat} {tol : Nat → Nat} {opn : Nat → Option Nat} (f : Nat) (hf : f < 300) (hbO : ∀ j, j < f → byN j < 300) (hkO : ∀ j, j < f → num (byN j) < 2 ^ 31) (hkf : num f < 2 ^ 31) : CV l y_A_insertByKey b_A_insertByKey 4 none (rmK 0 0 0) D (tyL ct) (CW ct ad da nd nb nf bdk num spt val tim rep byN byS pk kn pe clk tol opn) [.ref (ad 9), .ref (ad 4), .int (nI (f))] 0 0 (fun u => ∃ (pl : Nat) (Bf : Nat → Nat), (pl ≤ f ∧ (∀ j, j < pl → Bf j = byN j) ∧ Bf pl = f ∧ (∀ j, pl < j → j ≤ f → Bf j = byN (j - 1)) ∧ (∀ j, pl ≤ j → j < f → num f < num (byN j)) ∧ (∀ i, pl = i + 1 → num (byN i) ≤ num f)) ∧ u = CW ct ad da nd nb nf bdk num spt val tim rep Bf byS pk kn pe clk tol opn) := by
  refine CV.start (by decide) (Nat.le_of_ble_eq_true rfl) ?_
  intro p e s m below meth c F hr hnm
  show V p l e (rmK 0 0 0) s m [.ref (ad 9), .ref (ad 4), .int (nI (f))].toArray below meth c D (va_A (CW ct ad da nd nb nf bdk num spt val tim rep byN byS pk kn pe clk tol opn) s.heap.size) 4 0 0 (EV D below (CW ct ad da nd nb nf bdk num spt val tim rep byN byS pk kn pe clk tol opn) [.ref (ad 9), .ref (ad 4), .int (nI (f))].toArray s 0 0 (fun u => ∃ (pl : Nat) (Bf : Nat → Nat), (pl ≤ f ∧ (∀ j, j < pl → Bf j = byN j) ∧ Bf pl = f ∧ (∀ j, pl < j → j ≤ f → Bf j = byN (j - 1)) ∧ (∀ j, pl ≤ j → j < f → num f < num (byN j)) ∧ (∀ i, pl = i + 1 → num (byN i) ≤ num f)) ∧ u = CW ct ad da nd nb nf bdk num spt val tim rep Bf byS pk kn pe clk tol opn)) (CW ct ad da nd nb nf bdk num spt val tim rep byN byS pk kn pe clk tol opn) [(0, .ref (ad 9)), (1, .ref (ad 4)), (2, .int (nI (f)))] 0 []
  refine V.iload_n F d_A_insertByKey_0 rfl 2 rfl ?_
  refine V.istore_n (lv2 := [(3, .int (nI (f))), (0, .ref (ad 9)), (1, .ref (ad 4)), (2, .int (nI (f)))]) F d_A_insertByKey_1 rfl (by decide) rfl ?_
  have L2 : ∀ (n9 : Nat) (pl : Nat) (Bf : Nat → Nat), pl < n9 → (pl ≤ f) → (∀ j, j < pl → Bf j = byN j) → (∀ j, pl < j → j ≤ f → Bf j = byN (j - 1)) → (∀ j, pl ≤ j → j < f → num f < num (byN j)) → V p l e (rmK 0 0 0) s m [.ref (ad 9), .ref (ad 4), .int (nI (f))].toArray below meth c D (va_A (CW ct ad da nd nb nf bdk num spt val tim rep byN byS pk kn pe clk tol opn) s.heap.size) 4 0 0 (EV D below (CW ct ad da nd nb nf bdk num spt val tim rep byN byS pk kn pe clk tol opn) [.ref (ad 9), .ref (ad 4), .int (nI (f))].toArray s 0 0 (fun u => ∃ (pl : Nat) (Bf : Nat → Nat), (pl ≤ f ∧ (∀ j, j < pl → Bf j = byN j) ∧ Bf pl = f ∧ (∀ j, pl < j → j ≤ f → Bf j = byN (j - 1)) ∧ (∀ j, pl ≤ j → j < f → num f < num (byN j)) ∧ (∀ i, pl = i + 1 → num (byN i) ≤ num f)) ∧ u = CW ct ad da nd nb nf bdk num spt val tim rep Bf byS pk kn pe clk tol opn)) (CW ct ad da nd nb nf bdk num spt val tim rep Bf byS pk kn pe clk tol opn) [(3, .int (nI (pl))), (0, .ref (ad 9)), (1, .ref (ad 4)), (2, .int (nI (f)))] 2 [] := by
    intro n9
    induction n9 with
    | zero => intro pl Bf h9 hpl hB1 hB2 hgt; exact absurd h9 (Nat.not_lt_zero _)
    | succ n9 ih2 =>
      intro pl Bf h9 hpl hB1 hB2 hgt
      refine V.iload_n F d_A_insertByKey_2 rfl 0 rfl ?_
      refine V.if_leN (a := pl) (tgt := 33) F d_A_insertByKey_3 (by decide) (by omega) (fun c3 => ?_) (fun c3 => ?_)
      · skip
        refine V.aload_n F d_A_insertByKey_33 rfl 1 rfl ?_
        refine V.iload_n F d_A_insertByKey_34 rfl 0 rfl ?_
        refine V.iload_n F d_A_insertByKey_35 rfl 3 rfl ?_
        refine V.iast (ws2 := CW ct ad da nd nb nf bdk num spt val tim rep (va_up Bf (pl) (f)) byS pk kn pe clk tol opn) F d_A_insertByKey_36 9 0 rfl rfl (by omega) (by decide) (by rw [upd_nF]; exact cw_set_byN) ?_
        exact V.vret F hr d_A_insertByKey_37 (⟨pl, va_up Bf pl f, ⟨hpl, fun j hj => by rw [va_up_ne _ _ (by omega)]; exact hB1 j hj, va_up_self _ _ _, fun j h1 h2 => by rw [va_up_ne _ _ (by omega)]; exact hB2 j h1 h2, hgt, fun i q => absurd q (by omega)⟩, rfl⟩)
      · skip
        obtain ⟨pp, rfl⟩ : ∃ pp, pl = pp + 1 := ⟨pl - 1, by omega⟩
        have hb9 := hbO pp (by omega)
        have hk9 := hkO pp (by omega)
        have hB9 := hB1 pp (by omega)
        refine V.aload_n F d_A_insertByKey_6 rfl 2 rfl ?_
        refine V.aload_n F d_A_insertByKey_7 rfl 1 rfl ?_
        refine V.iload_n F d_A_insertByKey_8 rfl 0 rfl ?_
        refine V.iconst F d_A_insertByKey_9 (v := nI (1)) (by decide) ?_
        refine V.isubN F d_A_insertByKey_10 (by omega) ?_
        refine V.iald (v := nI (byN (pp))) F d_A_insertByKey_11 9 0 rfl rfl (by omega) (by decide) (by show nI (Bf pp) = _; rw [hB9]) ?_
        refine V.iald (v := nI (num (byN (pp)))) F d_A_insertByKey_12 4 0 rfl rfl (by omega) (by decide) rfl ?_
        refine V.aload_n F d_A_insertByKey_13 rfl 2 rfl ?_
        refine V.iload_n F d_A_insertByKey_14 rfl 3 rfl ?_
        refine V.iald (v := nI (num (f))) F d_A_insertByKey_15 4 0 rfl rfl (by omega) (by decide) rfl ?_
        refine V.icmp_leN (tgt := 33) F d_A_insertByKey_16 (by decide) (by omega) (by omega) (fun c16 => ?_) (fun c16 => ?_)
        · skip
          refine V.aload_n F d_A_insertByKey_33 rfl 1 rfl ?_
          refine V.iload_n F d_A_insertByKey_34 rfl 0 rfl ?_
          refine V.iload_n F d_A_insertByKey_35 rfl 3 rfl ?_
          refine V.iast (ws2 := CW ct ad da nd nb nf bdk num spt val tim rep (va_up Bf (pp + 1) (f)) byS pk kn pe clk tol opn) F d_A_insertByKey_36 9 0 rfl rfl (by omega) (by decide) (by rw [upd_nF]; exact cw_set_byN) ?_
          exact V.vret F hr d_A_insertByKey_37 (⟨pp + 1, va_up Bf (pp + 1) f, ⟨hpl, fun j hj => by rw [va_up_ne _ _ (by omega)]; exact hB1 j hj, va_up_self _ _ _, fun j h1 h2 => by rw [va_up_ne _ _ (by omega)]; exact hB2 j h1 h2, hgt, fun i q => by rw [show i = pp by omega]; exact c16⟩, rfl⟩)
        · skip
          refine V.aload_n F d_A_insertByKey_19 rfl 1 rfl ?_
          refine V.iload_n F d_A_insertByKey_20 rfl 0 rfl ?_
          refine V.aload_n F d_A_insertByKey_21 rfl 1 rfl ?_
          refine V.iload_n F d_A_insertByKey_22 rfl 0 rfl ?_
          refine V.iconst F d_A_insertByKey_23 (v := nI (1)) (by decide) ?_
          refine V.isubN F d_A_insertByKey_24 (by omega) ?_
          refine V.iald (v := nI (byN (pp))) F d_A_insertByKey_25 9 0 rfl rfl (by omega) (by decide) (by show nI (Bf pp) = _; rw [hB9]) ?_
          refine V.iast (ws2 := CW ct ad da nd nb nf bdk num spt val tim rep (va_up Bf (pp + 1) (byN (pp))) byS pk kn pe clk tol opn) F d_A_insertByKey_26 9 0 rfl rfl (by omega) (by decide) (by rw [upd_nF]; exact cw_set_byN) ?_
          refine V.idecN (lv2 := [(3, .int (nI (pp))), (0, .ref (ad 9)), (1, .ref (ad 4)), (2, .int (nI (f)))]) F d_A_insertByKey_27 0 rfl (by decide) rfl ?_
          refine V.goto (tgt := 2) F d_A_insertByKey_30 (by decide) ?_
          exact ih2 (pp) (va_up Bf (pp + 1) (byN pp)) (by omega) (by omega) (fun j hj => by rw [va_up_ne _ _ (by omega)]; exact hB1 j (by omega)) (fun j h1 h2 => by
          by_cases e9 : j = pp + 1
          · rw [e9, va_up_self]; rfl
          · rw [va_up_ne _ _ e9]; exact hB2 j (by omega) h2) (fun j h1 h2 => by
          by_cases e9 : j = pp
          · rw [e9]; exact c16
          · exact hgt j (by omega) h2)
  exact L2 _ (f) (byN) (Nat.lt_succ_self _) (Nat.le_refl _) (fun j _ => rfl) (fun j h1 h2 => absurd h1 (by omega)) (fun j h1 h2 => absurd h1 (by omega))

set_option maxHeartbeats 4000000 in
set_option maxRecDepth 100000 in
theorem c_insS (l : Launch) (D : va_G) {ct : Nat → ClassId} {ad : Nat → Nat} {da : Nat → Nat → Nat} {nd : Nat} {nb : Nat} {nf : Nat} {bdk : Nat → Nat} {num : Nat → Nat} {spt : Nat → Nat} {val : Nat → Int64} {tim : Nat → Nat} {rep : Nat → Nat → Bool} {byN : Nat → Nat} {byS : Nat → Nat} {pk : Nat → Bool} {kn : Nat → Nat → Bool} {pe : Nat → Nat → Bool} {clk : Nat → Nat} {tol : Nat → Nat} {opn : Nat → Option Nat} (f : Nat) (hf : f < 300) (hbO : ∀ j, j < f → byS j < 300) (hkO : ∀ j, j < f → spt (byS j) < 2 ^ 31) (hkf : spt f < 2 ^ 31) : CV l y_A_insertByKey b_A_insertByKey 4 none (rmK 0 0 0) D (tyL ct) (CW ct ad da nd nb nf bdk num spt val tim rep byN byS pk kn pe clk tol opn) [.ref (ad 10), .ref (ad 5), .int (nI (f))] 0 0 (fun u => ∃ (pl : Nat) (Bf : Nat → Nat), (pl ≤ f ∧ (∀ j, j < pl → Bf j = byS j) ∧ Bf pl = f ∧ (∀ j, pl < j → j ≤ f → Bf j = byS (j - 1)) ∧ (∀ j, pl ≤ j → j < f → spt f < spt (byS j)) ∧ (∀ i, pl = i + 1 → spt (byS i) ≤ spt f)) ∧ u = CW ct ad da nd nb nf bdk num spt val tim rep byN Bf pk kn pe clk tol opn) := by
  refine CV.start (by decide) (Nat.le_of_ble_eq_true rfl) ?_
  intro p e s m below meth c F hr hnm
  show V p l e (rmK 0 0 0) s m [.ref (ad 10), .ref (ad 5), .int (nI (f))].toArray below meth c D (va_A (CW ct ad da nd nb nf bdk num spt val tim rep byN byS pk kn pe clk tol opn) s.heap.size) 4 0 0 (EV D below (CW ct ad da nd nb nf bdk num spt val tim rep byN byS pk kn pe clk tol opn) [.ref (ad 10), .ref (ad 5), .int (nI (f))].toArray s 0 0 (fun u => ∃ (pl : Nat) (Bf : Nat → Nat), (pl ≤ f ∧ (∀ j, j < pl → Bf j = byS j) ∧ Bf pl = f ∧ (∀ j, pl < j → j ≤ f → Bf j = byS (j - 1)) ∧ (∀ j, pl ≤ j → j < f → spt f < spt (byS j)) ∧ (∀ i, pl = i + 1 → spt (byS i) ≤ spt f)) ∧ u = CW ct ad da nd nb nf bdk num spt val tim rep byN Bf pk kn pe clk tol opn)) (CW ct ad da nd nb nf bdk num spt val tim rep byN byS pk kn pe clk tol opn) [(0, .ref (ad 10)), (1, .ref (ad 5)), (2, .int (nI (f)))] 0 []
  refine V.iload_n F d_A_insertByKey_0 rfl 2 rfl ?_
  refine V.istore_n (lv2 := [(3, .int (nI (f))), (0, .ref (ad 10)), (1, .ref (ad 5)), (2, .int (nI (f)))]) F d_A_insertByKey_1 rfl (by decide) rfl ?_
  have L2 : ∀ (n9 : Nat) (pl : Nat) (Bf : Nat → Nat), pl < n9 → (pl ≤ f) → (∀ j, j < pl → Bf j = byS j) → (∀ j, pl < j → j ≤ f → Bf j = byS (j - 1)) → (∀ j, pl ≤ j → j < f → spt f < spt (byS j)) → V p l e (rmK 0 0 0) s m [.ref (ad 10), .ref (ad 5), .int (nI (f))].toArray below meth c D (va_A (CW ct ad da nd nb nf bdk num spt val tim rep byN byS pk kn pe clk tol opn) s.heap.size) 4 0 0 (EV D below (CW ct ad da nd nb nf bdk num spt val tim rep byN byS pk kn pe clk tol opn) [.ref (ad 10), .ref (ad 5), .int (nI (f))].toArray s 0 0 (fun u => ∃ (pl : Nat) (Bf : Nat → Nat), (pl ≤ f ∧ (∀ j, j < pl → Bf j = byS j) ∧ Bf pl = f ∧ (∀ j, pl < j → j ≤ f → Bf j = byS (j - 1)) ∧ (∀ j, pl ≤ j → j < f → spt f < spt (byS j)) ∧ (∀ i, pl = i + 1 → spt (byS i) ≤ spt f)) ∧ u = CW ct ad da nd nb nf bdk num spt val tim rep byN Bf pk kn pe clk tol opn)) (CW ct ad da nd nb nf bdk num spt val tim rep byN Bf pk kn pe clk tol opn) [(3, .int (nI (pl))), (0, .ref (ad 10)), (1, .ref (ad 5)), (2, .int (nI (f)))] 2 [] := by
    intro n9
    induction n9 with
    | zero => intro pl Bf h9 hpl hB1 hB2 hgt; exact absurd h9 (Nat.not_lt_zero _)
    | succ n9 ih2 =>
      intro pl Bf h9 hpl hB1 hB2 hgt
      refine V.iload_n F d_A_insertByKey_2 rfl 0 rfl ?_
      refine V.if_leN (a := pl) (tgt := 33) F d_A_insertByKey_3 (by decide) (by omega) (fun c3 => ?_) (fun c3 => ?_)
      · skip
        refine V.aload_n F d_A_insertByKey_33 rfl 1 rfl ?_
        refine V.iload_n F d_A_insertByKey_34 rfl 0 rfl ?_
        refine V.iload_n F d_A_insertByKey_35 rfl 3 rfl ?_
        refine V.iast (ws2 := CW ct ad da nd nb nf bdk num spt val tim rep byN (va_up Bf (pl) (f)) pk kn pe clk tol opn) F d_A_insertByKey_36 10 0 rfl rfl (by omega) (by decide) (by rw [upd_nF]; exact cw_set_byS) ?_
        exact V.vret F hr d_A_insertByKey_37 (⟨pl, va_up Bf pl f, ⟨hpl, fun j hj => by rw [va_up_ne _ _ (by omega)]; exact hB1 j hj, va_up_self _ _ _, fun j h1 h2 => by rw [va_up_ne _ _ (by omega)]; exact hB2 j h1 h2, hgt, fun i q => absurd q (by omega)⟩, rfl⟩)
      · skip
        obtain ⟨pp, rfl⟩ : ∃ pp, pl = pp + 1 := ⟨pl - 1, by omega⟩
        have hb9 := hbO pp (by omega)
        have hk9 := hkO pp (by omega)
        have hB9 := hB1 pp (by omega)
        refine V.aload_n F d_A_insertByKey_6 rfl 2 rfl ?_
        refine V.aload_n F d_A_insertByKey_7 rfl 1 rfl ?_
        refine V.iload_n F d_A_insertByKey_8 rfl 0 rfl ?_
        refine V.iconst F d_A_insertByKey_9 (v := nI (1)) (by decide) ?_
        refine V.isubN F d_A_insertByKey_10 (by omega) ?_
        refine V.iald (v := nI (byS (pp))) F d_A_insertByKey_11 10 0 rfl rfl (by omega) (by decide) (by show nI (Bf pp) = _; rw [hB9]) ?_
        refine V.iald (v := nI (spt (byS (pp)))) F d_A_insertByKey_12 5 0 rfl rfl (by omega) (by decide) rfl ?_
        refine V.aload_n F d_A_insertByKey_13 rfl 2 rfl ?_
        refine V.iload_n F d_A_insertByKey_14 rfl 3 rfl ?_
        refine V.iald (v := nI (spt (f))) F d_A_insertByKey_15 5 0 rfl rfl (by omega) (by decide) rfl ?_
        refine V.icmp_leN (tgt := 33) F d_A_insertByKey_16 (by decide) (by omega) (by omega) (fun c16 => ?_) (fun c16 => ?_)
        · skip
          refine V.aload_n F d_A_insertByKey_33 rfl 1 rfl ?_
          refine V.iload_n F d_A_insertByKey_34 rfl 0 rfl ?_
          refine V.iload_n F d_A_insertByKey_35 rfl 3 rfl ?_
          refine V.iast (ws2 := CW ct ad da nd nb nf bdk num spt val tim rep byN (va_up Bf (pp + 1) (f)) pk kn pe clk tol opn) F d_A_insertByKey_36 10 0 rfl rfl (by omega) (by decide) (by rw [upd_nF]; exact cw_set_byS) ?_
          exact V.vret F hr d_A_insertByKey_37 (⟨pp + 1, va_up Bf (pp + 1) f, ⟨hpl, fun j hj => by rw [va_up_ne _ _ (by omega)]; exact hB1 j hj, va_up_self _ _ _, fun j h1 h2 => by rw [va_up_ne _ _ (by omega)]; exact hB2 j h1 h2, hgt, fun i q => by rw [show i = pp by omega]; exact c16⟩, rfl⟩)
        · skip
          refine V.aload_n F d_A_insertByKey_19 rfl 1 rfl ?_
          refine V.iload_n F d_A_insertByKey_20 rfl 0 rfl ?_
          refine V.aload_n F d_A_insertByKey_21 rfl 1 rfl ?_
          refine V.iload_n F d_A_insertByKey_22 rfl 0 rfl ?_
          refine V.iconst F d_A_insertByKey_23 (v := nI (1)) (by decide) ?_
          refine V.isubN F d_A_insertByKey_24 (by omega) ?_
          refine V.iald (v := nI (byS (pp))) F d_A_insertByKey_25 10 0 rfl rfl (by omega) (by decide) (by show nI (Bf pp) = _; rw [hB9]) ?_
          refine V.iast (ws2 := CW ct ad da nd nb nf bdk num spt val tim rep byN (va_up Bf (pp + 1) (byS (pp))) pk kn pe clk tol opn) F d_A_insertByKey_26 10 0 rfl rfl (by omega) (by decide) (by rw [upd_nF]; exact cw_set_byS) ?_
          refine V.idecN (lv2 := [(3, .int (nI (pp))), (0, .ref (ad 10)), (1, .ref (ad 5)), (2, .int (nI (f)))]) F d_A_insertByKey_27 0 rfl (by decide) rfl ?_
          refine V.goto (tgt := 2) F d_A_insertByKey_30 (by decide) ?_
          exact ih2 (pp) (va_up Bf (pp + 1) (byS pp)) (by omega) (by omega) (fun j hj => by rw [va_up_ne _ _ (by omega)]; exact hB1 j (by omega)) (fun j h1 h2 => by
          by_cases e9 : j = pp + 1
          · rw [e9, va_up_self]; rfl
          · rw [va_up_ne _ _ e9]; exact hB2 j (by omega) h2) (fun j h1 h2 => by
          by_cases e9 : j = pp
          · rw [e9]; exact c16
          · exact hgt j (by omega) h2)
  exact L2 _ (f) (byS) (Nat.lt_succ_self _) (Nat.le_refl _) (fun j _ => rfl) (fun j h1 h2 => absurd h1 (by omega)) (fun j h1 h2 => absurd h1 (by omega))

set_option maxHeartbeats 4000000 in
set_option maxRecDepth 100000 in
theorem c_appendFull (l : Launch) (D : va_G) {ct : Nat → ClassId} {ad : Nat → Nat} {da : Nat → Nat → Nat} {nd : Nat} {nb : Nat} {nf : Nat} {bdk : Nat → Nat} {num : Nat → Nat} {spt : Nat → Nat} {val : Nat → Int64} {tim : Nat → Nat} {rep : Nat → Nat → Bool} {byN : Nat → Nat} {byS : Nat → Nat} {pk : Nat → Bool} {kn : Nat → Nat → Bool} {pe : Nat → Nat → Bool} {clk : Nat → Nat} {tol : Nat → Nat} {opn : Nat → Option Nat} (x sp t : Nat) (v : Int64) (hnf : nf = 300) : CI l y_A_append b_A_append 9 (some .int) (rmK 2 0 0) D (tyL ct) (CW ct ad da nd nb nf bdk num spt val tim rep byN byS pk kn pe clk tol opn) [.ref (ad 3), .int (nI (x)), .int (nI (sp)), .long (v), .int (nI (t)), .ref (ad 11)] 0 0 (fun r u => r = -1 ∧ u = CW ct ad da nd nb nf bdk num spt val tim rep byN byS pk kn pe clk tol opn) := by
  refine CI.start (by decide) (Nat.le_of_ble_eq_true rfl) ?_
  intro p e s m below meth c F hr hnm
  show V p l e (rmK 2 0 0) s m [.ref (ad 3), .int (nI (x)), .int (nI (sp)), .long (v), .int (nI (t)), .ref (ad 11)].toArray below meth c D (va_A (CW ct ad da nd nb nf bdk num spt val tim rep byN byS pk kn pe clk tol opn) s.heap.size) 9 0 0 (EI D below (CW ct ad da nd nb nf bdk num spt val tim rep byN byS pk kn pe clk tol opn) [.ref (ad 3), .int (nI (x)), .int (nI (sp)), .long (v), .int (nI (t)), .ref (ad 11)].toArray s 0 0 (fun r u => r = -1 ∧ u = CW ct ad da nd nb nf bdk num spt val tim rep byN byS pk kn pe clk tol opn)) (CW ct ad da nd nb nf bdk num spt val tim rep byN byS pk kn pe clk tol opn) [(0, .ref (ad 3)), (1, .int (nI (x))), (2, .int (nI (sp))), (3, .long (v)), (5, .int (nI (t))), (6, .ref (ad 11))] 0 []
  refine V.aload_n F d_A_append_0 rfl 0 rfl ?_
  refine V.get F ck_A d_A_append_1 7 (by decide) lk_A_36 3 rfl rfl ?_
  refine V.sipush F d_A_append_4 (v := nI (300)) (by decide) ?_
  refine V.icmp_ltN (tgt := 12) F d_A_append_7 (by decide) (by omega) (by omega) (fun c7 => ?_) (fun c7 => ?_)
  · skip
    exact absurd c7 (by omega)
  · skip
    refine V.iconst F d_A_append_10 (v := -1) (by decide) ?_
    exact V.iret F hr d_A_append_11 (⟨rfl, rfl⟩)

set_option maxHeartbeats 4000000 in
set_option maxRecDepth 100000 in
theorem c_append (l : Launch) (D : va_G) {ct : Nat → ClassId} {ad : Nat → Nat} {da : Nat → Nat → Nat} {nd : Nat} {nb : Nat} {nf : Nat} {bdk : Nat → Nat} {num : Nat → Nat} {spt : Nat → Nat} {val : Nat → Int64} {tim : Nat → Nat} {rep : Nat → Nat → Bool} {byN : Nat → Nat} {byS : Nat → Nat} {pk : Nat → Bool} {kn : Nat → Nat → Bool} {pe : Nat → Nat → Bool} {clk : Nat → Nat} {tol : Nat → Nat} {opn : Nat → Option Nat} (x sp t : Nat) (v : Int64) (hlt : nf < 300) (hbN : ∀ j, j < nf → byN j < nf) (hbS : ∀ j, j < nf → byS j < nf) (hnum : ∀ k, k < nf → num k < 2 ^ 31) (hspt : ∀ k, k < nf → spt k < 2 ^ 31) (hx : x < 2 ^ 31) (hsp : sp < 2 ^ 31) : CI l y_A_append b_A_append 9 (some .int) (rmK 2 0 0) D (tyL ct) (CW ct ad da nd nb nf bdk num spt val tim rep byN byS pk kn pe clk tol opn) [.ref (ad 3), .int (nI (x)), .int (nI (sp)), .long (v), .int (nI (t)), .ref (ad 11)] 0 0 (fun r u => r = nI nf ∧ ∃ (Rp : Nat → Nat → Bool) (p1 p2 : Nat) (B1 B2 : Nat → Nat), (∀ o n, Rp o n = (rep o n || (decide (o < nf) && (pk o && decide (n = nf))))) ∧ (p1 ≤ nf ∧ (∀ j, j < p1 → B1 j = byN j) ∧ B1 p1 = nf ∧ (∀ j, p1 < j → j ≤ nf → B1 j = byN (j - 1)) ∧ (∀ j, p1 ≤ j → j < nf → va_up num nf x nf < va_up num nf x (byN j)) ∧ (∀ i, p1 = i + 1 → va_up num nf x (byN i) ≤ va_up num nf x nf)) ∧ (p2 ≤ nf ∧ (∀ j, j < p2 → B2 j = byS j) ∧ B2 p2 = nf ∧ (∀ j, p2 < j → j ≤ nf → B2 j = byS (j - 1)) ∧ (∀ j, p2 ≤ j → j < nf → va_up spt nf sp nf < va_up spt nf sp (byS j)) ∧ (∀ i, p2 = i + 1 → va_up spt nf sp (byS i) ≤ va_up spt nf sp nf)) ∧ u = CW ct ad da nd nb (nf + 1) bdk (va_up num nf x) (va_up spt nf sp) (va_up val nf v) (va_up tim nf t) Rp B1 B2 pk kn pe clk tol opn) := by
  refine CI.start (by decide) (Nat.le_of_ble_eq_true rfl) ?_
  intro p e s m below meth c F hr hnm
  show V p l e (rmK 2 0 0) s m [.ref (ad 3), .int (nI (x)), .int (nI (sp)), .long (v), .int (nI (t)), .ref (ad 11)].toArray below meth c D (va_A (CW ct ad da nd nb nf bdk num spt val tim rep byN byS pk kn pe clk tol opn) s.heap.size) 9 0 0 (EI D below (CW ct ad da nd nb nf bdk num spt val tim rep byN byS pk kn pe clk tol opn) [.ref (ad 3), .int (nI (x)), .int (nI (sp)), .long (v), .int (nI (t)), .ref (ad 11)].toArray s 0 0 (fun r u => r = nI nf ∧ ∃ (Rp : Nat → Nat → Bool) (p1 p2 : Nat) (B1 B2 : Nat → Nat), (∀ o n, Rp o n = (rep o n || (decide (o < nf) && (pk o && decide (n = nf))))) ∧ (p1 ≤ nf ∧ (∀ j, j < p1 → B1 j = byN j) ∧ B1 p1 = nf ∧ (∀ j, p1 < j → j ≤ nf → B1 j = byN (j - 1)) ∧ (∀ j, p1 ≤ j → j < nf → va_up num nf x nf < va_up num nf x (byN j)) ∧ (∀ i, p1 = i + 1 → va_up num nf x (byN i) ≤ va_up num nf x nf)) ∧ (p2 ≤ nf ∧ (∀ j, j < p2 → B2 j = byS j) ∧ B2 p2 = nf ∧ (∀ j, p2 < j → j ≤ nf → B2 j = byS (j - 1)) ∧ (∀ j, p2 ≤ j → j < nf → va_up spt nf sp nf < va_up spt nf sp (byS j)) ∧ (∀ i, p2 = i + 1 → va_up spt nf sp (byS i) ≤ va_up spt nf sp nf)) ∧ u = CW ct ad da nd nb (nf + 1) bdk (va_up num nf x) (va_up spt nf sp) (va_up val nf v) (va_up tim nf t) Rp B1 B2 pk kn pe clk tol opn)) (CW ct ad da nd nb nf bdk num spt val tim rep byN byS pk kn pe clk tol opn) [(0, .ref (ad 3)), (1, .int (nI (x))), (2, .int (nI (sp))), (3, .long (v)), (5, .int (nI (t))), (6, .ref (ad 11))] 0 []
  refine V.aload_n F d_A_append_0 rfl 0 rfl ?_
  refine V.get F ck_A d_A_append_1 7 (by decide) lk_A_36 3 rfl rfl ?_
  refine V.sipush F d_A_append_4 (v := nI (300)) (by decide) ?_
  refine V.icmp_ltN (tgt := 12) F d_A_append_7 (by decide) (by omega) (by omega) (fun c7 => ?_) (fun c7 => ?_)
  · skip
    refine V.aload_n F d_A_append_12 rfl 0 rfl ?_
    refine V.get F ck_A d_A_append_13 7 (by decide) lk_A_36 3 rfl rfl ?_
    refine V.istore (lv2 := [(7, .int (nI (nf))), (0, .ref (ad 3)), (1, .int (nI (x))), (2, .int (nI (sp))), (3, .long (v)), (5, .int (nI (t))), (6, .ref (ad 11))]) F d_A_append_16 (by decide) rfl ?_
    refine V.aload_n F d_A_append_18 rfl 1 rfl ?_
    refine V.get F ck_A d_A_append_19 0 (by decide) lk_A_9 3 rfl rfl ?_
    refine V.iload F d_A_append_22 0 rfl ?_
    refine V.iload_n F d_A_append_24 rfl 2 rfl ?_
    refine V.iast (ws2 := CW ct ad da nd nb nf bdk (va_up num (nf) (x)) spt val tim rep byN byS pk kn pe clk tol opn) F d_A_append_25 4 0 rfl rfl (by omega) (by decide) (by rw [upd_nF]; exact cw_set_num) ?_
    refine V.aload_n F d_A_append_26 rfl 1 rfl ?_
    refine V.get F ck_A d_A_append_27 1 (by decide) lk_A_15 3 rfl rfl ?_
    refine V.iload F d_A_append_30 0 rfl ?_
    refine V.iload_n F d_A_append_32 rfl 3 rfl ?_
    refine V.iast (ws2 := CW ct ad da nd nb nf bdk (va_up num (nf) (x)) (va_up spt (nf) (sp)) val tim rep byN byS pk kn pe clk tol opn) F d_A_append_33 5 0 rfl rfl (by omega) (by decide) (by rw [upd_nF]; exact cw_set_spt) ?_
    refine V.aload_n F d_A_append_34 rfl 1 rfl ?_
    refine V.get F ck_A d_A_append_35 2 (by decide) lk_A_18 3 rfl rfl ?_
    refine V.iload F d_A_append_38 0 rfl ?_
    refine V.lload_n F d_A_append_40 rfl 4 rfl ?_
    refine V.last (ws2 := CW ct ad da nd nb nf bdk (va_up num (nf) (x)) (va_up spt (nf) (sp)) (va_up val (nf) (v)) tim rep byN byS pk kn pe clk tol opn) F d_A_append_41 6 1 rfl rfl (by omega) (by decide) (by rw [updL_up]; exact cw_set_val) ?_
    refine V.aload_n F d_A_append_42 rfl 1 rfl ?_
    refine V.get F ck_A d_A_append_43 3 (by decide) lk_A_22 3 rfl rfl ?_
    refine V.iload F d_A_append_46 0 rfl ?_
    refine V.iload F d_A_append_48 5 rfl ?_
    refine V.iast (ws2 := CW ct ad da nd nb nf bdk (va_up num (nf) (x)) (va_up spt (nf) (sp)) (va_up val (nf) (v)) (va_up tim (nf) (t)) rep byN byS pk kn pe clk tol opn) F d_A_append_50 7 0 rfl rfl (by omega) (by decide) (by rw [upd_nF]; exact cw_set_tim) ?_
    refine V.iconst F d_A_append_51 (v := nI (0)) (by decide) ?_
    refine V.istore (lv2 := [(8, .int (nI (0))), (7, .int (nI (nf))), (0, .ref (ad 3)), (1, .int (nI (x))), (2, .int (nI (sp))), (3, .long (v)), (5, .int (nI (t))), (6, .ref (ad 11))]) F d_A_append_52 (by decide) rfl ?_
    have L54 : ∀ (n9 : Nat) (i : Nat) (Rp : Nat → Nat → Bool), nf - i < n9 → (i ≤ nf) → (∀ o n, Rp o n = (rep o n || (decide (o < i) && (pk o && decide (n = nf))))) → V p l e (rmK 2 0 0) s m [.ref (ad 3), .int (nI (x)), .int (nI (sp)), .long (v), .int (nI (t)), .ref (ad 11)].toArray below meth c D (va_A (CW ct ad da nd nb nf bdk num spt val tim rep byN byS pk kn pe clk tol opn) s.heap.size) 9 0 0 (EI D below (CW ct ad da nd nb nf bdk num spt val tim rep byN byS pk kn pe clk tol opn) [.ref (ad 3), .int (nI (x)), .int (nI (sp)), .long (v), .int (nI (t)), .ref (ad 11)].toArray s 0 0 (fun r u => r = nI nf ∧ ∃ (Rp : Nat → Nat → Bool) (p1 p2 : Nat) (B1 B2 : Nat → Nat), (∀ o n, Rp o n = (rep o n || (decide (o < nf) && (pk o && decide (n = nf))))) ∧ (p1 ≤ nf ∧ (∀ j, j < p1 → B1 j = byN j) ∧ B1 p1 = nf ∧ (∀ j, p1 < j → j ≤ nf → B1 j = byN (j - 1)) ∧ (∀ j, p1 ≤ j → j < nf → va_up num nf x nf < va_up num nf x (byN j)) ∧ (∀ i, p1 = i + 1 → va_up num nf x (byN i) ≤ va_up num nf x nf)) ∧ (p2 ≤ nf ∧ (∀ j, j < p2 → B2 j = byS j) ∧ B2 p2 = nf ∧ (∀ j, p2 < j → j ≤ nf → B2 j = byS (j - 1)) ∧ (∀ j, p2 ≤ j → j < nf → va_up spt nf sp nf < va_up spt nf sp (byS j)) ∧ (∀ i, p2 = i + 1 → va_up spt nf sp (byS i) ≤ va_up spt nf sp nf)) ∧ u = CW ct ad da nd nb (nf + 1) bdk (va_up num nf x) (va_up spt nf sp) (va_up val nf v) (va_up tim nf t) Rp B1 B2 pk kn pe clk tol opn)) (CW ct ad da nd nb nf bdk (va_up num nf x) (va_up spt nf sp) (va_up val nf v) (va_up tim nf t) Rp byN byS pk kn pe clk tol opn) [(8, .int (nI (i))), (7, .int (nI (nf))), (0, .ref (ad 3)), (1, .int (nI (x))), (2, .int (nI (sp))), (3, .long (v)), (5, .int (nI (t))), (6, .ref (ad 11))] 54 [] := by
      intro n9
      induction n9 with
      | zero => intro i Rp h9 hi hR; exact absurd h9 (Nat.not_lt_zero _)
      | succ n9 ih54 =>
        intro i Rp h9 hi hR
        refine V.iload F d_A_append_54 0 rfl ?_
        refine V.iload F d_A_append_56 1 rfl ?_
        refine V.icmp_geN (tgt := 102) F d_A_append_58 (by decide) (by omega) (by omega) (fun c58 => ?_) (fun c58 => ?_)
        · skip
          refine V.aload_n F d_A_append_102 rfl 2 rfl ?_
          refine V.get F ck_A d_A_append_103 5 (by decide) lk_A_30 3 rfl rfl ?_
          refine V.aload_n F d_A_append_106 rfl 2 rfl ?_
          refine V.get F ck_A d_A_append_107 0 (by decide) lk_A_9 3 rfl rfl ?_
          refine V.iload F d_A_append_110 1 rfl ?_
          refine V.callSV0 (As := [.ref (ad 9), .ref (ad 4), .int (nI (nf))]) (rest := []) F (c_insN l D nf hlt (fun j hj => by have := hbN j hj; omega) (fun j hj => by have := hbN j hj; rw [va_up_ne _ _ (by omega)]; exact hnum _ this) (by rw [va_up_self]; exact hx)) d_A_append_112 sv_A_44 st_y_A_insertByKey rfl rfl (Nat.le_of_ble_eq_true rfl) ⟨rfl, rfl, (Nat.le_of_ble_eq_true rfl), (Nat.le_of_ble_eq_true rfl)⟩ ⟨(Nat.le_of_ble_eq_true rfl), (Nat.le_of_ble_eq_true rfl)⟩ (fun u9 h9 => ?_)
          obtain ⟨p1, B1, hB1, rfl⟩ := h9
          refine V.aload_n F d_A_append_115 rfl 2 rfl ?_
          refine V.get F ck_A d_A_append_116 6 (by decide) lk_A_33 3 rfl rfl ?_
          refine V.aload_n F d_A_append_119 rfl 2 rfl ?_
          refine V.get F ck_A d_A_append_120 1 (by decide) lk_A_15 3 rfl rfl ?_
          refine V.iload F d_A_append_123 1 rfl ?_
          refine V.callSV0 (As := [.ref (ad 10), .ref (ad 5), .int (nI (nf))]) (rest := []) F (c_insS l D nf hlt (fun j hj => by have := hbS j hj; omega) (fun j hj => by have := hbS j hj; rw [va_up_ne _ _ (by omega)]; exact hspt _ this) (by rw [va_up_self]; exact hsp)) d_A_append_125 sv_A_44 st_y_A_insertByKey rfl rfl (Nat.le_of_ble_eq_true rfl) ⟨rfl, rfl, (Nat.le_of_ble_eq_true rfl), (Nat.le_of_ble_eq_true rfl)⟩ ⟨(Nat.le_of_ble_eq_true rfl), (Nat.le_of_ble_eq_true rfl)⟩ (fun u9 h9 => ?_)
          obtain ⟨p2, B2, hB2, rfl⟩ := h9
          refine V.aload_n F d_A_append_128 rfl 2 rfl ?_
          refine V.dup F d_A_append_129 rfl ?_
          refine V.get F ck_A d_A_append_130 7 (by decide) lk_A_36 3 rfl rfl ?_
          refine V.iconst F d_A_append_133 (v := nI (1)) (by decide) ?_
          refine V.iaddN F d_A_append_134 ?_
          refine V.put (ws2 := CW ct ad da nd nb ((nf) + (1)) bdk (va_up num nf x) (va_up spt nf sp) (va_up val nf v) (va_up tim nf t) Rp B1 B2 pk kn pe clk tol opn) F ck_A d_A_append_135 7 (by decide) lk_A_36 3 rfl rfl rfl rfl (Nat.le_of_ble_eq_true rfl) cw_set_nf ?_
          refine V.iload F d_A_append_138 1 rfl ?_
          exact V.iret F hr d_A_append_140 (⟨rfl, Rp, p1, p2, B1, B2, by rw [show i = nf by omega] at hR; exact hR, hB1, hB2, rfl⟩)
        · skip
          refine V.aload F d_A_append_61 7 rfl ?_
          refine V.iload F d_A_append_63 0 rfl ?_
          refine V.callVI0 (As := [.int (nI (i))]) (rest := []) F (c_has l D none trivial i (by omega)) d_A_append_65 sv_A_40 im_y_S_has sl_y_S_has 11 rfl rfl rfl rfl rfl (Nat.le_of_ble_eq_true rfl) ⟨rfl, rfl, (Nat.le_of_ble_eq_true rfl), (Nat.le_of_ble_eq_true rfl)⟩ ⟨(Nat.le_of_ble_eq_true rfl), (Nat.le_of_ble_eq_true rfl)⟩ (fun r9 u9 h9 => ?_)
          obtain ⟨rfl, rfl⟩ := h9
          refine V.if_eqB (b := pk (i)) (tgt := 96) F d_A_append_68 (by decide) (fun c68 => ?_) (fun c68 => ?_)
          · skip
            refine V.iincN (k := 1) (lv2 := [(8, .int (nI (i + 1))), (7, .int (nI (nf))), (0, .ref (ad 3)), (1, .int (nI (x))), (2, .int (nI (sp))), (3, .long (v)), (5, .int (nI (t))), (6, .ref (ad 11))]) F d_A_append_96 0 rfl (by decide) (by decide) rfl ?_
            refine V.goto (tgt := 54) F d_A_append_99 (by decide) ?_
            exact ih54 (i + 1) (Rp) (by omega) (by omega) (rp_step0 hR c68)
          · skip
            refine V.aload_n F d_A_append_71 rfl 2 rfl ?_
            refine V.get F ck_A d_A_append_72 4 (by decide) lk_A_27 3 rfl rfl ?_
            refine V.iload F d_A_append_75 0 rfl ?_
            refine V.iconst F d_A_append_77 (v := nI (5)) (by decide) ?_
            refine V.imulN F d_A_append_78 ?_
            refine V.iload F d_A_append_79 1 rfl ?_
            refine V.bipush F d_A_append_81 (v := nI (64)) (by decide) ?_
            refine V.idivN F d_A_append_83 (by omega) (by decide) (by decide) ?_
            refine V.iaddN F d_A_append_84 ?_
            refine V.dup2_11 F d_A_append_85 rfl rfl ?_
            refine V.lald (v := rpW Rp (((i) * (5)) + ((nf) / (64)))) F d_A_append_86 8 1 rfl rfl (by omega) (by decide) rfl ?_
            refine V.lconst F d_A_append_87 (v := 1) (by decide) ?_
            refine V.iload F d_A_append_88 1 rfl ?_
            refine V.bipush F d_A_append_90 (v := nI (64)) (by decide) ?_
            refine V.iremN F d_A_append_92 (by omega) (by decide) (by decide) ?_
            refine V.lshl F d_A_append_93 (v := (1) <<< ((nI ((nf) % (64))).toInt64 &&& 63)) rfl ?_
            refine V.lor F d_A_append_94 (v := (rpW Rp (((i) * (5)) + ((nf) / (64)))) ||| ((1) <<< ((nI ((nf) % (64))).toInt64 &&& 63))) rfl ?_
            refine V.last (ws2 := CW ct ad da nd nb nf bdk (va_up num nf x) (va_up spt nf sp) (va_up val nf v) (va_up tim nf t) (fun o n => Rp o n || (decide (o = i) && decide (n = nf))) byN byS pk kn pe clk tol opn) F d_A_append_95 8 1 rfl rfl (by omega) (by decide) (by rw [rp_upd (by omega)]; exact cw_set_rep) ?_
            refine V.iincN (k := 1) (lv2 := [(8, .int (nI (i + 1))), (7, .int (nI (nf))), (0, .ref (ad 3)), (1, .int (nI (x))), (2, .int (nI (sp))), (3, .long (v)), (5, .int (nI (t))), (6, .ref (ad 11))]) F d_A_append_96 0 rfl (by decide) (by decide) rfl ?_
            refine V.goto (tgt := 54) F d_A_append_99 (by decide) ?_
            exact ih54 (i + 1) (fun o n => Rp o n || (decide (o = i) && decide (n = nf))) (by omega) (by omega) (rp_step1 hR c68)
    exact L54 _ (0) (rep) (Nat.lt_succ_self _) (by omega) (fun o n => by simp)
  · skip
    exact absurd c7 (by omega)

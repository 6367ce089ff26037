theorem lw_stop {i L : Nat} (hL : L ≤ 4096) (hi : i ≤ L) (h : ¬ nI L - nI 8 < nI i) : i + 8 ≤ L := by
  rw [Int32.lt_iff_toInt_lt, pk_sub_toInt (by omega) (by omega), nI_toInt (by omega)] at h
  omega
set_option maxHeartbeats 4000000 in
set_option maxRecDepth 100000 in
theorem law_loop {p : Program} {l : Launch} {e : Env} {s : State} {m : MethodId} {below : List Frame} {meth : Method} {c : Code} {D : va_G} {ct : Nat → ClassId} {ad mo : Nat → Nat} {b L : Nat} {xs : Nat → Int32} (hL : L ≤ 4096) (F : Fx p m meth c code 4 s #[Value.ref b] R_L D (tyL ct) (fun q : Nat => s.heap.size ≤ q)) (hX : va_X b L xs s s.heap) (hbl : b < s.heap.size) (hbA : ¬ (fun q : Nat => s.heap.size ≤ q) b) (hr : meth.sig.returnType = ret) : ∀ (n i : Nat) (u1 u2 : va_W), L - i < n → i ≤ L → Rel ct ad mo u1 u2 → V p l e room_1 s m #[Value.ref b] below meth c D (fun q : Nat => s.heap.size ≤ q) 4 (40 + i) (110000 + 50 * i) (lw_Z below #[Value.ref b] s) (u1 ++ u2) [(3, .int (nI (i))), (2, .ref (mo 0)), (1, .ref (ad 0)), (0, .ref (b))] 18 [] := by
  intro n
  induction n with
  | zero => intro i u1 u2 h; exact absurd h (Nat.not_lt_zero _)
  | succ n ih =>
    intro i u1 u2 hn hi hR
    refine V.iload_n F d_L_law_18 rfl 0 rfl ?_
    refine V.aload_n F d_L_law_19 rfl 3 rfl ?_
    refine V.slen F d_L_law_20 hX hbl hbA ?_
    refine V.bipush F d_L_law_21 (v := nI 8) (by decide) ?_
    refine V.isub F d_L_law_23 (v := nI L - nI 8) rfl ?_
    refine V.icmp_gt (x := nI i) (y := nI L - nI 8) (tgt := 824) F d_L_law_24 (by decide) (fun c24 => ?_) (fun c24 => ?_)
    · refine V.iconst F d_L_law_824 (v := 1) (by decide) ?_
      exact V.lwret F hr (by omega) (by omega) d_L_law_825
    have h8 := lw_stop hL hi c24
    have kk : ∀ v1 v2, Rel ct ad mo v1 v2 → V p l e room_1 s m #[Value.ref b] below meth c D (fun q : Nat => s.heap.size ≤ q) 4 (40 + (i + 8)) (110000 + 50 * (i + 8)) (lw_Z below #[Value.ref b] s) (v1 ++ v2) [(3, .int (nI (i + 8))), (2, .ref (mo 0)), (1, .ref (ad 0)), (0, .ref (b))] 18 [] := fun v1 v2 hv => ih (i + 8) v1 v2 (by omega) h8 hv
    refine V.aload_n F d_L_law_27 rfl 3 rfl ?_
    refine V.iload_n F d_L_law_28 rfl 0 rfl ?_
    refine V.sld (i := i) F d_L_law_29 hX hbl hbA (by omega) (by omega) rfl ?_
    refine V.bipush F d_L_law_30 (v := nI 15) (by decide) ?_
    obtain ⟨j, hj, ej⟩ := pk_andE (xs i) (m := nI 15) 4 (by decide)
    refine V.iand F d_L_law_32 (v := nI j) ej ?_
    rcases (show j = 0 ∨ j = 1 ∨ j = 2 ∨ j = 3 ∨ j = 4 ∨ j = 5 ∨ j = 6 ∨ j = 7 ∨ j = 8 ∨ j = 9 ∨ j = 10 ∨ j = 11 ∨ j = 12 ∨ 13 ≤ j by omega) with rfl | rfl | rfl | rfl | rfl | rfl | rfl | rfl | rfl | rfl | rfl | rfl | rfl | hj2
    · exact V.tableIn (tgt := 100) (off := 67) F d_L_law_33 (by decide) (by decide) (by decide) (by decide) (law_desk hL F hX hbl hbA h8 hR kk)
    · exact V.tableIn (tgt := 113) (off := 80) F d_L_law_33 (by decide) (by decide) (by decide) (by decide) (law_tell hL F hX hbl hbA h8 hR kk)
    · exact V.tableIn (tgt := 240) (off := 207) F d_L_law_33 (by decide) (by decide) (by decide) (by decide) (law_correct hL F hX hbl hbA h8 hR kk)
    · exact V.tableIn (tgt := 313) (off := 280) F d_L_law_33 (by decide) (by decide) (by decide) (by decide) (law_join hL F hX hbl hbA h8 hR kk)
    · exact V.tableIn (tgt := 346) (off := 313) F d_L_law_33 (by decide) (by decide) (by decide) (by decide) (law_known hL F hX hbl hbA h8 hR kk)
    · exact V.tableIn (tgt := 474) (off := 441) F d_L_law_33 (by decide) (by decide) (by decide) (by decide) (law_conflict hL F hX hbl hbA h8 hR kk)
    · exact V.tableIn (tgt := 517) (off := 484) F d_L_law_33 (by decide) (by decide) (by decide) (by decide) (law_settle hL F hX hbl hbA h8 hR kk)
    · exact V.tableIn (tgt := 570) (off := 537) F d_L_law_33 (by decide) (by decide) (by decide) (by decide) (law_equal hL F hX hbl hbA h8 hR kk)
    · exact V.tableIn (tgt := 603) (off := 570) F d_L_law_33 (by decide) (by decide) (by decide) (by decide) (law_batch hL F hX hbl hbA h8 hR kk)
    · exact V.tableIn (tgt := 626) (off := 593) F d_L_law_33 (by decide) (by decide) (by decide) (by decide) (law_endBatch hL F hX hbl hbA h8 hR kk)
    · exact V.tableIn (tgt := 649) (off := 616) F d_L_law_33 (by decide) (by decide) (by decide) (by decide) (law_play hL F hX hbl hbA h8 hR kk)
    · exact V.tableIn (tgt := 712) (off := 679) F d_L_law_33 (by decide) (by decide) (by decide) (by decide) (law_find hL F hX hbl hbA h8 hR kk)
    · exact V.tableIn (tgt := 795) (off := 762) F d_L_law_33 (by decide) (by decide) (by decide) (by decide) (law_counts hL F hX hbl hbA h8 hR kk)
    · refine V.tableOut (tgt := 818) F d_L_law_33 (Or.inr (by rw [nI_toInt (by omega)]; omega)) (by decide) ?_
      refine V.iincN (k := 8) (lv2 := [(3, .int (nI (i + 8))), (2, .ref (mo 0)), (1, .ref (ad 0)), (0, .ref (b))]) F d_L_law_818 0 rfl (by decide) (by decide) rfl ?_
      refine V.goto (tgt := 18) F d_L_law_821 (by decide) ?_
      refine V.widen (k := 40 + (i + 8)) (n := 110000 + 50 * (i + 8)) (by omega) (by omega) ?_
      exact kk u1 u2 hR

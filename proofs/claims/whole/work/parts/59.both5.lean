set_option maxHeartbeats 4000000 in
theorem both_play (l : Launch) (D : va_G) {ct : Nat → ClassId} {ad mo : Nat → Nat} {u1 u2 : va_W} (h : Rel ct ad mo u1 u2) (x : Int64) (n : Int32) : BoI l D ct ad mo u1 u2 y_T_play b_T_play 7 (some .int) 6 1 1 y_M_play b_M_play 11 (some .int) 4 0 0 [.long x, .int n] := by
  obtain ⟨da, nd, nb, nf, bdk, num, spt, val, tim, rep, byN, byS, pk, kn, pe, clk, tol, opn, thg, knd, dy, bof, std, xd, hI, hO, rfl, rfl⟩ := h
  have hnd := hI.1.1
  have hnf := hI.1.2.2.1
  by_cases hz : nd = 0 ∨ n < 0 ∨ ¬ n ≤ nI 200
  · exact ⟨_, _, c_playNo l D x n hnd hz, m_playNo l D x n hnd hz, fun a b v w h1 h2 => ⟨h1.1.trans h2.1.symm, by rw [h1.2, h2.2]; exact Rel.mk hI hO⟩⟩
  have h0 : 0 < nd := by omega
  obtain ⟨tn, ht, rfl⟩ : ∃ tn, tn < 201 ∧ n = nI tn := by
    rcases pk_ix n (n := 201) (by decide) with q | q | q
    · exact absurd (Or.inr (Or.inl q)) hz
    · exact absurd (Or.inr (Or.inr (fun z => absurd (Int32.le_trans q z) (by decide)))) hz
    · exact q
  refine ⟨_, _, c_play l D x tn ht hI hO h0, m_play l D x tn ht hI h0, fun a b v w h1 h2 => ?_⟩
  obtain ⟨nf1, num1, spt1, val1, tim1, kn1, pe1, clk1, tol1, thg1, knd1, dy1, bof1, byN1, byS1, pk1, x1, e1, hI1, hO1, r1, w1⟩ := h1
  obtain ⟨nf2, num2, spt2, val2, tim2, kn2, pe2, clk2, tol2, thg2, knd2, dy2, bof2, std2, x2, e2, r2, w2⟩ := h2
  have e := e1.trans e2.symm
  injection e with e ex
  injection e with f0 e
  injection e with f1 e
  injection e with f2 e
  injection e with f3 e
  injection e with f4 e
  injection e with f5 e
  injection e with f6 e
  injection e with f7 e
  injection e with f8 e
  injection e with f9 e
  injection e with f10 e
  injection e with f11 e
  subst f0 f1 f2 f3 f4 f5 f6 f7 f8 f9 f10 f11 e
  refine ⟨?_, by rw [w1, w2]; exact Rel.mk hI1 hO1⟩
  rw [r1, r2, sm_congr (fun i hi => cnt_kn hI1.2.2.2.2.1 hI1.1.2.2.1 i)]

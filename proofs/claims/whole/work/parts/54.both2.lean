theorem nI_neg {x : Int32} {c : Nat} (hx : x < 0) (hc : c < 2 ^ 31) : ¬ x = nI c := fun q => nI_pos hc (q ▸ hx)
theorem rkN_le (num : Nat → Nat) (Q : Nat → Bool) (nf g : Nat) : rkN num Q nf g ≤ nf := cnt_le _ _
theorem rkN_congr {num : Nat → Nat} {Q Q2 : Nat → Bool} {nf g : Nat} (h : ∀ k, k < nf → Q k = Q2 k) : rkN num Q nf g = rkN num Q2 nf g := cnt_ext (fun k hk => by show (_ && Q k) = (_ && Q2 k); rw [h k hk])
theorem rkS_le {spt : Nat → Nat} {val : Nat → Int64} {S : Nat → Bool} {nf f : Nat} (hs : ∀ k, k < nf → spt k < 2 ^ 31) : rkS spt val S nf (spt f) ≤ nf := by rw [← rank_fact hs]; exact cnt_le _ _
theorem ltB_tot {spt tim num : Nat → Nat} {a b : Nat} (h1 : ltB spt tim num a b = false) (h2 : ltB spt tim num b a = false) : num a = num b := by
  unfold ltB at *
  split at h1 <;> split at h2
  · simp only [decide_eq_false_iff_not] at h1 h2; omega
  · omega
  · omega
  · split at h1 <;> split at h2 <;> simp only [decide_eq_false_iff_not] at h1 h2 <;> omega
theorem stB_lkB {P S : Nat → Bool} {rep : Nat → Nat → Bool} {nf f : Nat} (hn : nf ≤ 320) (hP : ∀ k, k < 320 → P k = S k) (hS : ∀ k, S k = true → k < nf) (hf : f < nf) : stB P rep f = lkB S rep f nf := by
  rw [lkB_st hS hn]
  unfold stB
  have e : anyB (fun k => rep f k && P k) 320 = anyB (fun k => rep f k && S k) 320 := by
    rw [Bool.eq_iff_iff, anyB_iff, anyB_iff]
    constructor
    · rintro ⟨k, h1, h2⟩
      exact ⟨k, h1, by rw [← hP k h1]; exact h2⟩
    · rintro ⟨k, h1, h2⟩
      exact ⟨k, h1, by rw [hP k h1]; exact h2⟩
  rw [hP f (by omega), e]
theorem sp_parts {s t k y : Nat} (h : s = (t * 10 + k) * 100001 + y) (hk : k < 10) (hy : y < 100001) : s / 100001 = t * 10 + k ∧ s % 100001 = y ∧ s / 100001 / 10 = t ∧ s / 100001 % 10 = k := by omega
theorem ltB_dy {spt dy tim num : Nat → Nat} {a b c : Nat} (ha : spt a = c + dy a) (hb : spt b = c + dy b) : ltB spt tim num a b = ltB dy tim num a b := by
  unfold ltB
  rw [ha, hb]
  by_cases e : dy a = dy b
  · have e1 : ¬ (c + dy a ≠ c + dy b) := by omega
    have e2 : ¬ (dy a ≠ dy b) := by omega
    rw [if_neg e1, if_neg e2]
  · have e1 : c + dy a ≠ c + dy b := by omega
    rw [if_pos e1, if_pos e, decide_eq_decide]
    omega

set_option maxHeartbeats 1000000 in
theorem both_find (l : Launch) (D : va_G) {ct : Nat → ClassId} {ad mo : Nat → Nat} {u1 u2 : va_W} (h : Rel ct ad mo u1 u2) (x kd : Int32) (v : Int64) (n : Int32) : BoI l D ct ad mo u1 u2 y_T_find b_T_find 7 (some .int) 4 0 0 y_M_find b_M_find 9 (some .int) 1 0 0 [.int x, .int kd, .long v, .int n] := by
  obtain ⟨da, nd, nb, nf, bdk, num, spt, val, tim, rep, byN, byS, pk, kn, pe, clk, tol, opn, thg, knd, dy, bof, std, xd, hI, hO, rfl, rfl⟩ := h
  have hnd := hI.1.1
  have hnf := hI.1.2.2.1
  rcases dk_or x hnd with hx | ⟨d, hd, rfl⟩
  · exact ⟨_, _, c_fiNo l D x kd n v hx, m_findNoD l D x kd n v hx, fun a b v w h1 h2 => ⟨h1.1.trans h2.1.symm, by rw [h1.2, h2.2]; exact Rel.mk hI hO⟩⟩
  by_cases hn : n < 0
  · refine ⟨_, _, c_fiN l D hnf hnd d hd hI.sptB hO.1 kd n v (fun m hm _ => nI_neg hn (by have := cnt_le (fun j => (fun k => decide (k < nf) && (decide (val k = v) && (decide (nI (spt k / 100001 % 10) = kd) && kn d k))) (byN j)) m; omega)), m_findNeg l D hnd d hd kd n v hn, fun a b v w h1 h2 => ?_⟩
    obtain ⟨e1, P, e2⟩ := h1
    exact ⟨e1.trans h2.1.symm, by rw [e2, h2.2]; exact Rel.mk hI hO⟩
  obtain ⟨Q, hQ⟩ : ∃ Q : Nat → Bool, Q = fun k => kn d k && (decide (nI (knd k) = kd) && decide (val k = v)) := ⟨_, rfl⟩
  have hE : ∀ k, k < nf → (fun k => decide (k < nf) && (decide (val k = v) && (decide (nI (spt k / 100001 % 10) = kd) && kn d k))) k = Q k := fun k hk => by
    obtain ⟨s1, s2, s3, s4⟩ := hI.1.2.2.2 k hk
    rw [hQ]
    show (decide (k < nf) && (decide (val k = v) && (decide (nI (spt k / 100001 % 10) = kd) && kn d k))) = (kn d k && (decide (nI (knd k) = kd) && decide (val k = v)))
    rw [decide_eq_true hk, (sp_parts s1 s3 s4).2.2.2]
    cases decide (val k = v) <;> cases decide (nI (knd k) = kd) <;> cases kn d k <;> rfl
  have hL : ∀ f, cnt (fun h => (kn d h && (decide (nI (knd h) = kd) && decide (val h = v))) && decide (num h < num f)) nf = rkN num Q nf f := fun f => cnt_ext (fun h _ => by rw [hQ, Bool.and_comm])
  by_cases hex : ∃ f, f < nf ∧ Q f = true ∧ n = nI (rkN num Q nf f)
  · obtain ⟨f, hf, hq, hr⟩ := hex
    obtain ⟨m, hm, rfl⟩ := hO.2.1 f hf
    refine ⟨_, _, c_fiY l D hnf hnd d hd hI.sptB hO.1 kd n v m hm (by show (fun k => decide (k < nf) && (decide (val k = v) && (decide (nI (spt k / 100001 % 10) = kd) && kn d k))) (byN m) = true; rw [hE _ hf]; exact hq) (by rw [hr, rank_num hO hm (Q := fun k => decide (k < nf) && (decide (val k = v) && (decide (nI (spt k / 100001 % 10) = kd) && kn d k))), rkN_congr hE]), m_find l D hnf hnd d hd hI.numB kd n v hn, fun a b u w h1 h2 => ?_⟩
    obtain ⟨e1, P, e2⟩ := h1
    obtain ⟨h2, e3⟩ := h2
    refine ⟨?_, by rw [e2, e3]; exact Rel.mk hI hO⟩
    rcases h2 with ⟨g, g1, g2, g3, g4⟩ | ⟨g1, g2⟩
    · rw [hL] at g3
      have q1 := rkN_le num Q nf (byN m)
      have q2 := rkN_le num Q nf g
      have e := (nI_eq (by omega) (by omega)).mp (hr.symm.trans g3)
      have := rkN_inj hI.2.2.2.2.2.2.2.2.2.2.2 hf g1 hq (by rw [hQ]; exact g2) e
      rw [e1, g4, this]
    · exact absurd (by rw [hL]; exact hr) (g1 (byN m) hf (by rw [hQ] at hq; exact hq))
  · refine ⟨_, _, c_fiN l D hnf hnd d hd hI.sptB hO.1 kd n v (fun m hm hmq q => hex ⟨byN m, hO.1 m hm, by rw [← hE _ (hO.1 m hm)]; exact hmq, by rw [q, rank_num hO hm (Q := fun k => decide (k < nf) && (decide (val k = v) && (decide (nI (spt k / 100001 % 10) = kd) && kn d k))), rkN_congr hE]⟩), m_find l D hnf hnd d hd hI.numB kd n v hn, fun a b u w h1 h2 => ?_⟩
    obtain ⟨e1, P, e2⟩ := h1
    obtain ⟨h2, e3⟩ := h2
    refine ⟨?_, by rw [e2, e3]; exact Rel.mk hI hO⟩
    rcases h2 with ⟨g, g1, g2, g3, g4⟩ | ⟨g1, g2⟩
    · rw [hL] at g3
      exact absurd ⟨g, g1, by rw [hQ]; exact g2, g3⟩ hex
    · rw [e1, g2]

set_option maxHeartbeats 1000000 in
theorem both_known (l : Launch) (D : va_G) {ct : Nat → ClassId} {ad mo : Nat → Nat} {u1 u2 : va_W} (h : Rel ct ad mo u1 u2) (x t kd : Int32) (y on : Int64) : BoL l D ct ad mo u1 u2 y_T_known b_T_known 10 (some .long) 4 0 0 y_M_known b_M_known 11 (some .long) 2 0 0 [.int x, .int t, .int kd, .long y, .long on] := by
  obtain ⟨da, nd, nb, nf, bdk, num, spt, val, tim, rep, byN, byS, pk, kn, pe, clk, tol, opn, thg, knd, dy, bof, std, xd, hI, hO, rfl, rfl⟩ := h
  have hnd := hI.1.1
  have hnf := hI.1.2.2.1
  rcases dk_or x hnd with hx | ⟨d, hd, rfl⟩
  · exact ⟨_, _, c_knNo l D x t kd y on hx, m_knownNo l D x t kd y on hx, fun a b v w h1 h2 => ⟨h1.1.trans h2.1.symm, by rw [h1.2, h2.2]; exact Rel.mk hI hO⟩⟩
  rcases tk_or t kd with hz | ⟨t1, k1, ht, hk, rfl, rfl⟩
  · refine ⟨_, _, c_knBad l D hnd d hd t kd y on hz, m_known l D hnf hnd d hd spt hI.1.2.2.2 hI.numB hI.timB t kd y on, fun a b v w h1 h2 => ?_⟩
    obtain ⟨⟨b0, e1, e2, e3⟩, e4⟩ := h2
    refine ⟨?_, by rw [h1.2, e4]; exact Rel.mk hI hO⟩
    cases b0 with
    | none => rw [h1.1, e1]
    | some g =>
      obtain ⟨g1, ⟨g2, g3, -, -⟩, -⟩ := e2 g rfl
      obtain ⟨s1, s2, s3, s4⟩ := hI.1.2.2.2 g g1
      rw [← g2, ← g3, tk_ok s2 s3] at hz
      cases hz
  refine ⟨_, _, c_kn l D hnf hnd d hd hI.sptB hI.timB hI.numB t1 k1 ht hk y on, m_known l D hnf hnd d hd spt hI.1.2.2.2 hI.numB hI.timB (nI t1) (nI k1) y on, fun a b v w h1 h2 => ?_⟩
  obtain ⟨P, b1, hP, hb1, e1, e2⟩ := h1
  obtain ⟨⟨b2, e3, hb2⟩, e4⟩ := h2
  refine ⟨?_, by rw [e2, e4]; exact Rel.mk hI hO⟩
  have hPS : ∀ k, k < 320 → P k = (fun k => kn d k && decide (¬ on < lN (tim k))) k := fun k hk => by
    rw [hP k hk]
    show (decide (k < nf) && (decide (¬ on < lN (tim k)) && kn d k)) = (kn d k && decide (¬ on < lN (tim k)))
    by_cases q : k < nf
    · rw [decide_eq_true q, Bool.true_and, Bool.and_comm]
    · rw [decide_eq_false q, bf (fun z => q (hI.2.2.2.2.1 d k z).1)]; rfl
  have hS : ∀ k, (fun k => kn d k && decide (¬ on < lN (tim k))) k = true → k < nf := fun k q => by
    have q : (kn d k && decide (¬ on < lN (tim k))) = true := q
    rw [Bool.and_eq_true] at q
    exact (hI.2.2.2.2.1 d k q.1).1
  have hCA : ∀ k, k < nf → ((spt k / 100001 = t1 * 10 + k1 ∧ ¬ y < lN (spt k % 100001) ∧ stB P rep k = true) ↔ (nI (thg k) = nI t1 ∧ nI (knd k) = nI k1 ∧ ¬ y < lN (dy k) ∧ lkB (fun k => kn d k && decide (¬ on < lN (tim k))) rep k nf = true)) := fun k hk => by
    obtain ⟨s1, s2, s3, s4⟩ := hI.1.2.2.2 k hk
    obtain ⟨z1, z2, z3, z4⟩ := sp_parts s1 s3 s4
    rw [z1, z2, stB_lkB (by omega) hPS hS hk, nI_eq (by omega) (by omega), nI_eq (by omega) (by omega)]
    constructor
    · rintro ⟨c1, c2, c3⟩
      exact ⟨by omega, by omega, c2, c3⟩
    · rintro ⟨c1, c1', c2, c3⟩
      exact ⟨by omega, c2, c3⟩
  have e5 : b1 = b2 := by
    cases b1 with
    | none =>
      cases b2 with
      | none => rfl
      | some g =>
        obtain ⟨g1, g2, -⟩ := hb2.1 g rfl
        exact absurd ((hCA g g1).mpr g2) (hb1.2 rfl g g1)
    | some f =>
      obtain ⟨f1, f2, f3⟩ := hb1.1 f rfl
      cases b2 with
      | none => exact absurd ((hCA f f1).mp f2) (hb2.2 rfl f f1)
      | some g =>
        obtain ⟨g1, g2, g3⟩ := hb2.1 g rfl
        have q1 := f3 g g1 ((hCA g g1).mpr g2)
        have q2 := g3 f f1 ((hCA f f1).mp f2)
        obtain ⟨s1, s2, s3, s4⟩ := hI.1.2.2.2 f f1
        obtain ⟨r1, r2, r3, r4⟩ := hI.1.2.2.2 g g1
        have m1 := (hCA f f1).mp f2
        have k1 := (nI_eq (by omega) (by omega)).mp m1.1
        have k2 := (nI_eq (by omega) (by omega)).mp m1.2.1
        have k3 := (nI_eq (by omega) (by omega)).mp g2.1
        have k4 := (nI_eq (by omega) (by omega)).mp g2.2.1
        rw [← ltB_dy (spt := spt) (c := (thg f * 10 + knd f) * 100001) s1 (by rw [r1, k1, k2, k3, k4])] at q2
        rw [hI.2.2.2.2.2.2.2.2.2.2.2 f g f1 g1 (ltB_tot q2 q1)]
  rw [e1, e3, e5]
  cases b2 <;> rfl

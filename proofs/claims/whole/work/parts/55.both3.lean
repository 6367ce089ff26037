section CFM
variable {nf : Nat} {num spt byN byS : Nat → Nat} {val : Nat → Int64} {P St : Nat → Bool}
theorem rk_P (hP : ∀ f, f < nf → P f = St f) (hs : ∀ k, k < nf → spt k < 2 ^ 31) (f : Nat) : cnt (fun g => decide (spt g < spt f) && fcB spt val P nf g) nf = rkS spt val St nf (spt f) := by
  rw [← rank_fact hs]
  exact cnt_ext (fun g hg => by rw [fcB_congr hg hP])
theorem cfm_yes {k : Int32} {Res : Nat → Prop} {No : Prop} (hn : nf ≤ 300) (hP : ∀ f, f < nf → P f = St f) (hs : ∀ k, k < nf → spt k < 2 ^ 31) (h : (∃ f, f < nf ∧ fcB spt val P nf f = true ∧ k = nI (cnt (fun g => decide (spt g < spt f) && fcB spt val P nf g) nf) ∧ Res f) ∨ ((∀ f, f < nf → fcB spt val P nf f = true → ¬ k = nI (cnt (fun g => decide (spt g < spt f) && fcB spt val P nf g) nf)) ∧ No)) {f : Nat} (hf : f < nf) (hfc : fcB spt val St nf f = true) (hk : k = nI (rkS spt val St nf (spt f))) : ∃ f2, f2 < nf ∧ spt f2 = spt f ∧ Res f2 := by
  rcases h with ⟨g, g1, g2, g3, g4⟩ | ⟨g1, g2⟩
  · refine ⟨g, g1, ?_, g4⟩
    rw [rk_P hP hs] at g3
    rw [fcB_congr g1 hP] at g2
    have q1 := rkS_le (val := val) (S := St) (f := f) hs
    have q2 := rkS_le (val := val) (S := St) (f := g) hs
    exact rkS_inj (hs g g1) (hs f hf) (fc_cf g1 g2).2.1 (fc_cf hf hfc).2.1 ((nI_eq (by omega) (by omega)).mp (g3.symm.trans hk))
  · exact absurd (by rw [rk_P hP hs]; exact hk) (g1 f hf (by rw [fcB_congr hf hP]; exact hfc))
theorem cfm_no {k : Int32} {Res : Nat → Prop} {No : Prop} (hP : ∀ f, f < nf → P f = St f) (hs : ∀ k, k < nf → spt k < 2 ^ 31) (h : (∃ f, f < nf ∧ fcB spt val P nf f = true ∧ k = nI (cnt (fun g => decide (spt g < spt f) && fcB spt val P nf g) nf) ∧ Res f) ∨ ((∀ f, f < nf → fcB spt val P nf f = true → ¬ k = nI (cnt (fun g => decide (spt g < spt f) && fcB spt val P nf g) nf)) ∧ No)) (hno : ∀ f, f < nf → fcB spt val St nf f = true → ¬ k = nI (rkS spt val St nf (spt f))) : No := by
  rcases h with ⟨g, g1, g2, g3, g4⟩ | ⟨g1, g2⟩
  · rw [rk_P hP hs] at g3
    rw [fcB_congr g1 hP] at g2
    exact absurd g3 (hno g g1 g2)
  · exact g2
theorem cls_yes (hO : Ord nf num spt byN byS) (hs : ∀ k, k < nf → spt k < 2 ^ 31) {f : Nat} (hf : f < nf) (hc : cfB spt val St nf (spt f) = true) : ∃ s0, s0 < nf ∧ (fun a => decide (0 ≤ spt (byS a)) && (isF spt byS a && cfB spt val St nf (spt (byS a)))) s0 = true ∧ cnt (fun a => decide (0 ≤ spt (byS a)) && (isF spt byS a && cfB spt val St nf (spt (byS a)))) s0 = rkS spt val St nf (spt f) ∧ spt (byS s0) = spt f := by
  obtain ⟨a, a1, a2, a3⟩ := isF_ex hO hf
  refine ⟨a, a1, ?_, ?_, a3⟩
  · show (decide (0 ≤ spt (byS a)) && (isF spt byS a && cfB spt val St nf (spt (byS a)))) = true
    rw [a2, a3, hc, decide_eq_true (Nat.zero_le _)]
    rfl
  · rw [← a3, ← rank_place hO hs a1 a2]
    exact cnt_ext (fun b _ => by rw [decide_eq_true (Nat.zero_le _), Bool.true_and])
theorem cls_no (hO : Ord nf num spt byN byS) (hs : ∀ k, k < nf → spt k < 2 ^ 31) {k : Int32} (hno : ∀ f, f < nf → fcB spt val St nf f = true → ¬ k = nI (rkS spt val St nf (spt f))) : ∀ m, m < nf → (fun a => decide (0 ≤ spt (byS a)) && (isF spt byS a && cfB spt val St nf (spt (byS a)))) m = true → ¬ k = nI (cnt (fun a => decide (0 ≤ spt (byS a)) && (isF spt byS a && cfB spt val St nf (spt (byS a)))) m) := by
  intro m hm hG q
  have hG : (decide (0 ≤ spt (byS m)) && (isF spt byS m && cfB spt val St nf (spt (byS m)))) = true := hG
  rw [Bool.and_eq_true, Bool.and_eq_true] at hG
  obtain ⟨f, f1, f2, f3⟩ := cf_fc hG.2.2
  refine hno f f1 f3 ?_
  rw [q, f2, ← rank_place hO hs hm hG.2.1]
  refine congrArg nI (cnt_ext (fun b _ => ?_))
  rw [decide_eq_true (Nat.zero_le _), Bool.true_and]
theorem ls_rk {g s : Nat} (hP : ∀ f, f < nf → P f = St f) : cnt (fun h => decide (spt s = spt h) && (decide (num h < num g) && P h)) nf = rkN num (fun h => decide (spt h = spt s) && St h) nf g := cnt_ext (fun h hh => by
  show (decide (spt s = spt h) && (decide (num h < num g) && P h)) = (decide (num h < num g) && (decide (spt h = spt s) && St h))
  rw [hP h hh, show decide (spt s = spt h) = decide (spt h = spt s) from by rw [decide_eq_decide]; exact eq_comm]
  cases decide (num h < num g) <;> cases decide (spt h = spt s) <;> cases St h <;> rfl)
theorem qs_eq {sp k : Nat} (hk : k < nf) : (fun k => decide (k < nf) && (decide (spt k = sp) && St k)) k = (fun k => decide (spt k = sp) && St k) k := by
  show (decide (k < nf) && (decide (spt k = sp) && St k)) = (decide (spt k = sp) && St k)
  rw [decide_eq_true hk, Bool.true_and]
theorem qs_cnt {sp : Nat} (hn : nf ≤ 300) : cnt (fun k => decide (k < nf) && (decide (spt k = sp) && St k)) 320 = cnt (fun k => decide (spt k = sp) && St k) nf := by
  rw [show 320 = nf + (320 - nf) by omega, cnt_add, cnt_none (p := fun i => decide (nf + i < nf) && (decide (spt (nf + i) = sp) && St (nf + i))) (fun i _ => by rw [decide_eq_false (by omega)]; rfl), Nat.add_zero]
  exact cnt_ext (fun k hk => qs_eq hk)
theorem stm_yes {s : Nat} {x : Int32} {b : Option Nat} (hn : nf ≤ 300) (hd : ∀ j k, j < nf → k < nf → num j = num k → j = k) (hP : ∀ f, f < nf → P f = St f) (h : (∀ g, b = some g → g < nf ∧ (fun g => decide (spt s = spt g) && P g) g = true ∧ x = nI (cnt (fun h => decide (spt s = spt h) && (decide (num h < num g) && P h)) nf)) ∧ (b = none → ∀ g, g < nf → (fun g => decide (spt s = spt g) && P g) g = true → ¬ x = nI (cnt (fun h => decide (spt s = spt h) && (decide (num h < num g) && P h)) nf))) {g : Nat} (hg : g < nf) (hq : (decide (spt g = spt s) && St g) = true) (hx : x = nI (rkN num (fun h => decide (spt h = spt s) && St h) nf g)) : b = some g := by
  cases b with
  | none =>
    refine absurd (by rw [ls_rk hP]; exact hx) (h.2 rfl g hg ?_)
    show (decide (spt s = spt g) && P g) = true
    rw [hP g hg, show decide (spt s = spt g) = decide (spt g = spt s) from by rw [decide_eq_decide]; exact eq_comm]
    exact hq
  | some f =>
    obtain ⟨f1, f2, f3⟩ := h.1 f rfl
    have f2 : (decide (spt s = spt f) && P f) = true := f2
    rw [hP f f1, show decide (spt s = spt f) = decide (spt f = spt s) from by rw [decide_eq_decide]; exact eq_comm] at f2
    rw [ls_rk hP] at f3
    have q1 := rkN_le num (fun h => decide (spt h = spt s) && St h) nf g
    have q2 := rkN_le num (fun h => decide (spt h = spt s) && St h) nf f
    rw [rkN_inj (Q := fun h => decide (spt h = spt s) && St h) hd f1 hg f2 hq ((nI_eq (by omega) (by omega)).mp (f3.symm.trans hx))]
theorem stm_no {s : Nat} {x : Int32} {b : Option Nat} (hP : ∀ f, f < nf → P f = St f) (h : (∀ g, b = some g → g < nf ∧ (fun g => decide (spt s = spt g) && P g) g = true ∧ x = nI (cnt (fun h => decide (spt s = spt h) && (decide (num h < num g) && P h)) nf)) ∧ (b = none → ∀ g, g < nf → (fun g => decide (spt s = spt g) && P g) g = true → ¬ x = nI (cnt (fun h => decide (spt s = spt h) && (decide (num h < num g) && P h)) nf))) (hno : ∀ g, g < nf → (decide (spt g = spt s) && St g) = true → ¬ x = nI (rkN num (fun h => decide (spt h = spt s) && St h) nf g)) : b = none := by
  cases b with
  | none => rfl
  | some f =>
    obtain ⟨f1, f2, f3⟩ := h.1 f rfl
    have f2 : (decide (spt s = spt f) && P f) = true := f2
    rw [hP f f1, show decide (spt s = spt f) = decide (spt f = spt s) from by rw [decide_eq_decide]; exact eq_comm] at f2
    rw [ls_rk hP] at f3
    exact absurd f3 (hno f f1 f2)
theorem io_hy (hO : Ord nf num spt byN byS) {sp m : Nat} (hm : m < nf) : cnt (fun j => (fun k => decide (k < nf) && (decide (spt k = sp) && St k)) (byN j)) m = rkN num (fun h => decide (spt h = sp) && St h) nf (byN m) := by
  rw [rank_num hO hm (Q := fun k => decide (k < nf) && (decide (spt k = sp) && St k))]
  exact rkN_congr (fun k hk => qs_eq hk)
end CFM

set_option maxHeartbeats 2000000 in
theorem both_conflict (l : Launch) (D : va_G) {ct : Nat → ClassId} {ad mo : Nat → Nat} {u1 u2 : va_W} (h : Rel ct ad mo u1 u2) (x k w : Int32) : BoI l D ct ad mo u1 u2 y_T_conflict b_T_conflict 6 (some .int) 5 0 0 y_M_conflict b_M_conflict 7 (some .int) 2 0 0 [.int x, .int k, .int w] := by
  obtain ⟨da, nd, nb, nf, bdk, num, spt, val, tim, rep, byN, byS, pk, kn, pe, clk, tol, opn, thg, knd, dy, bof, std, xd, hI, hO, rfl, rfl⟩ := h
  have hnd := hI.1.1
  have hnf := hI.1.2.2.1
  rcases dk_or x hnd with hx | ⟨d, hd, rfl⟩
  · exact ⟨_, _, c_cfNo l D x k w hx, m_cfNoD l D x k w hx, fun a b v w h1 h2 => ⟨h1.1.trans h2.1.symm, by rw [h1.2, h2.2]; exact Rel.mk hI hO⟩⟩
  by_cases hn : k < 0 ∨ w < 0
  · exact ⟨_, _, c_cfNeg l D hnd d hd k w hn, m_cfNeg l D hnd d hd k w hn, fun a b v w h1 h2 => ⟨h1.1.trans h2.1.symm, by rw [h1.2, h2.2]; exact Rel.mk hI hO⟩⟩
  have hk : ¬ k < 0 := fun q => hn (Or.inl q)
  obtain ⟨ww, hww, rfl⟩ := nI_of (fun q : w < 0 => hn (Or.inr q))
  by_cases hex : ∃ f, f < nf ∧ fcB spt val (stB (kn d) rep) nf f = true ∧ k = nI (rkS spt val (stB (kn d) rep) nf (spt f))
  · obtain ⟨f, hf, hfc, hkr⟩ := hex
    obtain ⟨s0, hs0, hsG, hsk, hsp⟩ := cls_yes hO hI.sptB hf (fc_cf hf hfc).2.1
    rcases (show ww = 0 ∨ ww = 1 ∨ ww = 2 ∨ ww = 3 ∨ ∃ w4, ww = w4 + 4 from by
      by_cases q : ww < 4
      · omega
      · exact Or.inr (Or.inr (Or.inr (Or.inr ⟨ww - 4, by omega⟩)))) with rfl | rfl | rfl | rfl | ⟨w4, rfl⟩
    · refine ⟨_, _, c_cf0 l D hnf hnd d hd hO.2.2.2.1 hI.sptB hO.2.2.2.2.2 hO.2.2.2.2.1 hO.1 k hk s0 hs0 hsG (hkr.trans (congrArg nI hsk.symm)) (spt f) hsp, m_cf0 l D hnf hnd d hd spt hI.1.2.2.2 hI.numB k hk, fun a b v w h1 h2 => ?_⟩
      obtain ⟨e1, P1, e2⟩ := h1
      obtain ⟨P, hP, h2, e3⟩ := h2
      have hP : ∀ f, f < nf → P f = stB (kn d) rep f := fun f hf => (hP f hf).trans (st_lk hI d f)
      obtain ⟨f2, g1, g2, g3⟩ := cfm_yes hnf hP hI.sptB h2 hf hfc hkr
      refine ⟨?_, by rw [e2, e3]; exact Rel.mk hI hO⟩
      obtain ⟨s1, s2, s3, s4⟩ := hI.1.2.2.2 f2 g1
      have z := sp_parts s1 s3 s4
      rw [e1, g3, ← g2, z.2.2.1]
    · refine ⟨_, _, c_cf1 l D hnf hnd d hd hO.2.2.2.1 hI.sptB hO.2.2.2.2.2 hO.2.2.2.2.1 hO.1 k hk s0 hs0 hsG (hkr.trans (congrArg nI hsk.symm)) (spt f) hsp, m_cf1 l D hnf hnd d hd spt hI.1.2.2.2 hI.numB k hk, fun a b v w h1 h2 => ?_⟩
      obtain ⟨e1, P1, e2⟩ := h1
      obtain ⟨P, hP, h2, e3⟩ := h2
      have hP : ∀ f, f < nf → P f = stB (kn d) rep f := fun f hf => (hP f hf).trans (st_lk hI d f)
      obtain ⟨f2, g1, g2, g3⟩ := cfm_yes hnf hP hI.sptB h2 hf hfc hkr
      refine ⟨?_, by rw [e2, e3]; exact Rel.mk hI hO⟩
      obtain ⟨s1, s2, s3, s4⟩ := hI.1.2.2.2 f2 g1
      have z := sp_parts s1 s3 s4
      rw [e1, g3, ← g2, z.2.2.2]
    · refine ⟨_, _, c_cf2 l D hnf hnd d hd hO.2.2.2.1 hI.sptB hO.2.2.2.2.2 hO.2.2.2.2.1 hO.1 k hk s0 hs0 hsG (hkr.trans (congrArg nI hsk.symm)) (spt f) hsp, m_cf2 l D hnf hnd d hd spt hI.1.2.2.2 hI.numB k hk, fun a b v w h1 h2 => ?_⟩
      obtain ⟨e1, P1, e2⟩ := h1
      obtain ⟨P, hP, h2, e3⟩ := h2
      have hP : ∀ f, f < nf → P f = stB (kn d) rep f := fun f hf => (hP f hf).trans (st_lk hI d f)
      obtain ⟨f2, g1, g2, g3⟩ := cfm_yes hnf hP hI.sptB h2 hf hfc hkr
      refine ⟨?_, by rw [e2, e3]; exact Rel.mk hI hO⟩
      obtain ⟨s1, s2, s3, s4⟩ := hI.1.2.2.2 f2 g1
      have z := sp_parts s1 s3 s4
      rw [e1, g3, ← g2, z.2.1]
    · refine ⟨_, _, c_cf3 l D hnf hnd d hd hO.2.2.2.1 hI.sptB hO.2.2.2.2.2 hO.2.2.2.2.1 hO.1 k hk s0 hs0 hsG (hkr.trans (congrArg nI hsk.symm)) (spt f) hsp, m_cf3 l D hnf hnd d hd spt hI.1.2.2.2 hI.numB k hk, fun a b v w h1 h2 => ?_⟩
      obtain ⟨e1, P1, e2⟩ := h1
      obtain ⟨P, hP, h2, e3⟩ := h2
      have hP : ∀ f, f < nf → P f = stB (kn d) rep f := fun f hf => (hP f hf).trans (st_lk hI d f)
      obtain ⟨f2, g1, g2, g3⟩ := cfm_yes hnf hP hI.sptB h2 hf hfc hkr
      refine ⟨?_, by rw [e2, e3]; exact Rel.mk hI hO⟩
      rw [e1, g3, qs_cnt hnf]
      refine congrArg nI (cnt_ext (fun g hg => ?_))
      rw [hP g hg, g2, show decide (spt f = spt g) = decide (spt g = spt f) from by rw [decide_eq_decide]; exact eq_comm]
    · by_cases hg : ∃ g, g < nf ∧ (decide (spt g = spt f) && stB (kn d) rep g) = true ∧ nI w4 = nI (rkN num (fun h => decide (spt h = spt f) && stB (kn d) rep h) nf g)
      · obtain ⟨g, hg, hq, hx⟩ := hg
        obtain ⟨m, hm, rfl⟩ := hO.2.1 g hg
        refine ⟨_, _, c_cf4Y l D hnf hnd d hd hO.2.2.2.1 hI.sptB hO.2.2.2.2.2 hO.2.2.2.2.1 hO.1 k hk s0 hs0 hsG (hkr.trans (congrArg nI hsk.symm)) (spt f) hsp w4 hww m hm ((qs_eq hg).trans hq) (hx.trans (congrArg nI (io_hy hO hm).symm)), m_cf4 l D hnf hnd d hd spt hI.1.2.2.2 hI.numB k hk w4 hww, fun a b v w h1 h2 => ?_⟩
        obtain ⟨e1, P1, e2⟩ := h1
        obtain ⟨P, hP, h2, e3⟩ := h2
        have hP : ∀ f, f < nf → P f = stB (kn d) rep f := fun f hf => (hP f hf).trans (st_lk hI d f)
        obtain ⟨f2, g1, g2, b0, g3, g4⟩ := cfm_yes hnf hP hI.sptB h2 hf hfc hkr
        refine ⟨?_, by rw [e2, e3]; exact Rel.mk hI hO⟩
        have := stm_yes hnf hI.2.2.2.2.2.2.2.2.2.2.2 hP g3 hg (by rw [g2]; exact hq) (by rw [g2]; exact hx)
        rw [e1, g4, this]
      · refine ⟨_, _, c_cf4N l D hnf hnd d hd hO.2.2.2.1 hI.sptB hO.2.2.2.2.2 hO.2.2.2.2.1 hO.1 k hk s0 hs0 hsG (hkr.trans (congrArg nI hsk.symm)) (spt f) hsp w4 hww (fun m hm hq q => hg ⟨byN m, hO.1 m hm, (qs_eq (hO.1 m hm)).symm.trans hq, q.trans (congrArg nI (io_hy hO hm))⟩), m_cf4 l D hnf hnd d hd spt hI.1.2.2.2 hI.numB k hk w4 hww, fun a b v w h1 h2 => ?_⟩
        obtain ⟨e1, P1, e2⟩ := h1
        obtain ⟨P, hP, h2, e3⟩ := h2
        have hP : ∀ f, f < nf → P f = stB (kn d) rep f := fun f hf => (hP f hf).trans (st_lk hI d f)
        obtain ⟨f2, g1, g2, b0, g3, g4⟩ := cfm_yes hnf hP hI.sptB h2 hf hfc hkr
        refine ⟨?_, by rw [e2, e3]; exact Rel.mk hI hO⟩
        have := stm_no hP g3 (fun g a1 a2 a3 => hg ⟨g, a1, by rw [← g2]; exact a2, by rw [← g2]; exact a3⟩)
        rw [e1, g4, this]
  · have hno : ∀ f, f < nf → fcB spt val (stB (kn d) rep) nf f = true → ¬ k = nI (rkS spt val (stB (kn d) rep) nf (spt f)) := fun f a1 a2 a3 => hex ⟨f, a1, a2, a3⟩
    rcases (show ww = 0 ∨ ww = 1 ∨ ww = 2 ∨ ww = 3 ∨ ∃ w4, ww = w4 + 4 from by
      by_cases q : ww < 4
      · omega
      · exact Or.inr (Or.inr (Or.inr (Or.inr ⟨ww - 4, by omega⟩)))) with rfl | rfl | rfl | rfl | ⟨w4, rfl⟩
    · refine ⟨_, _, c_cfNF l D hnf hnd d hd hO.2.2.2.1 hI.sptB hO.2.2.2.2.2 hO.2.2.2.2.1 k hk 0 (by omega) (cls_no hO hI.sptB hno), m_cf0 l D hnf hnd d hd spt hI.1.2.2.2 hI.numB k hk, fun a b v w h1 h2 => ?_⟩
      obtain ⟨P, hP, h2, e3⟩ := h2
      have hP : ∀ f, f < nf → P f = stB (kn d) rep f := fun f hf => (hP f hf).trans (st_lk hI d f)
      have h3 := cfm_no hP hI.sptB h2 hno
      exact ⟨h1.1.trans h3.symm, by rw [h1.2, e3]; exact Rel.mk hI hO⟩
    · refine ⟨_, _, c_cfNF l D hnf hnd d hd hO.2.2.2.1 hI.sptB hO.2.2.2.2.2 hO.2.2.2.2.1 k hk 1 (by omega) (cls_no hO hI.sptB hno), m_cf1 l D hnf hnd d hd spt hI.1.2.2.2 hI.numB k hk, fun a b v w h1 h2 => ?_⟩
      obtain ⟨P, hP, h2, e3⟩ := h2
      have hP : ∀ f, f < nf → P f = stB (kn d) rep f := fun f hf => (hP f hf).trans (st_lk hI d f)
      have h3 := cfm_no hP hI.sptB h2 hno
      exact ⟨h1.1.trans h3.symm, by rw [h1.2, e3]; exact Rel.mk hI hO⟩
    · refine ⟨_, _, c_cfNF l D hnf hnd d hd hO.2.2.2.1 hI.sptB hO.2.2.2.2.2 hO.2.2.2.2.1 k hk 2 (by omega) (cls_no hO hI.sptB hno), m_cf2 l D hnf hnd d hd spt hI.1.2.2.2 hI.numB k hk, fun a b v w h1 h2 => ?_⟩
      obtain ⟨P, hP, h2, e3⟩ := h2
      have hP : ∀ f, f < nf → P f = stB (kn d) rep f := fun f hf => (hP f hf).trans (st_lk hI d f)
      have h3 := cfm_no hP hI.sptB h2 hno
      exact ⟨h1.1.trans h3.symm, by rw [h1.2, e3]; exact Rel.mk hI hO⟩
    · refine ⟨_, _, c_cfNF l D hnf hnd d hd hO.2.2.2.1 hI.sptB hO.2.2.2.2.2 hO.2.2.2.2.1 k hk 3 (by omega) (cls_no hO hI.sptB hno), m_cf3 l D hnf hnd d hd spt hI.1.2.2.2 hI.numB k hk, fun a b v w h1 h2 => ?_⟩
      obtain ⟨P, hP, h2, e3⟩ := h2
      have hP : ∀ f, f < nf → P f = stB (kn d) rep f := fun f hf => (hP f hf).trans (st_lk hI d f)
      have h3 := cfm_no hP hI.sptB h2 hno
      exact ⟨h1.1.trans h3.symm, by rw [h1.2, e3]; exact Rel.mk hI hO⟩
    · refine ⟨_, _, c_cfNF l D hnf hnd d hd hO.2.2.2.1 hI.sptB hO.2.2.2.2.2 hO.2.2.2.2.1 k hk (w4 + 4) (by omega) (cls_no hO hI.sptB hno), m_cf4 l D hnf hnd d hd spt hI.1.2.2.2 hI.numB k hk w4 hww, fun a b v w h1 h2 => ?_⟩
      obtain ⟨P, hP, h2, e3⟩ := h2
      have hP : ∀ f, f < nf → P f = stB (kn d) rep f := fun f hf => (hP f hf).trans (st_lk hI d f)
      have h3 := cfm_no hP hI.sptB h2 hno
      exact ⟨h1.1.trans h3.symm, by rw [h1.2, e3]; exact Rel.mk hI hO⟩

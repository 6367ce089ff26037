section TIE
variable {nf : Nat} {num spt byN byS : Nat → Nat} {val : Nat → Int64} {S : Nat → Bool}
theorem isF_ne {a b : Nat} (hO : Ord nf num spt byN byS) (hab : a < b) (hb : b < nf) (h : isF spt byS b = true) : spt (byS a) < spt (byS b) := by
  have h1 := hO.2.2.2.2.2 a (b - 1) (by omega) (by omega)
  have h2 := hO.2.2.2.2.2 (b - 1) b (by omega) hb
  unfold isF at h
  rw [Bool.or_eq_true] at h
  rcases h with h | h
  · have := of_decide_eq_true h; omega
  · have := of_decide_eq_true h; omega
theorem isF_ex (hO : Ord nf num spt byN byS) {f : Nat} (hf : f < nf) : ∃ a, a < nf ∧ isF spt byS a = true ∧ spt (byS a) = spt f := by
  obtain ⟨a0, h1, h2⟩ := hO.2.2.2.2.1 f hf
  obtain ⟨a, ⟨ha, hs⟩, hmin⟩ := pk_least (fun a => a < nf ∧ spt (byS a) = spt f) ⟨a0, h1, by rw [h2]⟩
  refine ⟨a, ha, ?_, hs⟩
  unfold isF
  by_cases e : a = 0
  · rw [decide_eq_true e]; rfl
  · have := hmin (a - 1) (by omega)
    have hne : spt (byS (a - 1)) ≠ spt (byS a) := fun q => this ⟨by omega, q.trans hs⟩
    rw [decide_eq_true hne, Bool.or_true]
theorem cf_fact {x : Nat} (h : cfB spt val S nf x = true) : ∃ f, f < nf ∧ spt f = x ∧ S f = true := by
  obtain ⟨f, g, h1, h2, h3, h4, h5, h6, h7⟩ := cfB_iff.mp h
  exact ⟨f, h1, h3, h5⟩
theorem tieC {p : Nat → Bool} (hO : Ord nf num spt byN byS) (hs : ∀ k, k < nf → spt k < 2 ^ 31) : cnt (fun a => p (spt (byS a)) && (isF spt byS a && cfB spt val S nf (spt (byS a)))) nf = cnt (fun x => p x && cfB spt val S nf x) (2 ^ 31) := by
  rw [cnt_img (h := fun a => spt (byS a)) (Mk := fun a => isF spt byS a && cfB spt val S nf (spt (byS a))) (p := p) (N := 2 ^ 31) (fun i j hi hj m1 m2 e => ?_) (fun i hi _ => hs _ (hO.2.2.2.1 i hi))]
  · refine cnt_ext (fun x _ => ?_)
    congr 1
    rw [Bool.eq_iff_iff, anyB_iff]
    constructor
    · rintro ⟨k, hk, h⟩
      rw [Bool.and_eq_true, Bool.and_eq_true] at h
      rw [← of_decide_eq_true h.2]
      exact h.1.2
    · intro h
      obtain ⟨f, f1, f2, f3⟩ := cf_fact h
      obtain ⟨a, a1, a2, a3⟩ := isF_ex hO f1
      refine ⟨a, a1, ?_⟩
      rw [a2, a3, f2, h, decide_eq_true rfl]
      rfl
  · rw [Bool.and_eq_true] at m1 m2
    rcases Nat.lt_trichotomy i j with q | q | q
    · have := isF_ne hO q hj m2.1
      have e : spt (byS i) = spt (byS j) := e
      omega
    · exact q
    · have := isF_ne hO q hi m1.1
      have e : spt (byS i) = spt (byS j) := e
      omega
theorem fc_cf {f : Nat} (hf : f < nf) (h : fcB spt val S nf f = true) : S f = true ∧ cfB spt val S nf (spt f) = true ∧ ∀ g, g < f → spt g = spt f → S g = false := by
  unfold fcB at h
  rw [Bool.and_eq_true, Bool.and_eq_true] at h
  obtain ⟨⟨h1, h2⟩, h3⟩ := h
  obtain ⟨g, g1, g2⟩ := (anyB_iff _ _).mp h3
  rw [Bool.and_eq_true, Bool.and_eq_true] at g2
  refine ⟨h1, cf_yes g1 hf (of_decide_eq_true g2.1.1).symm rfl g2.1.2 h1 (of_decide_eq_true g2.2), fun k hk e => bf (fun q => ?_)⟩
  rw [anyB_true (k := k) hk (by rw [decide_eq_true e.symm, q]; rfl)] at h2
  cases h2
theorem cf_fc {x : Nat} (h : cfB spt val S nf x = true) : ∃ f, f < nf ∧ spt f = x ∧ fcB spt val S nf f = true := by
  obtain ⟨f0, f1, f2, f3⟩ := cf_fact h
  obtain ⟨f, ⟨hf, hs, hS⟩, hmin⟩ := pk_least (fun f => f < nf ∧ spt f = x ∧ S f = true) ⟨f0, f1, f2, f3⟩
  refine ⟨f, hf, hs, ?_⟩
  unfold fcB
  rw [hS, anyB_false (fun k hk => bf (fun q => ?_))]
  · obtain ⟨a, b, a1, b1, a2, b2, a3, b3, hne⟩ := cfB_iff.mp h
    by_cases e : val a = val f
    · have hne2 : val b ≠ val f := fun q => hne (e.trans q.symm)
      rw [anyB_true (k := b) b1 (by rw [decide_eq_true (hs.trans b2.symm), b3, decide_eq_true hne2]; rfl)]
      rfl
    · rw [anyB_true (k := a) a1 (by rw [decide_eq_true (hs.trans a2.symm), a3, decide_eq_true e]; rfl)]
      rfl
  · rw [Bool.and_eq_true] at q
    exact hmin k hk ⟨by omega, (of_decide_eq_true q.1).symm.trans hs, q.2⟩
theorem tieM {p : Nat → Bool} (hs : ∀ k, k < nf → spt k < 2 ^ 31) : cnt (fun f => p (spt f) && fcB spt val S nf f) nf = cnt (fun x => p x && cfB spt val S nf x) (2 ^ 31) := by
  rw [cnt_img (h := spt) (Mk := fun f => fcB spt val S nf f) (p := p) (N := 2 ^ 31) (fun i j hi hj m1 m2 e => ?_) (fun i hi _ => hs i hi)]
  · refine cnt_ext (fun x _ => ?_)
    congr 1
    rw [Bool.eq_iff_iff, anyB_iff]
    constructor
    · rintro ⟨k, hk, h⟩
      rw [Bool.and_eq_true] at h
      rw [← of_decide_eq_true h.2]
      exact (fc_cf hk h.1).2.1
    · intro h
      obtain ⟨f, f1, f2, f3⟩ := cf_fc h
      exact ⟨f, f1, by rw [f3, decide_eq_true f2]; rfl⟩
  · rcases Nat.lt_trichotomy i j with q | q | q
    · have := (fc_cf hj m2).2.2 i q e
      rw [(fc_cf hi m1).1] at this
      cases this
    · exact q
    · have := (fc_cf hi m1).2.2 j q e.symm
      rw [(fc_cf hj m2).1] at this
      cases this
theorem tie_count (hO : Ord nf num spt byN byS) (hs : ∀ k, k < nf → spt k < 2 ^ 31) : cnt (fun a => isF spt byS a && cfB spt val S nf (spt (byS a))) nf = cnt (fun f => fcB spt val S nf f) nf := by
  have h1 := tieC (val := val) (S := S) (p := fun _ => true) hO hs
  have h2 := tieM (val := val) (S := S) (p := fun _ => true) hs
  simp only [Bool.true_and] at h1 h2
  rw [h1, h2]
def rkS (spt : Nat → Nat) (val : Nat → Int64) (S : Nat → Bool) (nf x : Nat) : Nat := cnt (fun y => decide (y < x) && cfB spt val S nf y) (2 ^ 31)
theorem rkS_lt {x y : Nat} (h : x < y) (hx : x < 2 ^ 31) (hc : cfB spt val S nf x = true) : rkS spt val S nf x < rkS spt val S nf y := by
  unfold rkS
  have hle : ∀ N, cnt (fun z => decide (z < x) && cfB spt val S nf z) N ≤ cnt (fun z => decide (z < y) && cfB spt val S nf z) N := by
    intro N
    induction N with
    | zero => exact Nat.le_refl _
    | succ N ih =>
      rw [cnt, cnt]
      by_cases q : (decide (N < x) && cfB spt val S nf N) = true
      · rw [if_pos q]
        rw [Bool.and_eq_true] at q
        rw [if_pos (by rw [q.2, decide_eq_true (by have := of_decide_eq_true q.1; omega)]; rfl)]
        omega
      · rw [if_neg q]; omega
  have key : ∀ N, x < N → cnt (fun z => decide (z < x) && cfB spt val S nf z) N < cnt (fun z => decide (z < y) && cfB spt val S nf z) N := by
    intro N
    induction N with
    | zero => intro h; omega
    | succ N ih =>
      intro hN
      rw [cnt, cnt]
      by_cases e : x = N
      · subst e
        rw [if_neg (by rw [decide_eq_false (Nat.lt_irrefl _)]; simp), if_pos (by rw [hc, decide_eq_true h]; rfl)]
        have := hle x
        omega
      · have := ih (by omega)
        rw [if_neg (show ¬ (decide (N < x) && cfB spt val S nf N) = true by rw [decide_eq_false (by omega)]; simp)]
        omega
  exact key _ hx
theorem rkS_inj {x y : Nat} (hx : x < 2 ^ 31) (hy : y < 2 ^ 31) (cx : cfB spt val S nf x = true) (cy : cfB spt val S nf y = true) (h : rkS spt val S nf x = rkS spt val S nf y) : x = y := by
  rcases Nat.lt_trichotomy x y with q | q | q
  · have := rkS_lt q hx cx; omega
  · exact q
  · have := rkS_lt q hy cy; omega
theorem rank_place (hO : Ord nf num spt byN byS) (hs : ∀ k, k < nf → spt k < 2 ^ 31) {a : Nat} (ha : a < nf) (hF : isF spt byS a = true) : cnt (fun b => isF spt byS b && cfB spt val S nf (spt (byS b))) a = rkS spt val S nf (spt (byS a)) := by
  have h1 := tieC (val := val) (S := S) (p := fun x => decide (x < spt (byS a))) hO hs
  unfold rkS
  rw [← h1]
  have key : ∀ n, n ≤ nf → cnt (fun b => decide (spt (byS b) < spt (byS a)) && (isF spt byS b && cfB spt val S nf (spt (byS b)))) n = cnt (fun b => isF spt byS b && cfB spt val S nf (spt (byS b))) (min n a) := by
    intro n
    induction n with
    | zero => intro _; rw [Nat.zero_min]; rfl
    | succ n ih =>
      intro hn
      rw [cnt, ih (by omega)]
      by_cases q : n < a
      · rw [Nat.min_eq_left (by omega), Nat.min_eq_left (by omega), cnt, decide_eq_true (isF_ne hO q ha hF), Bool.true_and]
      · have : ¬ spt (byS n) < spt (byS a) := by
          have := hO.2.2.2.2.2 a n (by omega) (by omega)
          omega
        rw [decide_eq_false this, Bool.false_and, if_neg (by decide), Nat.min_eq_right (by omega), Nat.min_eq_right (by omega)]
        rfl
  rw [key nf (Nat.le_refl _), Nat.min_eq_right (by omega)]
theorem rank_fact (hs : ∀ k, k < nf → spt k < 2 ^ 31) (f : Nat) : cnt (fun g => decide (spt g < spt f) && fcB spt val S nf g) nf = rkS spt val S nf (spt f) := tieM (val := val) (S := S) (p := fun x => decide (x < spt f)) hs
def rkN (num : Nat → Nat) (Q : Nat → Bool) (nf g : Nat) : Nat := cnt (fun h => decide (num h < num g) && Q h) nf
theorem rank_num {Q : Nat → Bool} (hO : Ord nf num spt byN byS) {m : Nat} (hm : m < nf) : cnt (fun j => Q (byN j)) m = rkN num Q nf (byN m) := by
  have h1 := cnt_img (h := byN) (Mk := fun _ => true) (p := fun x => decide (num x < num (byN m)) && Q x) (N := nf) (n := nf) (fun i j hi hj _ _ e => by
    rcases Nat.lt_trichotomy i j with q | q | q
    · have := hO.2.2.1 i j q hj; rw [e] at this; omega
    · exact q
    · have := hO.2.2.1 j i q hi; rw [e] at this; omega) (fun i hi _ => hO.1 i hi)
  have h2 : cnt (fun x => (decide (num x < num (byN m)) && Q x) && anyB (fun i => true && decide (byN i = x)) nf) nf = rkN num Q nf (byN m) := by
    unfold rkN
    refine cnt_ext (fun x hx => ?_)
    obtain ⟨j, j1, j2⟩ := hO.2.1 x hx
    rw [anyB_true (k := j) j1 (by rw [decide_eq_true j2]; rfl), Bool.and_true]
  rw [← h2, ← h1]
  have key : ∀ n, n ≤ nf → cnt (fun j => (decide (num (byN j) < num (byN m)) && Q (byN j)) && true) n = cnt (fun j => Q (byN j)) (min n m) := by
    intro n
    induction n with
    | zero => intro _; rw [Nat.zero_min]; rfl
    | succ n ih =>
      intro hn
      rw [cnt, ih (by omega)]
      by_cases q : n < m
      · rw [Nat.min_eq_left (by omega), Nat.min_eq_left (by omega), cnt, decide_eq_true (hO.2.2.1 n m q hm), Bool.true_and, Bool.and_true]
      · have : ¬ num (byN n) < num (byN m) := by
          by_cases e : n = m
          · rw [e]; omega
          · have := hO.2.2.1 m n (by omega) (by omega)
            omega
        rw [decide_eq_false this, Bool.false_and, Bool.false_and, if_neg (by decide), Nat.min_eq_right (by omega), Nat.min_eq_right (by omega)]
        rfl
  rw [key nf (Nat.le_refl _), Nat.min_eq_right (by omega)]
theorem rkN_lt {Q : Nat → Bool} {f g : Nat} (h : num f < num g) (hf : f < nf) (hQ : Q f = true) : rkN num Q nf f < rkN num Q nf g := by
  unfold rkN
  have hle : ∀ N, cnt (fun z => decide (num z < num f) && Q z) N ≤ cnt (fun z => decide (num z < num g) && Q z) N := by
    intro N
    induction N with
    | zero => exact Nat.le_refl _
    | succ N ih =>
      rw [cnt, cnt]
      by_cases q : (decide (num N < num f) && Q N) = true
      · rw [if_pos q]
        rw [Bool.and_eq_true] at q
        rw [if_pos (by rw [q.2, decide_eq_true (by have := of_decide_eq_true q.1; omega)]; rfl)]
        omega
      · rw [if_neg q]; omega
  have key : ∀ N, f < N → cnt (fun z => decide (num z < num f) && Q z) N < cnt (fun z => decide (num z < num g) && Q z) N := by
    intro N
    induction N with
    | zero => intro h; omega
    | succ N ih =>
      intro hN
      rw [cnt, cnt]
      by_cases e : f = N
      · subst e
        rw [if_neg (by rw [decide_eq_false (Nat.lt_irrefl _)]; simp), if_pos (by rw [hQ, decide_eq_true h]; rfl)]
        have := hle f
        omega
      · have := ih (by omega)
        by_cases q : (decide (num N < num f) && Q N) = true
        · rw [if_pos q]
          rw [Bool.and_eq_true] at q
          rw [if_pos (by rw [q.2, decide_eq_true (by have := of_decide_eq_true q.1; omega)]; rfl)]
          omega
        · rw [if_neg q]; omega
  exact key _ hf
theorem rkN_inj {Q : Nat → Bool} (hd : ∀ j k, j < nf → k < nf → num j = num k → j = k) {f g : Nat} (hf : f < nf) (hg : g < nf) (qf : Q f = true) (qg : Q g = true) (h : rkN num Q nf f = rkN num Q nf g) : f = g := by
  rcases Nat.lt_trichotomy (num f) (num g) with q | q | q
  · have := rkN_lt q hf qf; omega
  · exact hd f g hf hg q
  · have := rkN_lt q hg qg; omega
end TIE

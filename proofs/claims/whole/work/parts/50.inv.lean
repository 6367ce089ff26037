def Inv (nd nb nf : Nat) (bdk num spt tim : Nat → Nat) (rep kn pe : Nat → Nat → Bool) (clk tol : Nat → Nat) (opn : Nat → Option Nat) (thg knd dy : Nat → Nat) (bof : Nat → Option Nat) : Prop :=
  (nd ≤ 8 ∧ nb ≤ 40 ∧ nf ≤ 300 ∧ SpR spt thg knd dy nf) ∧
  (∀ k, k < nf → num k % 8 < nd ∧ num k / 8 < tol (num k % 8)) ∧
  (∀ d, d < nd → tol d ≤ nf ∧ clk d ≤ nf) ∧
  (∀ k, k < nf → tim k ≤ nf) ∧
  (∀ d k, kn d k = true → k < nf ∧ d < nd) ∧
  (∀ d k, pe d k = true ↔ (d < nd ∧ k < nf ∧ ∃ b, opn d = some b ∧ bof k = some b)) ∧
  (∀ d, nd ≤ d → clk d = 0 ∧ tol d = 0) ∧
  (∀ d, d < nd → ∀ b, opn d = some b → b < nb ∧ bdk b = d) ∧
  (∀ b, b < nb → bdk b < nd) ∧
  (∀ k, k < nf → ∀ b, bof k = some b → b < nb) ∧
  (∀ o n, rep o n = true → o < n ∧ n < nf) ∧
  (∀ j k, j < nf → k < nf → num j = num k → j = k)
def Ord (nf : Nat) (num spt byN byS : Nat → Nat) : Prop :=
  (∀ j, j < nf → byN j < nf) ∧ (∀ f, f < nf → ∃ j, j < nf ∧ byN j = f) ∧ (∀ i j, i < j → j < nf → num (byN i) < num (byN j)) ∧
  (∀ j, j < nf → byS j < nf) ∧ (∀ f, f < nf → ∃ a, a < nf ∧ byS a = f) ∧ (∀ a b, a ≤ b → b < nf → spt (byS a) ≤ spt (byS b))
def PiO (nf pl : Nat) (Bf ord key : Nat → Nat) : Prop := pl ≤ nf ∧ (∀ j, j < pl → Bf j = ord j) ∧ Bf pl = nf ∧ (∀ j, pl < j → j ≤ nf → Bf j = ord (j - 1)) ∧ (∀ j, pl ≤ j → j < nf → key nf < key (ord j)) ∧ (∀ i, pl = i + 1 → key (ord i) ≤ key nf)
theorem pi_lt {nf pl : Nat} {Bf ord key : Nat → Nat} (h : PiO nf pl Bf ord key) (hb : ∀ j, j < nf → ord j < nf) : ∀ j, j < nf + 1 → Bf j < nf + 1 := by
  obtain ⟨h1, h2, h3, h4, h5, h6⟩ := h
  intro j hj
  rcases Nat.lt_trichotomy j pl with q | q | q
  · rw [h2 j q]
    have := hb j (by omega)
    omega
  · rw [q, h3]; omega
  · rw [h4 j q (by omega)]
    have := hb (j - 1) (by omega)
    omega
theorem pi_su {nf pl : Nat} {Bf ord key : Nat → Nat} (h : PiO nf pl Bf ord key) (hs : ∀ f, f < nf → ∃ j, j < nf ∧ ord j = f) : ∀ f, f < nf + 1 → ∃ j, j < nf + 1 ∧ Bf j = f := by
  obtain ⟨h1, h2, h3, h4, h5, h6⟩ := h
  intro f hf
  by_cases e : f = nf
  · exact ⟨pl, by omega, by rw [h3, e]⟩
  · obtain ⟨j, hj, rfl⟩ := hs f (by omega)
    by_cases q : j < pl
    · exact ⟨j, by omega, h2 j q⟩
    · exact ⟨j + 1, by omega, by rw [h4 (j + 1) (by omega) (by omega)]; rfl⟩
theorem pi_le {nf pl : Nat} {Bf ord key : Nat → Nat} (h : PiO nf pl Bf ord key) (hs : ∀ a b, a ≤ b → b < nf → key (ord a) ≤ key (ord b)) : ∀ a b, a ≤ b → b < nf + 1 → key (Bf a) ≤ key (Bf b) := by
  obtain ⟨h1, h2, h3, h4, h5, h6⟩ := h
  intro a b hab hb
  rcases Nat.lt_trichotomy b pl with q | q | q
  · rw [h2 b q, h2 a (by omega)]
    exact hs a b hab (by omega)
  · rw [q, h3]
    by_cases e : a = pl
    · rw [e, h3]; exact Nat.le_refl _
    · obtain ⟨i, hi⟩ : ∃ i, pl = i + 1 := ⟨pl - 1, by omega⟩
      have := h6 i hi
      rw [h2 a (by omega)]
      have := hs a i (by omega) (by omega)
      omega
  · rw [h4 b q (by omega)]
    rcases Nat.lt_trichotomy a pl with p | p | p
    · rw [h2 a p]
      exact hs a (b - 1) (by omega) (by omega)
    · rw [p, h3]
      exact Nat.le_of_lt (h5 (b - 1) (by omega) (by omega))
    · rw [h4 a p (by omega)]
      exact hs (a - 1) (b - 1) (by omega) (by omega)
theorem pi_st {nf pl : Nat} {Bf ord key : Nat → Nat} (h : PiO nf pl Bf ord key) (hs : ∀ i j, i < j → j < nf → key (ord i) < key (ord j)) (hne : ∀ j, j < nf → key (ord j) ≠ key nf) : ∀ i j, i < j → j < nf + 1 → key (Bf i) < key (Bf j) := by
  obtain ⟨h1, h2, h3, h4, h5, h6⟩ := h
  intro a b hab hb
  rcases Nat.lt_trichotomy b pl with q | q | q
  · rw [h2 b q, h2 a (by omega)]
    exact hs a b hab (by omega)
  · rw [q, h3]
    obtain ⟨i, hi⟩ : ∃ i, pl = i + 1 := ⟨pl - 1, by omega⟩
    have g1 := h6 i hi
    have g2 := hne i (by omega)
    rw [h2 a (by omega)]
    by_cases e : a = i
    · rw [e]; omega
    · have := hs a i (by omega) (by omega)
      omega
  · rw [h4 b q (by omega)]
    rcases Nat.lt_trichotomy a pl with p | p | p
    · rw [h2 a p]
      by_cases e : a = b - 1
      · omega
      · exact hs a (b - 1) (by omega) (by omega)
    · rw [p, h3]
      exact h5 (b - 1) (by omega) (by omega)
    · rw [h4 a p (by omega)]
      exact hs (a - 1) (b - 1) (by omega) (by omega)
theorem PiO.congr {nf pl : Nat} {Bf ord key : Nat → Nat} (h : PiO nf pl Bf ord key) : PiO nf pl Bf ord key := h
section TELL
variable {nd nb nf : Nat} {bdk num spt tim : Nat → Nat} {rep kn pe : Nat → Nat → Bool} {clk tol : Nat → Nat} {opn : Nat → Option Nat} {thg knd dy : Nat → Nat} {bof : Nat → Option Nat}
theorem knH_up2 (hk : ∀ d k, kn d k = true → k < nf ∧ d < nd) (d : Nat) : knH opn kn d nf = up2 kn d nf (oB (opn d)) := by
  have h0 : ∀ e, kn e nf = false := fun e => by
    cases q : kn e nf with
    | false => rfl
    | true => exact absurd (hk e nf q).1 (Nat.lt_irrefl _)
  unfold knH up2
  funext a b
  cases ho : opn d with
  | none =>
    show va_up kn d (fun k => kn d k || decide (k = nf)) a b = if a = d ∧ b = nf then true else kn a b
    by_cases e : a = d
    · subst e
      rw [va_up_self]
      by_cases e2 : b = nf
      · rw [if_pos ⟨rfl, e2⟩, e2]; simp
      · rw [if_neg (fun q => e2 q.2), decide_eq_false e2, Bool.or_false]
    · rw [va_up_ne _ _ e, if_neg (fun q => e q.1)]
  | some x =>
    show kn a b = if a = d ∧ b = nf then false else kn a b
    by_cases e : a = d ∧ b = nf
    · rw [if_pos e, e.2]; exact h0 a
    · rw [if_neg e]
theorem inv_tell (h : Inv nd nb nf bdk num spt tim rep kn pe clk tol opn thg knd dy bof) {d sp t k y : Nat} {Rp : Nat → Nat → Bool} (hd : d < nd) (hlt : nf < 300) (hsp : sp = (t * 10 + k) * 100001 + y) (ht : t < 100) (hk : k < 10) (hy : y < 100001) (hR : ∀ o n, Rp o n = true → o < n ∧ n < nf + 1) : Inv nd nb (nf + 1) bdk (va_up num nf (8 * tol d + d)) (va_up spt nf sp) (va_up tim nf (clk d + 1)) Rp (knH opn kn d nf) (peH opn pe d nf) (va_up clk d (clk d + 1)) (va_up tol d (tol d + 1)) opn (va_up thg nf t) (va_up knd nf k) (va_up dy nf y) (va_up bof nf (opn d)) := by
  obtain ⟨⟨a1, a2, a3, a4⟩, b1, b2, b3, b4, b5, b6, b7, b8, b9, b10, b11⟩ := h
  have e8 : (8 * tol d + d) % 8 = d := by omega
  have e9 : (8 * tol d + d) / 8 = tol d := by omega
  refine ⟨⟨a1, a2, by omega, ?_⟩, ?_, ?_, ?_, ?_, ?_, ?_, b7, b8, ?_, hR, ?_⟩
  · intro f hf
    by_cases e : f = nf
    · subst e
      rw [va_up_self, va_up_self, va_up_self, va_up_self]
      exact ⟨hsp, ht, hk, hy⟩
    · rw [va_up_ne _ _ e, va_up_ne _ _ e, va_up_ne _ _ e, va_up_ne _ _ e]
      exact a4 f (by omega)
  · intro f hf
    by_cases e : f = nf
    · subst e
      rw [va_up_self, e8, e9, va_up_self]
      exact ⟨hd, by omega⟩
    · rw [va_up_ne _ _ e]
      obtain ⟨c1, c2⟩ := b1 f (by omega)
      refine ⟨c1, ?_⟩
      by_cases e2 : num f % 8 = d
      · rw [e2, va_up_self]; rw [e2] at c2; omega
      · rw [va_up_ne _ _ e2]; exact c2
  · intro e he
    obtain ⟨c1, c2⟩ := b2 e he
    by_cases q : e = d
    · subst q
      rw [va_up_self, va_up_self]
      omega
    · rw [va_up_ne _ _ q, va_up_ne _ _ q]
      omega
  · intro f hf
    by_cases e : f = nf
    · subst e
      rw [va_up_self]
      have := (b2 d hd).2
      omega
    · rw [va_up_ne _ _ e]
      have := b3 f (by omega)
      omega
  · intro e f hf
    rw [knH_up2 b4] at hf
    unfold up2 at hf
    by_cases q : e = d ∧ f = nf
    · exact ⟨by omega, by omega⟩
    · rw [if_neg q] at hf
      have := b4 e f hf
      exact ⟨by omega, this.2⟩
  · intro e f
    unfold peH
    cases ho : opn d with
    | none =>
      show pe e f = true ↔ _
      rw [b5 e f]
      constructor
      · rintro ⟨c1, c2, b, c3, c4⟩
        exact ⟨c1, by omega, b, c3, by rw [va_up_ne _ _ (by omega)]; exact c4⟩
      · rintro ⟨c1, c2, b, c3, c4⟩
        by_cases q : f = nf
        · rw [q, va_up_self] at c4
          cases c4
        · rw [va_up_ne _ _ q] at c4
          exact ⟨c1, by omega, b, c3, c4⟩
    | some x =>
      show va_up pe d (fun k => pe d k || decide (k = nf)) e f = true ↔ _
      by_cases q : e = d
      · subst q
        rw [va_up_self]
        constructor
        · intro hh
          rw [Bool.or_eq_true] at hh
          rcases hh with hh | hh
          · obtain ⟨c1, c2, b, c3, c4⟩ := (b5 e f).mp hh
            exact ⟨c1, by omega, b, c3, by rw [va_up_ne _ _ (by omega)]; exact c4⟩
          · have := of_decide_eq_true hh
            exact ⟨hd, by omega, x, ho, by rw [this, va_up_self]⟩
        · rintro ⟨c1, c2, b, c3, c4⟩
          by_cases q : f = nf
          · rw [q]; simp
          · rw [va_up_ne _ _ q] at c4
            rw [(b5 e f).mpr ⟨c1, by omega, b, c3, c4⟩]
            rfl
      · rw [va_up_ne _ _ q, b5 e f]
        constructor
        · rintro ⟨c1, c2, b, c3, c4⟩
          exact ⟨c1, by omega, b, c3, by rw [va_up_ne _ _ (by omega)]; exact c4⟩
        · rintro ⟨c1, c2, b, c3, c4⟩
          by_cases q2 : f = nf
          · rw [q2, va_up_self] at c4
            cases c4
            have h1 := (b7 d hd _ ho).2
            have h2 := (b7 e c1 _ c3).2
            exact absurd (h2.symm.trans h1) q
          · rw [va_up_ne _ _ q2] at c4
            exact ⟨c1, by omega, b, c3, c4⟩
  · intro e he
    rw [va_up_ne _ _ (by omega), va_up_ne _ _ (by omega)]
    exact b6 e he
  · intro f hf b hb
    by_cases e : f = nf
    · rw [e, va_up_self] at hb
      exact (b7 d hd b hb).1
    · rw [va_up_ne _ _ e] at hb
      exact b9 f (by omega) b hb
  · have key : ∀ f, f < nf → num f ≠ 8 * tol d + d := fun f hf q => by
      obtain ⟨c1, c2⟩ := b1 f hf
      rw [q, e8, e9] at c2
      omega
    intro i j hi hj hh
    by_cases e1 : i = nf
    · by_cases e2 : j = nf
      · omega
      · rw [e1, va_up_self, va_up_ne _ _ e2] at hh
        exact absurd hh.symm (key j (by omega))
    · by_cases e2 : j = nf
      · rw [e2, va_up_self, va_up_ne _ _ e1] at hh
        exact absurd hh (key i (by omega))
      · rw [va_up_ne _ _ e1, va_up_ne _ _ e2] at hh
        exact b11 i j (by omega) (by omega) hh
theorem ord_tell {byN byS B1 B2 : Nat → Nat} {p1 p2 x sp : Nat} (h : Ord nf num spt byN byS) (hx : ∀ f, f < nf → num f ≠ x) (h1 : PiO nf p1 B1 byN (va_up num nf x)) (h2 : PiO nf p2 B2 byS (va_up spt nf sp)) : Ord (nf + 1) (va_up num nf x) (va_up spt nf sp) B1 B2 := by
  obtain ⟨c1, c2, c3, c4, c5, c6⟩ := h
  have u1 : ∀ j, j < nf → va_up num nf x (byN j) = num (byN j) := fun j hj => va_up_ne _ _ (by have := c1 j hj; omega)
  have u2 : ∀ j, j < nf → va_up spt nf sp (byS j) = spt (byS j) := fun j hj => va_up_ne _ _ (by have := c4 j hj; omega)
  refine ⟨pi_lt h1 c1, pi_su h1 c2, pi_st h1 (fun i j hij hj => ?_) (fun j hj => ?_), pi_lt h2 c4, pi_su h2 c5, pi_le h2 (fun a b hab hb => ?_)⟩
  · rw [u1 i (by omega), u1 j hj]; exact c3 i j hij hj
  · rw [u1 j hj, va_up_self]; exact hx _ (c1 j hj)
  · rw [u2 a (by omega), u2 b hb]; exact c6 a b hab hb
end TELL

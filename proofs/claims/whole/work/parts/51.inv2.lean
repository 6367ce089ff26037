section INV2
variable {nd nb nf : Nat} {bdk num spt tim : Nat → Nat} {rep kn pe : Nat → Nat → Bool} {clk tol : Nat → Nat} {opn : Nat → Option Nat} {thg knd dy : Nat → Nat} {bof : Nat → Option Nat}
theorem bf {x : Bool} (h : ¬ x = true) : x = false := by cases x <;> simp_all
theorem jn_eq (hk : ∀ d k, kn d k = true → k < nf ∧ d < nd) (hn : nf ≤ 300) (d d2 : Nat) : va_up kn d (fun k => kn d k || (decide (k / 64 < 5) && kn d2 k)) = jn kn d d2 nf := by
  funext a b
  unfold jn
  by_cases e : a = d
  · subst e
    rw [va_up_self]
    by_cases h : b < nf
    · rw [if_pos ⟨rfl, h⟩, decide_eq_true (by omega), Bool.true_and]
    · rw [if_neg (fun q => h q.2), bf (fun q => h (hk d2 b q).1), Bool.and_false, Bool.or_false]
  · rw [va_up_ne _ _ e, if_neg (fun q => e q.1)]
theorem inv_join (h : Inv nd nb nf bdk num spt tim rep kn pe clk tol opn thg knd dy bof) {d d2 : Nat} (hd : d < nd) (hd2 : d2 < nd) : Inv nd nb nf bdk num spt tim rep (jn kn d d2 nf) pe (va_up clk d (max (clk d) (clk d2))) tol opn thg knd dy bof := by
  obtain ⟨a, b1, b2, b3, b4, b5, b6, b7, b8, b9, b10, b11⟩ := h
  refine ⟨a, b1, ?_, b3, ?_, b5, ?_, b7, b8, b9, b10, b11⟩
  · intro e he
    have h1 := b2 e he
    by_cases q : e = d
    · subst q
      have h2 := b2 d2 hd2
      rw [va_up_self]
      refine ⟨h1.1, ?_⟩
      omega
    · rw [va_up_ne _ _ q]; exact h1
  · intro e k hk
    unfold jn at hk
    by_cases q : e = d ∧ k < nf
    · exact ⟨q.2, by omega⟩
    · rw [if_neg q] at hk; exact b4 e k hk
  · intro e he
    rw [va_up_ne _ _ (by omega)]
    exact b6 e he
theorem en_eq (h : Inv nd nb nf bdk num spt tim rep kn pe clk tol opn thg knd dy bof) {d b0 : Nat} (hd : d < nd) (ho : opn d = some b0) : va_up kn d (fun k => kn d k || (decide (k / 64 < 5) && pe d k)) = en kn bof d nf b0 := by
  obtain ⟨⟨a1, a2, a3, a4⟩, b1, b2, b3, b4, b5, b6, b7, b8, b9, b10, b11⟩ := h
  funext a b
  unfold en
  by_cases e : a = d
  · subst e
    rw [va_up_self]
    by_cases h : b < nf
    · rw [if_pos ⟨rfl, h⟩, decide_eq_true (by omega), Bool.true_and]
      congr 1
      rw [Bool.eq_iff_iff, b5, decide_eq_true_eq]
      constructor
      · rintro ⟨_, _, x, c1, c2⟩
        rw [ho] at c1
        cases c1
        exact c2
      · intro q
        exact ⟨hd, h, b0, ho, q⟩
    · rw [if_neg (fun q => h q.2), bf (fun q => h ((b5 a b).mp q).2.1), Bool.and_false, Bool.or_false]
  · rw [va_up_ne _ _ e, if_neg (fun q => e q.1)]
theorem inv_end (h : Inv nd nb nf bdk num spt tim rep kn pe clk tol opn thg knd dy bof) {d b0 : Nat} (hd : d < nd) (ho : opn d = some b0) : Inv nd nb nf bdk num spt tim rep (en kn bof d nf b0) (va_up pe d (fun k => decide (5 ≤ k / 64) && pe d k)) clk tol (va_up opn d none) thg knd dy bof := by
  obtain ⟨⟨a1, a2, a3, a4⟩, b1, b2, b3, b4, b5, b6, b7, b8, b9, b10, b11⟩ := h
  refine ⟨⟨a1, a2, a3, a4⟩, b1, b2, b3, ?_, ?_, b6, ?_, b8, b9, b10, b11⟩
  · intro e k hk
    unfold en at hk
    by_cases q : e = d ∧ k < nf
    · exact ⟨q.2, by omega⟩
    · rw [if_neg q] at hk; exact b4 e k hk
  · intro e k
    by_cases q : e = d
    · subst q
      rw [va_up_self, va_up_self]
      constructor
      · intro hh
        rw [Bool.and_eq_true] at hh
        have := ((b5 e k).mp hh.2).2.1
        have := of_decide_eq_true hh.1
        omega
      · rintro ⟨_, _, b, c1, _⟩
        cases c1
    · rw [va_up_ne _ _ q, va_up_ne _ _ q]; exact b5 e k
  · intro e he b hb
    by_cases q : e = d
    · subst q
      rw [va_up_self] at hb
      cases hb
    · rw [va_up_ne _ _ q] at hb; exact b7 e he b hb
theorem inv_batch (h : Inv nd nb nf bdk num spt tim rep kn pe clk tol opn thg knd dy bof) {d : Nat} (hd : d < nd) (ho : opn d = none) (hb : nb < 40) : Inv nd (nb + 1) nf (va_up bdk nb d) num spt tim rep kn pe clk tol (va_up opn d (some nb)) thg knd dy bof := by
  obtain ⟨⟨a1, a2, a3, a4⟩, b1, b2, b3, b4, b5, b6, b7, b8, b9, b10, b11⟩ := h
  refine ⟨⟨a1, by omega, a3, a4⟩, b1, b2, b3, b4, ?_, b6, ?_, ?_, fun k hk b hb => by have := b9 k hk b hb; omega, b10, b11⟩
  · intro e k
    by_cases q : e = d
    · subst q
      rw [va_up_self, b5]
      constructor
      · rintro ⟨_, _, b, c1, _⟩
        rw [ho] at c1
        cases c1
      · rintro ⟨_, c0, b, c1, c2⟩
        cases c1
        have := b9 k c0 _ c2
        omega
    · rw [va_up_ne _ _ q]; exact b5 e k
  · intro e he b hb
    by_cases q : e = d
    · subst q
      rw [va_up_self] at hb
      cases hb
      exact ⟨by omega, va_up_self _ _ _⟩
    · rw [va_up_ne _ _ q] at hb
      obtain ⟨c1, c2⟩ := b7 e he b hb
      exact ⟨by omega, by rw [va_up_ne _ _ (by omega)]; exact c2⟩
  · intro b hb
    by_cases q : b = nb
    · rw [q, va_up_self]; exact hd
    · rw [va_up_ne _ _ q]; exact b8 b (by omega)
theorem inv_desk (h : Inv nd nb nf bdk num spt tim rep kn pe clk tol opn thg knd dy bof) (hd : nd < 8) : Inv (nd + 1) nb nf bdk num spt tim rep kn pe clk tol (va_up opn nd none) thg knd dy bof := by
  obtain ⟨⟨a1, a2, a3, a4⟩, b1, b2, b3, b4, b5, b6, b7, b8, b9, b10, b11⟩ := h
  refine ⟨⟨by omega, a2, a3, a4⟩, fun k hk => ⟨by have := (b1 k hk).1; omega, (b1 k hk).2⟩, ?_, b3, fun d k hh => ⟨(b4 d k hh).1, by have := (b4 d k hh).2; omega⟩, ?_, fun d hh => b6 d (by omega), ?_, fun b hb => by have := b8 b hb; omega, b9, b10, b11⟩
  · intro d hd
    by_cases q : d = nd
    · subst q
      have := b6 d (Nat.le_refl _)
      rw [this.1, this.2]
      omega
    · exact b2 d (by omega)
  · intro e k
    by_cases q : e = nd
    · subst q
      rw [va_up_self, b5]
      constructor
      · rintro ⟨c0, _⟩
        omega
      · rintro ⟨_, _, b, c1, _⟩
        cases c1
    · rw [va_up_ne _ _ q, b5]
      constructor
      · rintro ⟨c0, c1⟩
        exact ⟨by omega, c1⟩
      · rintro ⟨c0, c1⟩
        exact ⟨by omega, c1⟩
  · intro e he b hb
    by_cases q : e = nd
    · subst q
      rw [va_up_self] at hb
      cases hb
    · rw [va_up_ne _ _ q] at hb
      exact b7 e (by omega) b hb
theorem inv_zero (h : Inv nd nb nf bdk num spt tim rep kn pe clk tol opn thg knd dy bof) {d : Nat} (hd : nd ≤ d) : (kn d = fun _ => false) ∧ (pe d = fun _ => false) ∧ clk d = 0 ∧ tol d = 0 := by
  obtain ⟨a, b1, b2, b3, b4, b5, b6, b7, b8, b9, b10, b11⟩ := h
  refine ⟨funext fun k => bf (fun q => ?_), funext fun k => bf (fun q => ?_), b6 d hd⟩
  · have := (b4 d k q).2; omega
  · have := ((b5 d k).mp q).1; omega
theorem inv_0 : Inv 0 0 0 (fun _ => 0) (fun _ => 0) (fun _ => 0) (fun _ => 0) (fun _ _ => false) (fun _ _ => false) (fun _ _ => false) (fun _ => 0) (fun _ => 0) (fun _ => some 0) (fun _ => 0) (fun _ => 0) (fun _ => 0) (fun _ => some 0) := by
  refine ⟨⟨by omega, by omega, by omega, fun f hf => absurd hf (by omega)⟩, fun k hk => absurd hk (by omega), fun d hd => absurd hd (by omega), fun k hk => absurd hk (by omega), fun d k hh => (by cases hh), fun d k => ⟨fun hh => (by cases hh), fun hh => absurd hh.1 (by omega)⟩, fun d _ => ⟨rfl, rfl⟩, fun d hd => absurd hd (by omega), fun b hb => absurd hb (by omega), fun k hk => absurd hk (by omega), fun o n hh => (by cases hh), fun j k hj => absurd hj (by omega)⟩
theorem ord_0 : Ord 0 (fun _ => 0) (fun _ => 0) (fun _ => 0) (fun _ => 0) := ⟨fun j hj => absurd hj (by omega), fun j hj => absurd hj (by omega), fun i j _ hj => absurd hj (by omega), fun j hj => absurd hj (by omega), fun j hj => absurd hj (by omega), fun i j _ hj => absurd hj (by omega)⟩
theorem st_lk (h : Inv nd nb nf bdk num spt tim rep kn pe clk tol opn thg knd dy bof) (d f : Nat) : lkB (kn d) rep f nf = stB (kn d) rep f := lkB_st (fun k q => (h.2.2.2.2.1 d k q).1) (by have := h.1.2.2.1; omega)
end INV2
theorem cnt_ext {p q : Nat → Bool} {n : Nat} (h : ∀ i, i < n → p i = q i) : cnt p n = cnt q n := cnt_congr h
theorem cnt_none {p : Nat → Bool} : ∀ {n : Nat}, (∀ i, i < n → p i = false) → cnt p n = 0
  | 0, _ => rfl
  | n + 1, h => by rw [cnt, cnt_none (fun i hi => h i (by omega)), if_neg (by rw [h n (by omega)]; decide)]
theorem cnt_ins {p q : Nat → Bool} {x : Nat} : ∀ {N : Nat}, x < N → p x = false → q x = true → (∀ i, i ≠ x → q i = p i) → cnt q N = cnt p N + 1
  | 0, h, _, _, _ => absurd h (Nat.not_lt_zero _)
  | N + 1, h, h1, h2, h3 => by
    rw [cnt, cnt]
    by_cases e : x = N
    · subst e
      rw [if_pos h2, if_neg (by rw [h1]; decide), cnt_congr (fun i hi => h3 i (by omega))]
    · rw [cnt_ins (by omega) h1 h2 h3, h3 N (fun q => e q.symm)]
      omega
theorem cnt_img {h : Nat → Nat} {Mk p : Nat → Bool} {N : Nat} : ∀ {n : Nat}, (∀ i j, i < n → j < n → Mk i = true → Mk j = true → h i = h j → i = j) → (∀ i, i < n → Mk i = true → h i < N) → cnt (fun i => p (h i) && Mk i) n = cnt (fun x => p x && anyB (fun i => Mk i && decide (h i = x)) n) N
  | 0, _, _ => (cnt_none (fun i _ => by show (p i && anyB _ 0) = false; rw [anyB, Bool.and_false])).symm
  | n + 1, hi, hb => by
    have ih := cnt_img (h := h) (Mk := Mk) (p := p) (N := N) (n := n) (fun i j a b => hi i j (by omega) (by omega)) (fun i a => hb i (by omega))
    rw [cnt, ih]
    by_cases e : (p (h n) && Mk n) = true
    · rw [if_pos e]
      rw [Bool.and_eq_true] at e
      refine (cnt_ins (x := h n) (hb n (by omega) e.2) ?_ ?_ (fun i hne => ?_)).symm
      · show (p (h n) && anyB (fun i => Mk i && decide (h i = h n)) n) = false
        rw [anyB_false (fun k hk => ?_), Bool.and_false]
        refine bf (fun q => ?_)
        rw [Bool.and_eq_true] at q
        have := hi k n (by omega) (by omega) q.1 e.2 (of_decide_eq_true q.2)
        omega
      · show (p (h n) && anyB (fun i => Mk i && decide (h i = h n)) (n + 1)) = true
        rw [anyB, e.1, e.2, decide_eq_true rfl, Bool.and_true, Bool.or_true]
        rfl
      · show (p i && anyB (fun j => Mk j && decide (h j = i)) (n + 1)) = (p i && anyB (fun j => Mk j && decide (h j = i)) n)
        rw [anyB, decide_eq_false (fun q => hne q.symm), Bool.and_false, Bool.or_false]
    · rw [if_neg e]
      refine cnt_congr (fun i _ => ?_)
      show (p i && anyB (fun j => Mk j && decide (h j = i)) n) = (p i && anyB (fun j => Mk j && decide (h j = i)) (n + 1))
      rw [anyB]
      by_cases q : h n = i
      · subst q
        cases hp : p (h n) with
        | false => rfl
        | true =>
          rw [hp, Bool.true_and] at e
          rw [bf e, Bool.false_and, Bool.or_false]
      · rw [decide_eq_false q, Bool.and_false, Bool.or_false]

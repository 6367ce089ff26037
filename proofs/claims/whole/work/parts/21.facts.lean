def anyB (p : Nat → Bool) : Nat → Bool
  | 0 => false
  | n + 1 => anyB p n || p n
theorem anyB_iff (p : Nat → Bool) : ∀ n, anyB p n = true ↔ ∃ k, k < n ∧ p k = true
  | 0 => ⟨fun h => (by cases h), fun ⟨k, h, _⟩ => absurd h (Nat.not_lt_zero k)⟩
  | n + 1 => by
    rw [anyB, Bool.or_eq_true, anyB_iff p n]
    constructor
    · rintro (⟨k, h1, h2⟩ | h)
      · exact ⟨k, by omega, h2⟩
      · exact ⟨n, by omega, h⟩
    · rintro ⟨k, h1, h2⟩
      by_cases e : k = n
      · subst e; exact Or.inr h2
      · exact Or.inl ⟨k, by omega, h2⟩
theorem anyB_true {p : Nat → Bool} {n k : Nat} (h : k < n) (hp : p k = true) : anyB p n = true := (anyB_iff p n).mpr ⟨k, h, hp⟩
theorem anyB_false {p : Nat → Bool} {n : Nat} (h : ∀ k, k < n → p k = false) : anyB p n = false := by
  cases e : anyB p n with
  | false => rfl
  | true =>
    obtain ⟨k, h1, h2⟩ := (anyB_iff p n).mp e
    rw [h k h1] at h2
    cases h2
def stB (S : Nat → Bool) (rep : Nat → Nat → Bool) (f : Nat) : Bool := S f && !(anyB (fun k => rep f k && S k) 320)
theorem step64 {P : Nat → Prop} {i : Nat} (h : ∀ b, b < 64 → P (64 * i + b)) (h0 : ∀ k, k < 64 * i → P k) (k : Nat) (hk : k < 64 * (i + 1)) : P k := by
  by_cases hlt : k < 64 * i
  · exact h0 k hlt
  · have := h (k - 64 * i) (by omega)
    rw [show 64 * i + (k - 64 * i) = k by omega] at this
    exact this
theorem rpW_at {rep : Nat → Nat → Bool} {f i : Nat} (h : i < 5) : rpW rep (f * 5 + i) = wd (rep f) i := by
  unfold rpW
  rw [show (f * 5 + i) / 5 = f by omega, show (f * 5 + i) % 5 = i by omega]
theorem stB_hit {S : Nat → Bool} {rep : Nat → Nat → Bool} {f i : Nat} (hi : i < 5) (h : ¬ (wd (rep f) i &&& wd S i) = 0) : stB S rep f = false := by
  have : ∃ b, b < 64 ∧ (rep f (64 * i + b) && S (64 * i + b)) = true := by
    apply Classical.byContradiction
    intro hn
    apply h
    rw [wd_and0]
    intro b hb
    cases e : (rep f (64 * i + b) && S (64 * i + b)) with
    | false => rfl
    | true => exact absurd ⟨b, hb, e⟩ hn
  obtain ⟨b, hb, e⟩ := this
  unfold stB
  rw [anyB_true (k := 64 * i + b) (by omega) e]
  simp
theorem stB_all {S : Nat → Bool} {rep : Nat → Nat → Bool} {f : Nat} (h0 : S f = true) (h : ∀ k, k < 320 → (rep f k && S k) = false) : stB S rep f = true := by
  unfold stB
  rw [anyB_false h, h0]
  rfl
theorem stB_no {S : Nat → Bool} {rep : Nat → Nat → Bool} {f : Nat} (h0 : S f = false) : stB S rep f = false := by
  unfold stB
  rw [h0]
  rfl
theorem pick_add {P C : Nat → Bool} {i : Nat} (h : ∀ k, k < 320 → P k = (decide (k < i) && C k)) (hc : C i = true) : ∀ k, k < 320 → (P k || decide (k = i)) = (decide (k < i + 1) && C k) := by
  intro k hk
  rw [h k hk]
  by_cases e : k = i
  · subst e
    simp [hc]
  · rw [decide_eq_false e, Bool.or_false, show decide (k < i + 1) = decide (k < i) from by rw [decide_eq_decide]; omega]
theorem pick_skip {P C : Nat → Bool} {i : Nat} (h : ∀ k, k < 320 → P k = (decide (k < i) && C k)) (hc : C i = false) : ∀ k, k < 320 → P k = (decide (k < i + 1) && C k) := by
  intro k hk
  rw [h k hk]
  by_cases e : k = i
  · subst e
    simp [hc]
  · rw [show decide (k < i + 1) = decide (k < i) from by rw [decide_eq_decide]; omega]
theorem pick_0 {P C : Nat → Bool} (h : ∀ k, k < 320 → P k = false) : ∀ k, k < 320 → P k = (decide (k < 0) && C k) := fun k hk => by rw [h k hk]; simp
theorem clr_0 (S : Nat → Bool) : ∀ k, k < 320 → (fun k => decide (5 ≤ k / 64) && S k) k = false := fun k hk => by
  show (decide (5 ≤ k / 64) && S k) = false
  rw [decide_eq_false (by omega)]
  rfl
theorem oI_none {b : Option Nat} (hb : ∀ g, b = some g → g < 2 ^ 31) (h : oI b = -1) : b = none := by
  cases b with
  | none => rfl
  | some g => exact absurd (show nI g = -1 from h) (fun q => by have := congrArg Int32.toInt q; rw [nI_toInt (hb g rfl)] at this; exact absurd this (by have : ((-1 : Int32)).toInt = -1 := by decide
                                                                                                                                                        rw [this]; omega))
theorem oI_some {b : Option Nat} (h : ¬ oI b = -1) : ∃ g, b = some g := by
  cases b with
  | none => exact absurd rfl h
  | some g => exact ⟨g, rfl⟩
def ltB (spt tim num : Nat → Nat) (f g : Nat) : Bool := if spt f ≠ spt g then decide (spt g < spt f) else if tim f ≠ tim g then decide (tim g < tim f) else decide (num g < num f)
def isF (spt byS : Nat → Nat) (j : Nat) : Bool := decide (j = 0) || decide (spt (byS (j - 1)) ≠ spt (byS j))
def cfB (spt : Nat → Nat) (val : Nat → Int64) (st : Nat → Bool) (nf s : Nat) : Bool := anyB (fun f => (decide (spt f = s) && st f) && anyB (fun g => (decide (spt g = s) && st g) && decide (val f ≠ val g)) nf) nf
theorem cfB_iff {spt : Nat → Nat} {val : Nat → Int64} {st : Nat → Bool} {nf s : Nat} : cfB spt val st nf s = true ↔ ∃ f g, f < nf ∧ g < nf ∧ spt f = s ∧ spt g = s ∧ st f = true ∧ st g = true ∧ val f ≠ val g := by
  unfold cfB
  rw [anyB_iff]
  constructor
  · rintro ⟨f, hf, h⟩
    rw [Bool.and_eq_true, Bool.and_eq_true, anyB_iff] at h
    obtain ⟨⟨h1, h2⟩, g, hg, h3⟩ := h
    rw [Bool.and_eq_true, Bool.and_eq_true] at h3
    exact ⟨f, g, hf, hg, of_decide_eq_true h1, of_decide_eq_true h3.1.1, h2, h3.1.2, of_decide_eq_true h3.2⟩
  · rintro ⟨f, g, hf, hg, h1, h2, h3, h4, h5⟩
    refine ⟨f, hf, ?_⟩
    rw [Bool.and_eq_true, Bool.and_eq_true, anyB_iff]
    exact ⟨⟨decide_eq_true h1, h3⟩, g, hg, by rw [Bool.and_eq_true, Bool.and_eq_true]; exact ⟨⟨decide_eq_true h2, h4⟩, decide_eq_true h5⟩⟩
theorem ord_step {p : Nat → Bool} {f : Nat → Nat} {k : Int32} {i : Nat} (h : ∀ m, m < i → p m = true → ¬ k = nI (f m)) (hi : p i = true → k = nI (f i) → False) : ∀ m, m < i + 1 → p m = true → ¬ k = nI (f m) := fun m hm hp q => by
  by_cases e : m = i
  · subst e; exact hi hp q
  · exact h m (by omega) hp q
theorem ltB_irr {spt tim num : Nat → Nat} (f : Nat) : ltB spt tim num f f = false := by
  unfold ltB
  rw [if_neg (fun q => q rfl), if_neg (fun q => q rfl), decide_eq_false (Nat.lt_irrefl _)]
theorem ltB_tr {spt tim num : Nat → Nat} {k g i : Nat} (h1 : ltB spt tim num k g = false) (h2 : ltB spt tim num i g = true) : ltB spt tim num k i = false := by
  unfold ltB at *
  split at h1 <;> split at h2 <;> split <;> try (simp only [decide_eq_false_iff_not, decide_eq_true_eq] at *; omega)
  all_goals (split at h1 <;> split at h2 <;> split <;> simp only [decide_eq_false_iff_not, decide_eq_true_eq] at * <;> omega)
theorem best_skip {CA : Nat → Prop} {lt : Nat → Nat → Bool} {i : Nat} {b : Option Nat} (hb : (∀ g, b = some g → g < i ∧ CA g ∧ ∀ k, k < i → CA k → lt k g = false) ∧ (b = none → ∀ k, k < i → ¬ CA k)) (hn : ¬ CA i) : (∀ g, b = some g → g < i + 1 ∧ CA g ∧ ∀ k, k < i + 1 → CA k → lt k g = false) ∧ (b = none → ∀ k, k < i + 1 → ¬ CA k) := by
  refine ⟨fun g e => ?_, fun e k hk => ?_⟩
  · obtain ⟨h1, h2, h3⟩ := hb.1 g e
    refine ⟨by omega, h2, fun k hk hc => ?_⟩
    by_cases q : k = i
    · subst q; exact absurd hc hn
    · exact h3 k (by omega) hc
  · by_cases q : k = i
    · subst q; exact hn
    · exact hb.2 e k (by omega)
theorem best_keep {CA : Nat → Prop} {lt : Nat → Nat → Bool} {i g : Nat} (hb : (∀ x, some g = some x → x < i ∧ CA x ∧ ∀ k, k < i → CA k → lt k x = false) ∧ (some g = none → ∀ k, k < i → ¬ CA k)) (hn : lt i g = false) : (∀ x, some g = some x → x < i + 1 ∧ CA x ∧ ∀ k, k < i + 1 → CA k → lt k x = false) ∧ (some g = none → ∀ k, k < i + 1 → ¬ CA k) := by
  refine ⟨fun x e => ?_, fun e => by cases e⟩
  obtain ⟨h1, h2, h3⟩ := hb.1 x e
  cases e
  refine ⟨by omega, h2, fun k hk hc => ?_⟩
  by_cases q : k = i
  · subst q; exact hn
  · exact h3 k (by omega) hc
theorem best_first {CA : Nat → Prop} {lt : Nat → Nat → Bool} (hirr : ∀ k, lt k k = false) {i : Nat} {b : Option Nat} (hb : (∀ g, b = some g → g < i ∧ CA g ∧ ∀ k, k < i → CA k → lt k g = false) ∧ (b = none → ∀ k, k < i → ¬ CA k)) (hn : b = none) (hc : CA i) : (∀ g, some i = some g → g < i + 1 ∧ CA g ∧ ∀ k, k < i + 1 → CA k → lt k g = false) ∧ (some i = none → ∀ k, k < i + 1 → ¬ CA k) := by
  refine ⟨fun g e => ?_, fun e => by cases e⟩
  cases e
  refine ⟨by omega, hc, fun k hk hk2 => ?_⟩
  by_cases q : k = i
  · subst q; exact hirr _
  · exact absurd hk2 (hb.2 hn k (by omega))
theorem best_up {CA : Nat → Prop} {lt : Nat → Nat → Bool} (hirr : ∀ k, lt k k = false) (htr : ∀ {k g i}, lt k g = false → lt i g = true → lt k i = false) {i g : Nat} (hb : (∀ x, some g = some x → x < i ∧ CA x ∧ ∀ k, k < i → CA k → lt k x = false) ∧ (some g = none → ∀ k, k < i → ¬ CA k)) (hn : lt i g = true) (hc : CA i) : (∀ x, some i = some x → x < i + 1 ∧ CA x ∧ ∀ k, k < i + 1 → CA k → lt k x = false) ∧ (some i = none → ∀ k, k < i + 1 → ¬ CA k) := by
  refine ⟨fun x e => ?_, fun e => by cases e⟩
  cases e
  refine ⟨by omega, hc, fun k hk hk2 => ?_⟩
  by_cases q : k = i
  · subst q; exact hirr _
  · exact htr ((hb.1 g rfl).2.2 k (by omega) hk2) hn
theorem nI_nm1 {g : Nat} (h : g < 2 ^ 31) : ¬ nI g = -1 := fun q => by
  have q2 := congrArg Int32.toInt q
  rw [nI_toInt h, show ((-1 : Int32)).toInt = -1 from by decide] at q2
  omega
set_option maxHeartbeats 4000000 in
set_option maxRecDepth 100000 in
theorem c_dayOf (l : Launch) (D : va_G) (ws : va_W) (ct : Nat → ClassId) (n : Nat) (hn : n < 2 ^ 31) : CI l y_T_dayOf b_T_dayOf 1 (some .int) (rmK 0 0 0) D (tyL ct) (ws) [.int (nI (n))] 0 0 (fun r u => r = nI (n % 100001) ∧ u = ws) := by
  refine CI.start (by decide) (Nat.le_of_ble_eq_true rfl) ?_
  intro p e s m below meth c F hr hnm
  show V p l e (rmK 0 0 0) s m [.int (nI (n))].toArray below meth c D (va_A (ws) s.heap.size) 1 0 0 (EI D below (ws) [.int (nI (n))].toArray s 0 0 (fun r u => r = nI (n % 100001) ∧ u = ws)) (ws) [(0, .int (nI (n)))] 0 []
  refine V.iload_n F d_T_dayOf_0 rfl 0 rfl ?_
  refine V.ldc F d_T_dayOf_1 (v := nI (100001)) lk_T_185 ?_
  refine V.iremN F d_T_dayOf_3 (by omega) (by decide) (by decide) ?_
  exact V.iret F hr d_T_dayOf_4 (⟨rfl, rfl⟩)

set_option maxHeartbeats 4000000 in
set_option maxRecDepth 100000 in
theorem c_kindOf (l : Launch) (D : va_G) (ws : va_W) (ct : Nat → ClassId) (n : Nat) (hn : n < 2 ^ 31) : CI l y_T_kindOf b_T_kindOf 1 (some .int) (rmK 0 0 0) D (tyL ct) (ws) [.int (nI (n))] 0 0 (fun r u => r = nI (n / 100001 % 10) ∧ u = ws) := by
  refine CI.start (by decide) (Nat.le_of_ble_eq_true rfl) ?_
  intro p e s m below meth c F hr hnm
  show V p l e (rmK 0 0 0) s m [.int (nI (n))].toArray below meth c D (va_A (ws) s.heap.size) 1 0 0 (EI D below (ws) [.int (nI (n))].toArray s 0 0 (fun r u => r = nI (n / 100001 % 10) ∧ u = ws)) (ws) [(0, .int (nI (n)))] 0 []
  refine V.iload_n F d_T_kindOf_0 rfl 0 rfl ?_
  refine V.ldc F d_T_kindOf_1 (v := nI (100001)) lk_T_185 ?_
  refine V.idivN F d_T_kindOf_3 (by omega) (by decide) (by decide) ?_
  refine V.bipush F d_T_kindOf_4 (v := nI (10)) (by decide) ?_
  refine V.iremN F d_T_kindOf_6 (by omega) (by decide) (by decide) ?_
  exact V.iret F hr d_T_kindOf_7 (⟨rfl, rfl⟩)

set_option maxHeartbeats 4000000 in
set_option maxRecDepth 100000 in
theorem c_thingOf (l : Launch) (D : va_G) (ws : va_W) (ct : Nat → ClassId) (n : Nat) (hn : n < 2 ^ 31) : CI l y_T_thingOf b_T_thingOf 1 (some .int) (rmK 0 0 0) D (tyL ct) (ws) [.int (nI (n))] 0 0 (fun r u => r = nI (n / 100001 / 10) ∧ u = ws) := by
  refine CI.start (by decide) (Nat.le_of_ble_eq_true rfl) ?_
  intro p e s m below meth c F hr hnm
  show V p l e (rmK 0 0 0) s m [.int (nI (n))].toArray below meth c D (va_A (ws) s.heap.size) 1 0 0 (EI D below (ws) [.int (nI (n))].toArray s 0 0 (fun r u => r = nI (n / 100001 / 10) ∧ u = ws)) (ws) [(0, .int (nI (n)))] 0 []
  refine V.iload_n F d_T_thingOf_0 rfl 0 rfl ?_
  refine V.ldc F d_T_thingOf_1 (v := nI (100001)) lk_T_185 ?_
  refine V.idivN F d_T_thingOf_3 (by omega) (by decide) (by decide) ?_
  refine V.bipush F d_T_thingOf_4 (v := nI (10)) (by decide) ?_
  refine V.idivN F d_T_thingOf_6 (by omega) (by decide) (by decide) ?_
  exact V.iret F hr d_T_thingOf_7 (⟨rfl, rfl⟩)

set_option maxHeartbeats 4000000 in
set_option maxRecDepth 100000 in
theorem c_spotOf (l : Launch) (D : va_G) (ws : va_W) (ct : Nat → ClassId) (a b d : Nat) : CI l y_T_spotOf b_T_spotOf 3 (some .int) (rmK 0 0 0) D (tyL ct) (ws) [.int (nI (a)), .int (nI (b)), .int (nI (d))] 0 0 (fun r u => r = nI ((a * 10 + b) * 100001 + d) ∧ u = ws) := by
  refine CI.start (by decide) (Nat.le_of_ble_eq_true rfl) ?_
  intro p e s m below meth c F hr hnm
  show V p l e (rmK 0 0 0) s m [.int (nI (a)), .int (nI (b)), .int (nI (d))].toArray below meth c D (va_A (ws) s.heap.size) 3 0 0 (EI D below (ws) [.int (nI (a)), .int (nI (b)), .int (nI (d))].toArray s 0 0 (fun r u => r = nI ((a * 10 + b) * 100001 + d) ∧ u = ws)) (ws) [(0, .int (nI (a))), (1, .int (nI (b))), (2, .int (nI (d)))] 0 []
  refine V.iload_n F d_T_spotOf_0 rfl 0 rfl ?_
  refine V.bipush F d_T_spotOf_1 (v := nI (10)) (by decide) ?_
  refine V.imulN F d_T_spotOf_3 ?_
  refine V.iload_n F d_T_spotOf_4 rfl 1 rfl ?_
  refine V.iaddN F d_T_spotOf_5 ?_
  refine V.ldc F d_T_spotOf_6 (v := nI (100001)) lk_T_185 ?_
  refine V.imulN F d_T_spotOf_8 ?_
  refine V.iload_n F d_T_spotOf_9 rfl 2 rfl ?_
  refine V.iaddN F d_T_spotOf_10 ?_
  exact V.iret F hr d_T_spotOf_11 (⟨rfl, rfl⟩)

set_option maxHeartbeats 4000000 in
set_option maxRecDepth 100000 in
theorem c_areTK (l : Launch) (D : va_G) (ws : va_W) (ct : Nat → ClassId) (x y : Int32) : CI l y_T_areThingAndKind b_T_areThingAndKind 2 (some .boolean) (rmK 0 0 0) D (tyL ct) (ws) [.int (x), .int (y)] 0 0 (fun r u => r = bI (decide (¬ x < 0 ∧ ¬ nI 100 ≤ x ∧ ¬ y < 0 ∧ ¬ nI 10 ≤ y)) ∧ u = ws) := by
  refine CI.start (by decide) (Nat.le_of_ble_eq_true rfl) ?_
  intro p e s m below meth c F hr hnm
  show V p l e (rmK 0 0 0) s m [.int (x), .int (y)].toArray below meth c D (va_A (ws) s.heap.size) 2 0 0 (EI D below (ws) [.int (x), .int (y)].toArray s 0 0 (fun r u => r = bI (decide (¬ x < 0 ∧ ¬ nI 100 ≤ x ∧ ¬ y < 0 ∧ ¬ nI 10 ≤ y)) ∧ u = ws)) (ws) [(0, .int (x)), (1, .int (y))] 0 []
  refine V.iload_n F d_T_areThingAndKind_0 rfl 0 rfl ?_
  refine V.if_lt (x := x) (tgt := 24) F d_T_areThingAndKind_1 (by decide) (fun c1 => ?_) (fun c1 => ?_)
  · skip
    refine V.iconst F d_T_areThingAndKind_24 (v := nI (0)) (by decide) ?_
    exact V.zret F hr (nar_0) d_T_areThingAndKind_25 (⟨by rw [decide_eq_false (fun z => z.1 c1)]; exact bI_f, rfl⟩)
  · skip
    refine V.iload_n F d_T_areThingAndKind_4 rfl 0 rfl ?_
    refine V.bipush F d_T_areThingAndKind_5 (v := nI (100)) (by decide) ?_
    refine V.icmp_ge (x := x) (y := nI (100)) (tgt := 24) F d_T_areThingAndKind_7 (by decide) (fun c7 => ?_) (fun c7 => ?_)
    · skip
      refine V.iconst F d_T_areThingAndKind_24 (v := nI (0)) (by decide) ?_
      exact V.zret F hr (nar_0) d_T_areThingAndKind_25 (⟨by rw [decide_eq_false (fun z => z.2.1 c7)]; exact bI_f, rfl⟩)
    · skip
      refine V.iload_n F d_T_areThingAndKind_10 rfl 1 rfl ?_
      refine V.if_lt (x := y) (tgt := 24) F d_T_areThingAndKind_11 (by decide) (fun c11 => ?_) (fun c11 => ?_)
      · skip
        refine V.iconst F d_T_areThingAndKind_24 (v := nI (0)) (by decide) ?_
        exact V.zret F hr (nar_0) d_T_areThingAndKind_25 (⟨by rw [decide_eq_false (fun z => z.2.2.1 c11)]; exact bI_f, rfl⟩)
      · skip
        refine V.iload_n F d_T_areThingAndKind_14 rfl 1 rfl ?_
        refine V.bipush F d_T_areThingAndKind_15 (v := nI (10)) (by decide) ?_
        refine V.icmp_ge (x := y) (y := nI (10)) (tgt := 24) F d_T_areThingAndKind_17 (by decide) (fun c17 => ?_) (fun c17 => ?_)
        · skip
          refine V.iconst F d_T_areThingAndKind_24 (v := nI (0)) (by decide) ?_
          exact V.zret F hr (nar_0) d_T_areThingAndKind_25 (⟨by rw [decide_eq_false (fun z => z.2.2.2 c17)]; exact bI_f, rfl⟩)
        · skip
          refine V.iconst F d_T_areThingAndKind_20 (v := nI (1)) (by decide) ?_
          refine V.goto (tgt := 25) F d_T_areThingAndKind_21 (by decide) ?_
          exact V.zret F hr (nar_1) d_T_areThingAndKind_25 (⟨by rw [decide_eq_true ⟨c1, c7, c11, c17⟩]; exact bI_t, rfl⟩)

set_option maxHeartbeats 4000000 in
set_option maxRecDepth 100000 in
theorem c_stands (l : Launch) (D : va_G) {ct : Nat → ClassId} {ad : Nat → Nat} {da : Nat → Nat → Nat} {nd : Nat} {nb : Nat} {nf : Nat} {bdk : Nat → Nat} {num : Nat → Nat} {spt : Nat → Nat} {val : Nat → Int64} {tim : Nat → Nat} {rep : Nat → Nat → Bool} {byN : Nat → Nat} {byS : Nat → Nat} {pk : Nat → Bool} {kn : Nat → Nat → Bool} {pe : Nat → Nat → Bool} {clk : Nat → Nat} {tol : Nat → Nat} {opn : Nat → Option Nat} (q : Option (Nat × Bool)) (hq : fsOk nd q) (f : Nat) (hf : f < 300) : CI l y_A_standsAmong b_A_standsAmong 4 (some .boolean) (rmK 2 0 0) D (tyL ct) (CW ct ad da nd nb nf bdk num spt val tim rep byN byS pk kn pe clk tol opn) [.ref (ad 3), .ref (fsO ad da (q)), .int (nI (f))] 0 0 (fun r u => r = bI (stB (fsS pk kn pe q) rep f) ∧ u = CW ct ad da nd nb nf bdk num spt val tim rep byN byS pk kn pe clk tol opn) := by
  refine CI.start (by decide) (Nat.le_of_ble_eq_true rfl) ?_
  intro p e s m below meth c F hr hnm
  show V p l e (rmK 2 0 0) s m [.ref (ad 3), .ref (fsO ad da (q)), .int (nI (f))].toArray below meth c D (va_A (CW ct ad da nd nb nf bdk num spt val tim rep byN byS pk kn pe clk tol opn) s.heap.size) 4 0 0 (EI D below (CW ct ad da nd nb nf bdk num spt val tim rep byN byS pk kn pe clk tol opn) [.ref (ad 3), .ref (fsO ad da (q)), .int (nI (f))].toArray s 0 0 (fun r u => r = bI (stB (fsS pk kn pe q) rep f) ∧ u = CW ct ad da nd nb nf bdk num spt val tim rep byN byS pk kn pe clk tol opn)) (CW ct ad da nd nb nf bdk num spt val tim rep byN byS pk kn pe clk tol opn) [(0, .ref (ad 3)), (1, .ref (fsO ad da (q))), (2, .int (nI (f)))] 0 []
  refine V.aload_n F d_A_standsAmong_0 rfl 1 rfl ?_
  refine V.iload_n F d_A_standsAmong_1 rfl 2 rfl ?_
  refine V.callVI0 (As := [.int (nI (f))]) (rest := []) F (c_has l D q hq f (by omega)) d_A_standsAmong_2 sv_A_40 im_y_S_has sl_y_S_has (fsP (q)) (cw_fs hq) rfl rfl rfl rfl (Nat.le_of_ble_eq_true rfl) ⟨rfl, rfl, (Nat.le_of_ble_eq_true rfl), (Nat.le_of_ble_eq_true rfl)⟩ ⟨(Nat.le_of_ble_eq_true rfl), (Nat.le_of_ble_eq_true rfl)⟩ (fun r9 u9 h9 => ?_)
  obtain ⟨rfl, rfl⟩ := h9
  refine V.if_neB (b := fsS pk kn pe (q) (f)) (tgt := 10) F d_A_standsAmong_5 (by decide) (fun c5 => ?_) (fun c5 => ?_)
  · skip
    refine V.iconst F d_A_standsAmong_10 (v := nI (0)) (by decide) ?_
    refine V.istore_n (lv2 := [(3, .int (nI (0))), (0, .ref (ad 3)), (1, .ref (fsO ad da (q))), (2, .int (nI (f)))]) F d_A_standsAmong_11 rfl (by decide) rfl ?_
    have L12 : ∀ (n9 : Nat) (i : Nat), 5 - i < n9 → (i ≤ 5) → (∀ k, k < 64 * i → (rep f k && fsS pk kn pe q k) = false) → V p l e (rmK 2 0 0) s m [.ref (ad 3), .ref (fsO ad da (q)), .int (nI (f))].toArray below meth c D (va_A (CW ct ad da nd nb nf bdk num spt val tim rep byN byS pk kn pe clk tol opn) s.heap.size) 4 0 0 (EI D below (CW ct ad da nd nb nf bdk num spt val tim rep byN byS pk kn pe clk tol opn) [.ref (ad 3), .ref (fsO ad da (q)), .int (nI (f))].toArray s 0 0 (fun r u => r = bI (stB (fsS pk kn pe q) rep f) ∧ u = CW ct ad da nd nb nf bdk num spt val tim rep byN byS pk kn pe clk tol opn)) (CW ct ad da nd nb nf bdk num spt val tim rep byN byS pk kn pe clk tol opn) [(3, .int (nI (i))), (0, .ref (ad 3)), (1, .ref (fsO ad da (q))), (2, .int (nI (f)))] 12 [] := by
      intro n9
      induction n9 with
      | zero => intro i h9 hi5 hin; exact absurd h9 (Nat.not_lt_zero _)
      | succ n9 ih12 =>
        intro i h9 hi5 hin
        refine V.iload_n F d_A_standsAmong_12 rfl 0 rfl ?_
        refine V.iconst F d_A_standsAmong_13 (v := nI (5)) (by decide) ?_
        refine V.icmp_geN (tgt := 47) F d_A_standsAmong_14 (by decide) (by omega) (by omega) (fun c14 => ?_) (fun c14 => ?_)
        · skip
          refine V.iconst F d_A_standsAmong_47 (v := nI (1)) (by decide) ?_
          exact V.zret F hr (nar_1) d_A_standsAmong_48 (⟨by rw [stB_all c5 (fun k hk => hin k (by omega))]; exact bI_t, rfl⟩)
        · skip
          refine V.aload_n F d_A_standsAmong_17 rfl 1 rfl ?_
          refine V.get F ck_A d_A_standsAmong_18 4 (by decide) lk_A_27 3 rfl rfl ?_
          refine V.iload_n F d_A_standsAmong_21 rfl 3 rfl ?_
          refine V.iconst F d_A_standsAmong_22 (v := nI (5)) (by decide) ?_
          refine V.imulN F d_A_standsAmong_23 ?_
          refine V.iload_n F d_A_standsAmong_24 rfl 0 rfl ?_
          refine V.iaddN F d_A_standsAmong_25 ?_
          refine V.lald (v := wd (rep f) (i)) F d_A_standsAmong_26 8 1 rfl rfl (by omega) (by decide) (rpW_at (by omega)) ?_
          refine V.aload_n F d_A_standsAmong_27 rfl 2 rfl ?_
          refine V.getN F ck_S d_A_standsAmong_28 0 (by decide) lk_A_48 (fsP (q)) (cw_fs hq) rfl ?_
          refine V.iload_n F d_A_standsAmong_31 rfl 0 rfl ?_
          refine V.lald (v := wd (fsS pk kn pe (q)) (i)) F d_A_standsAmong_32 (fsX (q)) 1 (cw_fw hq) rfl (by omega) (by decide) rfl ?_
          refine V.land F d_A_standsAmong_33 (v := (wd (rep f) (i)) &&& (wd (fsS pk kn pe (q)) (i))) rfl ?_
          refine V.lconst F d_A_standsAmong_34 (v := 0) (by decide) ?_
          refine V.lcmp_eq (tgt := 41) F d_A_standsAmong_35 d_A_standsAmong_36 (by decide) (fun c35 => ?_) (fun c35 => ?_)
          · skip
            refine V.iincN (k := 1) (lv2 := [(3, .int (nI (i + 1))), (0, .ref (ad 3)), (1, .ref (fsO ad da (q))), (2, .int (nI (f)))]) F d_A_standsAmong_41 0 rfl (by decide) (by decide) rfl ?_
            refine V.goto (tgt := 12) F d_A_standsAmong_44 (by decide) ?_
            exact ih12 (i + 1) (by omega) (by omega) (step64 (P := fun k => (rep f k && fsS pk kn pe q k) = false) ((wd_and0 _ _ _).mp c35) hin)
          · skip
            refine V.iconst F d_A_standsAmong_39 (v := nI (0)) (by decide) ?_
            exact V.zret F hr (nar_0) d_A_standsAmong_40 (⟨by rw [stB_hit (by omega) c35]; exact bI_f, rfl⟩)
    exact L12 _ (0) (Nat.lt_succ_self _) (by omega) (fun k hk => absurd hk (by omega))
  · skip
    refine V.iconst F d_A_standsAmong_8 (v := nI (0)) (by decide) ?_
    exact V.zret F hr (nar_0) d_A_standsAmong_9 (⟨by rw [stB_no c5]; exact bI_f, rfl⟩)

set_option maxHeartbeats 4000000 in
set_option maxRecDepth 100000 in
theorem c_withNumber (l : Launch) (D : va_G) {ct : Nat → ClassId} {ad : Nat → Nat} {da : Nat → Nat → Nat} {nd : Nat} {nb : Nat} {nf : Nat} {bdk : Nat → Nat} {num : Nat → Nat} {spt : Nat → Nat} {val : Nat → Int64} {tim : Nat → Nat} {rep : Nat → Nat → Bool} {byN : Nat → Nat} {byS : Nat → Nat} {pk : Nat → Bool} {kn : Nat → Nat → Bool} {pe : Nat → Nat → Bool} {clk : Nat → Nat} {tol : Nat → Nat} {opn : Nat → Option Nat} (hnf : nf ≤ 300) (x : Int32) : CI l y_A_withNumber b_A_withNumber 3 (some .int) (rmK 0 0 0) D (tyL ct) (CW ct ad da nd nb nf bdk num spt val tim rep byN byS pk kn pe clk tol opn) [.ref (ad 3), .int (x)] 0 0 (fun r u => ((∃ f, f < nf ∧ nI (num f) = x ∧ (∀ k, k < f → ¬ nI (num k) = x) ∧ r = nI f) ∨ ((∀ k, k < nf → ¬ nI (num k) = x) ∧ r = -1)) ∧ u = CW ct ad da nd nb nf bdk num spt val tim rep byN byS pk kn pe clk tol opn) := by
  refine CI.start (by decide) (Nat.le_of_ble_eq_true rfl) ?_
  intro p e s m below meth c F hr hnm
  show V p l e (rmK 0 0 0) s m [.ref (ad 3), .int (x)].toArray below meth c D (va_A (CW ct ad da nd nb nf bdk num spt val tim rep byN byS pk kn pe clk tol opn) s.heap.size) 3 0 0 (EI D below (CW ct ad da nd nb nf bdk num spt val tim rep byN byS pk kn pe clk tol opn) [.ref (ad 3), .int (x)].toArray s 0 0 (fun r u => ((∃ f, f < nf ∧ nI (num f) = x ∧ (∀ k, k < f → ¬ nI (num k) = x) ∧ r = nI f) ∨ ((∀ k, k < nf → ¬ nI (num k) = x) ∧ r = -1)) ∧ u = CW ct ad da nd nb nf bdk num spt val tim rep byN byS pk kn pe clk tol opn)) (CW ct ad da nd nb nf bdk num spt val tim rep byN byS pk kn pe clk tol opn) [(0, .ref (ad 3)), (1, .int (x))] 0 []
  refine V.iconst F d_A_withNumber_0 (v := nI (0)) (by decide) ?_
  refine V.istore_n (lv2 := [(2, .int (nI (0))), (0, .ref (ad 3)), (1, .int (x))]) F d_A_withNumber_1 rfl (by decide) rfl ?_
  have L2 : ∀ (n9 : Nat) (i : Nat), nf - i < n9 → (i ≤ nf) → (∀ k, k < i → ¬ nI (num k) = x) → V p l e (rmK 0 0 0) s m [.ref (ad 3), .int (x)].toArray below meth c D (va_A (CW ct ad da nd nb nf bdk num spt val tim rep byN byS pk kn pe clk tol opn) s.heap.size) 3 0 0 (EI D below (CW ct ad da nd nb nf bdk num spt val tim rep byN byS pk kn pe clk tol opn) [.ref (ad 3), .int (x)].toArray s 0 0 (fun r u => ((∃ f, f < nf ∧ nI (num f) = x ∧ (∀ k, k < f → ¬ nI (num k) = x) ∧ r = nI f) ∨ ((∀ k, k < nf → ¬ nI (num k) = x) ∧ r = -1)) ∧ u = CW ct ad da nd nb nf bdk num spt val tim rep byN byS pk kn pe clk tol opn)) (CW ct ad da nd nb nf bdk num spt val tim rep byN byS pk kn pe clk tol opn) [(2, .int (nI (i))), (0, .ref (ad 3)), (1, .int (x))] 2 [] := by
    intro n9
    induction n9 with
    | zero => intro i h9 hi hin; exact absurd h9 (Nat.not_lt_zero _)
    | succ n9 ih2 =>
      intro i h9 hi hin
      refine V.iload_n F d_A_withNumber_2 rfl 0 rfl ?_
      refine V.aload_n F d_A_withNumber_3 rfl 1 rfl ?_
      refine V.get F ck_A d_A_withNumber_4 7 (by decide) lk_A_36 3 rfl rfl ?_
      refine V.icmp_geN (tgt := 28) F d_A_withNumber_7 (by decide) (by omega) (by omega) (fun c7 => ?_) (fun c7 => ?_)
      · skip
        refine V.iconst F d_A_withNumber_28 (v := -1) (by decide) ?_
        exact V.iret F hr d_A_withNumber_29 (⟨Or.inr ⟨fun k hk => hin k (by omega), rfl⟩, rfl⟩)
      · skip
        refine V.aload_n F d_A_withNumber_10 rfl 1 rfl ?_
        refine V.get F ck_A d_A_withNumber_11 0 (by decide) lk_A_9 3 rfl rfl ?_
        refine V.iload_n F d_A_withNumber_14 rfl 0 rfl ?_
        refine V.iald (v := nI (num (i))) F d_A_withNumber_15 4 0 rfl rfl (by omega) (by decide) rfl ?_
        refine V.iload_n F d_A_withNumber_16 rfl 2 rfl ?_
        refine V.icmp_ne (x := nI (num (i))) (y := x) (tgt := 22) F d_A_withNumber_17 (by decide) (fun c17 => ?_) (fun c17 => ?_)
        · skip
          refine V.iincN (k := 1) (lv2 := [(2, .int (nI (i + 1))), (0, .ref (ad 3)), (1, .int (x))]) F d_A_withNumber_22 0 rfl (by decide) (by decide) rfl ?_
          refine V.goto (tgt := 2) F d_A_withNumber_25 (by decide) ?_
          exact ih2 (i + 1) (by omega) (by omega) (fun k hk => by
          by_cases e9 : k = i
          · rw [e9]; exact c17
          · exact hin k (by omega))
        · skip
          refine V.iload_n F d_A_withNumber_20 rfl 0 rfl ?_
          exact V.iret F hr d_A_withNumber_21 (⟨Or.inl ⟨i, by omega, c17, hin, rfl⟩, rfl⟩)
  exact L2 _ (0) (Nat.lt_succ_self _) (by omega) (fun k hk => absurd hk (by omega))

set_option maxHeartbeats 4000000 in
set_option maxRecDepth 100000 in
theorem c_inOrder (l : Launch) (D : va_G) {ct : Nat → ClassId} {ad : Nat → Nat} {da : Nat → Nat → Nat} {nd : Nat} {nb : Nat} {nf : Nat} {bdk : Nat → Nat} {num : Nat → Nat} {spt : Nat → Nat} {val : Nat → Int64} {tim : Nat → Nat} {rep : Nat → Nat → Bool} {byN : Nat → Nat} {byS : Nat → Nat} {pk : Nat → Bool} {kn : Nat → Nat → Bool} {pe : Nat → Nat → Bool} {clk : Nat → Nat} {tol : Nat → Nat} {opn : Nat → Option Nat} (hnf : nf ≤ 300) (hbN : ∀ j, j < nf → byN j < nf) (k : Int32) : CI l y_A_inOrder b_A_inOrder 6 (some .int) (rmK 2 0 0) D (tyL ct) (CW ct ad da nd nb nf bdk num spt val tim rep byN byS pk kn pe clk tol opn) [.ref (ad 3), .ref (ad 11), .int (k)] 0 0 (fun r u => ((∃ m, m < nf ∧ pk (byN m) = true ∧ k = nI (cnt (fun j => pk (byN j)) m) ∧ r = nI (byN m)) ∨ ((∀ m, m < nf → pk (byN m) = true → ¬ k = nI (cnt (fun j => pk (byN j)) m)) ∧ r = -1)) ∧ u = CW ct ad da nd nb nf bdk num spt val tim rep byN byS pk kn pe clk tol opn) := by
  refine CI.start (by decide) (Nat.le_of_ble_eq_true rfl) ?_
  intro p e s m below meth c F hr hnm
  show V p l e (rmK 2 0 0) s m [.ref (ad 3), .ref (ad 11), .int (k)].toArray below meth c D (va_A (CW ct ad da nd nb nf bdk num spt val tim rep byN byS pk kn pe clk tol opn) s.heap.size) 6 0 0 (EI D below (CW ct ad da nd nb nf bdk num spt val tim rep byN byS pk kn pe clk tol opn) [.ref (ad 3), .ref (ad 11), .int (k)].toArray s 0 0 (fun r u => ((∃ m, m < nf ∧ pk (byN m) = true ∧ k = nI (cnt (fun j => pk (byN j)) m) ∧ r = nI (byN m)) ∨ ((∀ m, m < nf → pk (byN m) = true → ¬ k = nI (cnt (fun j => pk (byN j)) m)) ∧ r = -1)) ∧ u = CW ct ad da nd nb nf bdk num spt val tim rep byN byS pk kn pe clk tol opn)) (CW ct ad da nd nb nf bdk num spt val tim rep byN byS pk kn pe clk tol opn) [(0, .ref (ad 3)), (1, .ref (ad 11)), (2, .int (k))] 0 []
  refine V.iconst F d_A_inOrder_0 (v := nI (0)) (by decide) ?_
  refine V.istore_n (lv2 := [(3, .int (nI (0))), (0, .ref (ad 3)), (1, .ref (ad 11)), (2, .int (k))]) F d_A_inOrder_1 rfl (by decide) rfl ?_
  refine V.iconst F d_A_inOrder_2 (v := nI (0)) (by decide) ?_
  refine V.istore (lv2 := [(4, .int (nI (0))), (3, .int (nI (0))), (0, .ref (ad 3)), (1, .ref (ad 11)), (2, .int (k))]) F d_A_inOrder_3 (by decide) rfl ?_
  have L5 : ∀ (n9 : Nat) (i : Nat) (z : Nat), nf - i < n9 → (i ≤ nf) → (z = cnt (fun j => pk (byN j)) i) → (∀ m, m < i → pk (byN m) = true → ¬ k = nI (cnt (fun j => pk (byN j)) m)) → V p l e (rmK 2 0 0) s m [.ref (ad 3), .ref (ad 11), .int (k)].toArray below meth c D (va_A (CW ct ad da nd nb nf bdk num spt val tim rep byN byS pk kn pe clk tol opn) s.heap.size) 6 0 0 (EI D below (CW ct ad da nd nb nf bdk num spt val tim rep byN byS pk kn pe clk tol opn) [.ref (ad 3), .ref (ad 11), .int (k)].toArray s 0 0 (fun r u => ((∃ m, m < nf ∧ pk (byN m) = true ∧ k = nI (cnt (fun j => pk (byN j)) m) ∧ r = nI (byN m)) ∨ ((∀ m, m < nf → pk (byN m) = true → ¬ k = nI (cnt (fun j => pk (byN j)) m)) ∧ r = -1)) ∧ u = CW ct ad da nd nb nf bdk num spt val tim rep byN byS pk kn pe clk tol opn)) (CW ct ad da nd nb nf bdk num spt val tim rep byN byS pk kn pe clk tol opn) [(4, .int (nI (i))), (3, .int (nI (z))), (0, .ref (ad 3)), (1, .ref (ad 11)), (2, .int (k))] 5 [] := by
    intro n9
    induction n9 with
    | zero => intro i z h9 hi hz hin; exact absurd h9 (Nat.not_lt_zero _)
    | succ n9 ih5 =>
      intro i z h9 hi hz hin
      refine V.iload F d_A_inOrder_5 0 rfl ?_
      refine V.aload_n F d_A_inOrder_7 rfl 2 rfl ?_
      refine V.get F ck_A d_A_inOrder_8 7 (by decide) lk_A_36 3 rfl rfl ?_
      refine V.icmp_geN (tgt := 49) F d_A_inOrder_11 (by decide) (by omega) (by omega) (fun c11 => ?_) (fun c11 => ?_)
      · skip
        refine V.iconst F d_A_inOrder_49 (v := -1) (by decide) ?_
        exact V.iret F hr d_A_inOrder_50 (⟨Or.inr ⟨fun m hm => hin m (by omega), rfl⟩, rfl⟩)
      · skip
        refine V.aload_n F d_A_inOrder_14 rfl 2 rfl ?_
        refine V.get F ck_A d_A_inOrder_15 5 (by decide) lk_A_30 3 rfl rfl ?_
        refine V.iload F d_A_inOrder_18 0 rfl ?_
        refine V.iald (v := nI (byN (i))) F d_A_inOrder_20 9 0 rfl rfl (by omega) (by decide) rfl ?_
        refine V.istore (lv2 := [(5, .int (nI (byN (i)))), (4, .int (nI (i))), (3, .int (nI (z))), (0, .ref (ad 3)), (1, .ref (ad 11)), (2, .int (k))]) F d_A_inOrder_21 (by decide) rfl ?_
        refine V.aload_n F d_A_inOrder_23 rfl 4 rfl ?_
        refine V.iload F d_A_inOrder_24 0 rfl ?_
        refine V.callVI0 (As := [.int (nI (byN (i)))]) (rest := []) F (c_has l D none trivial (byN i) (by have := hbN i (by omega); omega)) d_A_inOrder_26 sv_A_40 im_y_S_has sl_y_S_has 11 rfl rfl rfl rfl rfl (Nat.le_of_ble_eq_true rfl) ⟨rfl, rfl, (Nat.le_of_ble_eq_true rfl), (Nat.le_of_ble_eq_true rfl)⟩ ⟨(Nat.le_of_ble_eq_true rfl), (Nat.le_of_ble_eq_true rfl)⟩ (fun r9 u9 h9 => ?_)
        obtain ⟨rfl, rfl⟩ := h9
        refine V.if_eqB (b := pk (byN (i))) (tgt := 43) F d_A_inOrder_29 (by decide) (fun c29 => ?_) (fun c29 => ?_)
        · skip
          refine V.iincN (k := 1) (lv2 := [(4, .int (nI (i + 1))), (5, .int (nI (byN (i)))), (3, .int (nI (z))), (0, .ref (ad 3)), (1, .ref (ad 11)), (2, .int (k))]) F d_A_inOrder_43 1 rfl (by decide) (by decide) rfl ?_
          refine V.goto (tgt := 5) F d_A_inOrder_46 (by decide) ?_
          refine V.lvs [0, 2, 3, 4, 5] rfl ?_
          exact ih5 (i + 1) (z) (by omega) (by omega) (by rw [hz, cnt, if_neg (by rw [c29]; decide)]; rfl) (ord_step hin (fun q _ => by rw [c29] at q; cases q))
        · skip
          refine V.iload_n F d_A_inOrder_32 rfl 2 rfl ?_
          refine V.iload_n F d_A_inOrder_33 rfl 5 rfl ?_
          refine V.icmp_ne (x := nI (z)) (y := k) (tgt := 40) F d_A_inOrder_34 (by decide) (fun c34 => ?_) (fun c34 => ?_)
          · skip
            refine V.iincN (k := 1) (lv2 := [(3, .int (nI (z + 1))), (5, .int (nI (byN (i)))), (4, .int (nI (i))), (0, .ref (ad 3)), (1, .ref (ad 11)), (2, .int (k))]) F d_A_inOrder_40 2 rfl (by decide) (by decide) rfl ?_
            refine V.iincN (k := 1) (lv2 := [(4, .int (nI (i + 1))), (3, .int (nI (z + 1))), (5, .int (nI (byN (i)))), (0, .ref (ad 3)), (1, .ref (ad 11)), (2, .int (k))]) F d_A_inOrder_43 2 rfl (by decide) (by decide) rfl ?_
            refine V.goto (tgt := 5) F d_A_inOrder_46 (by decide) ?_
            refine V.lvs [0, 1, 3, 4, 5] rfl ?_
            exact ih5 (i + 1) (z + 1) (by omega) (by omega) (by rw [hz, cnt, if_pos c29]) (ord_step hin (fun _ q => c34 (by rw [hz]; exact q.symm)))
          · skip
            refine V.iload F d_A_inOrder_37 0 rfl ?_
            exact V.iret F hr d_A_inOrder_39 (⟨Or.inl ⟨i, by omega, c29, by rw [← hz]; exact c34.symm, rfl⟩, rfl⟩)
  exact L5 _ (0) (0) (Nat.lt_succ_self _) (by omega) (rfl) (fun m hm => absurd hm (by omega))

set_option maxHeartbeats 4000000 in
set_option maxRecDepth 100000 in
theorem c_pickStanding (l : Launch) (D : va_G) {ct : Nat → ClassId} {ad : Nat → Nat} {da : Nat → Nat → Nat} {nd : Nat} {nb : Nat} {nf : Nat} {bdk : Nat → Nat} {num : Nat → Nat} {spt : Nat → Nat} {val : Nat → Int64} {tim : Nat → Nat} {rep : Nat → Nat → Bool} {byN : Nat → Nat} {byS : Nat → Nat} {pk : Nat → Bool} {kn : Nat → Nat → Bool} {pe : Nat → Nat → Bool} {clk : Nat → Nat} {tol : Nat → Nat} {opn : Nat → Option Nat} (hnf : nf ≤ 300) (d : Nat) (hd0 : d < nd) (sp : Nat) (hsp : sp < 2 ^ 31) (hspt : ∀ k, k < nf → spt k < 2 ^ 31) : CV l y_A_pickStanding b_A_pickStanding 5 none (rmK 3 0 0) D (tyL ct) (CW ct ad da nd nb nf bdk num spt val tim rep byN byS pk kn pe clk tol opn) [.ref (ad 3), .ref (da (d) 1), .int (nI (sp)), .ref (ad 11)] 0 0 (fun u => ∃ P : Nat → Bool, (∀ k, k < 320 → P k = (decide (k < nf) && (decide (spt k = sp) && stB (kn d) rep k))) ∧ u = CW ct ad da nd nb nf bdk num spt val tim rep byN byS P kn pe clk tol opn) := by
  refine CV.start (by decide) (Nat.le_of_ble_eq_true rfl) ?_
  intro p e s m below meth c F hr hnm
  show V p l e (rmK 3 0 0) s m [.ref (ad 3), .ref (da (d) 1), .int (nI (sp)), .ref (ad 11)].toArray below meth c D (va_A (CW ct ad da nd nb nf bdk num spt val tim rep byN byS pk kn pe clk tol opn) s.heap.size) 5 0 0 (EV D below (CW ct ad da nd nb nf bdk num spt val tim rep byN byS pk kn pe clk tol opn) [.ref (ad 3), .ref (da (d) 1), .int (nI (sp)), .ref (ad 11)].toArray s 0 0 (fun u => ∃ P : Nat → Bool, (∀ k, k < 320 → P k = (decide (k < nf) && (decide (spt k = sp) && stB (kn d) rep k))) ∧ u = CW ct ad da nd nb nf bdk num spt val tim rep byN byS P kn pe clk tol opn)) (CW ct ad da nd nb nf bdk num spt val tim rep byN byS pk kn pe clk tol opn) [(0, .ref (ad 3)), (1, .ref (da (d) 1)), (2, .int (nI (sp))), (3, .ref (ad 11))] 0 []
  refine V.aload_n F d_A_pickStanding_0 rfl 3 rfl ?_
  refine V.callVV0 (As := []) (rest := []) F (c_clear l D none trivial) d_A_pickStanding_1 sv_A_51 im_y_S_clear sl_y_S_clear 11 rfl rfl rfl rfl rfl (Nat.le_of_ble_eq_true rfl) ⟨rfl, rfl, (Nat.le_of_ble_eq_true rfl), (Nat.le_of_ble_eq_true rfl)⟩ ⟨(Nat.le_of_ble_eq_true rfl), (Nat.le_of_ble_eq_true rfl)⟩ (fun u9 h9 => ?_)
  obtain rfl := h9
  refine V.ws_eq (ws2 := CW ct ad da nd nb nf bdk num spt val tim rep byN byS (fun k => decide (5 ≤ k / 64) && pk k) kn pe clk tol opn) rfl ?_
  refine V.iconst F d_A_pickStanding_4 (v := nI (0)) (by decide) ?_
  refine V.istore (lv2 := [(4, .int (nI (0))), (0, .ref (ad 3)), (1, .ref (da (d) 1)), (2, .int (nI (sp))), (3, .ref (ad 11))]) F d_A_pickStanding_5 (by decide) rfl ?_
  have L7 : ∀ (n9 : Nat) (i : Nat) (P : Nat → Bool), nf - i < n9 → (i ≤ nf) → (∀ k, k < 320 → P k = (decide (k < i) && (decide (spt k = sp) && stB (kn d) rep k))) → V p l e (rmK 3 0 0) s m [.ref (ad 3), .ref (da (d) 1), .int (nI (sp)), .ref (ad 11)].toArray below meth c D (va_A (CW ct ad da nd nb nf bdk num spt val tim rep byN byS pk kn pe clk tol opn) s.heap.size) 5 0 0 (EV D below (CW ct ad da nd nb nf bdk num spt val tim rep byN byS pk kn pe clk tol opn) [.ref (ad 3), .ref (da (d) 1), .int (nI (sp)), .ref (ad 11)].toArray s 0 0 (fun u => ∃ P : Nat → Bool, (∀ k, k < 320 → P k = (decide (k < nf) && (decide (spt k = sp) && stB (kn d) rep k))) ∧ u = CW ct ad da nd nb nf bdk num spt val tim rep byN byS P kn pe clk tol opn)) (CW ct ad da nd nb nf bdk num spt val tim rep byN byS P kn pe clk tol opn) [(4, .int (nI (i))), (0, .ref (ad 3)), (1, .ref (da (d) 1)), (2, .int (nI (sp))), (3, .ref (ad 11))] 7 [] := by
    intro n9
    induction n9 with
    | zero => intro i P h9 hi hP; exact absurd h9 (Nat.not_lt_zero _)
    | succ n9 ih7 =>
      intro i P h9 hi hP
      refine V.iload F d_A_pickStanding_7 0 rfl ?_
      refine V.aload_n F d_A_pickStanding_9 rfl 1 rfl ?_
      refine V.get F ck_A d_A_pickStanding_10 7 (by decide) lk_A_36 3 rfl rfl ?_
      refine V.icmp_geN (tgt := 49) F d_A_pickStanding_13 (by decide) (by omega) (by omega) (fun c13 => ?_) (fun c13 => ?_)
      · skip
        exact V.vret F hr d_A_pickStanding_49 (⟨P, by rw [show nf = i by omega]; exact hP, rfl⟩)
      · skip
        have hs9 := hspt i (by omega)
        refine V.aload_n F d_A_pickStanding_16 rfl 1 rfl ?_
        refine V.get F ck_A d_A_pickStanding_17 1 (by decide) lk_A_15 3 rfl rfl ?_
        refine V.iload F d_A_pickStanding_20 0 rfl ?_
        refine V.iald (v := nI (spt (i))) F d_A_pickStanding_22 5 0 rfl rfl (by omega) (by decide) rfl ?_
        refine V.iload_n F d_A_pickStanding_23 rfl 3 rfl ?_
        refine V.icmp_neN (tgt := 43) F d_A_pickStanding_24 (by decide) (by omega) (by omega) (fun c24 => ?_) (fun c24 => ?_)
        · skip
          refine V.iincN (k := 1) (lv2 := [(4, .int (nI (i + 1))), (0, .ref (ad 3)), (1, .ref (da (d) 1)), (2, .int (nI (sp))), (3, .ref (ad 11))]) F d_A_pickStanding_43 0 rfl (by decide) (by decide) rfl ?_
          refine V.goto (tgt := 7) F d_A_pickStanding_46 (by decide) ?_
          exact ih7 (i + 1) (P) (by omega) (by omega) (pick_skip (C := fun k => decide (spt k = sp) && stB (kn d) rep k) hP (by show (decide (spt i = sp) && stB (kn d) rep i) = false; rw [decide_eq_false c24]; rfl))
        · skip
          refine V.aload_n F d_A_pickStanding_27 rfl 1 rfl ?_
          refine V.aload_n F d_A_pickStanding_28 rfl 2 rfl ?_
          refine V.iload F d_A_pickStanding_29 0 rfl ?_
          refine V.callVI0 (As := [.ref (da (d) 1), .int (nI (i))]) (rest := []) F (c_stands l D (some (d, false)) hd0 i (by omega)) d_A_pickStanding_31 sv_A_54 im_y_A_standsAmong sl_y_A_standsAmong 3 rfl rfl rfl rfl rfl (Nat.le_of_ble_eq_true rfl) ⟨rfl, rfl, (Nat.le_of_ble_eq_true rfl), (Nat.le_of_ble_eq_true rfl)⟩ ⟨(Nat.le_of_ble_eq_true rfl), (Nat.le_of_ble_eq_true rfl)⟩ (fun r9 u9 h9 => ?_)
          obtain ⟨rfl, rfl⟩ := h9
          refine V.if_eqB (b := stB (kn (d)) rep (i)) (tgt := 43) F d_A_pickStanding_34 (by decide) (fun c34 => ?_) (fun c34 => ?_)
          · skip
            refine V.iincN (k := 1) (lv2 := [(4, .int (nI (i + 1))), (0, .ref (ad 3)), (1, .ref (da (d) 1)), (2, .int (nI (sp))), (3, .ref (ad 11))]) F d_A_pickStanding_43 0 rfl (by decide) (by decide) rfl ?_
            refine V.goto (tgt := 7) F d_A_pickStanding_46 (by decide) ?_
            exact ih7 (i + 1) (P) (by omega) (by omega) (pick_skip (C := fun k => decide (spt k = sp) && stB (kn d) rep k) hP (by show (decide (spt i = sp) && stB (kn d) rep i) = false; rw [c34, Bool.and_false]))
          · skip
            refine V.aload_n F d_A_pickStanding_37 rfl 4 rfl ?_
            refine V.iload F d_A_pickStanding_38 0 rfl ?_
            refine V.callVV0 (As := [.int (nI (i))]) (rest := []) F (c_add l D none trivial i (by omega)) d_A_pickStanding_40 sv_A_58 im_y_S_add sl_y_S_add 11 rfl rfl rfl rfl rfl (Nat.le_of_ble_eq_true rfl) ⟨rfl, rfl, (Nat.le_of_ble_eq_true rfl), (Nat.le_of_ble_eq_true rfl)⟩ ⟨(Nat.le_of_ble_eq_true rfl), (Nat.le_of_ble_eq_true rfl)⟩ (fun u9 h9 => ?_)
            obtain rfl := h9
            refine V.ws_eq (ws2 := CW ct ad da nd nb nf bdk num spt val tim rep byN byS (fun k => P k || decide (k = i)) kn pe clk tol opn) rfl ?_
            refine V.iincN (k := 1) (lv2 := [(4, .int (nI (i + 1))), (0, .ref (ad 3)), (1, .ref (da (d) 1)), (2, .int (nI (sp))), (3, .ref (ad 11))]) F d_A_pickStanding_43 0 rfl (by decide) (by decide) rfl ?_
            refine V.goto (tgt := 7) F d_A_pickStanding_46 (by decide) ?_
            exact ih7 (i + 1) (fun k => P k || decide (k = i)) (by omega) (by omega) (pick_add (C := fun k => decide (spt k = sp) && stB (kn d) rep k) hP (by show (decide (spt i = sp) && stB (kn d) rep i) = true; rw [decide_eq_true c24, c34]; rfl))
  exact L7 _ (0) (fun k => decide (5 ≤ k / 64) && pk k) (Nat.lt_succ_self _) (by omega) (pick_0 (clr_0 pk))

set_option maxHeartbeats 4000000 in
set_option maxRecDepth 100000 in
theorem c_pickToldBy (l : Launch) (D : va_G) {ct : Nat → ClassId} {ad : Nat → Nat} {da : Nat → Nat → Nat} {nd : Nat} {nb : Nat} {nf : Nat} {bdk : Nat → Nat} {num : Nat → Nat} {spt : Nat → Nat} {val : Nat → Int64} {tim : Nat → Nat} {rep : Nat → Nat → Bool} {byN : Nat → Nat} {byS : Nat → Nat} {pk : Nat → Bool} {kn : Nat → Nat → Bool} {pe : Nat → Nat → Bool} {clk : Nat → Nat} {tol : Nat → Nat} {opn : Nat → Option Nat} (hnf : nf ≤ 300) (d : Nat) (hd0 : d < nd) (t : Int64) (htim : ∀ k, k < nf → tim k < 2 ^ 31) : CV l y_A_pickToldBy b_A_pickToldBy 6 none (rmK 2 0 0) D (tyL ct) (CW ct ad da nd nb nf bdk num spt val tim rep byN byS pk kn pe clk tol opn) [.ref (ad 3), .long (t), .ref (da (d) 1), .ref (ad 11)] 0 0 (fun u => ∃ P : Nat → Bool, (∀ k, k < 320 → P k = (decide (k < nf) && (decide (¬ t < lN (tim k)) && kn d k))) ∧ u = CW ct ad da nd nb nf bdk num spt val tim rep byN byS P kn pe clk tol opn) := by
  refine CV.start (by decide) (Nat.le_of_ble_eq_true rfl) ?_
  intro p e s m below meth c F hr hnm
  show V p l e (rmK 2 0 0) s m [.ref (ad 3), .long (t), .ref (da (d) 1), .ref (ad 11)].toArray below meth c D (va_A (CW ct ad da nd nb nf bdk num spt val tim rep byN byS pk kn pe clk tol opn) s.heap.size) 6 0 0 (EV D below (CW ct ad da nd nb nf bdk num spt val tim rep byN byS pk kn pe clk tol opn) [.ref (ad 3), .long (t), .ref (da (d) 1), .ref (ad 11)].toArray s 0 0 (fun u => ∃ P : Nat → Bool, (∀ k, k < 320 → P k = (decide (k < nf) && (decide (¬ t < lN (tim k)) && kn d k))) ∧ u = CW ct ad da nd nb nf bdk num spt val tim rep byN byS P kn pe clk tol opn)) (CW ct ad da nd nb nf bdk num spt val tim rep byN byS pk kn pe clk tol opn) [(0, .ref (ad 3)), (1, .long (t)), (3, .ref (da (d) 1)), (4, .ref (ad 11))] 0 []
  refine V.aload F d_A_pickToldBy_0 3 rfl ?_
  refine V.callVV0 (As := []) (rest := []) F (c_clear l D none trivial) d_A_pickToldBy_2 sv_A_51 im_y_S_clear sl_y_S_clear 11 rfl rfl rfl rfl rfl (Nat.le_of_ble_eq_true rfl) ⟨rfl, rfl, (Nat.le_of_ble_eq_true rfl), (Nat.le_of_ble_eq_true rfl)⟩ ⟨(Nat.le_of_ble_eq_true rfl), (Nat.le_of_ble_eq_true rfl)⟩ (fun u9 h9 => ?_)
  obtain rfl := h9
  refine V.ws_eq (ws2 := CW ct ad da nd nb nf bdk num spt val tim rep byN byS (fun k => decide (5 ≤ k / 64) && pk k) kn pe clk tol opn) rfl ?_
  refine V.iconst F d_A_pickToldBy_5 (v := nI (0)) (by decide) ?_
  refine V.istore (lv2 := [(5, .int (nI (0))), (0, .ref (ad 3)), (1, .long (t)), (3, .ref (da (d) 1)), (4, .ref (ad 11))]) F d_A_pickToldBy_6 (by decide) rfl ?_
  have L8 : ∀ (n9 : Nat) (i : Nat) (P : Nat → Bool), nf - i < n9 → (i ≤ nf) → (∀ k, k < 320 → P k = (decide (k < i) && (decide (¬ t < lN (tim k)) && kn d k))) → V p l e (rmK 2 0 0) s m [.ref (ad 3), .long (t), .ref (da (d) 1), .ref (ad 11)].toArray below meth c D (va_A (CW ct ad da nd nb nf bdk num spt val tim rep byN byS pk kn pe clk tol opn) s.heap.size) 6 0 0 (EV D below (CW ct ad da nd nb nf bdk num spt val tim rep byN byS pk kn pe clk tol opn) [.ref (ad 3), .long (t), .ref (da (d) 1), .ref (ad 11)].toArray s 0 0 (fun u => ∃ P : Nat → Bool, (∀ k, k < 320 → P k = (decide (k < nf) && (decide (¬ t < lN (tim k)) && kn d k))) ∧ u = CW ct ad da nd nb nf bdk num spt val tim rep byN byS P kn pe clk tol opn)) (CW ct ad da nd nb nf bdk num spt val tim rep byN byS P kn pe clk tol opn) [(5, .int (nI (i))), (0, .ref (ad 3)), (1, .long (t)), (3, .ref (da (d) 1)), (4, .ref (ad 11))] 8 [] := by
    intro n9
    induction n9 with
    | zero => intro i P h9 hi hP; exact absurd h9 (Nat.not_lt_zero _)
    | succ n9 ih8 =>
      intro i P h9 hi hP
      refine V.iload F d_A_pickToldBy_8 0 rfl ?_
      refine V.aload_n F d_A_pickToldBy_10 rfl 1 rfl ?_
      refine V.get F ck_A d_A_pickToldBy_11 7 (by decide) lk_A_36 3 rfl rfl ?_
      refine V.icmp_geN (tgt := 52) F d_A_pickToldBy_14 (by decide) (by omega) (by omega) (fun c14 => ?_) (fun c14 => ?_)
      · skip
        exact V.vret F hr d_A_pickToldBy_52 (⟨P, by rw [show nf = i by omega]; exact hP, rfl⟩)
      · skip
        have hs9 := htim i (by omega)
        refine V.aload_n F d_A_pickToldBy_17 rfl 1 rfl ?_
        refine V.get F ck_A d_A_pickToldBy_18 3 (by decide) lk_A_22 3 rfl rfl ?_
        refine V.iload F d_A_pickToldBy_21 0 rfl ?_
        refine V.iald (v := nI (tim (i))) F d_A_pickToldBy_23 7 0 rfl rfl (by omega) (by decide) rfl ?_
        refine V.i2l F d_A_pickToldBy_24 (nI_l (by omega)) ?_
        refine V.lload_n F d_A_pickToldBy_25 rfl 2 rfl ?_
        refine V.lcmp_gt (tgt := 46) F d_A_pickToldBy_26 d_A_pickToldBy_27 (by decide) (fun c26 => ?_) (fun c26 => ?_)
        · skip
          refine V.iincN (k := 1) (lv2 := [(5, .int (nI (i + 1))), (0, .ref (ad 3)), (1, .long (t)), (3, .ref (da (d) 1)), (4, .ref (ad 11))]) F d_A_pickToldBy_46 0 rfl (by decide) (by decide) rfl ?_
          refine V.goto (tgt := 8) F d_A_pickToldBy_49 (by decide) ?_
          exact ih8 (i + 1) (P) (by omega) (by omega) (pick_skip (C := fun k => decide (¬ t < lN (tim k)) && kn d k) hP (by show (decide (¬ t < lN (tim i)) && kn d i) = false; rw [decide_eq_false (fun q => q c26)]; rfl))
        · skip
          refine V.aload_n F d_A_pickToldBy_30 rfl 3 rfl ?_
          refine V.iload F d_A_pickToldBy_31 0 rfl ?_
          refine V.callVI0 (As := [.int (nI (i))]) (rest := []) F (c_has l D (some (d, false)) hd0 i (by omega)) d_A_pickToldBy_33 sv_A_40 im_y_S_has sl_y_S_has (13 + (5 * (d) + 1)) (cw_d1 hd0) rfl rfl rfl rfl (Nat.le_of_ble_eq_true rfl) ⟨rfl, rfl, (Nat.le_of_ble_eq_true rfl), (Nat.le_of_ble_eq_true rfl)⟩ ⟨(Nat.le_of_ble_eq_true rfl), (Nat.le_of_ble_eq_true rfl)⟩ (fun r9 u9 h9 => ?_)
          obtain ⟨rfl, rfl⟩ := h9
          refine V.if_eqB (b := kn (d) (i)) (tgt := 46) F d_A_pickToldBy_36 (by decide) (fun c36 => ?_) (fun c36 => ?_)
          · skip
            refine V.iincN (k := 1) (lv2 := [(5, .int (nI (i + 1))), (0, .ref (ad 3)), (1, .long (t)), (3, .ref (da (d) 1)), (4, .ref (ad 11))]) F d_A_pickToldBy_46 0 rfl (by decide) (by decide) rfl ?_
            refine V.goto (tgt := 8) F d_A_pickToldBy_49 (by decide) ?_
            exact ih8 (i + 1) (P) (by omega) (by omega) (pick_skip (C := fun k => decide (¬ t < lN (tim k)) && kn d k) hP (by show (decide (¬ t < lN (tim i)) && kn d i) = false; rw [c36, Bool.and_false]))
          · skip
            refine V.aload F d_A_pickToldBy_39 4 rfl ?_
            refine V.iload F d_A_pickToldBy_41 0 rfl ?_
            refine V.callVV0 (As := [.int (nI (i))]) (rest := []) F (c_add l D none trivial i (by omega)) d_A_pickToldBy_43 sv_A_58 im_y_S_add sl_y_S_add 11 rfl rfl rfl rfl rfl (Nat.le_of_ble_eq_true rfl) ⟨rfl, rfl, (Nat.le_of_ble_eq_true rfl), (Nat.le_of_ble_eq_true rfl)⟩ ⟨(Nat.le_of_ble_eq_true rfl), (Nat.le_of_ble_eq_true rfl)⟩ (fun u9 h9 => ?_)
            obtain rfl := h9
            refine V.ws_eq (ws2 := CW ct ad da nd nb nf bdk num spt val tim rep byN byS (fun k => P k || decide (k = i)) kn pe clk tol opn) rfl ?_
            refine V.iincN (k := 1) (lv2 := [(5, .int (nI (i + 1))), (0, .ref (ad 3)), (1, .long (t)), (3, .ref (da (d) 1)), (4, .ref (ad 11))]) F d_A_pickToldBy_46 0 rfl (by decide) (by decide) rfl ?_
            refine V.goto (tgt := 8) F d_A_pickToldBy_49 (by decide) ?_
            exact ih8 (i + 1) (fun k => P k || decide (k = i)) (by omega) (by omega) (pick_add (C := fun k => decide (¬ t < lN (tim k)) && kn d k) hP (by show (decide (¬ t < lN (tim i)) && kn d i) = true; rw [decide_eq_true c26, c36]; rfl))
  exact L8 _ (0) (fun k => decide (5 ≤ k / 64) && pk k) (Nat.lt_succ_self _) (by omega) (pick_0 (clr_0 pk))

set_option maxHeartbeats 4000000 in
set_option maxRecDepth 100000 in
theorem c_pickEqual (l : Launch) (D : va_G) {ct : Nat → ClassId} {ad : Nat → Nat} {da : Nat → Nat → Nat} {nd : Nat} {nb : Nat} {nf : Nat} {bdk : Nat → Nat} {num : Nat → Nat} {spt : Nat → Nat} {val : Nat → Int64} {tim : Nat → Nat} {rep : Nat → Nat → Bool} {byN : Nat → Nat} {byS : Nat → Nat} {pk : Nat → Bool} {kn : Nat → Nat → Bool} {pe : Nat → Nat → Bool} {clk : Nat → Nat} {tol : Nat → Nat} {opn : Nat → Option Nat} (hnf : nf ≤ 300) (d : Nat) (hd0 : d < nd) (kd : Int32) (v : Int64) (hspt : ∀ k, k < nf → spt k < 2 ^ 31) : CV l y_A_pickEqual b_A_pickEqual 7 none (rmK 2 0 0) D (tyL ct) (CW ct ad da nd nb nf bdk num spt val tim rep byN byS pk kn pe clk tol opn) [.ref (ad 3), .ref (da (d) 1), .int (kd), .long (v), .ref (ad 11)] 0 0 (fun u => ∃ P : Nat → Bool, (∀ k, k < 320 → P k = (decide (k < nf) && (decide (val k = v) && (decide (nI (spt k / 100001 % 10) = kd) && kn d k)))) ∧ u = CW ct ad da nd nb nf bdk num spt val tim rep byN byS P kn pe clk tol opn) := by
  refine CV.start (by decide) (Nat.le_of_ble_eq_true rfl) ?_
  intro p e s m below meth c F hr hnm
  show V p l e (rmK 2 0 0) s m [.ref (ad 3), .ref (da (d) 1), .int (kd), .long (v), .ref (ad 11)].toArray below meth c D (va_A (CW ct ad da nd nb nf bdk num spt val tim rep byN byS pk kn pe clk tol opn) s.heap.size) 7 0 0 (EV D below (CW ct ad da nd nb nf bdk num spt val tim rep byN byS pk kn pe clk tol opn) [.ref (ad 3), .ref (da (d) 1), .int (kd), .long (v), .ref (ad 11)].toArray s 0 0 (fun u => ∃ P : Nat → Bool, (∀ k, k < 320 → P k = (decide (k < nf) && (decide (val k = v) && (decide (nI (spt k / 100001 % 10) = kd) && kn d k)))) ∧ u = CW ct ad da nd nb nf bdk num spt val tim rep byN byS P kn pe clk tol opn)) (CW ct ad da nd nb nf bdk num spt val tim rep byN byS pk kn pe clk tol opn) [(0, .ref (ad 3)), (1, .ref (da (d) 1)), (2, .int (kd)), (3, .long (v)), (5, .ref (ad 11))] 0 []
  refine V.aload F d_A_pickEqual_0 4 rfl ?_
  refine V.callVV0 (As := []) (rest := []) F (c_clear l D none trivial) d_A_pickEqual_2 sv_A_51 im_y_S_clear sl_y_S_clear 11 rfl rfl rfl rfl rfl (Nat.le_of_ble_eq_true rfl) ⟨rfl, rfl, (Nat.le_of_ble_eq_true rfl), (Nat.le_of_ble_eq_true rfl)⟩ ⟨(Nat.le_of_ble_eq_true rfl), (Nat.le_of_ble_eq_true rfl)⟩ (fun u9 h9 => ?_)
  obtain rfl := h9
  refine V.ws_eq (ws2 := CW ct ad da nd nb nf bdk num spt val tim rep byN byS (fun k => decide (5 ≤ k / 64) && pk k) kn pe clk tol opn) rfl ?_
  refine V.iconst F d_A_pickEqual_5 (v := nI (0)) (by decide) ?_
  refine V.istore (lv2 := [(6, .int (nI (0))), (0, .ref (ad 3)), (1, .ref (da (d) 1)), (2, .int (kd)), (3, .long (v)), (5, .ref (ad 11))]) F d_A_pickEqual_6 (by decide) rfl ?_
  have L8 : ∀ (n9 : Nat) (i : Nat) (P : Nat → Bool), nf - i < n9 → (i ≤ nf) → (∀ k, k < 320 → P k = (decide (k < i) && (decide (val k = v) && (decide (nI (spt k / 100001 % 10) = kd) && kn d k)))) → V p l e (rmK 2 0 0) s m [.ref (ad 3), .ref (da (d) 1), .int (kd), .long (v), .ref (ad 11)].toArray below meth c D (va_A (CW ct ad da nd nb nf bdk num spt val tim rep byN byS pk kn pe clk tol opn) s.heap.size) 7 0 0 (EV D below (CW ct ad da nd nb nf bdk num spt val tim rep byN byS pk kn pe clk tol opn) [.ref (ad 3), .ref (da (d) 1), .int (kd), .long (v), .ref (ad 11)].toArray s 0 0 (fun u => ∃ P : Nat → Bool, (∀ k, k < 320 → P k = (decide (k < nf) && (decide (val k = v) && (decide (nI (spt k / 100001 % 10) = kd) && kn d k)))) ∧ u = CW ct ad da nd nb nf bdk num spt val tim rep byN byS P kn pe clk tol opn)) (CW ct ad da nd nb nf bdk num spt val tim rep byN byS P kn pe clk tol opn) [(6, .int (nI (i))), (0, .ref (ad 3)), (1, .ref (da (d) 1)), (2, .int (kd)), (3, .long (v)), (5, .ref (ad 11))] 8 [] := by
    intro n9
    induction n9 with
    | zero => intro i P h9 hi hP; exact absurd h9 (Nat.not_lt_zero _)
    | succ n9 ih8 =>
      intro i P h9 hi hP
      refine V.iload F d_A_pickEqual_8 0 rfl ?_
      refine V.aload_n F d_A_pickEqual_10 rfl 1 rfl ?_
      refine V.get F ck_A d_A_pickEqual_11 7 (by decide) lk_A_36 3 rfl rfl ?_
      refine V.icmp_geN (tgt := 65) F d_A_pickEqual_14 (by decide) (by omega) (by omega) (fun c14 => ?_) (fun c14 => ?_)
      · skip
        exact V.vret F hr d_A_pickEqual_65 (⟨P, by rw [show nf = i by omega]; exact hP, rfl⟩)
      · skip
        refine V.aload_n F d_A_pickEqual_17 rfl 1 rfl ?_
        refine V.get F ck_A d_A_pickEqual_18 2 (by decide) lk_A_18 3 rfl rfl ?_
        refine V.iload F d_A_pickEqual_21 0 rfl ?_
        refine V.lald (v := val (i)) F d_A_pickEqual_23 6 1 rfl rfl (by omega) (by decide) rfl ?_
        refine V.lload_n F d_A_pickEqual_24 rfl 4 rfl ?_
        refine V.lcmp_ne (tgt := 59) F d_A_pickEqual_25 d_A_pickEqual_26 (by decide) (fun c25 => ?_) (fun c25 => ?_)
        · skip
          refine V.iincN (k := 1) (lv2 := [(6, .int (nI (i + 1))), (0, .ref (ad 3)), (1, .ref (da (d) 1)), (2, .int (kd)), (3, .long (v)), (5, .ref (ad 11))]) F d_A_pickEqual_59 0 rfl (by decide) (by decide) rfl ?_
          refine V.goto (tgt := 8) F d_A_pickEqual_62 (by decide) ?_
          exact ih8 (i + 1) (P) (by omega) (by omega) (pick_skip (C := fun k => decide (val k = v) && (decide (nI (spt k / 100001 % 10) = kd) && kn d k)) hP (by show (decide (val i = v) && (decide (nI (spt i / 100001 % 10) = kd) && kn d i)) = false; rw [decide_eq_false c25]; rfl))
        · skip
          refine V.aload_n F d_A_pickEqual_29 rfl 1 rfl ?_
          refine V.get F ck_A d_A_pickEqual_30 1 (by decide) lk_A_15 3 rfl rfl ?_
          refine V.iload F d_A_pickEqual_33 0 rfl ?_
          refine V.iald (v := nI (spt (i))) F d_A_pickEqual_35 5 0 rfl rfl (by omega) (by decide) rfl ?_
          refine V.callSI0 (As := [.int (nI (spt (i)))]) (rest := []) F (c_kindOf l D _ ct (spt i) (hspt i (by omega))) d_A_pickEqual_36 sv_A_62 st_y_T_kindOf rfl rfl (Nat.le_of_ble_eq_true rfl) ⟨rfl, rfl, (Nat.le_of_ble_eq_true rfl), (Nat.le_of_ble_eq_true rfl)⟩ ⟨(Nat.le_of_ble_eq_true rfl), (Nat.le_of_ble_eq_true rfl)⟩ (fun r9 u9 h9 => ?_)
          obtain ⟨rfl, rfl⟩ := h9
          refine V.iload_n F d_A_pickEqual_39 rfl 3 rfl ?_
          refine V.icmp_ne (x := nI (spt (i) / 100001 % 10)) (y := kd) (tgt := 59) F d_A_pickEqual_40 (by decide) (fun c40 => ?_) (fun c40 => ?_)
          · skip
            refine V.iincN (k := 1) (lv2 := [(6, .int (nI (i + 1))), (0, .ref (ad 3)), (1, .ref (da (d) 1)), (2, .int (kd)), (3, .long (v)), (5, .ref (ad 11))]) F d_A_pickEqual_59 0 rfl (by decide) (by decide) rfl ?_
            refine V.goto (tgt := 8) F d_A_pickEqual_62 (by decide) ?_
            exact ih8 (i + 1) (P) (by omega) (by omega) (pick_skip (C := fun k => decide (val k = v) && (decide (nI (spt k / 100001 % 10) = kd) && kn d k)) hP (by show (decide (val i = v) && (decide (nI (spt i / 100001 % 10) = kd) && kn d i)) = false; rw [decide_eq_false c40, Bool.false_and, Bool.and_false]))
          · skip
            refine V.aload_n F d_A_pickEqual_43 rfl 2 rfl ?_
            refine V.iload F d_A_pickEqual_44 0 rfl ?_
            refine V.callVI0 (As := [.int (nI (i))]) (rest := []) F (c_has l D (some (d, false)) hd0 i (by omega)) d_A_pickEqual_46 sv_A_40 im_y_S_has sl_y_S_has (13 + (5 * (d) + 1)) (cw_d1 hd0) rfl rfl rfl rfl (Nat.le_of_ble_eq_true rfl) ⟨rfl, rfl, (Nat.le_of_ble_eq_true rfl), (Nat.le_of_ble_eq_true rfl)⟩ ⟨(Nat.le_of_ble_eq_true rfl), (Nat.le_of_ble_eq_true rfl)⟩ (fun r9 u9 h9 => ?_)
            obtain ⟨rfl, rfl⟩ := h9
            refine V.if_eqB (b := kn (d) (i)) (tgt := 59) F d_A_pickEqual_49 (by decide) (fun c49 => ?_) (fun c49 => ?_)
            · skip
              refine V.iincN (k := 1) (lv2 := [(6, .int (nI (i + 1))), (0, .ref (ad 3)), (1, .ref (da (d) 1)), (2, .int (kd)), (3, .long (v)), (5, .ref (ad 11))]) F d_A_pickEqual_59 0 rfl (by decide) (by decide) rfl ?_
              refine V.goto (tgt := 8) F d_A_pickEqual_62 (by decide) ?_
              exact ih8 (i + 1) (P) (by omega) (by omega) (pick_skip (C := fun k => decide (val k = v) && (decide (nI (spt k / 100001 % 10) = kd) && kn d k)) hP (by show (decide (val i = v) && (decide (nI (spt i / 100001 % 10) = kd) && kn d i)) = false; rw [c49, Bool.and_false, Bool.and_false]))
            · skip
              refine V.aload F d_A_pickEqual_52 5 rfl ?_
              refine V.iload F d_A_pickEqual_54 0 rfl ?_
              refine V.callVV0 (As := [.int (nI (i))]) (rest := []) F (c_add l D none trivial i (by omega)) d_A_pickEqual_56 sv_A_58 im_y_S_add sl_y_S_add 11 rfl rfl rfl rfl rfl (Nat.le_of_ble_eq_true rfl) ⟨rfl, rfl, (Nat.le_of_ble_eq_true rfl), (Nat.le_of_ble_eq_true rfl)⟩ ⟨(Nat.le_of_ble_eq_true rfl), (Nat.le_of_ble_eq_true rfl)⟩ (fun u9 h9 => ?_)
              obtain rfl := h9
              refine V.ws_eq (ws2 := CW ct ad da nd nb nf bdk num spt val tim rep byN byS (fun k => P k || decide (k = i)) kn pe clk tol opn) rfl ?_
              refine V.iincN (k := 1) (lv2 := [(6, .int (nI (i + 1))), (0, .ref (ad 3)), (1, .ref (da (d) 1)), (2, .int (kd)), (3, .long (v)), (5, .ref (ad 11))]) F d_A_pickEqual_59 0 rfl (by decide) (by decide) rfl ?_
              refine V.goto (tgt := 8) F d_A_pickEqual_62 (by decide) ?_
              exact ih8 (i + 1) (fun k => P k || decide (k = i)) (by omega) (by omega) (pick_add (C := fun k => decide (val k = v) && (decide (nI (spt k / 100001 % 10) = kd) && kn d k)) hP (by show (decide (val i = v) && (decide (nI (spt i / 100001 % 10) = kd) && kn d i)) = true; rw [decide_eq_true c25, decide_eq_true c40, c49]; rfl))
  exact L8 _ (0) (fun k => decide (5 ≤ k / 64) && pk k) (Nat.lt_succ_self _) (by omega) (pick_0 (clr_0 pk))

set_option maxHeartbeats 4000000 in
set_option maxRecDepth 100000 in
theorem c_isLater (l : Launch) (D : va_G) {ct : Nat → ClassId} {ad : Nat → Nat} {da : Nat → Nat → Nat} {nd : Nat} {nb : Nat} {nf : Nat} {bdk : Nat → Nat} {num : Nat → Nat} {spt : Nat → Nat} {val : Nat → Int64} {tim : Nat → Nat} {rep : Nat → Nat → Bool} {byN : Nat → Nat} {byS : Nat → Nat} {pk : Nat → Bool} {kn : Nat → Nat → Bool} {pe : Nat → Nat → Bool} {clk : Nat → Nat} {tol : Nat → Nat} {opn : Nat → Option Nat} (f g : Nat) (hf : f < 300) (hg : g < 300) (h1 : spt f < 2 ^ 31) (h2 : spt g < 2 ^ 31) (h3 : tim f < 2 ^ 31) (h4 : tim g < 2 ^ 31) (h5 : num f < 2 ^ 31) (h6 : num g < 2 ^ 31) : CI l y_A_isLater b_A_isLater 3 (some .boolean) (rmK 0 0 0) D (tyL ct) (CW ct ad da nd nb nf bdk num spt val tim rep byN byS pk kn pe clk tol opn) [.ref (ad 3), .int (nI (f)), .int (nI (g))] 0 0 (fun r u => r = bI (ltB spt tim num f g) ∧ u = CW ct ad da nd nb nf bdk num spt val tim rep byN byS pk kn pe clk tol opn) := by
  refine CI.start (by decide) (Nat.le_of_ble_eq_true rfl) ?_
  intro p e s m below meth c F hr hnm
  show V p l e (rmK 0 0 0) s m [.ref (ad 3), .int (nI (f)), .int (nI (g))].toArray below meth c D (va_A (CW ct ad da nd nb nf bdk num spt val tim rep byN byS pk kn pe clk tol opn) s.heap.size) 3 0 0 (EI D below (CW ct ad da nd nb nf bdk num spt val tim rep byN byS pk kn pe clk tol opn) [.ref (ad 3), .int (nI (f)), .int (nI (g))].toArray s 0 0 (fun r u => r = bI (ltB spt tim num f g) ∧ u = CW ct ad da nd nb nf bdk num spt val tim rep byN byS pk kn pe clk tol opn)) (CW ct ad da nd nb nf bdk num spt val tim rep byN byS pk kn pe clk tol opn) [(0, .ref (ad 3)), (1, .int (nI (f))), (2, .int (nI (g)))] 0 []
  refine V.aload_n F d_A_isLater_0 rfl 0 rfl ?_
  refine V.get F ck_A d_A_isLater_1 1 (by decide) lk_A_15 3 rfl rfl ?_
  refine V.iload_n F d_A_isLater_4 rfl 1 rfl ?_
  refine V.iald (v := nI (spt (f))) F d_A_isLater_5 5 0 rfl rfl (by omega) (by decide) rfl ?_
  refine V.aload_n F d_A_isLater_6 rfl 0 rfl ?_
  refine V.get F ck_A d_A_isLater_7 1 (by decide) lk_A_15 3 rfl rfl ?_
  refine V.iload_n F d_A_isLater_10 rfl 2 rfl ?_
  refine V.iald (v := nI (spt (g))) F d_A_isLater_11 5 0 rfl rfl (by omega) (by decide) rfl ?_
  refine V.icmp_eqN (tgt := 36) F d_A_isLater_12 (by decide) (by omega) (by omega) (fun c12 => ?_) (fun c12 => ?_)
  · skip
    refine V.aload_n F d_A_isLater_36 rfl 0 rfl ?_
    refine V.get F ck_A d_A_isLater_37 3 (by decide) lk_A_22 3 rfl rfl ?_
    refine V.iload_n F d_A_isLater_40 rfl 1 rfl ?_
    refine V.iald (v := nI (tim (f))) F d_A_isLater_41 7 0 rfl rfl (by omega) (by decide) rfl ?_
    refine V.aload_n F d_A_isLater_42 rfl 0 rfl ?_
    refine V.get F ck_A d_A_isLater_43 3 (by decide) lk_A_22 3 rfl rfl ?_
    refine V.iload_n F d_A_isLater_46 rfl 2 rfl ?_
    refine V.iald (v := nI (tim (g))) F d_A_isLater_47 7 0 rfl rfl (by omega) (by decide) rfl ?_
    refine V.icmp_eqN (tgt := 72) F d_A_isLater_48 (by decide) (by omega) (by omega) (fun c48 => ?_) (fun c48 => ?_)
    · skip
      refine V.aload_n F d_A_isLater_72 rfl 0 rfl ?_
      refine V.get F ck_A d_A_isLater_73 0 (by decide) lk_A_9 3 rfl rfl ?_
      refine V.iload_n F d_A_isLater_76 rfl 1 rfl ?_
      refine V.iald (v := nI (num (f))) F d_A_isLater_77 4 0 rfl rfl (by omega) (by decide) rfl ?_
      refine V.aload_n F d_A_isLater_78 rfl 0 rfl ?_
      refine V.get F ck_A d_A_isLater_79 0 (by decide) lk_A_9 3 rfl rfl ?_
      refine V.iload_n F d_A_isLater_82 rfl 2 rfl ?_
      refine V.iald (v := nI (num (g))) F d_A_isLater_83 4 0 rfl rfl (by omega) (by decide) rfl ?_
      refine V.icmp_leN (tgt := 91) F d_A_isLater_84 (by decide) (by omega) (by omega) (fun c84 => ?_) (fun c84 => ?_)
      · skip
        refine V.iconst F d_A_isLater_91 (v := nI (0)) (by decide) ?_
        exact V.zret F hr (nar_0) d_A_isLater_92 (⟨by unfold ltB; rw [if_neg (fun q => q c12), if_neg (fun q => q c48), decide_eq_false (by omega)]; exact bI_f, rfl⟩)
      · skip
        refine V.iconst F d_A_isLater_87 (v := nI (1)) (by decide) ?_
        refine V.goto (tgt := 92) F d_A_isLater_88 (by decide) ?_
        exact V.zret F hr (nar_1) d_A_isLater_92 (⟨by unfold ltB; rw [if_neg (fun q => q c12), if_neg (fun q => q c48), decide_eq_true c84]; exact bI_t, rfl⟩)
    · skip
      refine V.aload_n F d_A_isLater_51 rfl 0 rfl ?_
      refine V.get F ck_A d_A_isLater_52 3 (by decide) lk_A_22 3 rfl rfl ?_
      refine V.iload_n F d_A_isLater_55 rfl 1 rfl ?_
      refine V.iald (v := nI (tim (f))) F d_A_isLater_56 7 0 rfl rfl (by omega) (by decide) rfl ?_
      refine V.aload_n F d_A_isLater_57 rfl 0 rfl ?_
      refine V.get F ck_A d_A_isLater_58 3 (by decide) lk_A_22 3 rfl rfl ?_
      refine V.iload_n F d_A_isLater_61 rfl 2 rfl ?_
      refine V.iald (v := nI (tim (g))) F d_A_isLater_62 7 0 rfl rfl (by omega) (by decide) rfl ?_
      refine V.icmp_leN (tgt := 70) F d_A_isLater_63 (by decide) (by omega) (by omega) (fun c63 => ?_) (fun c63 => ?_)
      · skip
        refine V.iconst F d_A_isLater_70 (v := nI (0)) (by decide) ?_
        exact V.zret F hr (nar_0) d_A_isLater_71 (⟨by unfold ltB; rw [if_neg (fun q => q c12), if_pos c48, decide_eq_false (by omega)]; exact bI_f, rfl⟩)
      · skip
        refine V.iconst F d_A_isLater_66 (v := nI (1)) (by decide) ?_
        refine V.goto (tgt := 71) F d_A_isLater_67 (by decide) ?_
        exact V.zret F hr (nar_1) d_A_isLater_71 (⟨by unfold ltB; rw [if_neg (fun q => q c12), if_pos c48, decide_eq_true c63]; exact bI_t, rfl⟩)
  · skip
    refine V.aload_n F d_A_isLater_15 rfl 0 rfl ?_
    refine V.get F ck_A d_A_isLater_16 1 (by decide) lk_A_15 3 rfl rfl ?_
    refine V.iload_n F d_A_isLater_19 rfl 1 rfl ?_
    refine V.iald (v := nI (spt (f))) F d_A_isLater_20 5 0 rfl rfl (by omega) (by decide) rfl ?_
    refine V.aload_n F d_A_isLater_21 rfl 0 rfl ?_
    refine V.get F ck_A d_A_isLater_22 1 (by decide) lk_A_15 3 rfl rfl ?_
    refine V.iload_n F d_A_isLater_25 rfl 2 rfl ?_
    refine V.iald (v := nI (spt (g))) F d_A_isLater_26 5 0 rfl rfl (by omega) (by decide) rfl ?_
    refine V.icmp_leN (tgt := 34) F d_A_isLater_27 (by decide) (by omega) (by omega) (fun c27 => ?_) (fun c27 => ?_)
    · skip
      refine V.iconst F d_A_isLater_34 (v := nI (0)) (by decide) ?_
      exact V.zret F hr (nar_0) d_A_isLater_35 (⟨by unfold ltB; rw [if_pos c12, decide_eq_false (by omega)]; exact bI_f, rfl⟩)
    · skip
      refine V.iconst F d_A_isLater_30 (v := nI (1)) (by decide) ?_
      refine V.goto (tgt := 35) F d_A_isLater_31 (by decide) ?_
      exact V.zret F hr (nar_1) d_A_isLater_35 (⟨by unfold ltB; rw [if_pos c12, decide_eq_true c27]; exact bI_t, rfl⟩)

set_option maxHeartbeats 4000000 in
set_option maxRecDepth 100000 in
theorem c_latest (l : Launch) (D : va_G) {ct : Nat → ClassId} {ad : Nat → Nat} {da : Nat → Nat → Nat} {nd : Nat} {nb : Nat} {nf : Nat} {bdk : Nat → Nat} {num : Nat → Nat} {spt : Nat → Nat} {val : Nat → Int64} {tim : Nat → Nat} {rep : Nat → Nat → Bool} {byN : Nat → Nat} {byS : Nat → Nat} {pk : Nat → Bool} {kn : Nat → Nat → Bool} {pe : Nat → Nat → Bool} {clk : Nat → Nat} {tol : Nat → Nat} {opn : Nat → Option Nat} (hnf : nf ≤ 300) (t kd : Nat) (ht : t < 100) (hkd : kd < 10) (y : Int64) (hspt : ∀ k, k < nf → spt k < 2 ^ 31) (htim : ∀ k, k < nf → tim k < 2 ^ 31) (hnum : ∀ k, k < nf → num k < 2 ^ 31) : CI l y_A_latestStanding b_A_latestStanding 9 (some .int) (rmK 3 0 0) D (tyL ct) (CW ct ad da nd nb nf bdk num spt val tim rep byN byS pk kn pe clk tol opn) [.ref (ad 3), .ref (ad 11), .int (nI (t)), .int (nI (kd)), .long (y)] 0 0 (fun r u => (∃ b : Option Nat, r = oI b ∧ (∀ g, b = some g → g < nf ∧ (spt g / 100001 = t * 10 + kd ∧ ¬ y < lN (spt g % 100001) ∧ stB pk rep g = true) ∧ ∀ k, k < nf → (spt k / 100001 = t * 10 + kd ∧ ¬ y < lN (spt k % 100001) ∧ stB pk rep k = true) → ltB spt tim num k g = false) ∧ (b = none → ∀ k, k < nf → ¬ (spt k / 100001 = t * 10 + kd ∧ ¬ y < lN (spt k % 100001) ∧ stB pk rep k = true))) ∧ u = CW ct ad da nd nb nf bdk num spt val tim rep byN byS pk kn pe clk tol opn) := by
  refine CI.start (by decide) (Nat.le_of_ble_eq_true rfl) ?_
  intro p e s m below meth c F hr hnm
  show V p l e (rmK 3 0 0) s m [.ref (ad 3), .ref (ad 11), .int (nI (t)), .int (nI (kd)), .long (y)].toArray below meth c D (va_A (CW ct ad da nd nb nf bdk num spt val tim rep byN byS pk kn pe clk tol opn) s.heap.size) 9 0 0 (EI D below (CW ct ad da nd nb nf bdk num spt val tim rep byN byS pk kn pe clk tol opn) [.ref (ad 3), .ref (ad 11), .int (nI (t)), .int (nI (kd)), .long (y)].toArray s 0 0 (fun r u => (∃ b : Option Nat, r = oI b ∧ (∀ g, b = some g → g < nf ∧ (spt g / 100001 = t * 10 + kd ∧ ¬ y < lN (spt g % 100001) ∧ stB pk rep g = true) ∧ ∀ k, k < nf → (spt k / 100001 = t * 10 + kd ∧ ¬ y < lN (spt k % 100001) ∧ stB pk rep k = true) → ltB spt tim num k g = false) ∧ (b = none → ∀ k, k < nf → ¬ (spt k / 100001 = t * 10 + kd ∧ ¬ y < lN (spt k % 100001) ∧ stB pk rep k = true))) ∧ u = CW ct ad da nd nb nf bdk num spt val tim rep byN byS pk kn pe clk tol opn)) (CW ct ad da nd nb nf bdk num spt val tim rep byN byS pk kn pe clk tol opn) [(0, .ref (ad 3)), (1, .ref (ad 11)), (2, .int (nI (t))), (3, .int (nI (kd))), (4, .long (y))] 0 []
  refine V.iconst F d_A_latestStanding_0 (v := -1) (by decide) ?_
  refine V.istore (lv2 := [(6, .int (-1)), (0, .ref (ad 3)), (1, .ref (ad 11)), (2, .int (nI (t))), (3, .int (nI (kd))), (4, .long (y))]) F d_A_latestStanding_1 (by decide) rfl ?_
  refine V.iconst F d_A_latestStanding_3 (v := nI (0)) (by decide) ?_
  refine V.istore (lv2 := [(7, .int (nI (0))), (6, .int (-1)), (0, .ref (ad 3)), (1, .ref (ad 11)), (2, .int (nI (t))), (3, .int (nI (kd))), (4, .long (y))]) F d_A_latestStanding_4 (by decide) rfl ?_
  have L6 : ∀ (n9 : Nat) (i : Nat) (b : Option Nat), nf - i < n9 → (i ≤ nf) → ((∀ g, b = some g → g < i ∧ (spt g / 100001 = t * 10 + kd ∧ ¬ y < lN (spt g % 100001) ∧ stB pk rep g = true) ∧ ∀ k, k < i → (spt k / 100001 = t * 10 + kd ∧ ¬ y < lN (spt k % 100001) ∧ stB pk rep k = true) → ltB spt tim num k g = false) ∧ (b = none → ∀ k, k < i → ¬ (spt k / 100001 = t * 10 + kd ∧ ¬ y < lN (spt k % 100001) ∧ stB pk rep k = true))) → V p l e (rmK 3 0 0) s m [.ref (ad 3), .ref (ad 11), .int (nI (t)), .int (nI (kd)), .long (y)].toArray below meth c D (va_A (CW ct ad da nd nb nf bdk num spt val tim rep byN byS pk kn pe clk tol opn) s.heap.size) 9 0 0 (EI D below (CW ct ad da nd nb nf bdk num spt val tim rep byN byS pk kn pe clk tol opn) [.ref (ad 3), .ref (ad 11), .int (nI (t)), .int (nI (kd)), .long (y)].toArray s 0 0 (fun r u => (∃ b : Option Nat, r = oI b ∧ (∀ g, b = some g → g < nf ∧ (spt g / 100001 = t * 10 + kd ∧ ¬ y < lN (spt g % 100001) ∧ stB pk rep g = true) ∧ ∀ k, k < nf → (spt k / 100001 = t * 10 + kd ∧ ¬ y < lN (spt k % 100001) ∧ stB pk rep k = true) → ltB spt tim num k g = false) ∧ (b = none → ∀ k, k < nf → ¬ (spt k / 100001 = t * 10 + kd ∧ ¬ y < lN (spt k % 100001) ∧ stB pk rep k = true))) ∧ u = CW ct ad da nd nb nf bdk num spt val tim rep byN byS pk kn pe clk tol opn)) (CW ct ad da nd nb nf bdk num spt val tim rep byN byS pk kn pe clk tol opn) [(7, .int (nI (i))), (6, .int (oI b)), (0, .ref (ad 3)), (1, .ref (ad 11)), (2, .int (nI (t))), (3, .int (nI (kd))), (4, .long (y))] 6 [] := by
    intro n9
    induction n9 with
    | zero => intro i b h9 hi hb; exact absurd h9 (Nat.not_lt_zero _)
    | succ n9 ih6 =>
      intro i b h9 hi hb
      refine V.iload F d_A_latestStanding_6 0 rfl ?_
      refine V.aload_n F d_A_latestStanding_8 rfl 2 rfl ?_
      refine V.get F ck_A d_A_latestStanding_9 7 (by decide) lk_A_36 3 rfl rfl ?_
      refine V.icmp_geN (tgt := 87) F d_A_latestStanding_12 (by decide) (by omega) (by omega) (fun c12 => ?_) (fun c12 => ?_)
      · skip
        refine V.iload F d_A_latestStanding_87 1 rfl ?_
        exact V.iret F hr d_A_latestStanding_89 (⟨⟨b, rfl, by rw [show nf = i by omega]; exact hb⟩, rfl⟩)
      · skip
        have hs9 := hspt i (by omega)
        have ht9 := htim i (by omega)
        have hn9 := hnum i (by omega)
        refine V.aload_n F d_A_latestStanding_15 rfl 2 rfl ?_
        refine V.get F ck_A d_A_latestStanding_16 1 (by decide) lk_A_15 3 rfl rfl ?_
        refine V.iload F d_A_latestStanding_19 0 rfl ?_
        refine V.iald (v := nI (spt (i))) F d_A_latestStanding_21 5 0 rfl rfl (by omega) (by decide) rfl ?_
        refine V.istore (lv2 := [(8, .int (nI (spt (i)))), (7, .int (nI (i))), (6, .int (oI b)), (0, .ref (ad 3)), (1, .ref (ad 11)), (2, .int (nI (t))), (3, .int (nI (kd))), (4, .long (y))]) F d_A_latestStanding_22 (by decide) rfl ?_
        refine V.iload F d_A_latestStanding_24 0 rfl ?_
        refine V.ldc F d_A_latestStanding_26 (v := nI (100001)) lk_A_66 ?_
        refine V.idivN F d_A_latestStanding_28 (by omega) (by decide) (by decide) ?_
        refine V.iload_n F d_A_latestStanding_29 rfl 5 rfl ?_
        refine V.bipush F d_A_latestStanding_30 (v := nI (10)) (by decide) ?_
        refine V.imulN F d_A_latestStanding_32 ?_
        refine V.iload_n F d_A_latestStanding_33 rfl 6 rfl ?_
        refine V.iaddN F d_A_latestStanding_34 ?_
        refine V.icmp_neN (tgt := 81) F d_A_latestStanding_35 (by decide) (by omega) (by omega) (fun c35 => ?_) (fun c35 => ?_)
        · skip
          refine V.iincN (k := 1) (lv2 := [(7, .int (nI (i + 1))), (8, .int (nI (spt (i)))), (6, .int (oI b)), (0, .ref (ad 3)), (1, .ref (ad 11)), (2, .int (nI (t))), (3, .int (nI (kd))), (4, .long (y))]) F d_A_latestStanding_81 1 rfl (by decide) (by decide) rfl ?_
          refine V.goto (tgt := 6) F d_A_latestStanding_84 (by decide) ?_
          refine V.lvs [0, 2, 3, 4, 5, 6, 7] rfl ?_
          exact ih6 (i + 1) (b) (by omega) (by omega) (best_skip (CA := fun k => spt k / 100001 = t * 10 + kd ∧ ¬ y < lN (spt k % 100001) ∧ stB pk rep k = true) (lt := ltB spt tim num) hb (fun q => c35 q.1))
        · skip
          refine V.iload F d_A_latestStanding_38 0 rfl ?_
          refine V.callSI0 (As := [.int (nI (spt (i)))]) (rest := []) F (c_dayOf l D _ ct (spt i) hs9) d_A_latestStanding_40 sv_A_67 st_y_T_dayOf rfl rfl (Nat.le_of_ble_eq_true rfl) ⟨rfl, rfl, (Nat.le_of_ble_eq_true rfl), (Nat.le_of_ble_eq_true rfl)⟩ ⟨(Nat.le_of_ble_eq_true rfl), (Nat.le_of_ble_eq_true rfl)⟩ (fun r9 u9 h9 => ?_)
          obtain ⟨rfl, rfl⟩ := h9
          refine V.i2l F d_A_latestStanding_43 (nI_l (by omega)) ?_
          refine V.lload F d_A_latestStanding_44 7 rfl ?_
          refine V.lcmp_gt (tgt := 81) F d_A_latestStanding_46 d_A_latestStanding_47 (by decide) (fun c46 => ?_) (fun c46 => ?_)
          · skip
            refine V.iincN (k := 1) (lv2 := [(7, .int (nI (i + 1))), (8, .int (nI (spt (i)))), (6, .int (oI b)), (0, .ref (ad 3)), (1, .ref (ad 11)), (2, .int (nI (t))), (3, .int (nI (kd))), (4, .long (y))]) F d_A_latestStanding_81 1 rfl (by decide) (by decide) rfl ?_
            refine V.goto (tgt := 6) F d_A_latestStanding_84 (by decide) ?_
            refine V.lvs [0, 2, 3, 4, 5, 6, 7] rfl ?_
            exact ih6 (i + 1) (b) (by omega) (by omega) (best_skip (CA := fun k => spt k / 100001 = t * 10 + kd ∧ ¬ y < lN (spt k % 100001) ∧ stB pk rep k = true) (lt := ltB spt tim num) hb (fun q => q.2.1 c46))
          · skip
            refine V.aload_n F d_A_latestStanding_50 rfl 3 rfl ?_
            refine V.aload_n F d_A_latestStanding_51 rfl 4 rfl ?_
            refine V.iload F d_A_latestStanding_52 1 rfl ?_
            refine V.callVI0 (As := [.ref (ad 11), .int (nI (i))]) (rest := []) F (c_stands l D none trivial i (by omega)) d_A_latestStanding_54 sv_A_54 im_y_A_standsAmong sl_y_A_standsAmong 3 rfl rfl rfl rfl rfl (Nat.le_of_ble_eq_true rfl) ⟨rfl, rfl, (Nat.le_of_ble_eq_true rfl), (Nat.le_of_ble_eq_true rfl)⟩ ⟨(Nat.le_of_ble_eq_true rfl), (Nat.le_of_ble_eq_true rfl)⟩ (fun r9 u9 h9 => ?_)
            obtain ⟨rfl, rfl⟩ := h9
            refine V.if_eqB (b := stB pk rep (i)) (tgt := 81) F d_A_latestStanding_57 (by decide) (fun c57 => ?_) (fun c57 => ?_)
            · skip
              refine V.iincN (k := 1) (lv2 := [(7, .int (nI (i + 1))), (8, .int (nI (spt (i)))), (6, .int (oI b)), (0, .ref (ad 3)), (1, .ref (ad 11)), (2, .int (nI (t))), (3, .int (nI (kd))), (4, .long (y))]) F d_A_latestStanding_81 1 rfl (by decide) (by decide) rfl ?_
              refine V.goto (tgt := 6) F d_A_latestStanding_84 (by decide) ?_
              refine V.lvs [0, 2, 3, 4, 5, 6, 7] rfl ?_
              exact ih6 (i + 1) (b) (by omega) (by omega) (best_skip (CA := fun k => spt k / 100001 = t * 10 + kd ∧ ¬ y < lN (spt k % 100001) ∧ stB pk rep k = true) (lt := ltB spt tim num) hb (fun q => by rw [q.2.2] at c57; cases c57))
            · skip
              refine V.iload F d_A_latestStanding_60 2 rfl ?_
              refine V.iconst F d_A_latestStanding_62 (v := -1) (by decide) ?_
              refine V.icmp_eq (x := oI b) (y := -1) (tgt := 77) F d_A_latestStanding_63 (by decide) (fun c63 => ?_) (fun c63 => ?_)
              · skip
                refine V.iload F d_A_latestStanding_77 1 rfl ?_
                refine V.istore (lv2 := [(6, .int (nI (i))), (8, .int (nI (spt (i)))), (7, .int (nI (i))), (0, .ref (ad 3)), (1, .ref (ad 11)), (2, .int (nI (t))), (3, .int (nI (kd))), (4, .long (y))]) F d_A_latestStanding_79 (by decide) rfl ?_
                refine V.iincN (k := 1) (lv2 := [(7, .int (nI (i + 1))), (6, .int (nI (i))), (8, .int (nI (spt (i)))), (0, .ref (ad 3)), (1, .ref (ad 11)), (2, .int (nI (t))), (3, .int (nI (kd))), (4, .long (y))]) F d_A_latestStanding_81 2 rfl (by decide) (by decide) rfl ?_
                refine V.goto (tgt := 6) F d_A_latestStanding_84 (by decide) ?_
                refine V.lvs [0, 1, 3, 4, 5, 6, 7] rfl ?_
                exact ih6 (i + 1) (some i) (by omega) (by omega) (best_first (CA := fun k => spt k / 100001 = t * 10 + kd ∧ ¬ y < lN (spt k % 100001) ∧ stB pk rep k = true) (lt := ltB spt tim num) ltB_irr hb (oI_none (fun g e9 => by have := (hb.1 g e9).1; omega) c63) ⟨c35, c46, c57⟩)
              · skip
                obtain ⟨g, rfl⟩ := oI_some c63
                have hg9 := (hb.1 g rfl).1
                have hs8 := hspt g (by omega)
                have ht8 := htim g (by omega)
                have hn8 := hnum g (by omega)
                refine V.aload_n F d_A_latestStanding_66 rfl 3 rfl ?_
                refine V.iload F d_A_latestStanding_67 1 rfl ?_
                refine V.iload F d_A_latestStanding_69 2 rfl ?_
                refine V.callVI0 (As := [.int (nI (i)), .int (nI (g))]) (rest := []) F (c_isLater l D i g (by omega) (by omega) hs9 hs8 ht9 ht8 hn9 hn8) d_A_latestStanding_71 sv_A_70 im_y_A_isLater sl_y_A_isLater 3 rfl rfl rfl rfl rfl (Nat.le_of_ble_eq_true rfl) ⟨rfl, rfl, (Nat.le_of_ble_eq_true rfl), (Nat.le_of_ble_eq_true rfl)⟩ ⟨(Nat.le_of_ble_eq_true rfl), (Nat.le_of_ble_eq_true rfl)⟩ (fun r9 u9 h9 => ?_)
                obtain ⟨rfl, rfl⟩ := h9
                refine V.if_eqB (b := ltB spt tim num (i) (g)) (tgt := 81) F d_A_latestStanding_74 (by decide) (fun c74 => ?_) (fun c74 => ?_)
                · skip
                  refine V.iincN (k := 1) (lv2 := [(7, .int (nI (i + 1))), (8, .int (nI (spt (i)))), (6, .int (nI (g))), (0, .ref (ad 3)), (1, .ref (ad 11)), (2, .int (nI (t))), (3, .int (nI (kd))), (4, .long (y))]) F d_A_latestStanding_81 1 rfl (by decide) (by decide) rfl ?_
                  refine V.goto (tgt := 6) F d_A_latestStanding_84 (by decide) ?_
                  refine V.lvs [0, 2, 3, 4, 5, 6, 7] rfl ?_
                  exact ih6 (i + 1) (some g) (by omega) (by omega) (best_keep (CA := fun k => spt k / 100001 = t * 10 + kd ∧ ¬ y < lN (spt k % 100001) ∧ stB pk rep k = true) (lt := ltB spt tim num) hb c74)
                · skip
                  refine V.iload F d_A_latestStanding_77 1 rfl ?_
                  refine V.istore (lv2 := [(6, .int (nI (i))), (8, .int (nI (spt (i)))), (7, .int (nI (i))), (0, .ref (ad 3)), (1, .ref (ad 11)), (2, .int (nI (t))), (3, .int (nI (kd))), (4, .long (y))]) F d_A_latestStanding_79 (by decide) rfl ?_
                  refine V.iincN (k := 1) (lv2 := [(7, .int (nI (i + 1))), (6, .int (nI (i))), (8, .int (nI (spt (i)))), (0, .ref (ad 3)), (1, .ref (ad 11)), (2, .int (nI (t))), (3, .int (nI (kd))), (4, .long (y))]) F d_A_latestStanding_81 2 rfl (by decide) (by decide) rfl ?_
                  refine V.goto (tgt := 6) F d_A_latestStanding_84 (by decide) ?_
                  refine V.lvs [0, 1, 3, 4, 5, 6, 7] rfl ?_
                  exact ih6 (i + 1) (some i) (by omega) (by omega) (best_up (CA := fun k => spt k / 100001 = t * 10 + kd ∧ ¬ y < lN (spt k % 100001) ∧ stB pk rep k = true) (lt := ltB spt tim num) ltB_irr ltB_tr hb c74 ⟨c35, c46, c57⟩)
  exact L6 _ (0) (none) (Nat.lt_succ_self _) (by omega) (⟨fun g q => (by cases q), fun _ k hk => absurd hk (by omega)⟩)

set_option maxHeartbeats 4000000 in
set_option maxRecDepth 100000 in
theorem c_isFirst (l : Launch) (D : va_G) {ct : Nat → ClassId} {ad : Nat → Nat} {da : Nat → Nat → Nat} {nd : Nat} {nb : Nat} {nf : Nat} {bdk : Nat → Nat} {num : Nat → Nat} {spt : Nat → Nat} {val : Nat → Int64} {tim : Nat → Nat} {rep : Nat → Nat → Bool} {byN : Nat → Nat} {byS : Nat → Nat} {pk : Nat → Bool} {kn : Nat → Nat → Bool} {pe : Nat → Nat → Bool} {clk : Nat → Nat} {tol : Nat → Nat} {opn : Nat → Option Nat} (hnf : nf ≤ 300) (hbS : ∀ j, j < nf → byS j < nf) (hspt : ∀ k, k < nf → spt k < 2 ^ 31) (j : Nat) (hj : j < nf) : CI l y_A_isFirstOfSpot b_A_isFirstOfSpot 2 (some .boolean) (rmK 0 0 0) D (tyL ct) (CW ct ad da nd nb nf bdk num spt val tim rep byN byS pk kn pe clk tol opn) [.ref (ad 3), .int (nI (j))] 0 0 (fun r u => r = bI (isF spt byS j) ∧ u = CW ct ad da nd nb nf bdk num spt val tim rep byN byS pk kn pe clk tol opn) := by
  refine CI.start (by decide) (Nat.le_of_ble_eq_true rfl) ?_
  intro p e s m below meth c F hr hnm
  show V p l e (rmK 0 0 0) s m [.ref (ad 3), .int (nI (j))].toArray below meth c D (va_A (CW ct ad da nd nb nf bdk num spt val tim rep byN byS pk kn pe clk tol opn) s.heap.size) 2 0 0 (EI D below (CW ct ad da nd nb nf bdk num spt val tim rep byN byS pk kn pe clk tol opn) [.ref (ad 3), .int (nI (j))].toArray s 0 0 (fun r u => r = bI (isF spt byS j) ∧ u = CW ct ad da nd nb nf bdk num spt val tim rep byN byS pk kn pe clk tol opn)) (CW ct ad da nd nb nf bdk num spt val tim rep byN byS pk kn pe clk tol opn) [(0, .ref (ad 3)), (1, .int (nI (j)))] 0 []
  have hb1 := hbS j hj
  have hs1 := hspt _ hb1
  refine V.iload_n F d_A_isFirstOfSpot_0 rfl 1 rfl ?_
  refine V.if_eqN (a := j) (tgt := 31) F d_A_isFirstOfSpot_1 (by decide) (by omega) (fun c1 => ?_) (fun c1 => ?_)
  · skip
    refine V.iconst F d_A_isFirstOfSpot_31 (v := nI (1)) (by decide) ?_
    refine V.goto (tgt := 36) F d_A_isFirstOfSpot_32 (by decide) ?_
    exact V.zret F hr (nar_1) d_A_isFirstOfSpot_36 (⟨by unfold isF; rw [decide_eq_true c1]; exact bI_t, rfl⟩)
  · skip
    have hb2 := hbS (j - 1) (by omega)
    have hs2 := hspt _ hb2
    refine V.aload_n F d_A_isFirstOfSpot_4 rfl 0 rfl ?_
    refine V.get F ck_A d_A_isFirstOfSpot_5 1 (by decide) lk_A_15 3 rfl rfl ?_
    refine V.aload_n F d_A_isFirstOfSpot_8 rfl 0 rfl ?_
    refine V.get F ck_A d_A_isFirstOfSpot_9 6 (by decide) lk_A_33 3 rfl rfl ?_
    refine V.iload_n F d_A_isFirstOfSpot_12 rfl 1 rfl ?_
    refine V.iconst F d_A_isFirstOfSpot_13 (v := nI (1)) (by decide) ?_
    refine V.isubN F d_A_isFirstOfSpot_14 (by omega) ?_
    refine V.iald (v := nI (byS ((j) - (1)))) F d_A_isFirstOfSpot_15 10 0 rfl rfl (by omega) (by decide) rfl ?_
    refine V.iald (v := nI (spt (byS ((j) - (1))))) F d_A_isFirstOfSpot_16 5 0 rfl rfl (by omega) (by decide) rfl ?_
    refine V.aload_n F d_A_isFirstOfSpot_17 rfl 0 rfl ?_
    refine V.get F ck_A d_A_isFirstOfSpot_18 1 (by decide) lk_A_15 3 rfl rfl ?_
    refine V.aload_n F d_A_isFirstOfSpot_21 rfl 0 rfl ?_
    refine V.get F ck_A d_A_isFirstOfSpot_22 6 (by decide) lk_A_33 3 rfl rfl ?_
    refine V.iload_n F d_A_isFirstOfSpot_25 rfl 1 rfl ?_
    refine V.iald (v := nI (byS (j))) F d_A_isFirstOfSpot_26 10 0 rfl rfl (by omega) (by decide) rfl ?_
    refine V.iald (v := nI (spt (byS (j)))) F d_A_isFirstOfSpot_27 5 0 rfl rfl (by omega) (by decide) rfl ?_
    refine V.icmp_eqN (tgt := 35) F d_A_isFirstOfSpot_28 (by decide) (by omega) (by omega) (fun c28 => ?_) (fun c28 => ?_)
    · skip
      refine V.iconst F d_A_isFirstOfSpot_35 (v := nI (0)) (by decide) ?_
      exact V.zret F hr (nar_0) d_A_isFirstOfSpot_36 (⟨by unfold isF; rw [decide_eq_false c1, decide_eq_false (fun q => q c28)]; exact bI_f, rfl⟩)
    · skip
      refine V.iconst F d_A_isFirstOfSpot_31 (v := nI (1)) (by decide) ?_
      refine V.goto (tgt := 36) F d_A_isFirstOfSpot_32 (by decide) ?_
      exact V.zret F hr (nar_1) d_A_isFirstOfSpot_36 (⟨by unfold isF; rw [decide_eq_true c28, Bool.or_true]; exact bI_t, rfl⟩)

def bvS (g : Nat → Bool) : Nat → BitVec 64
  | 0 => 0#64
  | k + 1 => bvS g k ||| (if g k = true then BitVec.twoPow 64 k else 0#64)
theorem bvS_get (g : Nat → Bool) : ∀ (k i : Nat), k ≤ 64 → (bvS g k).getLsbD i = (decide (i < k) && g i)
  | 0, i, _ => by simp [bvS]
  | k + 1, i, h => by
    rw [bvS, BitVec.getLsbD_or, bvS_get g k i (by omega)]
    by_cases hg : g k = true
    · rw [if_pos hg, BitVec.getLsbD_twoPow]
      by_cases hik : k = i
      · subst hik
        simp [hg]
        omega
      · have e1 : decide (i < k + 1) = decide (i < k) := by
          by_cases h1 : i < k
          · simp [h1]; omega
          · simp [h1]; omega
        rw [e1]
        simp [hik]
    · rw [if_neg hg]
      by_cases hik : k = i
      · subst hik
        simp [hg]
      · have e1 : decide (i < k + 1) = decide (i < k) := by
          by_cases h1 : i < k
          · simp [h1]; omega
          · simp [h1]; omega
        rw [e1]
        simp
def wd (S : Nat → Bool) (w : Nat) : Int64 := Int64.ofBitVec (bvS (fun b => S (64 * w + b)) 64)
theorem wd_bv (S : Nat → Bool) (w : Nat) : (wd S w).toBitVec = bvS (fun b => S (64 * w + b)) 64 := rfl
theorem wd_get (S : Nat → Bool) (w : Nat) {i : Nat} (h : i < 64) : (wd S w).toBitVec.getLsbD i = S (64 * w + i) := by
  rw [wd_bv, bvS_get _ 64 i (Nat.le_refl _)]
  simp [h]
theorem i64_ext {x y : Int64} (h : ∀ i, i < 64 → x.toBitVec.getLsbD i = y.toBitVec.getLsbD i) : x = y := by
  apply Int64.toBitVec_inj.mp
  apply BitVec.eq_of_getLsbD_eq
  intro i hi
  exact h i hi
theorem sh_1 : ∀ k, k < 64 → ((1 : Int64) <<< ((nI k).toInt64 &&& 63)).toBitVec = BitVec.twoPow 64 k := by decide +kernel
theorem wd_eq {S T : Nat → Bool} {w : Nat} (h : ∀ b, b < 64 → S (64 * w + b) = T (64 * w + b)) : wd S w = wd T w := i64_ext fun i hi => by rw [wd_get S w hi, wd_get T w hi]; exact h i hi
theorem wd_eq_iff {S T : Nat → Bool} {w : Nat} : wd S w = wd T w ↔ ∀ b, b < 64 → S (64 * w + b) = T (64 * w + b) := ⟨fun h b hb => by rw [← wd_get S w hb, ← wd_get T w hb, h], wd_eq⟩
theorem dm64 (n : Nat) : 64 * (n / 64) + n % 64 = n := Nat.div_add_mod n 64
theorem wd_bit (S : Nat → Bool) (n : Nat) : (wd S (n / 64) &&& ((1 : Int64) <<< ((nI (n % 64)).toInt64 &&& 63))) = 0 ↔ S n = false := by
  have hk : n % 64 < 64 := Nat.mod_lt _ (by decide)
  have e1 := wd_get S (n / 64) hk
  rw [dm64] at e1
  rw [← Int64.toBitVec_inj, Int64.toBitVec_and, sh_1 _ hk, BitVec.and_twoPow, e1]
  by_cases h : S n = true
  · rw [if_pos h, h]
    constructor
    · intro q
      have q2 := congrArg (fun v : BitVec 64 => v.getLsbD (n % 64)) q
      simp [BitVec.getLsbD_twoPow] at q2
      omega
    · intro q
      exact absurd q (by decide)
  · rw [if_neg h]
    simp at h
    simp [h]
theorem wd_or1 (S : Nat → Bool) (n : Nat) : (wd S (n / 64) ||| ((1 : Int64) <<< ((nI (n % 64)).toInt64 &&& 63))) = wd (fun k => S k || decide (k = n)) (n / 64) := by
  have hk : n % 64 < 64 := Nat.mod_lt _ (by decide)
  refine i64_ext fun i hi => ?_
  rw [Int64.toBitVec_or, sh_1 _ hk, BitVec.getLsbD_or, wd_get _ _ hi, wd_get _ _ hi, BitVec.getLsbD_twoPow]
  have e : (decide (n % 64 < 64) && decide (n % 64 = i)) = decide (64 * (n / 64) + i = n) := by
    by_cases h : n % 64 = i
    · subst h
      rw [dm64]
      simp [hk]
    · have h2 : ¬ 64 * (n / 64) + i = n := by omega
      simp [h, h2]
  rw [e]
theorem wd_or (S T : Nat → Bool) (w : Nat) : (wd S w ||| wd T w) = wd (fun k => S k || T k) w := by
  refine i64_ext fun i hi => ?_
  rw [Int64.toBitVec_or, BitVec.getLsbD_or, wd_get _ _ hi, wd_get _ _ hi, wd_get _ _ hi]
theorem wd_0 (w : Nat) : wd (fun _ => false) w = 0 := by
  refine i64_ext fun i hi => ?_
  rw [wd_get _ _ hi]
  simp
theorem wd_and0 (S T : Nat → Bool) (w : Nat) : (wd S w &&& wd T w) = 0 ↔ ∀ b, b < 64 → (S (64 * w + b) && T (64 * w + b)) = false := by
  constructor
  · intro h b hb
    have q2 := congrArg (fun v : Int64 => v.toBitVec.getLsbD b) h
    simp only [Int64.toBitVec_and, BitVec.getLsbD_and, wd_get _ _ hb] at q2
    rw [q2]
    simp
  · intro h
    refine i64_ext fun i hi => ?_
    rw [Int64.toBitVec_and, BitVec.getLsbD_and, wd_get _ _ hi, wd_get _ _ hi, h i hi]
    simp
theorem wd_upd {S S2 : Nat → Bool} {w : Nat} {x : Int64} (hx : x = wd S2 w) (h : ∀ n, n / 64 ≠ w → S2 n = S n) : vp_updL (wd S) w x = wd S2 := by
  funext j
  unfold vp_updL
  by_cases hj : j = w
  · rw [if_pos hj, hx, hj]
  · rw [if_neg hj]
    exact wd_eq fun b hb => (h _ (by omega)).symm
theorem upd_nF (g : Nat → Nat) (i x : Nat) : upd (nF g) i (nI x) = nF (va_up g i x) := by
  funext j
  by_cases h : j = i
  · subst h; show _ = nI (va_up g j x j); rw [va_up_self]; simp [upd]
  · show _ = nI (va_up g i x j); rw [va_up_ne _ _ h]; simp [upd, h]
theorem updL_up (f : Nat → Int64) (i : Nat) (x : Int64) : vp_updL f i x = va_up f i x := rfl
def cnt (g : Nat → Bool) : Nat → Nat
  | 0 => 0
  | k + 1 => cnt g k + (if g k = true then 1 else 0)
theorem cnt_le (g : Nat → Bool) : ∀ k, cnt g k ≤ k
  | 0 => Nat.le_refl _
  | k + 1 => by
    have := cnt_le g k
    rw [cnt]
    split <;> omega
theorem cnt_congr {g h : Nat → Bool} : ∀ {k : Nat}, (∀ i, i < k → g i = h i) → cnt g k = cnt h k
  | 0, _ => rfl
  | k + 1, H => by rw [cnt, cnt, cnt_congr (fun i hi => H i (by omega)), H k (by omega)]
theorem cnt_add (g : Nat → Bool) (a : Nat) : ∀ b, cnt g (a + b) = cnt g a + cnt (fun i => g (a + i)) b
  | 0 => rfl
  | b + 1 => by rw [← Nat.add_assoc, cnt, cnt, cnt_add g a b, Nat.add_assoc]

theorem la_split (a b c d : Nat) (ha : a < 256) (hc : c < 256) : (a + 256 * b) &&& (c + 256 * d) = (a &&& c) + 256 * (b &&& d) := by
  have hac : a &&& c < 256 := Nat.lt_of_le_of_lt Nat.and_le_left ha
  apply Nat.eq_of_testBit_eq
  intro i
  have e : ∀ x y : Nat, x < 256 → (x + 256 * y).testBit i = if i < 8 then x.testBit i else y.testBit (i - 8) := by
    intro x y hx
    rw [show x + 256 * y = 2 ^ 8 * y + x by omega]
    by_cases h : i < 8
    · rw [if_pos h, Nat.testBit_two_pow_mul_add y hx i, if_pos h]
    · rw [if_neg h, Nat.testBit_two_pow_mul_add y hx i, if_neg h]
  rw [Nat.testBit_and, e a b ha, e c d hc, e _ _ hac]
  split
  · rw [Nat.testBit_and]
  · rw [Nat.testBit_and]
def m55 : Nat → Nat
  | 0 => 0
  | k + 1 => 85 + 256 * m55 k
def m33 : Nat → Nat
  | 0 => 0
  | k + 1 => 51 + 256 * m33 k
def m0f : Nat → Nat
  | 0 => 0
  | k + 1 => 15 + 256 * m0f k
def s1 (k x : Nat) : Nat := x - ((x / 2) &&& m55 k)
def s2 (k x : Nat) : Nat := (x &&& m33 k) + ((x / 4) &&& m33 k)
def s3 (k x : Nat) : Nat := (x + x / 16) &&& m0f k
theorem q1 : ∀ v, v < 256 → ∀ r, r < 2 → ((v / 2 + 128 * r) &&& 85) = ((v / 2) &&& 85) := by decide +kernel
theorem q2 : ∀ v, v < 256 → ∀ r, r < 4 → ((v / 4 + 64 * r) &&& 51) = ((v / 4) &&& 51) := by decide +kernel
theorem s1_step (k v x : Nat) (hv : v < 256) : s1 (k + 1) (v + 256 * x) = (v - ((v / 2) &&& 85)) + 256 * s1 k x := by
  unfold s1
  have e1 : (v + 256 * x) / 2 = (v / 2 + 128 * (x % 2)) + 256 * (x / 2) := by omega
  rw [e1, m55, la_split _ _ _ _ (by omega) (by decide), q1 v hv (x % 2) (Nat.mod_lt _ (by decide))]
  have h1 : ((v / 2) &&& 85) ≤ v / 2 := Nat.and_le_left
  have h2 : ((x / 2) &&& m55 k) ≤ x / 2 := Nat.and_le_left
  omega
theorem s2_step (k v x : Nat) (hv : v < 256) : s2 (k + 1) (v + 256 * x) = ((v &&& 51) + ((v / 4) &&& 51)) + 256 * s2 k x := by
  unfold s2
  have e1 : (v + 256 * x) / 4 = (v / 4 + 64 * (x % 4)) + 256 * (x / 4) := by omega
  rw [e1, m33, la_split v x 51 (m33 k) hv (by decide), la_split (v / 4 + 64 * (x % 4)) (x / 4) 51 (m33 k) (by omega) (by decide), q2 v hv (x % 4) (Nat.mod_lt _ (by decide))]
  omega
def w2 (v : Nat) : Nat := ((v - ((v / 2) &&& 85)) &&& 51) + (((v - ((v / 2) &&& 85)) / 4) &&& 51)
def pc8 (v : Nat) : Nat := cnt (fun i => v.testBit i) 8
theorem q3 : ∀ v, v < 256 → ∀ r, r < 5 → (w2 v + w2 v / 16 + 16 * r < 256) ∧ ((w2 v + w2 v / 16 + 16 * r) &&& 15) = pc8 v ∧ w2 v % 16 < 5 ∧ v - ((v / 2) &&& 85) < 256 := by decide +kernel
theorem s12_step (k v x : Nat) (hv : v < 256) : s2 (k + 1) (s1 (k + 1) (v + 256 * x)) = w2 v + 256 * s2 k (s1 k x) := by
  rw [s1_step k v x hv, s2_step k _ _ (q3 v hv 0 (by decide)).2.2.2]
  rfl
theorem s12_low : ∀ (k x : Nat), x < 256 ^ k → s2 k (s1 k x) % 16 < 5
  | 0, x, h => by
    have : x = 0 := by simpa using h
    subst this
    decide
  | k + 1, x, h => by
    have e : x = x % 256 + 256 * (x / 256) := by omega
    rw [e, s12_step k _ _ (Nat.mod_lt _ (by decide))]
    have := (q3 (x % 256) (Nat.mod_lt _ (by decide)) 0 (by decide)).2.2.1
    omega
theorem s123_step (k v x : Nat) (hv : v < 256) (hx : x < 256 ^ k) : s3 (k + 1) (s2 (k + 1) (s1 (k + 1) (v + 256 * x))) = pc8 v + 256 * s3 k (s2 k (s1 k x)) := by
  rw [s12_step k v x hv]
  have hl := s12_low k x hx
  generalize s2 k (s1 k x) = P at hl ⊢
  obtain ⟨h1, h2, -, -⟩ := q3 v hv (P % 16) hl
  unfold s3
  have e1 : w2 v + 256 * P + (w2 v + 256 * P) / 16 = (w2 v + w2 v / 16 + 16 * (P % 16)) + 256 * (P + P / 16) := by omega
  rw [e1, m0f, la_split _ _ _ _ h1 (by decide), h2]
def byteSum (f : Nat → Nat) : Nat → Nat → Nat
  | 0, _ => 0
  | k + 1, x => f (x % 256) + 256 * byteSum f k (x / 256)
theorem s123 : ∀ (k x : Nat), x < 256 ^ k → s3 k (s2 k (s1 k x)) = byteSum pc8 k x
  | 0, x, h => by
    have : x = 0 := by simpa using h
    subst this
    decide
  | k + 1, x, h => by
    have e : x = x % 256 + 256 * (x / 256) := by omega
    have hx : x / 256 < 256 ^ k := by
      rw [Nat.pow_succ] at h
      omega
    rw [byteSum, ← s123 k (x / 256) hx, ← s123_step k _ _ (Nat.mod_lt _ (by decide)) hx, ← e]
theorem pc8_le (v : Nat) : pc8 v ≤ 8 := cnt_le _ 8
theorem cnt_bytes (x : Nat) : ∀ k, cnt (fun i => x.testBit i) (8 * k) = (List.range k).foldr (fun j a => pc8 (x / 256 ^ j) + a) 0
  | 0 => rfl
  | k + 1 => by
    rw [show 8 * (k + 1) = 8 * k + 8 by omega, cnt_add, cnt_bytes x k, List.range_succ, List.foldr_append]
    have e : cnt (fun i => x.testBit (8 * k + i)) 8 = pc8 (x / 256 ^ k) := by
      unfold pc8
      refine cnt_congr fun i _ => ?_
      rw [show 256 ^ k = 2 ^ (8 * k) by rw [Nat.pow_mul], Nat.testBit_div_two_pow]
      congr 1
      omega
    rw [e]
    have g : ∀ (l : List Nat) (z : Nat), l.foldr (fun j a => pc8 (x / 256 ^ j) + a) z = l.foldr (fun j a => pc8 (x / 256 ^ j) + a) 0 + z := by
      intro l
      induction l with
      | nil => intro z; simp
      | cons a t ih => intro z; simp only [List.foldr_cons]; rw [ih z]; omega
    rw [List.foldr_cons, List.foldr_nil, g _ (pc8 (x / 256 ^ k) + 0)]
    omega
def swar (x : Nat) : Nat :=
  let a := s3 8 (s2 8 (s1 8 x))
  let b := a + a / 256
  let c := b + b / 65536
  (c + c / 4294967296) % 128
theorem pc8_mod (v : Nat) : pc8 (v % 256) = pc8 v := by
  unfold pc8
  refine cnt_congr fun i hi => ?_
  rw [show 256 = 2 ^ 8 by decide, Nat.testBit_mod_two_pow]
  simp [hi]
theorem dv (x A : Nat) (h : x < 256) : (x + 256 * A) / 256 = A := by omega
theorem md (x A : Nat) (h : x < 128) : (x + 256 * A) % 128 = x := by omega
theorem swar_eq (x : Nat) (h : x < 2 ^ 64) : swar x = cnt (fun i => x.testBit i) 64 := by
  have e := cnt_bytes x 8
  rw [show 8 * 8 = 64 by decide] at e
  rw [e]
  unfold swar
  rw [s123 8 x (by rw [show 256 ^ 8 = 2 ^ 64 by decide]; exact h)]
  simp only [byteSum, List.range, List.range.loop, List.foldr_cons, List.foldr_nil]
  simp only [Nat.div_div_eq_div_mul, pc8_mod]
  simp only [show 256 * 256 = 65536 by decide, show 65536 * 256 = 16777216 by decide, show 16777216 * 256 = 4294967296 by decide, show 4294967296 * 256 = 1099511627776 by decide, show 1099511627776 * 256 = 281474976710656 by decide, show 281474976710656 * 256 = 72057594037927936 by decide, show 256 ^ 0 = 1 by decide, show 256 ^ 1 = 256 by decide, show 256 ^ 2 = 65536 by decide, show 256 ^ 3 = 16777216 by decide, show 256 ^ 4 = 4294967296 by decide, show 256 ^ 5 = 1099511627776 by decide, show 256 ^ 6 = 281474976710656 by decide, show 256 ^ 7 = 72057594037927936 by decide, Nat.div_one]
  have h0 := pc8_le x
  have h1 := pc8_le (x / 256)
  have h2 := pc8_le (x / 65536)
  have h3 := pc8_le (x / 16777216)
  have h4 := pc8_le (x / 4294967296)
  have h5 := pc8_le (x / 1099511627776)
  have h6 := pc8_le (x / 281474976710656)
  have h7 := pc8_le (x / 72057594037927936)
  generalize pc8 x = y0 at *
  generalize pc8 (x / 256) = y1 at *
  generalize pc8 (x / 65536) = y2 at *
  generalize pc8 (x / 16777216) = y3 at *
  generalize pc8 (x / 4294967296) = y4 at *
  generalize pc8 (x / 1099511627776) = y5 at *
  generalize pc8 (x / 281474976710656) = y6 at *
  generalize pc8 (x / 72057594037927936) = y7 at *
  have e1 : (y0 + 256 * (y1 + 256 * (y2 + 256 * (y3 + 256 * (y4 + 256 * (y5 + 256 * (y6 + 256 * (y7 + 256 * 0)))))))) / 256 = (y1 + 256 * (y2 + 256 * (y3 + 256 * (y4 + 256 * (y5 + 256 * (y6 + 256 * (y7 + 256 * 0))))))) := dv _ _ (by omega)
  rw [e1]
  clear e1
  have e2 : (y0 + 256 * (y1 + 256 * (y2 + 256 * (y3 + 256 * (y4 + 256 * (y5 + 256 * (y6 + 256 * (y7 + 256 * 0)))))))) + (y1 + 256 * (y2 + 256 * (y3 + 256 * (y4 + 256 * (y5 + 256 * (y6 + 256 * (y7 + 256 * 0))))))) = ((y0 + y1) + 256 * ((y1 + y2) + 256 * ((y2 + y3) + 256 * ((y3 + y4) + 256 * ((y4 + y5) + 256 * ((y5 + y6) + 256 * ((y6 + y7) + 256 * (y7 + 256 * 0)))))))) := by clear h0 h1 h2 h3 h4 h5 h6 h7; omega
  rw [e2]
  clear e2
  have f1 : ((y0 + y1) + 256 * ((y1 + y2) + 256 * ((y2 + y3) + 256 * ((y3 + y4) + 256 * ((y4 + y5) + 256 * ((y5 + y6) + 256 * ((y6 + y7) + 256 * (y7 + 256 * 0)))))))) / 65536 = ((y2 + y3) + 256 * ((y3 + y4) + 256 * ((y4 + y5) + 256 * ((y5 + y6) + 256 * ((y6 + y7) + 256 * (y7 + 256 * 0)))))) := by
    rw [show 65536 = 256 * 256 by decide, ← Nat.div_div_eq_div_mul, dv _ _ (by omega), dv _ _ (by omega)]
  rw [f1]
  clear f1
  have f2 : ((y0 + y1) + 256 * ((y1 + y2) + 256 * ((y2 + y3) + 256 * ((y3 + y4) + 256 * ((y4 + y5) + 256 * ((y5 + y6) + 256 * ((y6 + y7) + 256 * (y7 + 256 * 0)))))))) + ((y2 + y3) + 256 * ((y3 + y4) + 256 * ((y4 + y5) + 256 * ((y5 + y6) + 256 * ((y6 + y7) + 256 * (y7 + 256 * 0)))))) = (((y0 + y1) + (y2 + y3)) + 256 * (((y1 + y2) + (y3 + y4)) + 256 * (((y2 + y3) + (y4 + y5)) + 256 * (((y3 + y4) + (y5 + y6)) + 256 * (((y4 + y5) + (y6 + y7)) + 256 * (((y5 + y6) + y7) + 256 * ((y6 + y7) + 256 * (y7 + 256 * 0)))))))) := by clear h0 h1 h2 h3 h4 h5 h6 h7; omega
  rw [f2]
  clear f2
  have h9 : (((y0 + y1) + (y2 + y3)) + 256 * (((y1 + y2) + (y3 + y4)) + 256 * (((y2 + y3) + (y4 + y5)) + 256 * (((y3 + y4) + (y5 + y6)) + 256 * (((y4 + y5) + (y6 + y7)) + 256 * (((y5 + y6) + y7) + 256 * ((y6 + y7) + 256 * (y7 + 256 * 0)))))))) / 4294967296 = (((y4 + y5) + (y6 + y7)) + 256 * (((y5 + y6) + y7) + 256 * ((y6 + y7) + 256 * (y7 + 256 * 0)))) := by
    rw [show 4294967296 = 256 * 256 * 256 * 256 by decide, ← Nat.div_div_eq_div_mul, ← Nat.div_div_eq_div_mul, ← Nat.div_div_eq_div_mul, dv _ _ (by omega), dv _ _ (by omega), dv _ _ (by omega), dv _ _ (by omega)]
  rw [h9]
  clear h9
  have k9 : (((y0 + y1) + (y2 + y3)) + 256 * (((y1 + y2) + (y3 + y4)) + 256 * (((y2 + y3) + (y4 + y5)) + 256 * (((y3 + y4) + (y5 + y6)) + 256 * (((y4 + y5) + (y6 + y7)) + 256 * (((y5 + y6) + y7) + 256 * ((y6 + y7) + 256 * (y7 + 256 * 0)))))))) + (((y4 + y5) + (y6 + y7)) + 256 * (((y5 + y6) + y7) + 256 * ((y6 + y7) + 256 * (y7 + 256 * 0)))) = ((((y0 + y1) + (y2 + y3)) + ((y4 + y5) + (y6 + y7))) + 256 * ((((y1 + y2) + (y3 + y4)) + ((y5 + y6) + y7)) + 256 * ((((y2 + y3) + (y4 + y5)) + (y6 + y7)) + 256 * ((((y3 + y4) + (y5 + y6)) + y7) + 256 * (((y4 + y5) + (y6 + y7)) + 256 * (((y5 + y6) + y7) + 256 * ((y6 + y7) + 256 * (y7 + 256 * 0)))))))) := by clear h0 h1 h2 h3 h4 h5 h6 h7; omega
  rw [k9, md _ _ (by omega)]
  clear k9
  omega

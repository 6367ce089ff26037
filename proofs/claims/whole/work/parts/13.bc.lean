def uN (x : Int64) : Nat := x.toUInt64.toNat
theorem uN_lt (x : Int64) : uN x < 18446744073709551616 := x.toUInt64.toNat_lt
theorem uN_bv (x : Int64) : uN x = x.toBitVec.toNat := rfl
theorem uN_add {x y : Int64} {a b : Nat} (hx : uN x = a) (hy : uN y = b) (h : a + b < 18446744073709551616) : uN (x + y) = a + b := by
  have e : uN (x + y) = (uN x + uN y) % 18446744073709551616 := by
    show (x.toUInt64 + y.toUInt64).toNat = _
    rw [UInt64.toNat_add]; rfl
  rw [e, hx, hy, Nat.mod_eq_of_lt h]
theorem uN_sub {x y : Int64} {a b : Nat} (hx : uN x = a) (hy : uN y = b) (h : b ≤ a) : uN (x - y) = a - b := by
  have hle : y.toUInt64 ≤ x.toUInt64 := by
    rw [UInt64.le_iff_toNat_le]
    show uN y ≤ uN x
    omega
  have e : uN (x - y) = uN x - uN y := by
    show (x.toUInt64 - y.toUInt64).toNat = _
    exact UInt64.toNat_sub_of_le _ _ hle
  rw [e, hx, hy]
theorem uN_and {x y : Int64} {a b : Nat} (hx : uN x = a) (hy : uN y = b) : uN (x &&& y) = a &&& b := by
  have e : uN (x &&& y) = uN x &&& uN y := UInt64.toNat_and _ _
  rw [e, hx, hy]
theorem uN_shr (x : Int64) (s : UInt64) : uN (x.toUInt64 >>> s).toInt64 = uN x / 2 ^ (s.toNat % 64) := by
  show (x.toUInt64 >>> s).toNat = _
  rw [UInt64.toNat_shiftRight, Nat.shiftRight_eq_div_pow]
  rfl
theorem u63 : ∀ k, k < 64 → (((nI k).toInt64.toUInt64 &&& Int64.toUInt64 63)).toNat % 64 = k := by decide +kernel
theorem uN_sk {x : Int64} {a k : Nat} (hx : uN x = a) (hk : k < 64) : uN (x.toUInt64 >>> ((nI k).toInt64.toUInt64 &&& Int64.toUInt64 63)).toInt64 = a / 2 ^ k := by
  rw [uN_shr, u63 k hk, hx]
theorem bc_127 (x : Int64) : x.toInt32 &&& nI 127 = nI (uN x % 128) := by
  rw [pk_and x.toInt32 (m := nI 127) 7 (by decide)]
  congr 1
  show (x.toBitVec.signExtend 32).toNat % 2 ^ 7 = x.toBitVec.toNat % 128
  rw [BitVec.signExtend_eq_setWidth_of_le _ (by decide), BitVec.toNat_setWidth]
  omega
theorem m55_8 : m55 8 = 6148914691236517205 := by decide
theorem m33_8 : m33 8 = 3689348814741910323 := by decide
theorem m0f_8 : m0f 8 = 1085102592571150095 := by decide
def ones : Nat → Nat
  | 0 => 0
  | k + 1 => 1 + 256 * ones k
theorem bs_ar {w y o : Nat} (h1 : w ≤ 8 * o) (h2 : y ≤ 8) : y + 256 * w ≤ 8 * (1 + 256 * o) := by omega
theorem bs_le : ∀ k x, byteSum pc8 k x ≤ 8 * ones k
  | 0, x => Nat.le_refl _
  | k + 1, x => bs_ar (bs_le k (x / 256)) (pc8_le (x % 256))
theorem bc_eq {x i1 i2 i3 i4 i5 i6 : Int64} (e1 : i1 = x - ((x.toUInt64 >>> ((nI 1).toInt64.toUInt64 &&& Int64.toUInt64 63)).toInt64 &&& 6148914691236517205)) (e2 : i2 = (i1 &&& 3689348814741910323) + ((i1.toUInt64 >>> ((nI 2).toInt64.toUInt64 &&& Int64.toUInt64 63)).toInt64 &&& 3689348814741910323)) (e3 : i3 = (i2 + (i2.toUInt64 >>> ((nI 4).toInt64.toUInt64 &&& Int64.toUInt64 63)).toInt64) &&& 1085102592571150095) (e4 : i4 = i3 + (i3.toUInt64 >>> ((nI 8).toInt64.toUInt64 &&& Int64.toUInt64 63)).toInt64) (e5 : i5 = i4 + (i4.toUInt64 >>> ((nI 16).toInt64.toUInt64 &&& Int64.toUInt64 63)).toInt64) (e6 : i6 = i5 + (i5.toUInt64 >>> ((nI 32).toInt64.toUInt64 &&& Int64.toUInt64 63)).toInt64) : i6.toInt32 &&& nI 127 = nI (cnt (fun b => x.toBitVec.getLsbD b) 64) := by
  obtain ⟨n, hn⟩ : ∃ n, uN x = n := ⟨_, rfl⟩
  have hlt : n < 18446744073709551616 := hn ▸ uN_lt x
  have k55 : uN (6148914691236517205 : Int64) = m55 8 := by decide
  have k33 : uN (3689348814741910323 : Int64) = m33 8 := by decide
  have k0f : uN (1085102592571150095 : Int64) = m0f 8 := by decide
  have h1 : uN i1 = s1 8 n := by
    rw [e1]
    have := uN_and (uN_sk (k := 1) hn (by decide)) k55
    exact uN_sub hn this (Nat.le_trans Nat.and_le_left (Nat.div_le_self _ _))
  have h2 : uN i2 = s2 8 (s1 8 n) := by
    rw [e2]
    have hA := uN_and h1 k33
    have hB := uN_and (uN_sk (k := 2) h1 (by decide)) k33
    refine uN_add hA hB ?_
    have a1 : (s1 8 n &&& m33 8) ≤ m33 8 := Nat.and_le_right
    have a2 : (s1 8 n / 4 &&& m33 8) ≤ m33 8 := Nat.and_le_right
    rw [m33_8] at *
    omega
  have b2 : s2 8 (s1 8 n) ≤ 2 * 3689348814741910323 := by
    unfold s2
    have a1 : (s1 8 n &&& m33 8) ≤ m33 8 := Nat.and_le_right
    have a2 : (s1 8 n / 4 &&& m33 8) ≤ m33 8 := Nat.and_le_right
    rw [m33_8] at *
    omega
  have h3 : uN i3 = s3 8 (s2 8 (s1 8 n)) := by
    rw [e3]
    refine uN_and (uN_add h2 (uN_sk (k := 4) h2 (by decide)) ?_) k0f
    omega
  have hs := s123 8 n (by rw [show 256 ^ 8 = 18446744073709551616 by decide]; exact hlt)
  have hb := bs_le 8 n
  rw [← hs, show ones 8 = 72340172838076673 by decide] at hb
  have hw : swar n = cnt (fun i => n.testBit i) 64 := swar_eq n hlt
  unfold swar at hw
  generalize hA : s3 8 (s2 8 (s1 8 n)) = a at *
  have h4 : uN i4 = a + a / 256 := by
    rw [e4]
    exact uN_add h3 (uN_sk (k := 8) h3 (by decide)) (by omega)
  have h5 : uN i5 = (a + a / 256) + (a + a / 256) / 65536 := by
    rw [e5]
    exact uN_add h4 (uN_sk (k := 16) h4 (by decide)) (by omega)
  have h6 : uN i6 = ((a + a / 256) + (a + a / 256) / 65536) + ((a + a / 256) + (a + a / 256) / 65536) / 4294967296 := by
    rw [e6]
    exact uN_add h5 (uN_sk (k := 32) h5 (by decide)) (by omega)
  rw [bc_127, h6]
  congr 1
  rw [← hn] at hw
  exact hw.trans (cnt_congr fun i hi => rfl)

theorem sp_lo {t kd : Nat} (ht : t < 100) (hkd : kd < 10) : (t * 10 + kd) * 100001 + 0 < 2 ^ 31 := by omega
theorem cnt_mono (G : Nat → Bool) : ∀ {a b : Nat}, a ≤ b → cnt G a ≤ cnt G b
  | a, 0, h => by rw [show a = 0 by omega]; exact Nat.le_refl _
  | a, b + 1, h => by
    by_cases e : a = b + 1
    · rw [e]; exact Nat.le_refl _
    · have := cnt_mono G (a := a) (b := b) (by omega)
      rw [cnt]
      omega
theorem cnt_lt (G : Nat → Bool) {a b : Nat} (h : a < b) (hg : G a = true) : cnt G a < cnt G b := by
  have h1 := cnt_mono G (a := a + 1) (b := b) (by omega)
  rw [cnt, if_pos hg] at h1
  omega
theorem kth_yes {G G2 : Nat → Bool} {R : Nat → Int32} {nf m : Nat} {x r : Int32} (hn : nf ≤ 300) (h : (∃ m, m < nf ∧ G m = true ∧ x = nI (cnt G m) ∧ r = R m) ∨ ((∀ m, m < nf → G m = true → ¬ x = nI (cnt G m)) ∧ r = -1)) (hG : ∀ j, j < nf → G j = G2 j) (hm : m < nf) (h1 : G2 m = true) (hx : x = nI (cnt G2 m)) : r = R m := by
  have ec : ∀ j, j ≤ nf → cnt G j = cnt G2 j := fun j hj => cnt_congr (fun i hi => hG i (by omega))
  rcases h with ⟨k, k1, k2, k3, k4⟩ | ⟨k1, k2⟩
  · rw [k3, ec k (by omega)] at hx
    have b1 := cnt_le G2 k
    have b2 := cnt_le G2 m
    have e := (nI_eq (by omega) (by omega)).mp hx
    rw [hG k k1] at k2
    have : k = m := by
      rcases Nat.lt_trichotomy k m with q | q | q
      · have := cnt_lt G2 q k2; omega
      · exact q
      · have := cnt_lt G2 q h1; omega
    rw [k4, this]
  · rw [← hG m hm] at h1
    rw [← ec m (by omega)] at hx
    exact absurd hx (k1 m hm h1)
theorem kth_no {G G2 : Nat → Bool} {R : Nat → Int32} {nf : Nat} {x r : Int32} (h : (∃ m, m < nf ∧ G m = true ∧ x = nI (cnt G m) ∧ r = R m) ∨ ((∀ m, m < nf → G m = true → ¬ x = nI (cnt G m)) ∧ r = -1)) (hG : ∀ j, j < nf → G j = G2 j) (hno : ∀ m, m < nf → G2 m = true → ¬ x = nI (cnt G2 m)) : r = -1 := by
  have ec : ∀ j, j ≤ nf → cnt G j = cnt G2 j := fun j hj => cnt_congr (fun i hi => hG i (by omega))
  rcases h with ⟨k, k1, k2, k3, k4⟩ | ⟨k1, k2⟩
  · rw [ec k (by omega)] at k3
    rw [hG k k1] at k2
    exact absurd k3 (hno k k1 k2)
  · exact k2
set_option maxHeartbeats 4000000 in
set_option maxRecDepth 100000 in
theorem c_fiNo (l : Launch) (D : va_G) {ct : Nat → ClassId} {ad : Nat → Nat} {da : Nat → Nat → Nat} {nd : Nat} {nb : Nat} {nf : Nat} {bdk : Nat → Nat} {num : Nat → Nat} {spt : Nat → Nat} {val : Nat → Int64} {tim : Nat → Nat} {rep : Nat → Nat → Bool} {byN : Nat → Nat} {byS : Nat → Nat} {pk : Nat → Bool} {kn : Nat → Nat → Bool} {pe : Nat → Nat → Bool} {clk : Nat → Nat} {tol : Nat → Nat} {opn : Nat → Option Nat} (x0 kd x : Int32) (v : Int64) (hx : x0 < 0 ∨ nI nd ≤ x0) : CI l y_T_find b_T_find 7 (some .int) (rmK 4 0 0) D (tyL ct) (CW ct ad da nd nb nf bdk num spt val tim rep byN byS pk kn pe clk tol opn) [.ref (ad 0), .int (x0), .int (kd), .long (v), .int (x)] 0 0 (fun r u => r = -1 ∧ u = CW ct ad da nd nb nf bdk num spt val tim rep byN byS pk kn pe clk tol opn) := by
  refine CI.start (by decide) (Nat.le_of_ble_eq_true rfl) ?_
  intro p e s m below meth c F hr hnm
  show V p l e (rmK 4 0 0) s m [.ref (ad 0), .int (x0), .int (kd), .long (v), .int (x)].toArray below meth c D (va_A (CW ct ad da nd nb nf bdk num spt val tim rep byN byS pk kn pe clk tol opn) s.heap.size) 7 0 0 (EI D below (CW ct ad da nd nb nf bdk num spt val tim rep byN byS pk kn pe clk tol opn) [.ref (ad 0), .int (x0), .int (kd), .long (v), .int (x)].toArray s 0 0 (fun r u => r = -1 ∧ u = CW ct ad da nd nb nf bdk num spt val tim rep byN byS pk kn pe clk tol opn)) (CW ct ad da nd nb nf bdk num spt val tim rep byN byS pk kn pe clk tol opn) [(0, .ref (ad 0)), (1, .int (x0)), (2, .int (kd)), (3, .long (v)), (5, .int (x))] 0 []
  refine V.aload_n F d_T_find_0 rfl 0 rfl ?_
  refine V.iload_n F d_T_find_1 rfl 1 rfl ?_
  refine V.callVQ0 (As := [.int (x0)]) (rest := []) F (c_deskNo l D x0 hx) d_T_find_2 sv_T_40 im_y_T_deskAt sl_y_T_deskAt 0 rfl rfl rfl rfl rfl (Nat.le_of_ble_eq_true rfl) ⟨rfl, rfl, (Nat.le_of_ble_eq_true rfl), (Nat.le_of_ble_eq_true rfl)⟩ ⟨(Nat.le_of_ble_eq_true rfl), (Nat.le_of_ble_eq_true rfl)⟩ (fun r9 u9 h9 => ?_)
  obtain ⟨rfl, rfl⟩ := h9
  refine V.astoreN (lv2 := [(6, .null), (0, .ref (ad 0)), (1, .int (x0)), (2, .int (kd)), (3, .long (v)), (5, .int (x))]) F d_T_find_5 (by decide) rfl ?_
  refine V.aloadN F d_T_find_7 0 rfl ?_
  refine V.ifnonnullN F d_T_find_9 ?_
  refine V.iconst F d_T_find_12 (v := -1) (by decide) ?_
  exact V.iret F hr d_T_find_13 (⟨rfl, rfl⟩)

set_option maxHeartbeats 4000000 in
set_option maxRecDepth 100000 in
theorem c_fiY (l : Launch) (D : va_G) {ct : Nat → ClassId} {ad : Nat → Nat} {da : Nat → Nat → Nat} {nd : Nat} {nb : Nat} {nf : Nat} {bdk : Nat → Nat} {num : Nat → Nat} {spt : Nat → Nat} {val : Nat → Int64} {tim : Nat → Nat} {rep : Nat → Nat → Bool} {byN : Nat → Nat} {byS : Nat → Nat} {pk : Nat → Bool} {kn : Nat → Nat → Bool} {pe : Nat → Nat → Bool} {clk : Nat → Nat} {tol : Nat → Nat} {opn : Nat → Option Nat} (hnf : nf ≤ 300) (hnd : nd ≤ 8) (d : Nat) (hd0 : d < nd) (hspt : ∀ k, k < nf → spt k < 2 ^ 31) (hbN : ∀ j, j < nf → byN j < nf) (kd x : Int32) (v : Int64) (mm : Nat) (hm : mm < nf) (hmq : (fun j => (fun k => decide (k < nf) && (decide (val k = v) && (decide (nI (spt k / 100001 % 10) = kd) && kn d k))) (byN j)) mm = true) (hmx : x = nI (cnt (fun j => (fun k => decide (k < nf) && (decide (val k = v) && (decide (nI (spt k / 100001 % 10) = kd) && kn d k))) (byN j)) mm)) : CI l y_T_find b_T_find 7 (some .int) (rmK 4 0 0) D (tyL ct) (CW ct ad da nd nb nf bdk num spt val tim rep byN byS pk kn pe clk tol opn) [.ref (ad 0), .int (nI (d)), .int (kd), .long (v), .int (x)] 0 0 (fun r u => r = nI (num (byN mm)) ∧ ∃ P : Nat → Bool, u = CW ct ad da nd nb nf bdk num spt val tim rep byN byS P kn pe clk tol opn) := by
  refine CI.start (by decide) (Nat.le_of_ble_eq_true rfl) ?_
  intro p e s m below meth c F hr hnm
  show V p l e (rmK 4 0 0) s m [.ref (ad 0), .int (nI (d)), .int (kd), .long (v), .int (x)].toArray below meth c D (va_A (CW ct ad da nd nb nf bdk num spt val tim rep byN byS pk kn pe clk tol opn) s.heap.size) 7 0 0 (EI D below (CW ct ad da nd nb nf bdk num spt val tim rep byN byS pk kn pe clk tol opn) [.ref (ad 0), .int (nI (d)), .int (kd), .long (v), .int (x)].toArray s 0 0 (fun r u => r = nI (num (byN mm)) ∧ ∃ P : Nat → Bool, u = CW ct ad da nd nb nf bdk num spt val tim rep byN byS P kn pe clk tol opn)) (CW ct ad da nd nb nf bdk num spt val tim rep byN byS pk kn pe clk tol opn) [(0, .ref (ad 0)), (1, .int (nI (d))), (2, .int (kd)), (3, .long (v)), (5, .int (x))] 0 []
  refine V.aload_n F d_T_find_0 rfl 0 rfl ?_
  refine V.iload_n F d_T_find_1 rfl 1 rfl ?_
  refine V.callVQ0 (As := [.int (nI (d))]) (rest := []) F (c_deskAt l D hnd d hd0) d_T_find_2 sv_T_40 im_y_T_deskAt sl_y_T_deskAt 0 rfl rfl rfl rfl rfl (Nat.le_of_ble_eq_true rfl) ⟨rfl, rfl, (Nat.le_of_ble_eq_true rfl), (Nat.le_of_ble_eq_true rfl)⟩ ⟨(Nat.le_of_ble_eq_true rfl), (Nat.le_of_ble_eq_true rfl)⟩ (fun r9 u9 h9 => ?_)
  obtain ⟨rfl, rfl⟩ := h9
  refine V.astore (lv2 := [(6, .ref (da (d) 0)), (0, .ref (ad 0)), (1, .int (nI (d))), (2, .int (kd)), (3, .long (v)), (5, .int (x))]) F d_T_find_5 (by decide) rfl ?_
  refine V.aload F d_T_find_7 0 rfl ?_
  refine V.ifnonnull (tgt := 14) F d_T_find_9 (by decide) ?_
  refine V.aload_n F d_T_find_14 rfl 1 rfl ?_
  refine V.get F ck_T d_T_find_15 2 (by decide) lk_T_22 0 rfl rfl ?_
  refine V.aload F d_T_find_18 0 rfl ?_
  refine V.getN F ck_K d_T_find_20 1 (by decide) lk_T_65 (13 + (5 * (d) + 0)) (cw_d0 hd0) rfl ?_
  refine V.iload_n F d_T_find_23 rfl 3 rfl ?_
  refine V.lload_n F d_T_find_24 rfl 4 rfl ?_
  refine V.aload_n F d_T_find_25 rfl 1 rfl ?_
  refine V.get F ck_T d_T_find_26 3 (by decide) lk_T_29 0 rfl rfl ?_
  refine V.callVV0 (As := [.ref (da (d) 1), .int (kd), .long (v), .ref (ad 11)]) (rest := []) F (c_pickEqual l D hnf d hd0 kd v hspt) d_T_find_29 sv_T_154 im_y_A_pickEqual sl_y_A_pickEqual 3 rfl rfl rfl rfl rfl (Nat.le_of_ble_eq_true rfl) ⟨rfl, rfl, (Nat.le_of_ble_eq_true rfl), (Nat.le_of_ble_eq_true rfl)⟩ ⟨(Nat.le_of_ble_eq_true rfl), (Nat.le_of_ble_eq_true rfl)⟩ (fun u9 h9 => ?_)
  obtain ⟨P, hP, rfl⟩ := h9
  refine V.aload_n F d_T_find_32 rfl 1 rfl ?_
  refine V.aload_n F d_T_find_33 rfl 1 rfl ?_
  refine V.get F ck_T d_T_find_34 2 (by decide) lk_T_22 0 rfl rfl ?_
  refine V.aload_n F d_T_find_37 rfl 1 rfl ?_
  refine V.get F ck_T d_T_find_38 3 (by decide) lk_T_29 0 rfl rfl ?_
  refine V.iload F d_T_find_41 5 rfl ?_
  refine V.callVI0 (As := [.ref (ad 11), .int (x)]) (rest := [.ref (ad 0)]) F (c_inOrder l D hnf hbN (x)) d_T_find_43 sv_T_121 im_y_A_inOrder sl_y_A_inOrder 3 rfl rfl rfl rfl rfl (Nat.le_of_ble_eq_true rfl) ⟨rfl, rfl, (Nat.le_of_ble_eq_true rfl), (Nat.le_of_ble_eq_true rfl)⟩ ⟨(Nat.le_of_ble_eq_true rfl), (Nat.le_of_ble_eq_true rfl)⟩ (fun r9 u9 h9 => ?_)
  obtain ⟨h9, rfl⟩ := h9
  have e9 := kth_yes (G2 := fun j => (fun k => decide (k < nf) && (decide (val k = v) && (decide (nI (spt k / 100001 % 10) = kd) && kn d k))) (byN j)) (R := fun m => nI (byN m)) hnf h9 (fun j hj => hP _ (by have := hbN j hj; omega)) hm hmq hmx
  subst e9
  refine V.callVI0 (As := [.int (nI (byN mm))]) (rest := []) F (c_nnYes l D (byN mm) (by have := hbN mm hm; omega)) d_T_find_46 sv_T_125 im_y_T_numberOrNone sl_y_T_numberOrNone 0 rfl rfl rfl rfl rfl (Nat.le_of_ble_eq_true rfl) ⟨rfl, rfl, (Nat.le_of_ble_eq_true rfl), (Nat.le_of_ble_eq_true rfl)⟩ ⟨(Nat.le_of_ble_eq_true rfl), (Nat.le_of_ble_eq_true rfl)⟩ (fun r9 u9 h9 => ?_)
  obtain ⟨rfl, rfl⟩ := h9
  exact V.iret F hr d_T_find_49 (⟨rfl, P, rfl⟩)

set_option maxHeartbeats 4000000 in
set_option maxRecDepth 100000 in
theorem c_fiN (l : Launch) (D : va_G) {ct : Nat → ClassId} {ad : Nat → Nat} {da : Nat → Nat → Nat} {nd : Nat} {nb : Nat} {nf : Nat} {bdk : Nat → Nat} {num : Nat → Nat} {spt : Nat → Nat} {val : Nat → Int64} {tim : Nat → Nat} {rep : Nat → Nat → Bool} {byN : Nat → Nat} {byS : Nat → Nat} {pk : Nat → Bool} {kn : Nat → Nat → Bool} {pe : Nat → Nat → Bool} {clk : Nat → Nat} {tol : Nat → Nat} {opn : Nat → Option Nat} (hnf : nf ≤ 300) (hnd : nd ≤ 8) (d : Nat) (hd0 : d < nd) (hspt : ∀ k, k < nf → spt k < 2 ^ 31) (hbN : ∀ j, j < nf → byN j < nf) (kd x : Int32) (v : Int64) (hno : ∀ m, m < nf → (fun j => (fun k => decide (k < nf) && (decide (val k = v) && (decide (nI (spt k / 100001 % 10) = kd) && kn d k))) (byN j)) m = true → ¬ x = nI (cnt (fun j => (fun k => decide (k < nf) && (decide (val k = v) && (decide (nI (spt k / 100001 % 10) = kd) && kn d k))) (byN j)) m)) : CI l y_T_find b_T_find 7 (some .int) (rmK 4 0 0) D (tyL ct) (CW ct ad da nd nb nf bdk num spt val tim rep byN byS pk kn pe clk tol opn) [.ref (ad 0), .int (nI (d)), .int (kd), .long (v), .int (x)] 0 0 (fun r u => r = -1 ∧ ∃ P : Nat → Bool, u = CW ct ad da nd nb nf bdk num spt val tim rep byN byS P kn pe clk tol opn) := by
  refine CI.start (by decide) (Nat.le_of_ble_eq_true rfl) ?_
  intro p e s m below meth c F hr hnm
  show V p l e (rmK 4 0 0) s m [.ref (ad 0), .int (nI (d)), .int (kd), .long (v), .int (x)].toArray below meth c D (va_A (CW ct ad da nd nb nf bdk num spt val tim rep byN byS pk kn pe clk tol opn) s.heap.size) 7 0 0 (EI D below (CW ct ad da nd nb nf bdk num spt val tim rep byN byS pk kn pe clk tol opn) [.ref (ad 0), .int (nI (d)), .int (kd), .long (v), .int (x)].toArray s 0 0 (fun r u => r = -1 ∧ ∃ P : Nat → Bool, u = CW ct ad da nd nb nf bdk num spt val tim rep byN byS P kn pe clk tol opn)) (CW ct ad da nd nb nf bdk num spt val tim rep byN byS pk kn pe clk tol opn) [(0, .ref (ad 0)), (1, .int (nI (d))), (2, .int (kd)), (3, .long (v)), (5, .int (x))] 0 []
  refine V.aload_n F d_T_find_0 rfl 0 rfl ?_
  refine V.iload_n F d_T_find_1 rfl 1 rfl ?_
  refine V.callVQ0 (As := [.int (nI (d))]) (rest := []) F (c_deskAt l D hnd d hd0) d_T_find_2 sv_T_40 im_y_T_deskAt sl_y_T_deskAt 0 rfl rfl rfl rfl rfl (Nat.le_of_ble_eq_true rfl) ⟨rfl, rfl, (Nat.le_of_ble_eq_true rfl), (Nat.le_of_ble_eq_true rfl)⟩ ⟨(Nat.le_of_ble_eq_true rfl), (Nat.le_of_ble_eq_true rfl)⟩ (fun r9 u9 h9 => ?_)
  obtain ⟨rfl, rfl⟩ := h9
  refine V.astore (lv2 := [(6, .ref (da (d) 0)), (0, .ref (ad 0)), (1, .int (nI (d))), (2, .int (kd)), (3, .long (v)), (5, .int (x))]) F d_T_find_5 (by decide) rfl ?_
  refine V.aload F d_T_find_7 0 rfl ?_
  refine V.ifnonnull (tgt := 14) F d_T_find_9 (by decide) ?_
  refine V.aload_n F d_T_find_14 rfl 1 rfl ?_
  refine V.get F ck_T d_T_find_15 2 (by decide) lk_T_22 0 rfl rfl ?_
  refine V.aload F d_T_find_18 0 rfl ?_
  refine V.getN F ck_K d_T_find_20 1 (by decide) lk_T_65 (13 + (5 * (d) + 0)) (cw_d0 hd0) rfl ?_
  refine V.iload_n F d_T_find_23 rfl 3 rfl ?_
  refine V.lload_n F d_T_find_24 rfl 4 rfl ?_
  refine V.aload_n F d_T_find_25 rfl 1 rfl ?_
  refine V.get F ck_T d_T_find_26 3 (by decide) lk_T_29 0 rfl rfl ?_
  refine V.callVV0 (As := [.ref (da (d) 1), .int (kd), .long (v), .ref (ad 11)]) (rest := []) F (c_pickEqual l D hnf d hd0 kd v hspt) d_T_find_29 sv_T_154 im_y_A_pickEqual sl_y_A_pickEqual 3 rfl rfl rfl rfl rfl (Nat.le_of_ble_eq_true rfl) ⟨rfl, rfl, (Nat.le_of_ble_eq_true rfl), (Nat.le_of_ble_eq_true rfl)⟩ ⟨(Nat.le_of_ble_eq_true rfl), (Nat.le_of_ble_eq_true rfl)⟩ (fun u9 h9 => ?_)
  obtain ⟨P, hP, rfl⟩ := h9
  refine V.aload_n F d_T_find_32 rfl 1 rfl ?_
  refine V.aload_n F d_T_find_33 rfl 1 rfl ?_
  refine V.get F ck_T d_T_find_34 2 (by decide) lk_T_22 0 rfl rfl ?_
  refine V.aload_n F d_T_find_37 rfl 1 rfl ?_
  refine V.get F ck_T d_T_find_38 3 (by decide) lk_T_29 0 rfl rfl ?_
  refine V.iload F d_T_find_41 5 rfl ?_
  refine V.callVI0 (As := [.ref (ad 11), .int (x)]) (rest := [.ref (ad 0)]) F (c_inOrder l D hnf hbN (x)) d_T_find_43 sv_T_121 im_y_A_inOrder sl_y_A_inOrder 3 rfl rfl rfl rfl rfl (Nat.le_of_ble_eq_true rfl) ⟨rfl, rfl, (Nat.le_of_ble_eq_true rfl), (Nat.le_of_ble_eq_true rfl)⟩ ⟨(Nat.le_of_ble_eq_true rfl), (Nat.le_of_ble_eq_true rfl)⟩ (fun r9 u9 h9 => ?_)
  obtain ⟨h9, rfl⟩ := h9
  have e9 := kth_no (G2 := fun j => (fun k => decide (k < nf) && (decide (val k = v) && (decide (nI (spt k / 100001 % 10) = kd) && kn d k))) (byN j)) (R := fun m => nI (byN m)) h9 (fun j hj => hP _ (by have := hbN j hj; omega)) hno
  subst e9
  refine V.callVI0 (As := [.int (-1)]) (rest := []) F (c_nnNo l D) d_T_find_46 sv_T_125 im_y_T_numberOrNone sl_y_T_numberOrNone 0 rfl rfl rfl rfl rfl (Nat.le_of_ble_eq_true rfl) ⟨rfl, rfl, (Nat.le_of_ble_eq_true rfl), (Nat.le_of_ble_eq_true rfl)⟩ ⟨(Nat.le_of_ble_eq_true rfl), (Nat.le_of_ble_eq_true rfl)⟩ (fun r9 u9 h9 => ?_)
  obtain ⟨rfl, rfl⟩ := h9
  exact V.iret F hr d_T_find_49 (⟨rfl, P, rfl⟩)

set_option maxHeartbeats 4000000 in
set_option maxRecDepth 100000 in
theorem c_knNo (l : Launch) (D : va_G) {ct : Nat → ClassId} {ad : Nat → Nat} {da : Nat → Nat → Nat} {nd : Nat} {nb : Nat} {nf : Nat} {bdk : Nat → Nat} {num : Nat → Nat} {spt : Nat → Nat} {val : Nat → Int64} {tim : Nat → Nat} {rep : Nat → Nat → Bool} {byN : Nat → Nat} {byS : Nat → Nat} {pk : Nat → Bool} {kn : Nat → Nat → Bool} {pe : Nat → Nat → Bool} {clk : Nat → Nat} {tol : Nat → Nat} {opn : Nat → Option Nat} (x0 t kd : Int32) (y on : Int64) (hx : x0 < 0 ∨ nI nd ≤ x0) : CL l y_T_known b_T_known 10 (some .long) (rmK 4 0 0) D (tyL ct) (CW ct ad da nd nb nf bdk num spt val tim rep byN byS pk kn pe clk tol opn) [.ref (ad 0), .int (x0), .int (t), .int (kd), .long (y), .long (on)] 0 0 (fun r u => r = -9223372036854775808 ∧ u = CW ct ad da nd nb nf bdk num spt val tim rep byN byS pk kn pe clk tol opn) := by
  refine CL.start (by decide) (Nat.le_of_ble_eq_true rfl) ?_
  intro p e s m below meth c F hr hnm
  show V p l e (rmK 4 0 0) s m [.ref (ad 0), .int (x0), .int (t), .int (kd), .long (y), .long (on)].toArray below meth c D (va_A (CW ct ad da nd nb nf bdk num spt val tim rep byN byS pk kn pe clk tol opn) s.heap.size) 10 0 0 (EL D below (CW ct ad da nd nb nf bdk num spt val tim rep byN byS pk kn pe clk tol opn) [.ref (ad 0), .int (x0), .int (t), .int (kd), .long (y), .long (on)].toArray s 0 0 (fun r u => r = -9223372036854775808 ∧ u = CW ct ad da nd nb nf bdk num spt val tim rep byN byS pk kn pe clk tol opn)) (CW ct ad da nd nb nf bdk num spt val tim rep byN byS pk kn pe clk tol opn) [(0, .ref (ad 0)), (1, .int (x0)), (2, .int (t)), (3, .int (kd)), (4, .long (y)), (6, .long (on))] 0 []
  refine V.aload_n F d_T_known_0 rfl 0 rfl ?_
  refine V.iload_n F d_T_known_1 rfl 1 rfl ?_
  refine V.callVQ0 (As := [.int (x0)]) (rest := []) F (c_deskNo l D x0 hx) d_T_known_2 sv_T_40 im_y_T_deskAt sl_y_T_deskAt 0 rfl rfl rfl rfl rfl (Nat.le_of_ble_eq_true rfl) ⟨rfl, rfl, (Nat.le_of_ble_eq_true rfl), (Nat.le_of_ble_eq_true rfl)⟩ ⟨(Nat.le_of_ble_eq_true rfl), (Nat.le_of_ble_eq_true rfl)⟩ (fun r9 u9 h9 => ?_)
  obtain ⟨rfl, rfl⟩ := h9
  refine V.astoreN (lv2 := [(8, .null), (0, .ref (ad 0)), (1, .int (x0)), (2, .int (t)), (3, .int (kd)), (4, .long (y)), (6, .long (on))]) F d_T_known_5 (by decide) rfl ?_
  refine V.aloadN F d_T_known_7 0 rfl ?_
  refine V.ifnullN (tgt := 20) F d_T_known_9 (by decide) ?_
  refine V.ldc2 F d_T_known_20 (v := -9223372036854775808) lk_T_86 ?_
  exact V.lret F hr d_T_known_23 (⟨rfl, rfl⟩)

set_option maxHeartbeats 4000000 in
set_option maxRecDepth 100000 in
theorem c_knBad (l : Launch) (D : va_G) {ct : Nat → ClassId} {ad : Nat → Nat} {da : Nat → Nat → Nat} {nd : Nat} {nb : Nat} {nf : Nat} {bdk : Nat → Nat} {num : Nat → Nat} {spt : Nat → Nat} {val : Nat → Int64} {tim : Nat → Nat} {rep : Nat → Nat → Bool} {byN : Nat → Nat} {byS : Nat → Nat} {pk : Nat → Bool} {kn : Nat → Nat → Bool} {pe : Nat → Nat → Bool} {clk : Nat → Nat} {tol : Nat → Nat} {opn : Nat → Option Nat} (hnd : nd ≤ 8) (d : Nat) (hd0 : d < nd) (t kd : Int32) (y on : Int64) (hz : decide (¬ t < 0 ∧ ¬ nI 100 ≤ t ∧ ¬ kd < 0 ∧ ¬ nI 10 ≤ kd) = false) : CL l y_T_known b_T_known 10 (some .long) (rmK 4 0 0) D (tyL ct) (CW ct ad da nd nb nf bdk num spt val tim rep byN byS pk kn pe clk tol opn) [.ref (ad 0), .int (nI (d)), .int (t), .int (kd), .long (y), .long (on)] 0 0 (fun r u => r = -9223372036854775808 ∧ u = CW ct ad da nd nb nf bdk num spt val tim rep byN byS pk kn pe clk tol opn) := by
  refine CL.start (by decide) (Nat.le_of_ble_eq_true rfl) ?_
  intro p e s m below meth c F hr hnm
  show V p l e (rmK 4 0 0) s m [.ref (ad 0), .int (nI (d)), .int (t), .int (kd), .long (y), .long (on)].toArray below meth c D (va_A (CW ct ad da nd nb nf bdk num spt val tim rep byN byS pk kn pe clk tol opn) s.heap.size) 10 0 0 (EL D below (CW ct ad da nd nb nf bdk num spt val tim rep byN byS pk kn pe clk tol opn) [.ref (ad 0), .int (nI (d)), .int (t), .int (kd), .long (y), .long (on)].toArray s 0 0 (fun r u => r = -9223372036854775808 ∧ u = CW ct ad da nd nb nf bdk num spt val tim rep byN byS pk kn pe clk tol opn)) (CW ct ad da nd nb nf bdk num spt val tim rep byN byS pk kn pe clk tol opn) [(0, .ref (ad 0)), (1, .int (nI (d))), (2, .int (t)), (3, .int (kd)), (4, .long (y)), (6, .long (on))] 0 []
  refine V.aload_n F d_T_known_0 rfl 0 rfl ?_
  refine V.iload_n F d_T_known_1 rfl 1 rfl ?_
  refine V.callVQ0 (As := [.int (nI (d))]) (rest := []) F (c_deskAt l D hnd d hd0) d_T_known_2 sv_T_40 im_y_T_deskAt sl_y_T_deskAt 0 rfl rfl rfl rfl rfl (Nat.le_of_ble_eq_true rfl) ⟨rfl, rfl, (Nat.le_of_ble_eq_true rfl), (Nat.le_of_ble_eq_true rfl)⟩ ⟨(Nat.le_of_ble_eq_true rfl), (Nat.le_of_ble_eq_true rfl)⟩ (fun r9 u9 h9 => ?_)
  obtain ⟨rfl, rfl⟩ := h9
  refine V.astore (lv2 := [(8, .ref (da (d) 0)), (0, .ref (ad 0)), (1, .int (nI (d))), (2, .int (t)), (3, .int (kd)), (4, .long (y)), (6, .long (on))]) F d_T_known_5 (by decide) rfl ?_
  refine V.aload F d_T_known_7 0 rfl ?_
  refine V.ifnull F d_T_known_9 ?_
  refine V.iload_n F d_T_known_12 rfl 3 rfl ?_
  refine V.iload_n F d_T_known_13 rfl 4 rfl ?_
  refine V.callSI0 (As := [.int (t), .int (kd)]) (rest := []) F (c_areTK l D _ ct t kd) d_T_known_14 sv_T_44 st_y_T_areThingAndKind rfl rfl (Nat.le_of_ble_eq_true rfl) ⟨rfl, rfl, (Nat.le_of_ble_eq_true rfl), (Nat.le_of_ble_eq_true rfl)⟩ ⟨(Nat.le_of_ble_eq_true rfl), (Nat.le_of_ble_eq_true rfl)⟩ (fun r9 u9 h9 => ?_)
  obtain ⟨rfl, rfl⟩ := h9
  refine V.if_neB (b := decide (¬ t < 0 ∧ ¬ nI 100 ≤ t ∧ ¬ kd < 0 ∧ ¬ nI 10 ≤ kd)) (tgt := 24) F d_T_known_17 (by decide) (fun c17 => ?_) (fun c17 => ?_)
  · skip
    exact absurd (c17.symm.trans hz) (by decide)
  · skip
    refine V.ldc2 F d_T_known_20 (v := -9223372036854775808) lk_T_86 ?_
    exact V.lret F hr d_T_known_23 (⟨rfl, rfl⟩)

set_option maxHeartbeats 4000000 in
set_option maxRecDepth 100000 in
theorem c_kn (l : Launch) (D : va_G) {ct : Nat → ClassId} {ad : Nat → Nat} {da : Nat → Nat → Nat} {nd : Nat} {nb : Nat} {nf : Nat} {bdk : Nat → Nat} {num : Nat → Nat} {spt : Nat → Nat} {val : Nat → Int64} {tim : Nat → Nat} {rep : Nat → Nat → Bool} {byN : Nat → Nat} {byS : Nat → Nat} {pk : Nat → Bool} {kn : Nat → Nat → Bool} {pe : Nat → Nat → Bool} {clk : Nat → Nat} {tol : Nat → Nat} {opn : Nat → Option Nat} (hnf : nf ≤ 300) (hnd : nd ≤ 8) (d : Nat) (hd0 : d < nd) (hspt : ∀ k, k < nf → spt k < 2 ^ 31) (htim : ∀ k, k < nf → tim k < 2 ^ 31) (hnum : ∀ k, k < nf → num k < 2 ^ 31) (t kd : Nat) (ht : t < 100) (hkd : kd < 10) (y on : Int64) : CL l y_T_known b_T_known 10 (some .long) (rmK 4 0 0) D (tyL ct) (CW ct ad da nd nb nf bdk num spt val tim rep byN byS pk kn pe clk tol opn) [.ref (ad 0), .int (nI (d)), .int (nI (t)), .int (nI (kd)), .long (y), .long (on)] 0 0 (fun r u => ∃ (P : Nat → Bool) (b : Option Nat), (∀ k, k < 320 → P k = (decide (k < nf) && (decide (¬ on < lN (tim k)) && kn d k))) ∧ ((∀ g, b = some g → g < nf ∧ (spt g / 100001 = t * 10 + kd ∧ ¬ y < lN (spt g % 100001) ∧ stB P rep g = true) ∧ ∀ k, k < nf → (spt k / 100001 = t * 10 + kd ∧ ¬ y < lN (spt k % 100001) ∧ stB P rep k = true) → ltB spt tim num k g = false) ∧ (b = none → ∀ k, k < nf → ¬ (spt k / 100001 = t * 10 + kd ∧ ¬ y < lN (spt k % 100001) ∧ stB P rep k = true))) ∧ r = (match b with | none => -9223372036854775808 | some g => val g) ∧ u = CW ct ad da nd nb nf bdk num spt val tim rep byN byS P kn pe clk tol opn) := by
  refine CL.start (by decide) (Nat.le_of_ble_eq_true rfl) ?_
  intro p e s m below meth c F hr hnm
  show V p l e (rmK 4 0 0) s m [.ref (ad 0), .int (nI (d)), .int (nI (t)), .int (nI (kd)), .long (y), .long (on)].toArray below meth c D (va_A (CW ct ad da nd nb nf bdk num spt val tim rep byN byS pk kn pe clk tol opn) s.heap.size) 10 0 0 (EL D below (CW ct ad da nd nb nf bdk num spt val tim rep byN byS pk kn pe clk tol opn) [.ref (ad 0), .int (nI (d)), .int (nI (t)), .int (nI (kd)), .long (y), .long (on)].toArray s 0 0 (fun r u => ∃ (P : Nat → Bool) (b : Option Nat), (∀ k, k < 320 → P k = (decide (k < nf) && (decide (¬ on < lN (tim k)) && kn d k))) ∧ ((∀ g, b = some g → g < nf ∧ (spt g / 100001 = t * 10 + kd ∧ ¬ y < lN (spt g % 100001) ∧ stB P rep g = true) ∧ ∀ k, k < nf → (spt k / 100001 = t * 10 + kd ∧ ¬ y < lN (spt k % 100001) ∧ stB P rep k = true) → ltB spt tim num k g = false) ∧ (b = none → ∀ k, k < nf → ¬ (spt k / 100001 = t * 10 + kd ∧ ¬ y < lN (spt k % 100001) ∧ stB P rep k = true))) ∧ r = (match b with | none => -9223372036854775808 | some g => val g) ∧ u = CW ct ad da nd nb nf bdk num spt val tim rep byN byS P kn pe clk tol opn)) (CW ct ad da nd nb nf bdk num spt val tim rep byN byS pk kn pe clk tol opn) [(0, .ref (ad 0)), (1, .int (nI (d))), (2, .int (nI (t))), (3, .int (nI (kd))), (4, .long (y)), (6, .long (on))] 0 []
  refine V.aload_n F d_T_known_0 rfl 0 rfl ?_
  refine V.iload_n F d_T_known_1 rfl 1 rfl ?_
  refine V.callVQ0 (As := [.int (nI (d))]) (rest := []) F (c_deskAt l D hnd d hd0) d_T_known_2 sv_T_40 im_y_T_deskAt sl_y_T_deskAt 0 rfl rfl rfl rfl rfl (Nat.le_of_ble_eq_true rfl) ⟨rfl, rfl, (Nat.le_of_ble_eq_true rfl), (Nat.le_of_ble_eq_true rfl)⟩ ⟨(Nat.le_of_ble_eq_true rfl), (Nat.le_of_ble_eq_true rfl)⟩ (fun r9 u9 h9 => ?_)
  obtain ⟨rfl, rfl⟩ := h9
  refine V.astore (lv2 := [(8, .ref (da (d) 0)), (0, .ref (ad 0)), (1, .int (nI (d))), (2, .int (nI (t))), (3, .int (nI (kd))), (4, .long (y)), (6, .long (on))]) F d_T_known_5 (by decide) rfl ?_
  refine V.aload F d_T_known_7 0 rfl ?_
  refine V.ifnull F d_T_known_9 ?_
  refine V.iload_n F d_T_known_12 rfl 3 rfl ?_
  refine V.iload_n F d_T_known_13 rfl 4 rfl ?_
  refine V.callSI0 (As := [.int (nI (t)), .int (nI (kd))]) (rest := []) F (c_areTK l D _ ct (nI t) (nI kd)) d_T_known_14 sv_T_44 st_y_T_areThingAndKind rfl rfl (Nat.le_of_ble_eq_true rfl) ⟨rfl, rfl, (Nat.le_of_ble_eq_true rfl), (Nat.le_of_ble_eq_true rfl)⟩ ⟨(Nat.le_of_ble_eq_true rfl), (Nat.le_of_ble_eq_true rfl)⟩ (fun r9 u9 h9 => ?_)
  obtain ⟨rfl, rfl⟩ := h9
  refine V.if_neB (b := decide (¬ nI t < 0 ∧ ¬ nI 100 ≤ nI t ∧ ¬ nI kd < 0 ∧ ¬ nI 10 ≤ nI kd)) (tgt := 24) F d_T_known_17 (by decide) (fun c17 => ?_) (fun c17 => ?_)
  · skip
    refine V.aload_n F d_T_known_24 rfl 1 rfl ?_
    refine V.get F ck_T d_T_known_25 2 (by decide) lk_T_22 0 rfl rfl ?_
    refine V.lload F d_T_known_28 6 rfl ?_
    refine V.aload F d_T_known_30 0 rfl ?_
    refine V.getN F ck_K d_T_known_32 1 (by decide) lk_T_65 (13 + (5 * (d) + 0)) (cw_d0 hd0) rfl ?_
    refine V.aload_n F d_T_known_35 rfl 1 rfl ?_
    refine V.get F ck_T d_T_known_36 3 (by decide) lk_T_29 0 rfl rfl ?_
    refine V.callVV0 (As := [.long (on), .ref (da (d) 1), .ref (ad 11)]) (rest := []) F (c_pickToldBy l D hnf d hd0 on htim) d_T_known_39 sv_T_88 im_y_A_pickToldBy sl_y_A_pickToldBy 3 rfl rfl rfl rfl rfl (Nat.le_of_ble_eq_true rfl) ⟨rfl, rfl, (Nat.le_of_ble_eq_true rfl), (Nat.le_of_ble_eq_true rfl)⟩ ⟨(Nat.le_of_ble_eq_true rfl), (Nat.le_of_ble_eq_true rfl)⟩ (fun u9 h9 => ?_)
    obtain ⟨P, hP, rfl⟩ := h9
    refine V.aload_n F d_T_known_42 rfl 1 rfl ?_
    refine V.get F ck_T d_T_known_43 2 (by decide) lk_T_22 0 rfl rfl ?_
    refine V.aload_n F d_T_known_46 rfl 1 rfl ?_
    refine V.get F ck_T d_T_known_47 3 (by decide) lk_T_29 0 rfl rfl ?_
    refine V.iload_n F d_T_known_50 rfl 3 rfl ?_
    refine V.iload_n F d_T_known_51 rfl 4 rfl ?_
    refine V.lload F d_T_known_52 5 rfl ?_
    refine V.callVI0 (As := [.ref (ad 11), .int (nI (t)), .int (nI (kd)), .long (y)]) (rest := []) F (c_latest l D hnf t kd ht hkd y hspt htim hnum) d_T_known_54 sv_T_92 im_y_A_latestStanding sl_y_A_latestStanding 3 rfl rfl rfl rfl rfl (Nat.le_of_ble_eq_true rfl) ⟨rfl, rfl, (Nat.le_of_ble_eq_true rfl), (Nat.le_of_ble_eq_true rfl)⟩ ⟨(Nat.le_of_ble_eq_true rfl), (Nat.le_of_ble_eq_true rfl)⟩ (fun r9 u9 h9 => ?_)
    obtain ⟨⟨b, rfl, hb⟩, rfl⟩ := h9
    refine V.istore (lv2 := [(9, .int (oI b)), (8, .ref (da (d) 0)), (0, .ref (ad 0)), (1, .int (nI (d))), (2, .int (nI (t))), (3, .int (nI (kd))), (4, .long (y)), (6, .long (on))]) F d_T_known_57 (by decide) rfl ?_
    refine V.iload F d_T_known_59 0 rfl ?_
    refine V.iconst F d_T_known_61 (v := -1) (by decide) ?_
    refine V.icmp_ne (x := oI b) (y := -1) (tgt := 71) F d_T_known_62 (by decide) (fun c62 => ?_) (fun c62 => ?_)
    · skip
      obtain ⟨g, rfl⟩ := oI_some c62
      have hg9 := (hb.1 g rfl).1
      refine V.aload_n F d_T_known_71 rfl 2 rfl ?_
      refine V.get F ck_T d_T_known_72 2 (by decide) lk_T_22 0 rfl rfl ?_
      refine V.getN F ck_A d_T_known_75 2 (by decide) lk_T_96 3 rfl rfl ?_
      refine V.iload F d_T_known_78 0 rfl ?_
      refine V.lald (v := val (g)) F d_T_known_80 6 1 rfl rfl (by omega) (by decide) rfl ?_
      exact V.lret F hr d_T_known_81 (⟨P, some g, hP, hb, rfl, rfl⟩)
    · skip
      have hbn := oI_none (fun g e9 => by have := (hb.1 g e9).1; omega) c62
      refine V.ldc2 F d_T_known_65 (v := -9223372036854775808) lk_T_86 ?_
      refine V.goto (tgt := 81) F d_T_known_68 (by decide) ?_
      exact V.lret F hr d_T_known_81 (⟨P, none, hP, by rw [hbn] at hb; exact hb, rfl, rfl⟩)
  · skip
    exact absurd c17 (by rw [tk_ok ht hkd]; decide)

set_option maxHeartbeats 4000000 in
set_option maxRecDepth 100000 in
theorem c_cfNo (l : Launch) (D : va_G) {ct : Nat → ClassId} {ad : Nat → Nat} {da : Nat → Nat → Nat} {nd : Nat} {nb : Nat} {nf : Nat} {bdk : Nat → Nat} {num : Nat → Nat} {spt : Nat → Nat} {val : Nat → Int64} {tim : Nat → Nat} {rep : Nat → Nat → Bool} {byN : Nat → Nat} {byS : Nat → Nat} {pk : Nat → Bool} {kn : Nat → Nat → Bool} {pe : Nat → Nat → Bool} {clk : Nat → Nat} {tol : Nat → Nat} {opn : Nat → Option Nat} (x0 k x : Int32) (hx : x0 < 0 ∨ nI nd ≤ x0) : CI l y_T_conflict b_T_conflict 6 (some .int) (rmK 5 0 0) D (tyL ct) (CW ct ad da nd nb nf bdk num spt val tim rep byN byS pk kn pe clk tol opn) [.ref (ad 0), .int (x0), .int (k), .int (x)] 0 0 (fun r u => r = -1 ∧ u = CW ct ad da nd nb nf bdk num spt val tim rep byN byS pk kn pe clk tol opn) := by
  refine CI.start (by decide) (Nat.le_of_ble_eq_true rfl) ?_
  intro p e s m below meth c F hr hnm
  show V p l e (rmK 5 0 0) s m [.ref (ad 0), .int (x0), .int (k), .int (x)].toArray below meth c D (va_A (CW ct ad da nd nb nf bdk num spt val tim rep byN byS pk kn pe clk tol opn) s.heap.size) 6 0 0 (EI D below (CW ct ad da nd nb nf bdk num spt val tim rep byN byS pk kn pe clk tol opn) [.ref (ad 0), .int (x0), .int (k), .int (x)].toArray s 0 0 (fun r u => r = -1 ∧ u = CW ct ad da nd nb nf bdk num spt val tim rep byN byS pk kn pe clk tol opn)) (CW ct ad da nd nb nf bdk num spt val tim rep byN byS pk kn pe clk tol opn) [(0, .ref (ad 0)), (1, .int (x0)), (2, .int (k)), (3, .int (x))] 0 []
  refine V.aload_n F d_T_conflict_0 rfl 0 rfl ?_
  refine V.iload_n F d_T_conflict_1 rfl 1 rfl ?_
  refine V.callVQ0 (As := [.int (x0)]) (rest := []) F (c_deskNo l D x0 hx) d_T_conflict_2 sv_T_40 im_y_T_deskAt sl_y_T_deskAt 0 rfl rfl rfl rfl rfl (Nat.le_of_ble_eq_true rfl) ⟨rfl, rfl, (Nat.le_of_ble_eq_true rfl), (Nat.le_of_ble_eq_true rfl)⟩ ⟨(Nat.le_of_ble_eq_true rfl), (Nat.le_of_ble_eq_true rfl)⟩ (fun r9 u9 h9 => ?_)
  obtain ⟨rfl, rfl⟩ := h9
  refine V.astoreN (lv2 := [(4, .null), (0, .ref (ad 0)), (1, .int (x0)), (2, .int (k)), (3, .int (x))]) F d_T_conflict_5 (by decide) rfl ?_
  refine V.aloadN F d_T_conflict_7 0 rfl ?_
  refine V.ifnullN (tgt := 20) F d_T_conflict_9 (by decide) ?_
  refine V.iconst F d_T_conflict_20 (v := -1) (by decide) ?_
  exact V.iret F hr d_T_conflict_21 (⟨rfl, rfl⟩)

set_option maxHeartbeats 4000000 in
set_option maxRecDepth 100000 in
theorem c_cfNeg (l : Launch) (D : va_G) {ct : Nat → ClassId} {ad : Nat → Nat} {da : Nat → Nat → Nat} {nd : Nat} {nb : Nat} {nf : Nat} {bdk : Nat → Nat} {num : Nat → Nat} {spt : Nat → Nat} {val : Nat → Int64} {tim : Nat → Nat} {rep : Nat → Nat → Bool} {byN : Nat → Nat} {byS : Nat → Nat} {pk : Nat → Bool} {kn : Nat → Nat → Bool} {pe : Nat → Nat → Bool} {clk : Nat → Nat} {tol : Nat → Nat} {opn : Nat → Option Nat} (hnd : nd ≤ 8) (d : Nat) (hd0 : d < nd) (k x : Int32) (hx : k < 0 ∨ x < 0) : CI l y_T_conflict b_T_conflict 6 (some .int) (rmK 5 0 0) D (tyL ct) (CW ct ad da nd nb nf bdk num spt val tim rep byN byS pk kn pe clk tol opn) [.ref (ad 0), .int (nI (d)), .int (k), .int (x)] 0 0 (fun r u => r = -1 ∧ u = CW ct ad da nd nb nf bdk num spt val tim rep byN byS pk kn pe clk tol opn) := by
  refine CI.start (by decide) (Nat.le_of_ble_eq_true rfl) ?_
  intro p e s m below meth c F hr hnm
  show V p l e (rmK 5 0 0) s m [.ref (ad 0), .int (nI (d)), .int (k), .int (x)].toArray below meth c D (va_A (CW ct ad da nd nb nf bdk num spt val tim rep byN byS pk kn pe clk tol opn) s.heap.size) 6 0 0 (EI D below (CW ct ad da nd nb nf bdk num spt val tim rep byN byS pk kn pe clk tol opn) [.ref (ad 0), .int (nI (d)), .int (k), .int (x)].toArray s 0 0 (fun r u => r = -1 ∧ u = CW ct ad da nd nb nf bdk num spt val tim rep byN byS pk kn pe clk tol opn)) (CW ct ad da nd nb nf bdk num spt val tim rep byN byS pk kn pe clk tol opn) [(0, .ref (ad 0)), (1, .int (nI (d))), (2, .int (k)), (3, .int (x))] 0 []
  refine V.aload_n F d_T_conflict_0 rfl 0 rfl ?_
  refine V.iload_n F d_T_conflict_1 rfl 1 rfl ?_
  refine V.callVQ0 (As := [.int (nI (d))]) (rest := []) F (c_deskAt l D hnd d hd0) d_T_conflict_2 sv_T_40 im_y_T_deskAt sl_y_T_deskAt 0 rfl rfl rfl rfl rfl (Nat.le_of_ble_eq_true rfl) ⟨rfl, rfl, (Nat.le_of_ble_eq_true rfl), (Nat.le_of_ble_eq_true rfl)⟩ ⟨(Nat.le_of_ble_eq_true rfl), (Nat.le_of_ble_eq_true rfl)⟩ (fun r9 u9 h9 => ?_)
  obtain ⟨rfl, rfl⟩ := h9
  refine V.astore (lv2 := [(4, .ref (da (d) 0)), (0, .ref (ad 0)), (1, .int (nI (d))), (2, .int (k)), (3, .int (x))]) F d_T_conflict_5 (by decide) rfl ?_
  refine V.aload F d_T_conflict_7 0 rfl ?_
  refine V.ifnull F d_T_conflict_9 ?_
  refine V.iload_n F d_T_conflict_12 rfl 3 rfl ?_
  refine V.if_lt (x := k) (tgt := 20) F d_T_conflict_13 (by decide) (fun c13 => ?_) (fun c13 => ?_)
  · skip
    refine V.iconst F d_T_conflict_20 (v := -1) (by decide) ?_
    exact V.iret F hr d_T_conflict_21 (⟨rfl, rfl⟩)
  · skip
    refine V.iload_n F d_T_conflict_16 rfl 4 rfl ?_
    refine V.if_ge (x := x) (tgt := 22) F d_T_conflict_17 (by decide) (fun c17 => ?_) (fun c17 => ?_)
    · skip
      exact absurd hx (fun q => q.elim c13 (i32_ge c17))
    · skip
      refine V.iconst F d_T_conflict_20 (v := -1) (by decide) ?_
      exact V.iret F hr d_T_conflict_21 (⟨rfl, rfl⟩)

set_option maxHeartbeats 4000000 in
set_option maxRecDepth 100000 in
theorem c_cfNF (l : Launch) (D : va_G) {ct : Nat → ClassId} {ad : Nat → Nat} {da : Nat → Nat → Nat} {nd : Nat} {nb : Nat} {nf : Nat} {bdk : Nat → Nat} {num : Nat → Nat} {spt : Nat → Nat} {val : Nat → Int64} {tim : Nat → Nat} {rep : Nat → Nat → Bool} {byN : Nat → Nat} {byS : Nat → Nat} {pk : Nat → Bool} {kn : Nat → Nat → Bool} {pe : Nat → Nat → Bool} {clk : Nat → Nat} {tol : Nat → Nat} {opn : Nat → Option Nat} (hnf : nf ≤ 300) (hnd : nd ≤ 8) (d : Nat) (hd0 : d < nd) (hbS : ∀ j, j < nf → byS j < nf) (hspt : ∀ k, k < nf → spt k < 2 ^ 31) (hso : ∀ a b, a ≤ b → b < nf → spt (byS a) ≤ spt (byS b)) (hsu : ∀ f, f < nf → ∃ a, a < nf ∧ byS a = f) (k : Int32) (hk : ¬ k < 0) (ww : Nat) (hww : ww < 2 ^ 31) (hsn : ∀ m, m < nf → (fun a => decide (0 ≤ spt (byS a)) && (isF spt byS a && cfB spt val (stB (kn d) rep) nf (spt (byS a)))) m = true → ¬ k = nI (cnt (fun a => decide (0 ≤ spt (byS a)) && (isF spt byS a && cfB spt val (stB (kn d) rep) nf (spt (byS a)))) m)) : CI l y_T_conflict b_T_conflict 6 (some .int) (rmK 5 0 0) D (tyL ct) (CW ct ad da nd nb nf bdk num spt val tim rep byN byS pk kn pe clk tol opn) [.ref (ad 0), .int (nI (d)), .int (k), .int (nI (ww))] 0 0 (fun r u => r = -1 ∧ u = CW ct ad da nd nb nf bdk num spt val tim rep byN byS pk kn pe clk tol opn) := by
  refine CI.start (by decide) (Nat.le_of_ble_eq_true rfl) ?_
  intro p e s m below meth c F hr hnm
  show V p l e (rmK 5 0 0) s m [.ref (ad 0), .int (nI (d)), .int (k), .int (nI (ww))].toArray below meth c D (va_A (CW ct ad da nd nb nf bdk num spt val tim rep byN byS pk kn pe clk tol opn) s.heap.size) 6 0 0 (EI D below (CW ct ad da nd nb nf bdk num spt val tim rep byN byS pk kn pe clk tol opn) [.ref (ad 0), .int (nI (d)), .int (k), .int (nI (ww))].toArray s 0 0 (fun r u => r = -1 ∧ u = CW ct ad da nd nb nf bdk num spt val tim rep byN byS pk kn pe clk tol opn)) (CW ct ad da nd nb nf bdk num spt val tim rep byN byS pk kn pe clk tol opn) [(0, .ref (ad 0)), (1, .int (nI (d))), (2, .int (k)), (3, .int (nI (ww)))] 0 []
  refine V.aload_n F d_T_conflict_0 rfl 0 rfl ?_
  refine V.iload_n F d_T_conflict_1 rfl 1 rfl ?_
  refine V.callVQ0 (As := [.int (nI (d))]) (rest := []) F (c_deskAt l D hnd d hd0) d_T_conflict_2 sv_T_40 im_y_T_deskAt sl_y_T_deskAt 0 rfl rfl rfl rfl rfl (Nat.le_of_ble_eq_true rfl) ⟨rfl, rfl, (Nat.le_of_ble_eq_true rfl), (Nat.le_of_ble_eq_true rfl)⟩ ⟨(Nat.le_of_ble_eq_true rfl), (Nat.le_of_ble_eq_true rfl)⟩ (fun r9 u9 h9 => ?_)
  obtain ⟨rfl, rfl⟩ := h9
  refine V.astore (lv2 := [(4, .ref (da (d) 0)), (0, .ref (ad 0)), (1, .int (nI (d))), (2, .int (k)), (3, .int (nI (ww)))]) F d_T_conflict_5 (by decide) rfl ?_
  refine V.aload F d_T_conflict_7 0 rfl ?_
  refine V.ifnull F d_T_conflict_9 ?_
  refine V.iload_n F d_T_conflict_12 rfl 3 rfl ?_
  refine V.if_lt (x := k) (tgt := 20) F d_T_conflict_13 (by decide) (fun c13 => ?_) (fun c13 => ?_)
  · skip
    exact absurd c13 hk
  · skip
    refine V.iload_n F d_T_conflict_16 rfl 4 rfl ?_
    refine V.if_ge (x := nI (ww)) (tgt := 22) F d_T_conflict_17 (by decide) (fun c17 => ?_) (fun c17 => ?_)
    · skip
      refine V.aload_n F d_T_conflict_22 rfl 1 rfl ?_
      refine V.get F ck_T d_T_conflict_23 2 (by decide) lk_T_22 0 rfl rfl ?_
      refine V.aload F d_T_conflict_26 0 rfl ?_
      refine V.getN F ck_K d_T_conflict_28 1 (by decide) lk_T_65 (13 + (5 * (d) + 0)) (cw_d0 hd0) rfl ?_
      refine V.iconst F d_T_conflict_31 (v := nI (0)) (by decide) ?_
      refine V.iload_n F d_T_conflict_32 rfl 3 rfl ?_
      refine V.callVI0 (As := [.ref (da (d) 1), .int (nI (0)), .int (k)]) (rest := []) F (c_cfSpot l D hnf hbS hspt hso hsu d hd0 (0) (by decide) (k)) d_T_conflict_33 sv_T_100 im_y_A_conflictSpot sl_y_A_conflictSpot 3 rfl rfl rfl rfl rfl (Nat.le_of_ble_eq_true rfl) ⟨rfl, rfl, (Nat.le_of_ble_eq_true rfl), (Nat.le_of_ble_eq_true rfl)⟩ ⟨(Nat.le_of_ble_eq_true rfl), (Nat.le_of_ble_eq_true rfl)⟩ (fun r9 u9 h9 => ?_)
      obtain ⟨h9, rfl⟩ := h9
      have e9 := kth_no (G2 := (fun a => decide (0 ≤ spt (byS a)) && (isF spt byS a && cfB spt val (stB (kn d) rep) nf (spt (byS a))))) (R := fun m => nI (spt (byS m))) h9 (fun j hj => rfl) hsn
      subst e9
      refine V.istore (lv2 := [(5, .int (-1)), (4, .ref (da (d) 0)), (0, .ref (ad 0)), (1, .int (nI (d))), (2, .int (k)), (3, .int (nI (ww)))]) F d_T_conflict_36 (by decide) rfl ?_
      refine V.iload F d_T_conflict_38 0 rfl ?_
      refine V.iconst F d_T_conflict_40 (v := -1) (by decide) ?_
      refine V.icmp_ne (x := -1) (y := -1) (tgt := 46) F d_T_conflict_41 (by decide) (fun c41 => ?_) (fun c41 => ?_)
      · skip
        exact absurd rfl c41
      · skip
        refine V.iconst F d_T_conflict_44 (v := -1) (by decide) ?_
        exact V.iret F hr d_T_conflict_45 (⟨rfl, rfl⟩)
    · skip
      exact absurd (nI_pos' hww) c17

set_option maxHeartbeats 4000000 in
set_option maxRecDepth 100000 in
theorem c_cf0 (l : Launch) (D : va_G) {ct : Nat → ClassId} {ad : Nat → Nat} {da : Nat → Nat → Nat} {nd : Nat} {nb : Nat} {nf : Nat} {bdk : Nat → Nat} {num : Nat → Nat} {spt : Nat → Nat} {val : Nat → Int64} {tim : Nat → Nat} {rep : Nat → Nat → Bool} {byN : Nat → Nat} {byS : Nat → Nat} {pk : Nat → Bool} {kn : Nat → Nat → Bool} {pe : Nat → Nat → Bool} {clk : Nat → Nat} {tol : Nat → Nat} {opn : Nat → Option Nat} (hnf : nf ≤ 300) (hnd : nd ≤ 8) (d : Nat) (hd0 : d < nd) (hbS : ∀ j, j < nf → byS j < nf) (hspt : ∀ k, k < nf → spt k < 2 ^ 31) (hso : ∀ a b, a ≤ b → b < nf → spt (byS a) ≤ spt (byS b)) (hsu : ∀ f, f < nf → ∃ a, a < nf ∧ byS a = f) (hbN : ∀ j, j < nf → byN j < nf) (k : Int32) (hk : ¬ k < 0) (s0 : Nat) (hs : s0 < nf) (hsG : (fun a => decide (0 ≤ spt (byS a)) && (isF spt byS a && cfB spt val (stB (kn d) rep) nf (spt (byS a)))) s0 = true) (hsk : k = nI (cnt (fun a => decide (0 ≤ spt (byS a)) && (isF spt byS a && cfB spt val (stB (kn d) rep) nf (spt (byS a)))) s0)) (sp : Nat) (hsp : spt (byS s0) = sp) : CI l y_T_conflict b_T_conflict 6 (some .int) (rmK 5 0 0) D (tyL ct) (CW ct ad da nd nb nf bdk num spt val tim rep byN byS pk kn pe clk tol opn) [.ref (ad 0), .int (nI (d)), .int (k), .int (nI (0))] 0 0 (fun r u => r = nI (sp / 100001 / 10) ∧ ∃ P : Nat → Bool, u = CW ct ad da nd nb nf bdk num spt val tim rep byN byS P kn pe clk tol opn) := by
  refine CI.start (by decide) (Nat.le_of_ble_eq_true rfl) ?_
  intro p e s m below meth c F hr hnm
  show V p l e (rmK 5 0 0) s m [.ref (ad 0), .int (nI (d)), .int (k), .int (nI (0))].toArray below meth c D (va_A (CW ct ad da nd nb nf bdk num spt val tim rep byN byS pk kn pe clk tol opn) s.heap.size) 6 0 0 (EI D below (CW ct ad da nd nb nf bdk num spt val tim rep byN byS pk kn pe clk tol opn) [.ref (ad 0), .int (nI (d)), .int (k), .int (nI (0))].toArray s 0 0 (fun r u => r = nI (sp / 100001 / 10) ∧ ∃ P : Nat → Bool, u = CW ct ad da nd nb nf bdk num spt val tim rep byN byS P kn pe clk tol opn)) (CW ct ad da nd nb nf bdk num spt val tim rep byN byS pk kn pe clk tol opn) [(0, .ref (ad 0)), (1, .int (nI (d))), (2, .int (k)), (3, .int (nI (0)))] 0 []
  have hsb : sp < 2 ^ 31 := by have := hspt _ (hbS s0 hs); omega
  refine V.aload_n F d_T_conflict_0 rfl 0 rfl ?_
  refine V.iload_n F d_T_conflict_1 rfl 1 rfl ?_
  refine V.callVQ0 (As := [.int (nI (d))]) (rest := []) F (c_deskAt l D hnd d hd0) d_T_conflict_2 sv_T_40 im_y_T_deskAt sl_y_T_deskAt 0 rfl rfl rfl rfl rfl (Nat.le_of_ble_eq_true rfl) ⟨rfl, rfl, (Nat.le_of_ble_eq_true rfl), (Nat.le_of_ble_eq_true rfl)⟩ ⟨(Nat.le_of_ble_eq_true rfl), (Nat.le_of_ble_eq_true rfl)⟩ (fun r9 u9 h9 => ?_)
  obtain ⟨rfl, rfl⟩ := h9
  refine V.astore (lv2 := [(4, .ref (da (d) 0)), (0, .ref (ad 0)), (1, .int (nI (d))), (2, .int (k)), (3, .int (nI (0)))]) F d_T_conflict_5 (by decide) rfl ?_
  refine V.aload F d_T_conflict_7 0 rfl ?_
  refine V.ifnull F d_T_conflict_9 ?_
  refine V.iload_n F d_T_conflict_12 rfl 3 rfl ?_
  refine V.if_lt (x := k) (tgt := 20) F d_T_conflict_13 (by decide) (fun c13 => ?_) (fun c13 => ?_)
  · skip
    exact absurd c13 hk
  · skip
    refine V.iload_n F d_T_conflict_16 rfl 4 rfl ?_
    refine V.if_ge (x := nI (0)) (tgt := 22) F d_T_conflict_17 (by decide) (fun c17 => ?_) (fun c17 => ?_)
    · skip
      refine V.aload_n F d_T_conflict_22 rfl 1 rfl ?_
      refine V.get F ck_T d_T_conflict_23 2 (by decide) lk_T_22 0 rfl rfl ?_
      refine V.aload F d_T_conflict_26 0 rfl ?_
      refine V.getN F ck_K d_T_conflict_28 1 (by decide) lk_T_65 (13 + (5 * (d) + 0)) (cw_d0 hd0) rfl ?_
      refine V.iconst F d_T_conflict_31 (v := nI (0)) (by decide) ?_
      refine V.iload_n F d_T_conflict_32 rfl 3 rfl ?_
      refine V.callVI0 (As := [.ref (da (d) 1), .int (nI (0)), .int (k)]) (rest := []) F (c_cfSpot l D hnf hbS hspt hso hsu d hd0 (0) (by decide) (k)) d_T_conflict_33 sv_T_100 im_y_A_conflictSpot sl_y_A_conflictSpot 3 rfl rfl rfl rfl rfl (Nat.le_of_ble_eq_true rfl) ⟨rfl, rfl, (Nat.le_of_ble_eq_true rfl), (Nat.le_of_ble_eq_true rfl)⟩ ⟨(Nat.le_of_ble_eq_true rfl), (Nat.le_of_ble_eq_true rfl)⟩ (fun r9 u9 h9 => ?_)
      obtain ⟨h9, rfl⟩ := h9
      have e9 := kth_yes (G2 := (fun a => decide (0 ≤ spt (byS a)) && (isF spt byS a && cfB spt val (stB (kn d) rep) nf (spt (byS a))))) (R := fun m => nI (spt (byS m))) hnf h9 (fun j hj => rfl) hs hsG hsk
      rw [hsp] at e9
      subst e9
      refine V.istore (lv2 := [(5, .int (nI (sp))), (4, .ref (da (d) 0)), (0, .ref (ad 0)), (1, .int (nI (d))), (2, .int (k)), (3, .int (nI (0)))]) F d_T_conflict_36 (by decide) rfl ?_
      refine V.iload F d_T_conflict_38 0 rfl ?_
      refine V.iconst F d_T_conflict_40 (v := -1) (by decide) ?_
      refine V.icmp_ne (x := nI (sp)) (y := -1) (tgt := 46) F d_T_conflict_41 (by decide) (fun c41 => ?_) (fun c41 => ?_)
      · skip
        refine V.aload_n F d_T_conflict_46 rfl 2 rfl ?_
        refine V.get F ck_T d_T_conflict_47 2 (by decide) lk_T_22 0 rfl rfl ?_
        refine V.aload F d_T_conflict_50 1 rfl ?_
        refine V.getN F ck_K d_T_conflict_52 1 (by decide) lk_T_65 (13 + (5 * (d) + 0)) (cw_d0 hd0) rfl ?_
        refine V.iload F d_T_conflict_55 0 rfl ?_
        refine V.aload_n F d_T_conflict_57 rfl 2 rfl ?_
        refine V.get F ck_T d_T_conflict_58 3 (by decide) lk_T_29 0 rfl rfl ?_
        refine V.callVV0 (As := [.ref (da (d) 1), .int (nI (sp)), .ref (ad 11)]) (rest := []) F (c_pickStanding l D hnf d hd0 sp (by have := hspt _ (hbS s0 hs); omega) hspt) d_T_conflict_61 sv_T_104 im_y_A_pickStanding sl_y_A_pickStanding 3 rfl rfl rfl rfl rfl (Nat.le_of_ble_eq_true rfl) ⟨rfl, rfl, (Nat.le_of_ble_eq_true rfl), (Nat.le_of_ble_eq_true rfl)⟩ ⟨(Nat.le_of_ble_eq_true rfl), (Nat.le_of_ble_eq_true rfl)⟩ (fun u9 h9 => ?_)
        obtain ⟨P, hP, rfl⟩ := h9
        refine V.iload_n F d_T_conflict_64 rfl 5 rfl ?_
        refine V.tableIn (tgt := 96) (off := 31) F d_T_conflict_65 (by decide) (by decide) (by decide) (by decide) ?_
        refine V.iload F d_T_conflict_96 0 rfl ?_
        refine V.callSI0 (As := [.int (nI (sp))]) (rest := []) F (c_thingOf l D _ ct sp hsb) d_T_conflict_98 sv_T_108 st_y_T_thingOf rfl rfl (Nat.le_of_ble_eq_true rfl) ⟨rfl, rfl, (Nat.le_of_ble_eq_true rfl), (Nat.le_of_ble_eq_true rfl)⟩ ⟨(Nat.le_of_ble_eq_true rfl), (Nat.le_of_ble_eq_true rfl)⟩ (fun r9 u9 h9 => ?_)
        obtain ⟨rfl, rfl⟩ := h9
        exact V.iret F hr d_T_conflict_101 (⟨rfl, P, rfl⟩)
      · skip
        exact absurd c41 (nI_nm1 (by omega))
    · skip
      exact absurd (nI_pos' (by omega)) c17

set_option maxHeartbeats 4000000 in
set_option maxRecDepth 100000 in
theorem c_cf1 (l : Launch) (D : va_G) {ct : Nat → ClassId} {ad : Nat → Nat} {da : Nat → Nat → Nat} {nd : Nat} {nb : Nat} {nf : Nat} {bdk : Nat → Nat} {num : Nat → Nat} {spt : Nat → Nat} {val : Nat → Int64} {tim : Nat → Nat} {rep : Nat → Nat → Bool} {byN : Nat → Nat} {byS : Nat → Nat} {pk : Nat → Bool} {kn : Nat → Nat → Bool} {pe : Nat → Nat → Bool} {clk : Nat → Nat} {tol : Nat → Nat} {opn : Nat → Option Nat} (hnf : nf ≤ 300) (hnd : nd ≤ 8) (d : Nat) (hd0 : d < nd) (hbS : ∀ j, j < nf → byS j < nf) (hspt : ∀ k, k < nf → spt k < 2 ^ 31) (hso : ∀ a b, a ≤ b → b < nf → spt (byS a) ≤ spt (byS b)) (hsu : ∀ f, f < nf → ∃ a, a < nf ∧ byS a = f) (hbN : ∀ j, j < nf → byN j < nf) (k : Int32) (hk : ¬ k < 0) (s0 : Nat) (hs : s0 < nf) (hsG : (fun a => decide (0 ≤ spt (byS a)) && (isF spt byS a && cfB spt val (stB (kn d) rep) nf (spt (byS a)))) s0 = true) (hsk : k = nI (cnt (fun a => decide (0 ≤ spt (byS a)) && (isF spt byS a && cfB spt val (stB (kn d) rep) nf (spt (byS a)))) s0)) (sp : Nat) (hsp : spt (byS s0) = sp) : CI l y_T_conflict b_T_conflict 6 (some .int) (rmK 5 0 0) D (tyL ct) (CW ct ad da nd nb nf bdk num spt val tim rep byN byS pk kn pe clk tol opn) [.ref (ad 0), .int (nI (d)), .int (k), .int (nI (1))] 0 0 (fun r u => r = nI (sp / 100001 % 10) ∧ ∃ P : Nat → Bool, u = CW ct ad da nd nb nf bdk num spt val tim rep byN byS P kn pe clk tol opn) := by
  refine CI.start (by decide) (Nat.le_of_ble_eq_true rfl) ?_
  intro p e s m below meth c F hr hnm
  show V p l e (rmK 5 0 0) s m [.ref (ad 0), .int (nI (d)), .int (k), .int (nI (1))].toArray below meth c D (va_A (CW ct ad da nd nb nf bdk num spt val tim rep byN byS pk kn pe clk tol opn) s.heap.size) 6 0 0 (EI D below (CW ct ad da nd nb nf bdk num spt val tim rep byN byS pk kn pe clk tol opn) [.ref (ad 0), .int (nI (d)), .int (k), .int (nI (1))].toArray s 0 0 (fun r u => r = nI (sp / 100001 % 10) ∧ ∃ P : Nat → Bool, u = CW ct ad da nd nb nf bdk num spt val tim rep byN byS P kn pe clk tol opn)) (CW ct ad da nd nb nf bdk num spt val tim rep byN byS pk kn pe clk tol opn) [(0, .ref (ad 0)), (1, .int (nI (d))), (2, .int (k)), (3, .int (nI (1)))] 0 []
  have hsb : sp < 2 ^ 31 := by have := hspt _ (hbS s0 hs); omega
  refine V.aload_n F d_T_conflict_0 rfl 0 rfl ?_
  refine V.iload_n F d_T_conflict_1 rfl 1 rfl ?_
  refine V.callVQ0 (As := [.int (nI (d))]) (rest := []) F (c_deskAt l D hnd d hd0) d_T_conflict_2 sv_T_40 im_y_T_deskAt sl_y_T_deskAt 0 rfl rfl rfl rfl rfl (Nat.le_of_ble_eq_true rfl) ⟨rfl, rfl, (Nat.le_of_ble_eq_true rfl), (Nat.le_of_ble_eq_true rfl)⟩ ⟨(Nat.le_of_ble_eq_true rfl), (Nat.le_of_ble_eq_true rfl)⟩ (fun r9 u9 h9 => ?_)
  obtain ⟨rfl, rfl⟩ := h9
  refine V.astore (lv2 := [(4, .ref (da (d) 0)), (0, .ref (ad 0)), (1, .int (nI (d))), (2, .int (k)), (3, .int (nI (1)))]) F d_T_conflict_5 (by decide) rfl ?_
  refine V.aload F d_T_conflict_7 0 rfl ?_
  refine V.ifnull F d_T_conflict_9 ?_
  refine V.iload_n F d_T_conflict_12 rfl 3 rfl ?_
  refine V.if_lt (x := k) (tgt := 20) F d_T_conflict_13 (by decide) (fun c13 => ?_) (fun c13 => ?_)
  · skip
    exact absurd c13 hk
  · skip
    refine V.iload_n F d_T_conflict_16 rfl 4 rfl ?_
    refine V.if_ge (x := nI (1)) (tgt := 22) F d_T_conflict_17 (by decide) (fun c17 => ?_) (fun c17 => ?_)
    · skip
      refine V.aload_n F d_T_conflict_22 rfl 1 rfl ?_
      refine V.get F ck_T d_T_conflict_23 2 (by decide) lk_T_22 0 rfl rfl ?_
      refine V.aload F d_T_conflict_26 0 rfl ?_
      refine V.getN F ck_K d_T_conflict_28 1 (by decide) lk_T_65 (13 + (5 * (d) + 0)) (cw_d0 hd0) rfl ?_
      refine V.iconst F d_T_conflict_31 (v := nI (0)) (by decide) ?_
      refine V.iload_n F d_T_conflict_32 rfl 3 rfl ?_
      refine V.callVI0 (As := [.ref (da (d) 1), .int (nI (0)), .int (k)]) (rest := []) F (c_cfSpot l D hnf hbS hspt hso hsu d hd0 (0) (by decide) (k)) d_T_conflict_33 sv_T_100 im_y_A_conflictSpot sl_y_A_conflictSpot 3 rfl rfl rfl rfl rfl (Nat.le_of_ble_eq_true rfl) ⟨rfl, rfl, (Nat.le_of_ble_eq_true rfl), (Nat.le_of_ble_eq_true rfl)⟩ ⟨(Nat.le_of_ble_eq_true rfl), (Nat.le_of_ble_eq_true rfl)⟩ (fun r9 u9 h9 => ?_)
      obtain ⟨h9, rfl⟩ := h9
      have e9 := kth_yes (G2 := (fun a => decide (0 ≤ spt (byS a)) && (isF spt byS a && cfB spt val (stB (kn d) rep) nf (spt (byS a))))) (R := fun m => nI (spt (byS m))) hnf h9 (fun j hj => rfl) hs hsG hsk
      rw [hsp] at e9
      subst e9
      refine V.istore (lv2 := [(5, .int (nI (sp))), (4, .ref (da (d) 0)), (0, .ref (ad 0)), (1, .int (nI (d))), (2, .int (k)), (3, .int (nI (1)))]) F d_T_conflict_36 (by decide) rfl ?_
      refine V.iload F d_T_conflict_38 0 rfl ?_
      refine V.iconst F d_T_conflict_40 (v := -1) (by decide) ?_
      refine V.icmp_ne (x := nI (sp)) (y := -1) (tgt := 46) F d_T_conflict_41 (by decide) (fun c41 => ?_) (fun c41 => ?_)
      · skip
        refine V.aload_n F d_T_conflict_46 rfl 2 rfl ?_
        refine V.get F ck_T d_T_conflict_47 2 (by decide) lk_T_22 0 rfl rfl ?_
        refine V.aload F d_T_conflict_50 1 rfl ?_
        refine V.getN F ck_K d_T_conflict_52 1 (by decide) lk_T_65 (13 + (5 * (d) + 0)) (cw_d0 hd0) rfl ?_
        refine V.iload F d_T_conflict_55 0 rfl ?_
        refine V.aload_n F d_T_conflict_57 rfl 2 rfl ?_
        refine V.get F ck_T d_T_conflict_58 3 (by decide) lk_T_29 0 rfl rfl ?_
        refine V.callVV0 (As := [.ref (da (d) 1), .int (nI (sp)), .ref (ad 11)]) (rest := []) F (c_pickStanding l D hnf d hd0 sp (by have := hspt _ (hbS s0 hs); omega) hspt) d_T_conflict_61 sv_T_104 im_y_A_pickStanding sl_y_A_pickStanding 3 rfl rfl rfl rfl rfl (Nat.le_of_ble_eq_true rfl) ⟨rfl, rfl, (Nat.le_of_ble_eq_true rfl), (Nat.le_of_ble_eq_true rfl)⟩ ⟨(Nat.le_of_ble_eq_true rfl), (Nat.le_of_ble_eq_true rfl)⟩ (fun u9 h9 => ?_)
        obtain ⟨P, hP, rfl⟩ := h9
        refine V.iload_n F d_T_conflict_64 rfl 5 rfl ?_
        refine V.tableIn (tgt := 102) (off := 37) F d_T_conflict_65 (by decide) (by decide) (by decide) (by decide) ?_
        refine V.iload F d_T_conflict_102 0 rfl ?_
        refine V.callSI0 (As := [.int (nI (sp))]) (rest := []) F (c_kindOf l D _ ct sp hsb) d_T_conflict_104 sv_T_111 st_y_T_kindOf rfl rfl (Nat.le_of_ble_eq_true rfl) ⟨rfl, rfl, (Nat.le_of_ble_eq_true rfl), (Nat.le_of_ble_eq_true rfl)⟩ ⟨(Nat.le_of_ble_eq_true rfl), (Nat.le_of_ble_eq_true rfl)⟩ (fun r9 u9 h9 => ?_)
        obtain ⟨rfl, rfl⟩ := h9
        exact V.iret F hr d_T_conflict_107 (⟨rfl, P, rfl⟩)
      · skip
        exact absurd c41 (nI_nm1 (by omega))
    · skip
      exact absurd (nI_pos' (by omega)) c17

set_option maxHeartbeats 4000000 in
set_option maxRecDepth 100000 in
theorem c_cf2 (l : Launch) (D : va_G) {ct : Nat → ClassId} {ad : Nat → Nat} {da : Nat → Nat → Nat} {nd : Nat} {nb : Nat} {nf : Nat} {bdk : Nat → Nat} {num : Nat → Nat} {spt : Nat → Nat} {val : Nat → Int64} {tim : Nat → Nat} {rep : Nat → Nat → Bool} {byN : Nat → Nat} {byS : Nat → Nat} {pk : Nat → Bool} {kn : Nat → Nat → Bool} {pe : Nat → Nat → Bool} {clk : Nat → Nat} {tol : Nat → Nat} {opn : Nat → Option Nat} (hnf : nf ≤ 300) (hnd : nd ≤ 8) (d : Nat) (hd0 : d < nd) (hbS : ∀ j, j < nf → byS j < nf) (hspt : ∀ k, k < nf → spt k < 2 ^ 31) (hso : ∀ a b, a ≤ b → b < nf → spt (byS a) ≤ spt (byS b)) (hsu : ∀ f, f < nf → ∃ a, a < nf ∧ byS a = f) (hbN : ∀ j, j < nf → byN j < nf) (k : Int32) (hk : ¬ k < 0) (s0 : Nat) (hs : s0 < nf) (hsG : (fun a => decide (0 ≤ spt (byS a)) && (isF spt byS a && cfB spt val (stB (kn d) rep) nf (spt (byS a)))) s0 = true) (hsk : k = nI (cnt (fun a => decide (0 ≤ spt (byS a)) && (isF spt byS a && cfB spt val (stB (kn d) rep) nf (spt (byS a)))) s0)) (sp : Nat) (hsp : spt (byS s0) = sp) : CI l y_T_conflict b_T_conflict 6 (some .int) (rmK 5 0 0) D (tyL ct) (CW ct ad da nd nb nf bdk num spt val tim rep byN byS pk kn pe clk tol opn) [.ref (ad 0), .int (nI (d)), .int (k), .int (nI (2))] 0 0 (fun r u => r = nI (sp % 100001) ∧ ∃ P : Nat → Bool, u = CW ct ad da nd nb nf bdk num spt val tim rep byN byS P kn pe clk tol opn) := by
  refine CI.start (by decide) (Nat.le_of_ble_eq_true rfl) ?_
  intro p e s m below meth c F hr hnm
  show V p l e (rmK 5 0 0) s m [.ref (ad 0), .int (nI (d)), .int (k), .int (nI (2))].toArray below meth c D (va_A (CW ct ad da nd nb nf bdk num spt val tim rep byN byS pk kn pe clk tol opn) s.heap.size) 6 0 0 (EI D below (CW ct ad da nd nb nf bdk num spt val tim rep byN byS pk kn pe clk tol opn) [.ref (ad 0), .int (nI (d)), .int (k), .int (nI (2))].toArray s 0 0 (fun r u => r = nI (sp % 100001) ∧ ∃ P : Nat → Bool, u = CW ct ad da nd nb nf bdk num spt val tim rep byN byS P kn pe clk tol opn)) (CW ct ad da nd nb nf bdk num spt val tim rep byN byS pk kn pe clk tol opn) [(0, .ref (ad 0)), (1, .int (nI (d))), (2, .int (k)), (3, .int (nI (2)))] 0 []
  have hsb : sp < 2 ^ 31 := by have := hspt _ (hbS s0 hs); omega
  refine V.aload_n F d_T_conflict_0 rfl 0 rfl ?_
  refine V.iload_n F d_T_conflict_1 rfl 1 rfl ?_
  refine V.callVQ0 (As := [.int (nI (d))]) (rest := []) F (c_deskAt l D hnd d hd0) d_T_conflict_2 sv_T_40 im_y_T_deskAt sl_y_T_deskAt 0 rfl rfl rfl rfl rfl (Nat.le_of_ble_eq_true rfl) ⟨rfl, rfl, (Nat.le_of_ble_eq_true rfl), (Nat.le_of_ble_eq_true rfl)⟩ ⟨(Nat.le_of_ble_eq_true rfl), (Nat.le_of_ble_eq_true rfl)⟩ (fun r9 u9 h9 => ?_)
  obtain ⟨rfl, rfl⟩ := h9
  refine V.astore (lv2 := [(4, .ref (da (d) 0)), (0, .ref (ad 0)), (1, .int (nI (d))), (2, .int (k)), (3, .int (nI (2)))]) F d_T_conflict_5 (by decide) rfl ?_
  refine V.aload F d_T_conflict_7 0 rfl ?_
  refine V.ifnull F d_T_conflict_9 ?_
  refine V.iload_n F d_T_conflict_12 rfl 3 rfl ?_
  refine V.if_lt (x := k) (tgt := 20) F d_T_conflict_13 (by decide) (fun c13 => ?_) (fun c13 => ?_)
  · skip
    exact absurd c13 hk
  · skip
    refine V.iload_n F d_T_conflict_16 rfl 4 rfl ?_
    refine V.if_ge (x := nI (2)) (tgt := 22) F d_T_conflict_17 (by decide) (fun c17 => ?_) (fun c17 => ?_)
    · skip
      refine V.aload_n F d_T_conflict_22 rfl 1 rfl ?_
      refine V.get F ck_T d_T_conflict_23 2 (by decide) lk_T_22 0 rfl rfl ?_
      refine V.aload F d_T_conflict_26 0 rfl ?_
      refine V.getN F ck_K d_T_conflict_28 1 (by decide) lk_T_65 (13 + (5 * (d) + 0)) (cw_d0 hd0) rfl ?_
      refine V.iconst F d_T_conflict_31 (v := nI (0)) (by decide) ?_
      refine V.iload_n F d_T_conflict_32 rfl 3 rfl ?_
      refine V.callVI0 (As := [.ref (da (d) 1), .int (nI (0)), .int (k)]) (rest := []) F (c_cfSpot l D hnf hbS hspt hso hsu d hd0 (0) (by decide) (k)) d_T_conflict_33 sv_T_100 im_y_A_conflictSpot sl_y_A_conflictSpot 3 rfl rfl rfl rfl rfl (Nat.le_of_ble_eq_true rfl) ⟨rfl, rfl, (Nat.le_of_ble_eq_true rfl), (Nat.le_of_ble_eq_true rfl)⟩ ⟨(Nat.le_of_ble_eq_true rfl), (Nat.le_of_ble_eq_true rfl)⟩ (fun r9 u9 h9 => ?_)
      obtain ⟨h9, rfl⟩ := h9
      have e9 := kth_yes (G2 := (fun a => decide (0 ≤ spt (byS a)) && (isF spt byS a && cfB spt val (stB (kn d) rep) nf (spt (byS a))))) (R := fun m => nI (spt (byS m))) hnf h9 (fun j hj => rfl) hs hsG hsk
      rw [hsp] at e9
      subst e9
      refine V.istore (lv2 := [(5, .int (nI (sp))), (4, .ref (da (d) 0)), (0, .ref (ad 0)), (1, .int (nI (d))), (2, .int (k)), (3, .int (nI (2)))]) F d_T_conflict_36 (by decide) rfl ?_
      refine V.iload F d_T_conflict_38 0 rfl ?_
      refine V.iconst F d_T_conflict_40 (v := -1) (by decide) ?_
      refine V.icmp_ne (x := nI (sp)) (y := -1) (tgt := 46) F d_T_conflict_41 (by decide) (fun c41 => ?_) (fun c41 => ?_)
      · skip
        refine V.aload_n F d_T_conflict_46 rfl 2 rfl ?_
        refine V.get F ck_T d_T_conflict_47 2 (by decide) lk_T_22 0 rfl rfl ?_
        refine V.aload F d_T_conflict_50 1 rfl ?_
        refine V.getN F ck_K d_T_conflict_52 1 (by decide) lk_T_65 (13 + (5 * (d) + 0)) (cw_d0 hd0) rfl ?_
        refine V.iload F d_T_conflict_55 0 rfl ?_
        refine V.aload_n F d_T_conflict_57 rfl 2 rfl ?_
        refine V.get F ck_T d_T_conflict_58 3 (by decide) lk_T_29 0 rfl rfl ?_
        refine V.callVV0 (As := [.ref (da (d) 1), .int (nI (sp)), .ref (ad 11)]) (rest := []) F (c_pickStanding l D hnf d hd0 sp (by have := hspt _ (hbS s0 hs); omega) hspt) d_T_conflict_61 sv_T_104 im_y_A_pickStanding sl_y_A_pickStanding 3 rfl rfl rfl rfl rfl (Nat.le_of_ble_eq_true rfl) ⟨rfl, rfl, (Nat.le_of_ble_eq_true rfl), (Nat.le_of_ble_eq_true rfl)⟩ ⟨(Nat.le_of_ble_eq_true rfl), (Nat.le_of_ble_eq_true rfl)⟩ (fun u9 h9 => ?_)
        obtain ⟨P, hP, rfl⟩ := h9
        refine V.iload_n F d_T_conflict_64 rfl 5 rfl ?_
        refine V.tableIn (tgt := 108) (off := 43) F d_T_conflict_65 (by decide) (by decide) (by decide) (by decide) ?_
        refine V.iload F d_T_conflict_108 0 rfl ?_
        refine V.callSI0 (As := [.int (nI (sp))]) (rest := []) F (c_dayOf l D _ ct sp hsb) d_T_conflict_110 sv_T_114 st_y_T_dayOf rfl rfl (Nat.le_of_ble_eq_true rfl) ⟨rfl, rfl, (Nat.le_of_ble_eq_true rfl), (Nat.le_of_ble_eq_true rfl)⟩ ⟨(Nat.le_of_ble_eq_true rfl), (Nat.le_of_ble_eq_true rfl)⟩ (fun r9 u9 h9 => ?_)
        obtain ⟨rfl, rfl⟩ := h9
        exact V.iret F hr d_T_conflict_113 (⟨rfl, P, rfl⟩)
      · skip
        exact absurd c41 (nI_nm1 (by omega))
    · skip
      exact absurd (nI_pos' (by omega)) c17

set_option maxHeartbeats 4000000 in
set_option maxRecDepth 100000 in
theorem c_cf3 (l : Launch) (D : va_G) {ct : Nat → ClassId} {ad : Nat → Nat} {da : Nat → Nat → Nat} {nd : Nat} {nb : Nat} {nf : Nat} {bdk : Nat → Nat} {num : Nat → Nat} {spt : Nat → Nat} {val : Nat → Int64} {tim : Nat → Nat} {rep : Nat → Nat → Bool} {byN : Nat → Nat} {byS : Nat → Nat} {pk : Nat → Bool} {kn : Nat → Nat → Bool} {pe : Nat → Nat → Bool} {clk : Nat → Nat} {tol : Nat → Nat} {opn : Nat → Option Nat} (hnf : nf ≤ 300) (hnd : nd ≤ 8) (d : Nat) (hd0 : d < nd) (hbS : ∀ j, j < nf → byS j < nf) (hspt : ∀ k, k < nf → spt k < 2 ^ 31) (hso : ∀ a b, a ≤ b → b < nf → spt (byS a) ≤ spt (byS b)) (hsu : ∀ f, f < nf → ∃ a, a < nf ∧ byS a = f) (hbN : ∀ j, j < nf → byN j < nf) (k : Int32) (hk : ¬ k < 0) (s0 : Nat) (hs : s0 < nf) (hsG : (fun a => decide (0 ≤ spt (byS a)) && (isF spt byS a && cfB spt val (stB (kn d) rep) nf (spt (byS a)))) s0 = true) (hsk : k = nI (cnt (fun a => decide (0 ≤ spt (byS a)) && (isF spt byS a && cfB spt val (stB (kn d) rep) nf (spt (byS a)))) s0)) (sp : Nat) (hsp : spt (byS s0) = sp) : CI l y_T_conflict b_T_conflict 6 (some .int) (rmK 5 0 0) D (tyL ct) (CW ct ad da nd nb nf bdk num spt val tim rep byN byS pk kn pe clk tol opn) [.ref (ad 0), .int (nI (d)), .int (k), .int (nI (3))] 0 0 (fun r u => r = nI (cnt (fun k => decide (k < nf) && (decide (spt k = sp) && stB (kn d) rep k)) 320) ∧ ∃ P : Nat → Bool, u = CW ct ad da nd nb nf bdk num spt val tim rep byN byS P kn pe clk tol opn) := by
  refine CI.start (by decide) (Nat.le_of_ble_eq_true rfl) ?_
  intro p e s m below meth c F hr hnm
  show V p l e (rmK 5 0 0) s m [.ref (ad 0), .int (nI (d)), .int (k), .int (nI (3))].toArray below meth c D (va_A (CW ct ad da nd nb nf bdk num spt val tim rep byN byS pk kn pe clk tol opn) s.heap.size) 6 0 0 (EI D below (CW ct ad da nd nb nf bdk num spt val tim rep byN byS pk kn pe clk tol opn) [.ref (ad 0), .int (nI (d)), .int (k), .int (nI (3))].toArray s 0 0 (fun r u => r = nI (cnt (fun k => decide (k < nf) && (decide (spt k = sp) && stB (kn d) rep k)) 320) ∧ ∃ P : Nat → Bool, u = CW ct ad da nd nb nf bdk num spt val tim rep byN byS P kn pe clk tol opn)) (CW ct ad da nd nb nf bdk num spt val tim rep byN byS pk kn pe clk tol opn) [(0, .ref (ad 0)), (1, .int (nI (d))), (2, .int (k)), (3, .int (nI (3)))] 0 []
  have hsb : sp < 2 ^ 31 := by have := hspt _ (hbS s0 hs); omega
  refine V.aload_n F d_T_conflict_0 rfl 0 rfl ?_
  refine V.iload_n F d_T_conflict_1 rfl 1 rfl ?_
  refine V.callVQ0 (As := [.int (nI (d))]) (rest := []) F (c_deskAt l D hnd d hd0) d_T_conflict_2 sv_T_40 im_y_T_deskAt sl_y_T_deskAt 0 rfl rfl rfl rfl rfl (Nat.le_of_ble_eq_true rfl) ⟨rfl, rfl, (Nat.le_of_ble_eq_true rfl), (Nat.le_of_ble_eq_true rfl)⟩ ⟨(Nat.le_of_ble_eq_true rfl), (Nat.le_of_ble_eq_true rfl)⟩ (fun r9 u9 h9 => ?_)
  obtain ⟨rfl, rfl⟩ := h9
  refine V.astore (lv2 := [(4, .ref (da (d) 0)), (0, .ref (ad 0)), (1, .int (nI (d))), (2, .int (k)), (3, .int (nI (3)))]) F d_T_conflict_5 (by decide) rfl ?_
  refine V.aload F d_T_conflict_7 0 rfl ?_
  refine V.ifnull F d_T_conflict_9 ?_
  refine V.iload_n F d_T_conflict_12 rfl 3 rfl ?_
  refine V.if_lt (x := k) (tgt := 20) F d_T_conflict_13 (by decide) (fun c13 => ?_) (fun c13 => ?_)
  · skip
    exact absurd c13 hk
  · skip
    refine V.iload_n F d_T_conflict_16 rfl 4 rfl ?_
    refine V.if_ge (x := nI (3)) (tgt := 22) F d_T_conflict_17 (by decide) (fun c17 => ?_) (fun c17 => ?_)
    · skip
      refine V.aload_n F d_T_conflict_22 rfl 1 rfl ?_
      refine V.get F ck_T d_T_conflict_23 2 (by decide) lk_T_22 0 rfl rfl ?_
      refine V.aload F d_T_conflict_26 0 rfl ?_
      refine V.getN F ck_K d_T_conflict_28 1 (by decide) lk_T_65 (13 + (5 * (d) + 0)) (cw_d0 hd0) rfl ?_
      refine V.iconst F d_T_conflict_31 (v := nI (0)) (by decide) ?_
      refine V.iload_n F d_T_conflict_32 rfl 3 rfl ?_
      refine V.callVI0 (As := [.ref (da (d) 1), .int (nI (0)), .int (k)]) (rest := []) F (c_cfSpot l D hnf hbS hspt hso hsu d hd0 (0) (by decide) (k)) d_T_conflict_33 sv_T_100 im_y_A_conflictSpot sl_y_A_conflictSpot 3 rfl rfl rfl rfl rfl (Nat.le_of_ble_eq_true rfl) ⟨rfl, rfl, (Nat.le_of_ble_eq_true rfl), (Nat.le_of_ble_eq_true rfl)⟩ ⟨(Nat.le_of_ble_eq_true rfl), (Nat.le_of_ble_eq_true rfl)⟩ (fun r9 u9 h9 => ?_)
      obtain ⟨h9, rfl⟩ := h9
      have e9 := kth_yes (G2 := (fun a => decide (0 ≤ spt (byS a)) && (isF spt byS a && cfB spt val (stB (kn d) rep) nf (spt (byS a))))) (R := fun m => nI (spt (byS m))) hnf h9 (fun j hj => rfl) hs hsG hsk
      rw [hsp] at e9
      subst e9
      refine V.istore (lv2 := [(5, .int (nI (sp))), (4, .ref (da (d) 0)), (0, .ref (ad 0)), (1, .int (nI (d))), (2, .int (k)), (3, .int (nI (3)))]) F d_T_conflict_36 (by decide) rfl ?_
      refine V.iload F d_T_conflict_38 0 rfl ?_
      refine V.iconst F d_T_conflict_40 (v := -1) (by decide) ?_
      refine V.icmp_ne (x := nI (sp)) (y := -1) (tgt := 46) F d_T_conflict_41 (by decide) (fun c41 => ?_) (fun c41 => ?_)
      · skip
        refine V.aload_n F d_T_conflict_46 rfl 2 rfl ?_
        refine V.get F ck_T d_T_conflict_47 2 (by decide) lk_T_22 0 rfl rfl ?_
        refine V.aload F d_T_conflict_50 1 rfl ?_
        refine V.getN F ck_K d_T_conflict_52 1 (by decide) lk_T_65 (13 + (5 * (d) + 0)) (cw_d0 hd0) rfl ?_
        refine V.iload F d_T_conflict_55 0 rfl ?_
        refine V.aload_n F d_T_conflict_57 rfl 2 rfl ?_
        refine V.get F ck_T d_T_conflict_58 3 (by decide) lk_T_29 0 rfl rfl ?_
        refine V.callVV0 (As := [.ref (da (d) 1), .int (nI (sp)), .ref (ad 11)]) (rest := []) F (c_pickStanding l D hnf d hd0 sp (by have := hspt _ (hbS s0 hs); omega) hspt) d_T_conflict_61 sv_T_104 im_y_A_pickStanding sl_y_A_pickStanding 3 rfl rfl rfl rfl rfl (Nat.le_of_ble_eq_true rfl) ⟨rfl, rfl, (Nat.le_of_ble_eq_true rfl), (Nat.le_of_ble_eq_true rfl)⟩ ⟨(Nat.le_of_ble_eq_true rfl), (Nat.le_of_ble_eq_true rfl)⟩ (fun u9 h9 => ?_)
        obtain ⟨P, hP, rfl⟩ := h9
        refine V.iload_n F d_T_conflict_64 rfl 5 rfl ?_
        refine V.tableIn (tgt := 114) (off := 49) F d_T_conflict_65 (by decide) (by decide) (by decide) (by decide) ?_
        refine V.aload_n F d_T_conflict_114 rfl 2 rfl ?_
        refine V.get F ck_T d_T_conflict_115 3 (by decide) lk_T_29 0 rfl rfl ?_
        refine V.callVI0 (As := []) (rest := []) F (c_size l D none trivial) d_T_conflict_118 sv_T_117 im_y_S_size sl_y_S_size 11 rfl rfl rfl rfl rfl (Nat.le_of_ble_eq_true rfl) ⟨rfl, rfl, (Nat.le_of_ble_eq_true rfl), (Nat.le_of_ble_eq_true rfl)⟩ ⟨(Nat.le_of_ble_eq_true rfl), (Nat.le_of_ble_eq_true rfl)⟩ (fun r9 u9 h9 => ?_)
        obtain ⟨e9, rfl⟩ := h9
        rw [show cnt (fsS P kn pe none) 320 = cnt (fun k => decide (k < nf) && (decide (spt k = sp) && stB (kn d) rep k)) 320 from cnt_congr (fun k hk => hP k hk)] at e9
        subst e9
        exact V.iret F hr d_T_conflict_121 (⟨rfl, P, rfl⟩)
      · skip
        exact absurd c41 (nI_nm1 (by omega))
    · skip
      exact absurd (nI_pos' (by omega)) c17

set_option maxHeartbeats 4000000 in
set_option maxRecDepth 100000 in
theorem c_cf4Y (l : Launch) (D : va_G) {ct : Nat → ClassId} {ad : Nat → Nat} {da : Nat → Nat → Nat} {nd : Nat} {nb : Nat} {nf : Nat} {bdk : Nat → Nat} {num : Nat → Nat} {spt : Nat → Nat} {val : Nat → Int64} {tim : Nat → Nat} {rep : Nat → Nat → Bool} {byN : Nat → Nat} {byS : Nat → Nat} {pk : Nat → Bool} {kn : Nat → Nat → Bool} {pe : Nat → Nat → Bool} {clk : Nat → Nat} {tol : Nat → Nat} {opn : Nat → Option Nat} (hnf : nf ≤ 300) (hnd : nd ≤ 8) (d : Nat) (hd0 : d < nd) (hbS : ∀ j, j < nf → byS j < nf) (hspt : ∀ k, k < nf → spt k < 2 ^ 31) (hso : ∀ a b, a ≤ b → b < nf → spt (byS a) ≤ spt (byS b)) (hsu : ∀ f, f < nf → ∃ a, a < nf ∧ byS a = f) (hbN : ∀ j, j < nf → byN j < nf) (k : Int32) (hk : ¬ k < 0) (s0 : Nat) (hs : s0 < nf) (hsG : (fun a => decide (0 ≤ spt (byS a)) && (isF spt byS a && cfB spt val (stB (kn d) rep) nf (spt (byS a)))) s0 = true) (hsk : k = nI (cnt (fun a => decide (0 ≤ spt (byS a)) && (isF spt byS a && cfB spt val (stB (kn d) rep) nf (spt (byS a)))) s0)) (sp : Nat) (hsp : spt (byS s0) = sp) (ww : Nat) (hww : ww + 4 < 2 ^ 31) (mm : Nat) (hm : mm < nf) (hmq : (fun j => (fun k => decide (k < nf) && (decide (spt k = sp) && stB (kn d) rep k)) (byN j)) mm = true) (hmx : nI ww = nI (cnt (fun j => (fun k => decide (k < nf) && (decide (spt k = sp) && stB (kn d) rep k)) (byN j)) mm)) : CI l y_T_conflict b_T_conflict 6 (some .int) (rmK 5 0 0) D (tyL ct) (CW ct ad da nd nb nf bdk num spt val tim rep byN byS pk kn pe clk tol opn) [.ref (ad 0), .int (nI (d)), .int (k), .int (nI (ww + 4))] 0 0 (fun r u => r = nI (num (byN mm)) ∧ ∃ P : Nat → Bool, u = CW ct ad da nd nb nf bdk num spt val tim rep byN byS P kn pe clk tol opn) := by
  refine CI.start (by decide) (Nat.le_of_ble_eq_true rfl) ?_
  intro p e s m below meth c F hr hnm
  show V p l e (rmK 5 0 0) s m [.ref (ad 0), .int (nI (d)), .int (k), .int (nI (ww + 4))].toArray below meth c D (va_A (CW ct ad da nd nb nf bdk num spt val tim rep byN byS pk kn pe clk tol opn) s.heap.size) 6 0 0 (EI D below (CW ct ad da nd nb nf bdk num spt val tim rep byN byS pk kn pe clk tol opn) [.ref (ad 0), .int (nI (d)), .int (k), .int (nI (ww + 4))].toArray s 0 0 (fun r u => r = nI (num (byN mm)) ∧ ∃ P : Nat → Bool, u = CW ct ad da nd nb nf bdk num spt val tim rep byN byS P kn pe clk tol opn)) (CW ct ad da nd nb nf bdk num spt val tim rep byN byS pk kn pe clk tol opn) [(0, .ref (ad 0)), (1, .int (nI (d))), (2, .int (k)), (3, .int (nI (ww + 4)))] 0 []
  have hsb : sp < 2 ^ 31 := by have := hspt _ (hbS s0 hs); omega
  refine V.aload_n F d_T_conflict_0 rfl 0 rfl ?_
  refine V.iload_n F d_T_conflict_1 rfl 1 rfl ?_
  refine V.callVQ0 (As := [.int (nI (d))]) (rest := []) F (c_deskAt l D hnd d hd0) d_T_conflict_2 sv_T_40 im_y_T_deskAt sl_y_T_deskAt 0 rfl rfl rfl rfl rfl (Nat.le_of_ble_eq_true rfl) ⟨rfl, rfl, (Nat.le_of_ble_eq_true rfl), (Nat.le_of_ble_eq_true rfl)⟩ ⟨(Nat.le_of_ble_eq_true rfl), (Nat.le_of_ble_eq_true rfl)⟩ (fun r9 u9 h9 => ?_)
  obtain ⟨rfl, rfl⟩ := h9
  refine V.astore (lv2 := [(4, .ref (da (d) 0)), (0, .ref (ad 0)), (1, .int (nI (d))), (2, .int (k)), (3, .int (nI (ww + 4)))]) F d_T_conflict_5 (by decide) rfl ?_
  refine V.aload F d_T_conflict_7 0 rfl ?_
  refine V.ifnull F d_T_conflict_9 ?_
  refine V.iload_n F d_T_conflict_12 rfl 3 rfl ?_
  refine V.if_lt (x := k) (tgt := 20) F d_T_conflict_13 (by decide) (fun c13 => ?_) (fun c13 => ?_)
  · skip
    exact absurd c13 hk
  · skip
    refine V.iload_n F d_T_conflict_16 rfl 4 rfl ?_
    refine V.if_ge (x := nI (ww + 4)) (tgt := 22) F d_T_conflict_17 (by decide) (fun c17 => ?_) (fun c17 => ?_)
    · skip
      refine V.aload_n F d_T_conflict_22 rfl 1 rfl ?_
      refine V.get F ck_T d_T_conflict_23 2 (by decide) lk_T_22 0 rfl rfl ?_
      refine V.aload F d_T_conflict_26 0 rfl ?_
      refine V.getN F ck_K d_T_conflict_28 1 (by decide) lk_T_65 (13 + (5 * (d) + 0)) (cw_d0 hd0) rfl ?_
      refine V.iconst F d_T_conflict_31 (v := nI (0)) (by decide) ?_
      refine V.iload_n F d_T_conflict_32 rfl 3 rfl ?_
      refine V.callVI0 (As := [.ref (da (d) 1), .int (nI (0)), .int (k)]) (rest := []) F (c_cfSpot l D hnf hbS hspt hso hsu d hd0 (0) (by decide) (k)) d_T_conflict_33 sv_T_100 im_y_A_conflictSpot sl_y_A_conflictSpot 3 rfl rfl rfl rfl rfl (Nat.le_of_ble_eq_true rfl) ⟨rfl, rfl, (Nat.le_of_ble_eq_true rfl), (Nat.le_of_ble_eq_true rfl)⟩ ⟨(Nat.le_of_ble_eq_true rfl), (Nat.le_of_ble_eq_true rfl)⟩ (fun r9 u9 h9 => ?_)
      obtain ⟨h9, rfl⟩ := h9
      have e9 := kth_yes (G2 := (fun a => decide (0 ≤ spt (byS a)) && (isF spt byS a && cfB spt val (stB (kn d) rep) nf (spt (byS a))))) (R := fun m => nI (spt (byS m))) hnf h9 (fun j hj => rfl) hs hsG hsk
      rw [hsp] at e9
      subst e9
      refine V.istore (lv2 := [(5, .int (nI (sp))), (4, .ref (da (d) 0)), (0, .ref (ad 0)), (1, .int (nI (d))), (2, .int (k)), (3, .int (nI (ww + 4)))]) F d_T_conflict_36 (by decide) rfl ?_
      refine V.iload F d_T_conflict_38 0 rfl ?_
      refine V.iconst F d_T_conflict_40 (v := -1) (by decide) ?_
      refine V.icmp_ne (x := nI (sp)) (y := -1) (tgt := 46) F d_T_conflict_41 (by decide) (fun c41 => ?_) (fun c41 => ?_)
      · skip
        refine V.aload_n F d_T_conflict_46 rfl 2 rfl ?_
        refine V.get F ck_T d_T_conflict_47 2 (by decide) lk_T_22 0 rfl rfl ?_
        refine V.aload F d_T_conflict_50 1 rfl ?_
        refine V.getN F ck_K d_T_conflict_52 1 (by decide) lk_T_65 (13 + (5 * (d) + 0)) (cw_d0 hd0) rfl ?_
        refine V.iload F d_T_conflict_55 0 rfl ?_
        refine V.aload_n F d_T_conflict_57 rfl 2 rfl ?_
        refine V.get F ck_T d_T_conflict_58 3 (by decide) lk_T_29 0 rfl rfl ?_
        refine V.callVV0 (As := [.ref (da (d) 1), .int (nI (sp)), .ref (ad 11)]) (rest := []) F (c_pickStanding l D hnf d hd0 sp (by have := hspt _ (hbS s0 hs); omega) hspt) d_T_conflict_61 sv_T_104 im_y_A_pickStanding sl_y_A_pickStanding 3 rfl rfl rfl rfl rfl (Nat.le_of_ble_eq_true rfl) ⟨rfl, rfl, (Nat.le_of_ble_eq_true rfl), (Nat.le_of_ble_eq_true rfl)⟩ ⟨(Nat.le_of_ble_eq_true rfl), (Nat.le_of_ble_eq_true rfl)⟩ (fun u9 h9 => ?_)
        obtain ⟨P, hP, rfl⟩ := h9
        refine V.iload_n F d_T_conflict_64 rfl 5 rfl ?_
        refine V.tableOut (tgt := 122) F d_T_conflict_65 (Or.inr (by rw [nI_toInt (by omega)]; omega)) (by decide) ?_
        refine V.aload_n F d_T_conflict_122 rfl 2 rfl ?_
        refine V.aload_n F d_T_conflict_123 rfl 2 rfl ?_
        refine V.get F ck_T d_T_conflict_124 2 (by decide) lk_T_22 0 rfl rfl ?_
        refine V.aload_n F d_T_conflict_127 rfl 2 rfl ?_
        refine V.get F ck_T d_T_conflict_128 3 (by decide) lk_T_29 0 rfl rfl ?_
        refine V.iload_n F d_T_conflict_131 rfl 5 rfl ?_
        refine V.iconst F d_T_conflict_132 (v := nI (4)) (by decide) ?_
        refine V.isubN F d_T_conflict_133 (by omega) ?_
        refine V.callVI0 (As := [.ref (ad 11), .int (nI ((ww + 4) - (4)))]) (rest := [.ref (ad 0)]) F (c_inOrder l D hnf hbN (nI ww)) d_T_conflict_134 sv_T_121 im_y_A_inOrder sl_y_A_inOrder 3 rfl rfl rfl rfl rfl (Nat.le_of_ble_eq_true rfl) ⟨rfl, rfl, (Nat.le_of_ble_eq_true rfl), (Nat.le_of_ble_eq_true rfl)⟩ ⟨(Nat.le_of_ble_eq_true rfl), (Nat.le_of_ble_eq_true rfl)⟩ (fun r9 u9 h9 => ?_)
        obtain ⟨h9, rfl⟩ := h9
        have e9 := kth_yes (G2 := fun j => (fun k => decide (k < nf) && (decide (spt k = sp) && stB (kn d) rep k)) (byN j)) (R := fun m => nI (byN m)) hnf h9 (fun j hj => hP _ (by have := hbN j hj; omega)) hm hmq hmx
        subst e9
        refine V.callVI0 (As := [.int (nI (byN mm))]) (rest := []) F (c_nnYes l D (byN mm) (by have := hbN mm hm; omega)) d_T_conflict_137 sv_T_125 im_y_T_numberOrNone sl_y_T_numberOrNone 0 rfl rfl rfl rfl rfl (Nat.le_of_ble_eq_true rfl) ⟨rfl, rfl, (Nat.le_of_ble_eq_true rfl), (Nat.le_of_ble_eq_true rfl)⟩ ⟨(Nat.le_of_ble_eq_true rfl), (Nat.le_of_ble_eq_true rfl)⟩ (fun r9 u9 h9 => ?_)
        obtain ⟨rfl, rfl⟩ := h9
        exact V.iret F hr d_T_conflict_140 (⟨rfl, P, rfl⟩)
      · skip
        exact absurd c41 (nI_nm1 (by omega))
    · skip
      exact absurd (nI_pos' (by omega)) c17

set_option maxHeartbeats 4000000 in
set_option maxRecDepth 100000 in
theorem c_cf4N (l : Launch) (D : va_G) {ct : Nat → ClassId} {ad : Nat → Nat} {da : Nat → Nat → Nat} {nd : Nat} {nb : Nat} {nf : Nat} {bdk : Nat → Nat} {num : Nat → Nat} {spt : Nat → Nat} {val : Nat → Int64} {tim : Nat → Nat} {rep : Nat → Nat → Bool} {byN : Nat → Nat} {byS : Nat → Nat} {pk : Nat → Bool} {kn : Nat → Nat → Bool} {pe : Nat → Nat → Bool} {clk : Nat → Nat} {tol : Nat → Nat} {opn : Nat → Option Nat} (hnf : nf ≤ 300) (hnd : nd ≤ 8) (d : Nat) (hd0 : d < nd) (hbS : ∀ j, j < nf → byS j < nf) (hspt : ∀ k, k < nf → spt k < 2 ^ 31) (hso : ∀ a b, a ≤ b → b < nf → spt (byS a) ≤ spt (byS b)) (hsu : ∀ f, f < nf → ∃ a, a < nf ∧ byS a = f) (hbN : ∀ j, j < nf → byN j < nf) (k : Int32) (hk : ¬ k < 0) (s0 : Nat) (hs : s0 < nf) (hsG : (fun a => decide (0 ≤ spt (byS a)) && (isF spt byS a && cfB spt val (stB (kn d) rep) nf (spt (byS a)))) s0 = true) (hsk : k = nI (cnt (fun a => decide (0 ≤ spt (byS a)) && (isF spt byS a && cfB spt val (stB (kn d) rep) nf (spt (byS a)))) s0)) (sp : Nat) (hsp : spt (byS s0) = sp) (ww : Nat) (hww : ww + 4 < 2 ^ 31) (hno : ∀ m, m < nf → (fun j => (fun k => decide (k < nf) && (decide (spt k = sp) && stB (kn d) rep k)) (byN j)) m = true → ¬ nI ww = nI (cnt (fun j => (fun k => decide (k < nf) && (decide (spt k = sp) && stB (kn d) rep k)) (byN j)) m)) : CI l y_T_conflict b_T_conflict 6 (some .int) (rmK 5 0 0) D (tyL ct) (CW ct ad da nd nb nf bdk num spt val tim rep byN byS pk kn pe clk tol opn) [.ref (ad 0), .int (nI (d)), .int (k), .int (nI (ww + 4))] 0 0 (fun r u => r = -1 ∧ ∃ P : Nat → Bool, u = CW ct ad da nd nb nf bdk num spt val tim rep byN byS P kn pe clk tol opn) := by
  refine CI.start (by decide) (Nat.le_of_ble_eq_true rfl) ?_
  intro p e s m below meth c F hr hnm
  show V p l e (rmK 5 0 0) s m [.ref (ad 0), .int (nI (d)), .int (k), .int (nI (ww + 4))].toArray below meth c D (va_A (CW ct ad da nd nb nf bdk num spt val tim rep byN byS pk kn pe clk tol opn) s.heap.size) 6 0 0 (EI D below (CW ct ad da nd nb nf bdk num spt val tim rep byN byS pk kn pe clk tol opn) [.ref (ad 0), .int (nI (d)), .int (k), .int (nI (ww + 4))].toArray s 0 0 (fun r u => r = -1 ∧ ∃ P : Nat → Bool, u = CW ct ad da nd nb nf bdk num spt val tim rep byN byS P kn pe clk tol opn)) (CW ct ad da nd nb nf bdk num spt val tim rep byN byS pk kn pe clk tol opn) [(0, .ref (ad 0)), (1, .int (nI (d))), (2, .int (k)), (3, .int (nI (ww + 4)))] 0 []
  have hsb : sp < 2 ^ 31 := by have := hspt _ (hbS s0 hs); omega
  refine V.aload_n F d_T_conflict_0 rfl 0 rfl ?_
  refine V.iload_n F d_T_conflict_1 rfl 1 rfl ?_
  refine V.callVQ0 (As := [.int (nI (d))]) (rest := []) F (c_deskAt l D hnd d hd0) d_T_conflict_2 sv_T_40 im_y_T_deskAt sl_y_T_deskAt 0 rfl rfl rfl rfl rfl (Nat.le_of_ble_eq_true rfl) ⟨rfl, rfl, (Nat.le_of_ble_eq_true rfl), (Nat.le_of_ble_eq_true rfl)⟩ ⟨(Nat.le_of_ble_eq_true rfl), (Nat.le_of_ble_eq_true rfl)⟩ (fun r9 u9 h9 => ?_)
  obtain ⟨rfl, rfl⟩ := h9
  refine V.astore (lv2 := [(4, .ref (da (d) 0)), (0, .ref (ad 0)), (1, .int (nI (d))), (2, .int (k)), (3, .int (nI (ww + 4)))]) F d_T_conflict_5 (by decide) rfl ?_
  refine V.aload F d_T_conflict_7 0 rfl ?_
  refine V.ifnull F d_T_conflict_9 ?_
  refine V.iload_n F d_T_conflict_12 rfl 3 rfl ?_
  refine V.if_lt (x := k) (tgt := 20) F d_T_conflict_13 (by decide) (fun c13 => ?_) (fun c13 => ?_)
  · skip
    exact absurd c13 hk
  · skip
    refine V.iload_n F d_T_conflict_16 rfl 4 rfl ?_
    refine V.if_ge (x := nI (ww + 4)) (tgt := 22) F d_T_conflict_17 (by decide) (fun c17 => ?_) (fun c17 => ?_)
    · skip
      refine V.aload_n F d_T_conflict_22 rfl 1 rfl ?_
      refine V.get F ck_T d_T_conflict_23 2 (by decide) lk_T_22 0 rfl rfl ?_
      refine V.aload F d_T_conflict_26 0 rfl ?_
      refine V.getN F ck_K d_T_conflict_28 1 (by decide) lk_T_65 (13 + (5 * (d) + 0)) (cw_d0 hd0) rfl ?_
      refine V.iconst F d_T_conflict_31 (v := nI (0)) (by decide) ?_
      refine V.iload_n F d_T_conflict_32 rfl 3 rfl ?_
      refine V.callVI0 (As := [.ref (da (d) 1), .int (nI (0)), .int (k)]) (rest := []) F (c_cfSpot l D hnf hbS hspt hso hsu d hd0 (0) (by decide) (k)) d_T_conflict_33 sv_T_100 im_y_A_conflictSpot sl_y_A_conflictSpot 3 rfl rfl rfl rfl rfl (Nat.le_of_ble_eq_true rfl) ⟨rfl, rfl, (Nat.le_of_ble_eq_true rfl), (Nat.le_of_ble_eq_true rfl)⟩ ⟨(Nat.le_of_ble_eq_true rfl), (Nat.le_of_ble_eq_true rfl)⟩ (fun r9 u9 h9 => ?_)
      obtain ⟨h9, rfl⟩ := h9
      have e9 := kth_yes (G2 := (fun a => decide (0 ≤ spt (byS a)) && (isF spt byS a && cfB spt val (stB (kn d) rep) nf (spt (byS a))))) (R := fun m => nI (spt (byS m))) hnf h9 (fun j hj => rfl) hs hsG hsk
      rw [hsp] at e9
      subst e9
      refine V.istore (lv2 := [(5, .int (nI (sp))), (4, .ref (da (d) 0)), (0, .ref (ad 0)), (1, .int (nI (d))), (2, .int (k)), (3, .int (nI (ww + 4)))]) F d_T_conflict_36 (by decide) rfl ?_
      refine V.iload F d_T_conflict_38 0 rfl ?_
      refine V.iconst F d_T_conflict_40 (v := -1) (by decide) ?_
      refine V.icmp_ne (x := nI (sp)) (y := -1) (tgt := 46) F d_T_conflict_41 (by decide) (fun c41 => ?_) (fun c41 => ?_)
      · skip
        refine V.aload_n F d_T_conflict_46 rfl 2 rfl ?_
        refine V.get F ck_T d_T_conflict_47 2 (by decide) lk_T_22 0 rfl rfl ?_
        refine V.aload F d_T_conflict_50 1 rfl ?_
        refine V.getN F ck_K d_T_conflict_52 1 (by decide) lk_T_65 (13 + (5 * (d) + 0)) (cw_d0 hd0) rfl ?_
        refine V.iload F d_T_conflict_55 0 rfl ?_
        refine V.aload_n F d_T_conflict_57 rfl 2 rfl ?_
        refine V.get F ck_T d_T_conflict_58 3 (by decide) lk_T_29 0 rfl rfl ?_
        refine V.callVV0 (As := [.ref (da (d) 1), .int (nI (sp)), .ref (ad 11)]) (rest := []) F (c_pickStanding l D hnf d hd0 sp (by have := hspt _ (hbS s0 hs); omega) hspt) d_T_conflict_61 sv_T_104 im_y_A_pickStanding sl_y_A_pickStanding 3 rfl rfl rfl rfl rfl (Nat.le_of_ble_eq_true rfl) ⟨rfl, rfl, (Nat.le_of_ble_eq_true rfl), (Nat.le_of_ble_eq_true rfl)⟩ ⟨(Nat.le_of_ble_eq_true rfl), (Nat.le_of_ble_eq_true rfl)⟩ (fun u9 h9 => ?_)
        obtain ⟨P, hP, rfl⟩ := h9
        refine V.iload_n F d_T_conflict_64 rfl 5 rfl ?_
        refine V.tableOut (tgt := 122) F d_T_conflict_65 (Or.inr (by rw [nI_toInt (by omega)]; omega)) (by decide) ?_
        refine V.aload_n F d_T_conflict_122 rfl 2 rfl ?_
        refine V.aload_n F d_T_conflict_123 rfl 2 rfl ?_
        refine V.get F ck_T d_T_conflict_124 2 (by decide) lk_T_22 0 rfl rfl ?_
        refine V.aload_n F d_T_conflict_127 rfl 2 rfl ?_
        refine V.get F ck_T d_T_conflict_128 3 (by decide) lk_T_29 0 rfl rfl ?_
        refine V.iload_n F d_T_conflict_131 rfl 5 rfl ?_
        refine V.iconst F d_T_conflict_132 (v := nI (4)) (by decide) ?_
        refine V.isubN F d_T_conflict_133 (by omega) ?_
        refine V.callVI0 (As := [.ref (ad 11), .int (nI ((ww + 4) - (4)))]) (rest := [.ref (ad 0)]) F (c_inOrder l D hnf hbN (nI ww)) d_T_conflict_134 sv_T_121 im_y_A_inOrder sl_y_A_inOrder 3 rfl rfl rfl rfl rfl (Nat.le_of_ble_eq_true rfl) ⟨rfl, rfl, (Nat.le_of_ble_eq_true rfl), (Nat.le_of_ble_eq_true rfl)⟩ ⟨(Nat.le_of_ble_eq_true rfl), (Nat.le_of_ble_eq_true rfl)⟩ (fun r9 u9 h9 => ?_)
        obtain ⟨h9, rfl⟩ := h9
        have e9 := kth_no (G2 := fun j => (fun k => decide (k < nf) && (decide (spt k = sp) && stB (kn d) rep k)) (byN j)) (R := fun m => nI (byN m)) h9 (fun j hj => hP _ (by have := hbN j hj; omega)) hno
        subst e9
        refine V.callVI0 (As := [.int (-1)]) (rest := []) F (c_nnNo l D) d_T_conflict_137 sv_T_125 im_y_T_numberOrNone sl_y_T_numberOrNone 0 rfl rfl rfl rfl rfl (Nat.le_of_ble_eq_true rfl) ⟨rfl, rfl, (Nat.le_of_ble_eq_true rfl), (Nat.le_of_ble_eq_true rfl)⟩ ⟨(Nat.le_of_ble_eq_true rfl), (Nat.le_of_ble_eq_true rfl)⟩ (fun r9 u9 h9 => ?_)
        obtain ⟨rfl, rfl⟩ := h9
        exact V.iret F hr d_T_conflict_140 (⟨rfl, P, rfl⟩)
      · skip
        exact absurd c41 (nI_nm1 (by omega))
    · skip
      exact absurd (nI_pos' (by omega)) c17

set_option maxHeartbeats 4000000 in
set_option maxRecDepth 100000 in
theorem c_seNo (l : Launch) (D : va_G) {ct : Nat → ClassId} {ad : Nat → Nat} {da : Nat → Nat → Nat} {nd : Nat} {nb : Nat} {nf : Nat} {bdk : Nat → Nat} {num : Nat → Nat} {spt : Nat → Nat} {val : Nat → Int64} {tim : Nat → Nat} {rep : Nat → Nat → Bool} {byN : Nat → Nat} {byS : Nat → Nat} {pk : Nat → Bool} {kn : Nat → Nat → Bool} {pe : Nat → Nat → Bool} {clk : Nat → Nat} {tol : Nat → Nat} {opn : Nat → Option Nat} (x0 t kd x : Int32) (hx : x0 < 0 ∨ nI nd ≤ x0) : CI l y_T_settle b_T_settle 8 (some .int) (rmK 5 0 0) D (tyL ct) (CW ct ad da nd nb nf bdk num spt val tim rep byN byS pk kn pe clk tol opn) [.ref (ad 0), .int (x0), .int (t), .int (kd), .int (x)] 0 0 (fun r u => r = -1 ∧ u = CW ct ad da nd nb nf bdk num spt val tim rep byN byS pk kn pe clk tol opn) := by
  refine CI.start (by decide) (Nat.le_of_ble_eq_true rfl) ?_
  intro p e s m below meth c F hr hnm
  show V p l e (rmK 5 0 0) s m [.ref (ad 0), .int (x0), .int (t), .int (kd), .int (x)].toArray below meth c D (va_A (CW ct ad da nd nb nf bdk num spt val tim rep byN byS pk kn pe clk tol opn) s.heap.size) 8 0 0 (EI D below (CW ct ad da nd nb nf bdk num spt val tim rep byN byS pk kn pe clk tol opn) [.ref (ad 0), .int (x0), .int (t), .int (kd), .int (x)].toArray s 0 0 (fun r u => r = -1 ∧ u = CW ct ad da nd nb nf bdk num spt val tim rep byN byS pk kn pe clk tol opn)) (CW ct ad da nd nb nf bdk num spt val tim rep byN byS pk kn pe clk tol opn) [(0, .ref (ad 0)), (1, .int (x0)), (2, .int (t)), (3, .int (kd)), (4, .int (x))] 0 []
  refine V.aload_n F d_T_settle_0 rfl 0 rfl ?_
  refine V.iload_n F d_T_settle_1 rfl 1 rfl ?_
  refine V.callVQ0 (As := [.int (x0)]) (rest := []) F (c_deskNo l D x0 hx) d_T_settle_2 sv_T_40 im_y_T_deskAt sl_y_T_deskAt 0 rfl rfl rfl rfl rfl (Nat.le_of_ble_eq_true rfl) ⟨rfl, rfl, (Nat.le_of_ble_eq_true rfl), (Nat.le_of_ble_eq_true rfl)⟩ ⟨(Nat.le_of_ble_eq_true rfl), (Nat.le_of_ble_eq_true rfl)⟩ (fun r9 u9 h9 => ?_)
  obtain ⟨rfl, rfl⟩ := h9
  refine V.astoreN (lv2 := [(5, .null), (0, .ref (ad 0)), (1, .int (x0)), (2, .int (t)), (3, .int (kd)), (4, .int (x))]) F d_T_settle_5 (by decide) rfl ?_
  refine V.aloadN F d_T_settle_7 0 rfl ?_
  refine V.ifnullN (tgt := 20) F d_T_settle_9 (by decide) ?_
  refine V.iconst F d_T_settle_20 (v := -1) (by decide) ?_
  exact V.iret F hr d_T_settle_21 (⟨rfl, rfl⟩)

set_option maxHeartbeats 4000000 in
set_option maxRecDepth 100000 in
theorem c_seBad (l : Launch) (D : va_G) {ct : Nat → ClassId} {ad : Nat → Nat} {da : Nat → Nat → Nat} {nd : Nat} {nb : Nat} {nf : Nat} {bdk : Nat → Nat} {num : Nat → Nat} {spt : Nat → Nat} {val : Nat → Int64} {tim : Nat → Nat} {rep : Nat → Nat → Bool} {byN : Nat → Nat} {byS : Nat → Nat} {pk : Nat → Bool} {kn : Nat → Nat → Bool} {pe : Nat → Nat → Bool} {clk : Nat → Nat} {tol : Nat → Nat} {opn : Nat → Option Nat} (hnd : nd ≤ 8) (d : Nat) (hd0 : d < nd) (t kd x : Int32) (hz : decide (¬ t < 0 ∧ ¬ nI 100 ≤ t ∧ ¬ kd < 0 ∧ ¬ nI 10 ≤ kd) = false) : CI l y_T_settle b_T_settle 8 (some .int) (rmK 5 0 0) D (tyL ct) (CW ct ad da nd nb nf bdk num spt val tim rep byN byS pk kn pe clk tol opn) [.ref (ad 0), .int (nI (d)), .int (t), .int (kd), .int (x)] 0 0 (fun r u => r = -1 ∧ u = CW ct ad da nd nb nf bdk num spt val tim rep byN byS pk kn pe clk tol opn) := by
  refine CI.start (by decide) (Nat.le_of_ble_eq_true rfl) ?_
  intro p e s m below meth c F hr hnm
  show V p l e (rmK 5 0 0) s m [.ref (ad 0), .int (nI (d)), .int (t), .int (kd), .int (x)].toArray below meth c D (va_A (CW ct ad da nd nb nf bdk num spt val tim rep byN byS pk kn pe clk tol opn) s.heap.size) 8 0 0 (EI D below (CW ct ad da nd nb nf bdk num spt val tim rep byN byS pk kn pe clk tol opn) [.ref (ad 0), .int (nI (d)), .int (t), .int (kd), .int (x)].toArray s 0 0 (fun r u => r = -1 ∧ u = CW ct ad da nd nb nf bdk num spt val tim rep byN byS pk kn pe clk tol opn)) (CW ct ad da nd nb nf bdk num spt val tim rep byN byS pk kn pe clk tol opn) [(0, .ref (ad 0)), (1, .int (nI (d))), (2, .int (t)), (3, .int (kd)), (4, .int (x))] 0 []
  refine V.aload_n F d_T_settle_0 rfl 0 rfl ?_
  refine V.iload_n F d_T_settle_1 rfl 1 rfl ?_
  refine V.callVQ0 (As := [.int (nI (d))]) (rest := []) F (c_deskAt l D hnd d hd0) d_T_settle_2 sv_T_40 im_y_T_deskAt sl_y_T_deskAt 0 rfl rfl rfl rfl rfl (Nat.le_of_ble_eq_true rfl) ⟨rfl, rfl, (Nat.le_of_ble_eq_true rfl), (Nat.le_of_ble_eq_true rfl)⟩ ⟨(Nat.le_of_ble_eq_true rfl), (Nat.le_of_ble_eq_true rfl)⟩ (fun r9 u9 h9 => ?_)
  obtain ⟨rfl, rfl⟩ := h9
  refine V.astore (lv2 := [(5, .ref (da (d) 0)), (0, .ref (ad 0)), (1, .int (nI (d))), (2, .int (t)), (3, .int (kd)), (4, .int (x))]) F d_T_settle_5 (by decide) rfl ?_
  refine V.aload F d_T_settle_7 0 rfl ?_
  refine V.ifnull F d_T_settle_9 ?_
  refine V.iload_n F d_T_settle_12 rfl 3 rfl ?_
  refine V.iload_n F d_T_settle_13 rfl 4 rfl ?_
  refine V.callSI0 (As := [.int (t), .int (kd)]) (rest := []) F (c_areTK l D _ ct t kd) d_T_settle_14 sv_T_44 st_y_T_areThingAndKind rfl rfl (Nat.le_of_ble_eq_true rfl) ⟨rfl, rfl, (Nat.le_of_ble_eq_true rfl), (Nat.le_of_ble_eq_true rfl)⟩ ⟨(Nat.le_of_ble_eq_true rfl), (Nat.le_of_ble_eq_true rfl)⟩ (fun r9 u9 h9 => ?_)
  obtain ⟨rfl, rfl⟩ := h9
  refine V.if_neB (b := decide (¬ t < 0 ∧ ¬ nI 100 ≤ t ∧ ¬ kd < 0 ∧ ¬ nI 10 ≤ kd)) (tgt := 22) F d_T_settle_17 (by decide) (fun c17 => ?_) (fun c17 => ?_)
  · skip
    exact absurd (c17.symm.trans hz) (by decide)
  · skip
    refine V.iconst F d_T_settle_20 (v := -1) (by decide) ?_
    exact V.iret F hr d_T_settle_21 (⟨rfl, rfl⟩)

set_option maxHeartbeats 4000000 in
set_option maxRecDepth 100000 in
theorem c_seNS (l : Launch) (D : va_G) {ct : Nat → ClassId} {ad : Nat → Nat} {da : Nat → Nat → Nat} {nd : Nat} {nb : Nat} {nf : Nat} {bdk : Nat → Nat} {num : Nat → Nat} {spt : Nat → Nat} {val : Nat → Int64} {tim : Nat → Nat} {rep : Nat → Nat → Bool} {byN : Nat → Nat} {byS : Nat → Nat} {pk : Nat → Bool} {kn : Nat → Nat → Bool} {pe : Nat → Nat → Bool} {clk : Nat → Nat} {tol : Nat → Nat} {opn : Nat → Option Nat} (hnf : nf ≤ 300) (hnd : nd ≤ 8) (d : Nat) (hd0 : d < nd) (hbS : ∀ j, j < nf → byS j < nf) (hspt : ∀ k, k < nf → spt k < 2 ^ 31) (hso : ∀ a b, a ≤ b → b < nf → spt (byS a) ≤ spt (byS b)) (hsu : ∀ f, f < nf → ∃ a, a < nf ∧ byS a = f) (t kd : Nat) (ht : t < 100) (hkd : kd < 10) (x : Int32) (hsn : ∀ m, m < nf → (fun a => decide ((t * 10 + kd) * 100001 + 0 ≤ spt (byS a)) && (isF spt byS a && cfB spt val (stB (kn d) rep) nf (spt (byS a)))) m = true → ¬ nI 0 = nI (cnt (fun a => decide ((t * 10 + kd) * 100001 + 0 ≤ spt (byS a)) && (isF spt byS a && cfB spt val (stB (kn d) rep) nf (spt (byS a)))) m)) : CI l y_T_settle b_T_settle 8 (some .int) (rmK 5 0 0) D (tyL ct) (CW ct ad da nd nb nf bdk num spt val tim rep byN byS pk kn pe clk tol opn) [.ref (ad 0), .int (nI (d)), .int (nI (t)), .int (nI (kd)), .int (x)] 0 0 (fun r u => r = -1 ∧ u = CW ct ad da nd nb nf bdk num spt val tim rep byN byS pk kn pe clk tol opn) := by
  refine CI.start (by decide) (Nat.le_of_ble_eq_true rfl) ?_
  intro p e s m below meth c F hr hnm
  show V p l e (rmK 5 0 0) s m [.ref (ad 0), .int (nI (d)), .int (nI (t)), .int (nI (kd)), .int (x)].toArray below meth c D (va_A (CW ct ad da nd nb nf bdk num spt val tim rep byN byS pk kn pe clk tol opn) s.heap.size) 8 0 0 (EI D below (CW ct ad da nd nb nf bdk num spt val tim rep byN byS pk kn pe clk tol opn) [.ref (ad 0), .int (nI (d)), .int (nI (t)), .int (nI (kd)), .int (x)].toArray s 0 0 (fun r u => r = -1 ∧ u = CW ct ad da nd nb nf bdk num spt val tim rep byN byS pk kn pe clk tol opn)) (CW ct ad da nd nb nf bdk num spt val tim rep byN byS pk kn pe clk tol opn) [(0, .ref (ad 0)), (1, .int (nI (d))), (2, .int (nI (t))), (3, .int (nI (kd))), (4, .int (x))] 0 []
  refine V.aload_n F d_T_settle_0 rfl 0 rfl ?_
  refine V.iload_n F d_T_settle_1 rfl 1 rfl ?_
  refine V.callVQ0 (As := [.int (nI (d))]) (rest := []) F (c_deskAt l D hnd d hd0) d_T_settle_2 sv_T_40 im_y_T_deskAt sl_y_T_deskAt 0 rfl rfl rfl rfl rfl (Nat.le_of_ble_eq_true rfl) ⟨rfl, rfl, (Nat.le_of_ble_eq_true rfl), (Nat.le_of_ble_eq_true rfl)⟩ ⟨(Nat.le_of_ble_eq_true rfl), (Nat.le_of_ble_eq_true rfl)⟩ (fun r9 u9 h9 => ?_)
  obtain ⟨rfl, rfl⟩ := h9
  refine V.astore (lv2 := [(5, .ref (da (d) 0)), (0, .ref (ad 0)), (1, .int (nI (d))), (2, .int (nI (t))), (3, .int (nI (kd))), (4, .int (x))]) F d_T_settle_5 (by decide) rfl ?_
  refine V.aload F d_T_settle_7 0 rfl ?_
  refine V.ifnull F d_T_settle_9 ?_
  refine V.iload_n F d_T_settle_12 rfl 3 rfl ?_
  refine V.iload_n F d_T_settle_13 rfl 4 rfl ?_
  refine V.callSI0 (As := [.int (nI (t)), .int (nI (kd))]) (rest := []) F (c_areTK l D _ ct (nI t) (nI kd)) d_T_settle_14 sv_T_44 st_y_T_areThingAndKind rfl rfl (Nat.le_of_ble_eq_true rfl) ⟨rfl, rfl, (Nat.le_of_ble_eq_true rfl), (Nat.le_of_ble_eq_true rfl)⟩ ⟨(Nat.le_of_ble_eq_true rfl), (Nat.le_of_ble_eq_true rfl)⟩ (fun r9 u9 h9 => ?_)
  obtain ⟨rfl, rfl⟩ := h9
  refine V.if_neB (b := decide (¬ nI t < 0 ∧ ¬ nI 100 ≤ nI t ∧ ¬ nI kd < 0 ∧ ¬ nI 10 ≤ nI kd)) (tgt := 22) F d_T_settle_17 (by decide) (fun c17 => ?_) (fun c17 => ?_)
  · skip
    refine V.aload_n F d_T_settle_22 rfl 1 rfl ?_
    refine V.get F ck_T d_T_settle_23 2 (by decide) lk_T_22 0 rfl rfl ?_
    refine V.aload F d_T_settle_26 0 rfl ?_
    refine V.getN F ck_K d_T_settle_28 1 (by decide) lk_T_65 (13 + (5 * (d) + 0)) (cw_d0 hd0) rfl ?_
    refine V.iload_n F d_T_settle_31 rfl 3 rfl ?_
    refine V.iload_n F d_T_settle_32 rfl 4 rfl ?_
    refine V.iconst F d_T_settle_33 (v := nI (0)) (by decide) ?_
    refine V.callSI0 (As := [.int (nI (t)), .int (nI (kd)), .int (nI (0))]) (rest := [.ref (da (d) 1), .ref (ad 3)]) F (c_spotOf l D _ ct t kd 0) d_T_settle_34 sv_T_53 st_y_T_spotOf rfl rfl (Nat.le_of_ble_eq_true rfl) ⟨rfl, rfl, (Nat.le_of_ble_eq_true rfl), (Nat.le_of_ble_eq_true rfl)⟩ ⟨(Nat.le_of_ble_eq_true rfl), (Nat.le_of_ble_eq_true rfl)⟩ (fun r9 u9 h9 => ?_)
    obtain ⟨rfl, rfl⟩ := h9
    refine V.iconst F d_T_settle_37 (v := nI (0)) (by decide) ?_
    refine V.callVI0 (As := [.ref (da (d) 1), .int (nI ((t * 10 + kd) * 100001 + 0)), .int (nI (0))]) (rest := []) F (c_cfSpot l D hnf hbS hspt hso hsu d hd0 ((t * 10 + kd) * 100001 + 0) (sp_lo ht hkd) (nI 0)) d_T_settle_38 sv_T_100 im_y_A_conflictSpot sl_y_A_conflictSpot 3 rfl rfl rfl rfl rfl (Nat.le_of_ble_eq_true rfl) ⟨rfl, rfl, (Nat.le_of_ble_eq_true rfl), (Nat.le_of_ble_eq_true rfl)⟩ ⟨(Nat.le_of_ble_eq_true rfl), (Nat.le_of_ble_eq_true rfl)⟩ (fun r9 u9 h9 => ?_)
    obtain ⟨h9, rfl⟩ := h9
    have e9 := kth_no (G2 := (fun a => decide ((t * 10 + kd) * 100001 + 0 ≤ spt (byS a)) && (isF spt byS a && cfB spt val (stB (kn d) rep) nf (spt (byS a))))) (R := fun m => nI (spt (byS m))) h9 (fun j hj => rfl) hsn
    subst e9
    refine V.istore (lv2 := [(6, .int (-1)), (5, .ref (da (d) 0)), (0, .ref (ad 0)), (1, .int (nI (d))), (2, .int (nI (t))), (3, .int (nI (kd))), (4, .int (x))]) F d_T_settle_41 (by decide) rfl ?_
    refine V.iload F d_T_settle_43 0 rfl ?_
    refine V.iconst F d_T_settle_45 (v := -1) (by decide) ?_
    refine V.icmp_eq (x := -1) (y := -1) (tgt := 61) F d_T_settle_46 (by decide) (fun c46 => ?_) (fun c46 => ?_)
    · skip
      refine V.iconst F d_T_settle_61 (v := -1) (by decide) ?_
      exact V.iret F hr d_T_settle_62 (⟨rfl, rfl⟩)
    · skip
      exact absurd rfl c46
  · skip
    exact absurd c17 (by rw [tk_ok ht hkd]; decide)

set_option maxHeartbeats 4000000 in
set_option maxRecDepth 100000 in
theorem c_seHi (l : Launch) (D : va_G) {ct : Nat → ClassId} {ad : Nat → Nat} {da : Nat → Nat → Nat} {nd : Nat} {nb : Nat} {nf : Nat} {bdk : Nat → Nat} {num : Nat → Nat} {spt : Nat → Nat} {val : Nat → Int64} {tim : Nat → Nat} {rep : Nat → Nat → Bool} {byN : Nat → Nat} {byS : Nat → Nat} {pk : Nat → Bool} {kn : Nat → Nat → Bool} {pe : Nat → Nat → Bool} {clk : Nat → Nat} {tol : Nat → Nat} {opn : Nat → Option Nat} (hnf : nf ≤ 300) (hnd : nd ≤ 8) (d : Nat) (hd0 : d < nd) (hbS : ∀ j, j < nf → byS j < nf) (hspt : ∀ k, k < nf → spt k < 2 ^ 31) (hso : ∀ a b, a ≤ b → b < nf → spt (byS a) ≤ spt (byS b)) (hsu : ∀ f, f < nf → ∃ a, a < nf ∧ byS a = f) (t kd : Nat) (ht : t < 100) (hkd : kd < 10) (x : Int32) (s0 : Nat) (hs : s0 < nf) (hsG : (fun a => decide ((t * 10 + kd) * 100001 + 0 ≤ spt (byS a)) && (isF spt byS a && cfB spt val (stB (kn d) rep) nf (spt (byS a)))) s0 = true) (hsk : nI 0 = nI (cnt (fun a => decide ((t * 10 + kd) * 100001 + 0 ≤ spt (byS a)) && (isF spt byS a && cfB spt val (stB (kn d) rep) nf (spt (byS a)))) s0)) (sp : Nat) (hsp : spt (byS s0) = sp) (hhi : (t * 10 + kd) * 100001 + 100000 < sp) : CI l y_T_settle b_T_settle 8 (some .int) (rmK 5 0 0) D (tyL ct) (CW ct ad da nd nb nf bdk num spt val tim rep byN byS pk kn pe clk tol opn) [.ref (ad 0), .int (nI (d)), .int (nI (t)), .int (nI (kd)), .int (x)] 0 0 (fun r u => r = -1 ∧ u = CW ct ad da nd nb nf bdk num spt val tim rep byN byS pk kn pe clk tol opn) := by
  refine CI.start (by decide) (Nat.le_of_ble_eq_true rfl) ?_
  intro p e s m below meth c F hr hnm
  show V p l e (rmK 5 0 0) s m [.ref (ad 0), .int (nI (d)), .int (nI (t)), .int (nI (kd)), .int (x)].toArray below meth c D (va_A (CW ct ad da nd nb nf bdk num spt val tim rep byN byS pk kn pe clk tol opn) s.heap.size) 8 0 0 (EI D below (CW ct ad da nd nb nf bdk num spt val tim rep byN byS pk kn pe clk tol opn) [.ref (ad 0), .int (nI (d)), .int (nI (t)), .int (nI (kd)), .int (x)].toArray s 0 0 (fun r u => r = -1 ∧ u = CW ct ad da nd nb nf bdk num spt val tim rep byN byS pk kn pe clk tol opn)) (CW ct ad da nd nb nf bdk num spt val tim rep byN byS pk kn pe clk tol opn) [(0, .ref (ad 0)), (1, .int (nI (d))), (2, .int (nI (t))), (3, .int (nI (kd))), (4, .int (x))] 0 []
  have hsb : sp < 2 ^ 31 := by have := hspt _ (hbS s0 hs); omega
  refine V.aload_n F d_T_settle_0 rfl 0 rfl ?_
  refine V.iload_n F d_T_settle_1 rfl 1 rfl ?_
  refine V.callVQ0 (As := [.int (nI (d))]) (rest := []) F (c_deskAt l D hnd d hd0) d_T_settle_2 sv_T_40 im_y_T_deskAt sl_y_T_deskAt 0 rfl rfl rfl rfl rfl (Nat.le_of_ble_eq_true rfl) ⟨rfl, rfl, (Nat.le_of_ble_eq_true rfl), (Nat.le_of_ble_eq_true rfl)⟩ ⟨(Nat.le_of_ble_eq_true rfl), (Nat.le_of_ble_eq_true rfl)⟩ (fun r9 u9 h9 => ?_)
  obtain ⟨rfl, rfl⟩ := h9
  refine V.astore (lv2 := [(5, .ref (da (d) 0)), (0, .ref (ad 0)), (1, .int (nI (d))), (2, .int (nI (t))), (3, .int (nI (kd))), (4, .int (x))]) F d_T_settle_5 (by decide) rfl ?_
  refine V.aload F d_T_settle_7 0 rfl ?_
  refine V.ifnull F d_T_settle_9 ?_
  refine V.iload_n F d_T_settle_12 rfl 3 rfl ?_
  refine V.iload_n F d_T_settle_13 rfl 4 rfl ?_
  refine V.callSI0 (As := [.int (nI (t)), .int (nI (kd))]) (rest := []) F (c_areTK l D _ ct (nI t) (nI kd)) d_T_settle_14 sv_T_44 st_y_T_areThingAndKind rfl rfl (Nat.le_of_ble_eq_true rfl) ⟨rfl, rfl, (Nat.le_of_ble_eq_true rfl), (Nat.le_of_ble_eq_true rfl)⟩ ⟨(Nat.le_of_ble_eq_true rfl), (Nat.le_of_ble_eq_true rfl)⟩ (fun r9 u9 h9 => ?_)
  obtain ⟨rfl, rfl⟩ := h9
  refine V.if_neB (b := decide (¬ nI t < 0 ∧ ¬ nI 100 ≤ nI t ∧ ¬ nI kd < 0 ∧ ¬ nI 10 ≤ nI kd)) (tgt := 22) F d_T_settle_17 (by decide) (fun c17 => ?_) (fun c17 => ?_)
  · skip
    refine V.aload_n F d_T_settle_22 rfl 1 rfl ?_
    refine V.get F ck_T d_T_settle_23 2 (by decide) lk_T_22 0 rfl rfl ?_
    refine V.aload F d_T_settle_26 0 rfl ?_
    refine V.getN F ck_K d_T_settle_28 1 (by decide) lk_T_65 (13 + (5 * (d) + 0)) (cw_d0 hd0) rfl ?_
    refine V.iload_n F d_T_settle_31 rfl 3 rfl ?_
    refine V.iload_n F d_T_settle_32 rfl 4 rfl ?_
    refine V.iconst F d_T_settle_33 (v := nI (0)) (by decide) ?_
    refine V.callSI0 (As := [.int (nI (t)), .int (nI (kd)), .int (nI (0))]) (rest := [.ref (da (d) 1), .ref (ad 3)]) F (c_spotOf l D _ ct t kd 0) d_T_settle_34 sv_T_53 st_y_T_spotOf rfl rfl (Nat.le_of_ble_eq_true rfl) ⟨rfl, rfl, (Nat.le_of_ble_eq_true rfl), (Nat.le_of_ble_eq_true rfl)⟩ ⟨(Nat.le_of_ble_eq_true rfl), (Nat.le_of_ble_eq_true rfl)⟩ (fun r9 u9 h9 => ?_)
    obtain ⟨rfl, rfl⟩ := h9
    refine V.iconst F d_T_settle_37 (v := nI (0)) (by decide) ?_
    refine V.callVI0 (As := [.ref (da (d) 1), .int (nI ((t * 10 + kd) * 100001 + 0)), .int (nI (0))]) (rest := []) F (c_cfSpot l D hnf hbS hspt hso hsu d hd0 ((t * 10 + kd) * 100001 + 0) (sp_lo ht hkd) (nI 0)) d_T_settle_38 sv_T_100 im_y_A_conflictSpot sl_y_A_conflictSpot 3 rfl rfl rfl rfl rfl (Nat.le_of_ble_eq_true rfl) ⟨rfl, rfl, (Nat.le_of_ble_eq_true rfl), (Nat.le_of_ble_eq_true rfl)⟩ ⟨(Nat.le_of_ble_eq_true rfl), (Nat.le_of_ble_eq_true rfl)⟩ (fun r9 u9 h9 => ?_)
    obtain ⟨h9, rfl⟩ := h9
    have e9 := kth_yes (G2 := (fun a => decide ((t * 10 + kd) * 100001 + 0 ≤ spt (byS a)) && (isF spt byS a && cfB spt val (stB (kn d) rep) nf (spt (byS a))))) (R := fun m => nI (spt (byS m))) hnf h9 (fun j hj => rfl) hs hsG hsk
    rw [hsp] at e9
    subst e9
    refine V.istore (lv2 := [(6, .int (nI (sp))), (5, .ref (da (d) 0)), (0, .ref (ad 0)), (1, .int (nI (d))), (2, .int (nI (t))), (3, .int (nI (kd))), (4, .int (x))]) F d_T_settle_41 (by decide) rfl ?_
    refine V.iload F d_T_settle_43 0 rfl ?_
    refine V.iconst F d_T_settle_45 (v := -1) (by decide) ?_
    refine V.icmp_eq (x := nI (sp)) (y := -1) (tgt := 61) F d_T_settle_46 (by decide) (fun c46 => ?_) (fun c46 => ?_)
    · skip
      exact absurd c46 (nI_nm1 (by omega))
    · skip
      refine V.iload F d_T_settle_49 0 rfl ?_
      refine V.iload_n F d_T_settle_51 rfl 4 rfl ?_
      refine V.iload_n F d_T_settle_52 rfl 5 rfl ?_
      refine V.ldc F d_T_settle_53 (v := nI (100000)) lk_T_128 ?_
      refine V.callSI0 (As := [.int (nI (t)), .int (nI (kd)), .int (nI (100000))]) (rest := [.int (nI (sp))]) F (c_spotOf l D _ ct t kd 100000) d_T_settle_55 sv_T_53 st_y_T_spotOf rfl rfl (Nat.le_of_ble_eq_true rfl) ⟨rfl, rfl, (Nat.le_of_ble_eq_true rfl), (Nat.le_of_ble_eq_true rfl)⟩ ⟨(Nat.le_of_ble_eq_true rfl), (Nat.le_of_ble_eq_true rfl)⟩ (fun r9 u9 h9 => ?_)
      obtain ⟨rfl, rfl⟩ := h9
      refine V.icmp_leN (tgt := 63) F d_T_settle_58 (by decide) (by omega) (by omega) (fun c58 => ?_) (fun c58 => ?_)
      · skip
        exact absurd c58 (by omega)
      · skip
        refine V.iconst F d_T_settle_61 (v := -1) (by decide) ?_
        exact V.iret F hr d_T_settle_62 (⟨rfl, rfl⟩)
  · skip
    exact absurd c17 (by rw [tk_ok ht hkd]; decide)

set_option maxHeartbeats 4000000 in
set_option maxRecDepth 100000 in
theorem c_seNC (l : Launch) (D : va_G) {ct : Nat → ClassId} {ad : Nat → Nat} {da : Nat → Nat → Nat} {nd : Nat} {nb : Nat} {nf : Nat} {bdk : Nat → Nat} {num : Nat → Nat} {spt : Nat → Nat} {val : Nat → Int64} {tim : Nat → Nat} {rep : Nat → Nat → Bool} {byN : Nat → Nat} {byS : Nat → Nat} {pk : Nat → Bool} {kn : Nat → Nat → Bool} {pe : Nat → Nat → Bool} {clk : Nat → Nat} {tol : Nat → Nat} {opn : Nat → Option Nat} (hnf : nf ≤ 300) (hnd : nd ≤ 8) (d : Nat) (hd0 : d < nd) (hbS : ∀ j, j < nf → byS j < nf) (hspt : ∀ k, k < nf → spt k < 2 ^ 31) (hso : ∀ a b, a ≤ b → b < nf → spt (byS a) ≤ spt (byS b)) (hsu : ∀ f, f < nf → ∃ a, a < nf ∧ byS a = f) (hbN : ∀ j, j < nf → byN j < nf) (t kd : Nat) (ht : t < 100) (hkd : kd < 10) (x : Int32) (s0 : Nat) (hs : s0 < nf) (hsG : (fun a => decide ((t * 10 + kd) * 100001 + 0 ≤ spt (byS a)) && (isF spt byS a && cfB spt val (stB (kn d) rep) nf (spt (byS a)))) s0 = true) (hsk : nI 0 = nI (cnt (fun a => decide ((t * 10 + kd) * 100001 + 0 ≤ spt (byS a)) && (isF spt byS a && cfB spt val (stB (kn d) rep) nf (spt (byS a)))) s0)) (sp : Nat) (hsp : spt (byS s0) = sp) (hhi : sp ≤ (t * 10 + kd) * 100001 + 100000) (hno : ∀ m, m < nf → (fun j => (fun k => decide (k < nf) && (decide (spt k = sp) && stB (kn d) rep k)) (byN j)) m = true → ¬ x = nI (cnt (fun j => (fun k => decide (k < nf) && (decide (spt k = sp) && stB (kn d) rep k)) (byN j)) m)) : CI l y_T_settle b_T_settle 8 (some .int) (rmK 5 0 0) D (tyL ct) (CW ct ad da nd nb nf bdk num spt val tim rep byN byS pk kn pe clk tol opn) [.ref (ad 0), .int (nI (d)), .int (nI (t)), .int (nI (kd)), .int (x)] 0 0 (fun r u => r = -1 ∧ ∃ P : Nat → Bool, u = CW ct ad da nd nb nf bdk num spt val tim rep byN byS P kn pe clk tol opn) := by
  refine CI.start (by decide) (Nat.le_of_ble_eq_true rfl) ?_
  intro p e s m below meth c F hr hnm
  show V p l e (rmK 5 0 0) s m [.ref (ad 0), .int (nI (d)), .int (nI (t)), .int (nI (kd)), .int (x)].toArray below meth c D (va_A (CW ct ad da nd nb nf bdk num spt val tim rep byN byS pk kn pe clk tol opn) s.heap.size) 8 0 0 (EI D below (CW ct ad da nd nb nf bdk num spt val tim rep byN byS pk kn pe clk tol opn) [.ref (ad 0), .int (nI (d)), .int (nI (t)), .int (nI (kd)), .int (x)].toArray s 0 0 (fun r u => r = -1 ∧ ∃ P : Nat → Bool, u = CW ct ad da nd nb nf bdk num spt val tim rep byN byS P kn pe clk tol opn)) (CW ct ad da nd nb nf bdk num spt val tim rep byN byS pk kn pe clk tol opn) [(0, .ref (ad 0)), (1, .int (nI (d))), (2, .int (nI (t))), (3, .int (nI (kd))), (4, .int (x))] 0 []
  have hsb : sp < 2 ^ 31 := by have := hspt _ (hbS s0 hs); omega
  refine V.aload_n F d_T_settle_0 rfl 0 rfl ?_
  refine V.iload_n F d_T_settle_1 rfl 1 rfl ?_
  refine V.callVQ0 (As := [.int (nI (d))]) (rest := []) F (c_deskAt l D hnd d hd0) d_T_settle_2 sv_T_40 im_y_T_deskAt sl_y_T_deskAt 0 rfl rfl rfl rfl rfl (Nat.le_of_ble_eq_true rfl) ⟨rfl, rfl, (Nat.le_of_ble_eq_true rfl), (Nat.le_of_ble_eq_true rfl)⟩ ⟨(Nat.le_of_ble_eq_true rfl), (Nat.le_of_ble_eq_true rfl)⟩ (fun r9 u9 h9 => ?_)
  obtain ⟨rfl, rfl⟩ := h9
  refine V.astore (lv2 := [(5, .ref (da (d) 0)), (0, .ref (ad 0)), (1, .int (nI (d))), (2, .int (nI (t))), (3, .int (nI (kd))), (4, .int (x))]) F d_T_settle_5 (by decide) rfl ?_
  refine V.aload F d_T_settle_7 0 rfl ?_
  refine V.ifnull F d_T_settle_9 ?_
  refine V.iload_n F d_T_settle_12 rfl 3 rfl ?_
  refine V.iload_n F d_T_settle_13 rfl 4 rfl ?_
  refine V.callSI0 (As := [.int (nI (t)), .int (nI (kd))]) (rest := []) F (c_areTK l D _ ct (nI t) (nI kd)) d_T_settle_14 sv_T_44 st_y_T_areThingAndKind rfl rfl (Nat.le_of_ble_eq_true rfl) ⟨rfl, rfl, (Nat.le_of_ble_eq_true rfl), (Nat.le_of_ble_eq_true rfl)⟩ ⟨(Nat.le_of_ble_eq_true rfl), (Nat.le_of_ble_eq_true rfl)⟩ (fun r9 u9 h9 => ?_)
  obtain ⟨rfl, rfl⟩ := h9
  refine V.if_neB (b := decide (¬ nI t < 0 ∧ ¬ nI 100 ≤ nI t ∧ ¬ nI kd < 0 ∧ ¬ nI 10 ≤ nI kd)) (tgt := 22) F d_T_settle_17 (by decide) (fun c17 => ?_) (fun c17 => ?_)
  · skip
    refine V.aload_n F d_T_settle_22 rfl 1 rfl ?_
    refine V.get F ck_T d_T_settle_23 2 (by decide) lk_T_22 0 rfl rfl ?_
    refine V.aload F d_T_settle_26 0 rfl ?_
    refine V.getN F ck_K d_T_settle_28 1 (by decide) lk_T_65 (13 + (5 * (d) + 0)) (cw_d0 hd0) rfl ?_
    refine V.iload_n F d_T_settle_31 rfl 3 rfl ?_
    refine V.iload_n F d_T_settle_32 rfl 4 rfl ?_
    refine V.iconst F d_T_settle_33 (v := nI (0)) (by decide) ?_
    refine V.callSI0 (As := [.int (nI (t)), .int (nI (kd)), .int (nI (0))]) (rest := [.ref (da (d) 1), .ref (ad 3)]) F (c_spotOf l D _ ct t kd 0) d_T_settle_34 sv_T_53 st_y_T_spotOf rfl rfl (Nat.le_of_ble_eq_true rfl) ⟨rfl, rfl, (Nat.le_of_ble_eq_true rfl), (Nat.le_of_ble_eq_true rfl)⟩ ⟨(Nat.le_of_ble_eq_true rfl), (Nat.le_of_ble_eq_true rfl)⟩ (fun r9 u9 h9 => ?_)
    obtain ⟨rfl, rfl⟩ := h9
    refine V.iconst F d_T_settle_37 (v := nI (0)) (by decide) ?_
    refine V.callVI0 (As := [.ref (da (d) 1), .int (nI ((t * 10 + kd) * 100001 + 0)), .int (nI (0))]) (rest := []) F (c_cfSpot l D hnf hbS hspt hso hsu d hd0 ((t * 10 + kd) * 100001 + 0) (sp_lo ht hkd) (nI 0)) d_T_settle_38 sv_T_100 im_y_A_conflictSpot sl_y_A_conflictSpot 3 rfl rfl rfl rfl rfl (Nat.le_of_ble_eq_true rfl) ⟨rfl, rfl, (Nat.le_of_ble_eq_true rfl), (Nat.le_of_ble_eq_true rfl)⟩ ⟨(Nat.le_of_ble_eq_true rfl), (Nat.le_of_ble_eq_true rfl)⟩ (fun r9 u9 h9 => ?_)
    obtain ⟨h9, rfl⟩ := h9
    have e9 := kth_yes (G2 := (fun a => decide ((t * 10 + kd) * 100001 + 0 ≤ spt (byS a)) && (isF spt byS a && cfB spt val (stB (kn d) rep) nf (spt (byS a))))) (R := fun m => nI (spt (byS m))) hnf h9 (fun j hj => rfl) hs hsG hsk
    rw [hsp] at e9
    subst e9
    refine V.istore (lv2 := [(6, .int (nI (sp))), (5, .ref (da (d) 0)), (0, .ref (ad 0)), (1, .int (nI (d))), (2, .int (nI (t))), (3, .int (nI (kd))), (4, .int (x))]) F d_T_settle_41 (by decide) rfl ?_
    refine V.iload F d_T_settle_43 0 rfl ?_
    refine V.iconst F d_T_settle_45 (v := -1) (by decide) ?_
    refine V.icmp_eq (x := nI (sp)) (y := -1) (tgt := 61) F d_T_settle_46 (by decide) (fun c46 => ?_) (fun c46 => ?_)
    · skip
      exact absurd c46 (nI_nm1 (by omega))
    · skip
      refine V.iload F d_T_settle_49 0 rfl ?_
      refine V.iload_n F d_T_settle_51 rfl 4 rfl ?_
      refine V.iload_n F d_T_settle_52 rfl 5 rfl ?_
      refine V.ldc F d_T_settle_53 (v := nI (100000)) lk_T_128 ?_
      refine V.callSI0 (As := [.int (nI (t)), .int (nI (kd)), .int (nI (100000))]) (rest := [.int (nI (sp))]) F (c_spotOf l D _ ct t kd 100000) d_T_settle_55 sv_T_53 st_y_T_spotOf rfl rfl (Nat.le_of_ble_eq_true rfl) ⟨rfl, rfl, (Nat.le_of_ble_eq_true rfl), (Nat.le_of_ble_eq_true rfl)⟩ ⟨(Nat.le_of_ble_eq_true rfl), (Nat.le_of_ble_eq_true rfl)⟩ (fun r9 u9 h9 => ?_)
      obtain ⟨rfl, rfl⟩ := h9
      refine V.icmp_leN (tgt := 63) F d_T_settle_58 (by decide) (by omega) (by omega) (fun c58 => ?_) (fun c58 => ?_)
      · skip
        refine V.aload_n F d_T_settle_63 rfl 2 rfl ?_
        refine V.get F ck_T d_T_settle_64 2 (by decide) lk_T_22 0 rfl rfl ?_
        refine V.aload F d_T_settle_67 1 rfl ?_
        refine V.getN F ck_K d_T_settle_69 1 (by decide) lk_T_65 (13 + (5 * (d) + 0)) (cw_d0 hd0) rfl ?_
        refine V.iload F d_T_settle_72 0 rfl ?_
        refine V.aload_n F d_T_settle_74 rfl 2 rfl ?_
        refine V.get F ck_T d_T_settle_75 3 (by decide) lk_T_29 0 rfl rfl ?_
        refine V.callVV0 (As := [.ref (da (d) 1), .int (nI (sp)), .ref (ad 11)]) (rest := []) F (c_pickStanding l D hnf d hd0 sp (by have := hspt _ (hbS s0 hs); omega) hspt) d_T_settle_78 sv_T_104 im_y_A_pickStanding sl_y_A_pickStanding 3 rfl rfl rfl rfl rfl (Nat.le_of_ble_eq_true rfl) ⟨rfl, rfl, (Nat.le_of_ble_eq_true rfl), (Nat.le_of_ble_eq_true rfl)⟩ ⟨(Nat.le_of_ble_eq_true rfl), (Nat.le_of_ble_eq_true rfl)⟩ (fun u9 h9 => ?_)
        obtain ⟨P, hP, rfl⟩ := h9
        refine V.aload_n F d_T_settle_81 rfl 2 rfl ?_
        refine V.get F ck_T d_T_settle_82 2 (by decide) lk_T_22 0 rfl rfl ?_
        refine V.aload_n F d_T_settle_85 rfl 2 rfl ?_
        refine V.get F ck_T d_T_settle_86 3 (by decide) lk_T_29 0 rfl rfl ?_
        refine V.iload F d_T_settle_89 6 rfl ?_
        refine V.callVI0 (As := [.ref (ad 11), .int (x)]) (rest := []) F (c_inOrder l D hnf hbN (x)) d_T_settle_91 sv_T_121 im_y_A_inOrder sl_y_A_inOrder 3 rfl rfl rfl rfl rfl (Nat.le_of_ble_eq_true rfl) ⟨rfl, rfl, (Nat.le_of_ble_eq_true rfl), (Nat.le_of_ble_eq_true rfl)⟩ ⟨(Nat.le_of_ble_eq_true rfl), (Nat.le_of_ble_eq_true rfl)⟩ (fun r9 u9 h9 => ?_)
        obtain ⟨h9, rfl⟩ := h9
        have e9 := kth_no (G2 := fun j => (fun k => decide (k < nf) && (decide (spt k = sp) && stB (kn d) rep k)) (byN j)) (R := fun m => nI (byN m)) h9 (fun j hj => hP _ (by have := hbN j hj; omega)) hno
        subst e9
        refine V.istore (lv2 := [(7, .int (-1)), (6, .int (nI (sp))), (5, .ref (da (d) 0)), (0, .ref (ad 0)), (1, .int (nI (d))), (2, .int (nI (t))), (3, .int (nI (kd))), (4, .int (x))]) F d_T_settle_94 (by decide) rfl ?_
        refine V.iload F d_T_settle_96 0 rfl ?_
        refine V.iconst F d_T_settle_98 (v := -1) (by decide) ?_
        refine V.icmp_ne (x := -1) (y := -1) (tgt := 104) F d_T_settle_99 (by decide) (fun c99 => ?_) (fun c99 => ?_)
        · skip
          exact absurd rfl c99
        · skip
          refine V.iconst F d_T_settle_102 (v := -1) (by decide) ?_
          exact V.iret F hr d_T_settle_103 (⟨rfl, P, rfl⟩)
      · skip
        exact absurd c58 (by omega)
  · skip
    exact absurd c17 (by rw [tk_ok ht hkd]; decide)

set_option maxHeartbeats 4000000 in
set_option maxRecDepth 100000 in
theorem c_seFull (l : Launch) (D : va_G) {ct : Nat → ClassId} {ad : Nat → Nat} {da : Nat → Nat → Nat} {nd : Nat} {nb : Nat} {nf : Nat} {bdk : Nat → Nat} {num : Nat → Nat} {spt : Nat → Nat} {val : Nat → Int64} {tim : Nat → Nat} {rep : Nat → Nat → Bool} {byN : Nat → Nat} {byS : Nat → Nat} {pk : Nat → Bool} {kn : Nat → Nat → Bool} {pe : Nat → Nat → Bool} {clk : Nat → Nat} {tol : Nat → Nat} {opn : Nat → Option Nat} (hnd : nd ≤ 8) (d : Nat) (hd0 : d < nd) (hbS : ∀ j, j < nf → byS j < nf) (hspt : ∀ k, k < nf → spt k < 2 ^ 31) (hso : ∀ a b, a ≤ b → b < nf → spt (byS a) ≤ spt (byS b)) (hsu : ∀ f, f < nf → ∃ a, a < nf ∧ byS a = f) (hbN : ∀ j, j < nf → byN j < nf) (t kd : Nat) (ht : t < 100) (hkd : kd < 10) (x : Int32) (s0 : Nat) (hs : s0 < nf) (hsG : (fun a => decide ((t * 10 + kd) * 100001 + 0 ≤ spt (byS a)) && (isF spt byS a && cfB spt val (stB (kn d) rep) nf (spt (byS a)))) s0 = true) (hsk : nI 0 = nI (cnt (fun a => decide ((t * 10 + kd) * 100001 + 0 ≤ spt (byS a)) && (isF spt byS a && cfB spt val (stB (kn d) rep) nf (spt (byS a)))) s0)) (sp : Nat) (hsp : spt (byS s0) = sp) (hhi : sp ≤ (t * 10 + kd) * 100001 + 100000) (mm : Nat) (hm : mm < nf) (hmq : (fun j => (fun k => decide (k < nf) && (decide (spt k = sp) && stB (kn d) rep k)) (byN j)) mm = true) (hmx : x = nI (cnt (fun j => (fun k => decide (k < nf) && (decide (spt k = sp) && stB (kn d) rep k)) (byN j)) mm)) (hnf9 : nf = 300) : CI l y_T_settle b_T_settle 8 (some .int) (rmK 5 0 0) D (tyL ct) (CW ct ad da nd nb nf bdk num spt val tim rep byN byS pk kn pe clk tol opn) [.ref (ad 0), .int (nI (d)), .int (nI (t)), .int (nI (kd)), .int (x)] 0 0 (fun r u => r = -2 ∧ ∃ P : Nat → Bool, u = CW ct ad da nd nb nf bdk num spt val tim rep byN byS P kn pe clk tol opn) := by
  refine CI.start (by decide) (Nat.le_of_ble_eq_true rfl) ?_
  intro p e s m below meth c F hr hnm
  show V p l e (rmK 5 0 0) s m [.ref (ad 0), .int (nI (d)), .int (nI (t)), .int (nI (kd)), .int (x)].toArray below meth c D (va_A (CW ct ad da nd nb nf bdk num spt val tim rep byN byS pk kn pe clk tol opn) s.heap.size) 8 0 0 (EI D below (CW ct ad da nd nb nf bdk num spt val tim rep byN byS pk kn pe clk tol opn) [.ref (ad 0), .int (nI (d)), .int (nI (t)), .int (nI (kd)), .int (x)].toArray s 0 0 (fun r u => r = -2 ∧ ∃ P : Nat → Bool, u = CW ct ad da nd nb nf bdk num spt val tim rep byN byS P kn pe clk tol opn)) (CW ct ad da nd nb nf bdk num spt val tim rep byN byS pk kn pe clk tol opn) [(0, .ref (ad 0)), (1, .int (nI (d))), (2, .int (nI (t))), (3, .int (nI (kd))), (4, .int (x))] 0 []
  have hnf : nf ≤ 300 := by omega
  have hsb : sp < 2 ^ 31 := by have := hspt _ (hbS s0 hs); omega
  refine V.aload_n F d_T_settle_0 rfl 0 rfl ?_
  refine V.iload_n F d_T_settle_1 rfl 1 rfl ?_
  refine V.callVQ0 (As := [.int (nI (d))]) (rest := []) F (c_deskAt l D hnd d hd0) d_T_settle_2 sv_T_40 im_y_T_deskAt sl_y_T_deskAt 0 rfl rfl rfl rfl rfl (Nat.le_of_ble_eq_true rfl) ⟨rfl, rfl, (Nat.le_of_ble_eq_true rfl), (Nat.le_of_ble_eq_true rfl)⟩ ⟨(Nat.le_of_ble_eq_true rfl), (Nat.le_of_ble_eq_true rfl)⟩ (fun r9 u9 h9 => ?_)
  obtain ⟨rfl, rfl⟩ := h9
  refine V.astore (lv2 := [(5, .ref (da (d) 0)), (0, .ref (ad 0)), (1, .int (nI (d))), (2, .int (nI (t))), (3, .int (nI (kd))), (4, .int (x))]) F d_T_settle_5 (by decide) rfl ?_
  refine V.aload F d_T_settle_7 0 rfl ?_
  refine V.ifnull F d_T_settle_9 ?_
  refine V.iload_n F d_T_settle_12 rfl 3 rfl ?_
  refine V.iload_n F d_T_settle_13 rfl 4 rfl ?_
  refine V.callSI0 (As := [.int (nI (t)), .int (nI (kd))]) (rest := []) F (c_areTK l D _ ct (nI t) (nI kd)) d_T_settle_14 sv_T_44 st_y_T_areThingAndKind rfl rfl (Nat.le_of_ble_eq_true rfl) ⟨rfl, rfl, (Nat.le_of_ble_eq_true rfl), (Nat.le_of_ble_eq_true rfl)⟩ ⟨(Nat.le_of_ble_eq_true rfl), (Nat.le_of_ble_eq_true rfl)⟩ (fun r9 u9 h9 => ?_)
  obtain ⟨rfl, rfl⟩ := h9
  refine V.if_neB (b := decide (¬ nI t < 0 ∧ ¬ nI 100 ≤ nI t ∧ ¬ nI kd < 0 ∧ ¬ nI 10 ≤ nI kd)) (tgt := 22) F d_T_settle_17 (by decide) (fun c17 => ?_) (fun c17 => ?_)
  · skip
    refine V.aload_n F d_T_settle_22 rfl 1 rfl ?_
    refine V.get F ck_T d_T_settle_23 2 (by decide) lk_T_22 0 rfl rfl ?_
    refine V.aload F d_T_settle_26 0 rfl ?_
    refine V.getN F ck_K d_T_settle_28 1 (by decide) lk_T_65 (13 + (5 * (d) + 0)) (cw_d0 hd0) rfl ?_
    refine V.iload_n F d_T_settle_31 rfl 3 rfl ?_
    refine V.iload_n F d_T_settle_32 rfl 4 rfl ?_
    refine V.iconst F d_T_settle_33 (v := nI (0)) (by decide) ?_
    refine V.callSI0 (As := [.int (nI (t)), .int (nI (kd)), .int (nI (0))]) (rest := [.ref (da (d) 1), .ref (ad 3)]) F (c_spotOf l D _ ct t kd 0) d_T_settle_34 sv_T_53 st_y_T_spotOf rfl rfl (Nat.le_of_ble_eq_true rfl) ⟨rfl, rfl, (Nat.le_of_ble_eq_true rfl), (Nat.le_of_ble_eq_true rfl)⟩ ⟨(Nat.le_of_ble_eq_true rfl), (Nat.le_of_ble_eq_true rfl)⟩ (fun r9 u9 h9 => ?_)
    obtain ⟨rfl, rfl⟩ := h9
    refine V.iconst F d_T_settle_37 (v := nI (0)) (by decide) ?_
    refine V.callVI0 (As := [.ref (da (d) 1), .int (nI ((t * 10 + kd) * 100001 + 0)), .int (nI (0))]) (rest := []) F (c_cfSpot l D hnf hbS hspt hso hsu d hd0 ((t * 10 + kd) * 100001 + 0) (sp_lo ht hkd) (nI 0)) d_T_settle_38 sv_T_100 im_y_A_conflictSpot sl_y_A_conflictSpot 3 rfl rfl rfl rfl rfl (Nat.le_of_ble_eq_true rfl) ⟨rfl, rfl, (Nat.le_of_ble_eq_true rfl), (Nat.le_of_ble_eq_true rfl)⟩ ⟨(Nat.le_of_ble_eq_true rfl), (Nat.le_of_ble_eq_true rfl)⟩ (fun r9 u9 h9 => ?_)
    obtain ⟨h9, rfl⟩ := h9
    have e9 := kth_yes (G2 := (fun a => decide ((t * 10 + kd) * 100001 + 0 ≤ spt (byS a)) && (isF spt byS a && cfB spt val (stB (kn d) rep) nf (spt (byS a))))) (R := fun m => nI (spt (byS m))) hnf h9 (fun j hj => rfl) hs hsG hsk
    rw [hsp] at e9
    subst e9
    refine V.istore (lv2 := [(6, .int (nI (sp))), (5, .ref (da (d) 0)), (0, .ref (ad 0)), (1, .int (nI (d))), (2, .int (nI (t))), (3, .int (nI (kd))), (4, .int (x))]) F d_T_settle_41 (by decide) rfl ?_
    refine V.iload F d_T_settle_43 0 rfl ?_
    refine V.iconst F d_T_settle_45 (v := -1) (by decide) ?_
    refine V.icmp_eq (x := nI (sp)) (y := -1) (tgt := 61) F d_T_settle_46 (by decide) (fun c46 => ?_) (fun c46 => ?_)
    · skip
      exact absurd c46 (nI_nm1 (by omega))
    · skip
      refine V.iload F d_T_settle_49 0 rfl ?_
      refine V.iload_n F d_T_settle_51 rfl 4 rfl ?_
      refine V.iload_n F d_T_settle_52 rfl 5 rfl ?_
      refine V.ldc F d_T_settle_53 (v := nI (100000)) lk_T_128 ?_
      refine V.callSI0 (As := [.int (nI (t)), .int (nI (kd)), .int (nI (100000))]) (rest := [.int (nI (sp))]) F (c_spotOf l D _ ct t kd 100000) d_T_settle_55 sv_T_53 st_y_T_spotOf rfl rfl (Nat.le_of_ble_eq_true rfl) ⟨rfl, rfl, (Nat.le_of_ble_eq_true rfl), (Nat.le_of_ble_eq_true rfl)⟩ ⟨(Nat.le_of_ble_eq_true rfl), (Nat.le_of_ble_eq_true rfl)⟩ (fun r9 u9 h9 => ?_)
      obtain ⟨rfl, rfl⟩ := h9
      refine V.icmp_leN (tgt := 63) F d_T_settle_58 (by decide) (by omega) (by omega) (fun c58 => ?_) (fun c58 => ?_)
      · skip
        refine V.aload_n F d_T_settle_63 rfl 2 rfl ?_
        refine V.get F ck_T d_T_settle_64 2 (by decide) lk_T_22 0 rfl rfl ?_
        refine V.aload F d_T_settle_67 1 rfl ?_
        refine V.getN F ck_K d_T_settle_69 1 (by decide) lk_T_65 (13 + (5 * (d) + 0)) (cw_d0 hd0) rfl ?_
        refine V.iload F d_T_settle_72 0 rfl ?_
        refine V.aload_n F d_T_settle_74 rfl 2 rfl ?_
        refine V.get F ck_T d_T_settle_75 3 (by decide) lk_T_29 0 rfl rfl ?_
        refine V.callVV0 (As := [.ref (da (d) 1), .int (nI (sp)), .ref (ad 11)]) (rest := []) F (c_pickStanding l D hnf d hd0 sp (by have := hspt _ (hbS s0 hs); omega) hspt) d_T_settle_78 sv_T_104 im_y_A_pickStanding sl_y_A_pickStanding 3 rfl rfl rfl rfl rfl (Nat.le_of_ble_eq_true rfl) ⟨rfl, rfl, (Nat.le_of_ble_eq_true rfl), (Nat.le_of_ble_eq_true rfl)⟩ ⟨(Nat.le_of_ble_eq_true rfl), (Nat.le_of_ble_eq_true rfl)⟩ (fun u9 h9 => ?_)
        obtain ⟨P, hP, rfl⟩ := h9
        refine V.aload_n F d_T_settle_81 rfl 2 rfl ?_
        refine V.get F ck_T d_T_settle_82 2 (by decide) lk_T_22 0 rfl rfl ?_
        refine V.aload_n F d_T_settle_85 rfl 2 rfl ?_
        refine V.get F ck_T d_T_settle_86 3 (by decide) lk_T_29 0 rfl rfl ?_
        refine V.iload F d_T_settle_89 6 rfl ?_
        refine V.callVI0 (As := [.ref (ad 11), .int (x)]) (rest := []) F (c_inOrder l D hnf hbN (x)) d_T_settle_91 sv_T_121 im_y_A_inOrder sl_y_A_inOrder 3 rfl rfl rfl rfl rfl (Nat.le_of_ble_eq_true rfl) ⟨rfl, rfl, (Nat.le_of_ble_eq_true rfl), (Nat.le_of_ble_eq_true rfl)⟩ ⟨(Nat.le_of_ble_eq_true rfl), (Nat.le_of_ble_eq_true rfl)⟩ (fun r9 u9 h9 => ?_)
        obtain ⟨h9, rfl⟩ := h9
        have e9 := kth_yes (G2 := fun j => (fun k => decide (k < nf) && (decide (spt k = sp) && stB (kn d) rep k)) (byN j)) (R := fun m => nI (byN m)) hnf h9 (fun j hj => hP _ (by have := hbN j hj; omega)) hm hmq hmx
        subst e9
        refine V.istore (lv2 := [(7, .int (nI (byN mm))), (6, .int (nI (sp))), (5, .ref (da (d) 0)), (0, .ref (ad 0)), (1, .int (nI (d))), (2, .int (nI (t))), (3, .int (nI (kd))), (4, .int (x))]) F d_T_settle_94 (by decide) rfl ?_
        refine V.iload F d_T_settle_96 0 rfl ?_
        refine V.iconst F d_T_settle_98 (v := -1) (by decide) ?_
        refine V.icmp_ne (x := nI (byN mm)) (y := -1) (tgt := 104) F d_T_settle_99 (by decide) (fun c99 => ?_) (fun c99 => ?_)
        · skip
          refine V.aload_n F d_T_settle_104 rfl 3 rfl ?_
          refine V.aload F d_T_settle_105 2 rfl ?_
          refine V.iload F d_T_settle_107 1 rfl ?_
          refine V.aload_n F d_T_settle_109 rfl 3 rfl ?_
          refine V.get F ck_T d_T_settle_110 2 (by decide) lk_T_22 0 rfl rfl ?_
          refine V.getN F ck_A d_T_settle_113 2 (by decide) lk_T_96 3 rfl rfl ?_
          refine V.iload F d_T_settle_116 0 rfl ?_
          refine V.lald (v := val (byN mm)) F d_T_settle_118 6 1 rfl rfl (by have := hbN mm hm; omega) (by decide) rfl ?_
          refine V.aload_n F d_T_settle_119 rfl 3 rfl ?_
          refine V.get F ck_T d_T_settle_120 3 (by decide) lk_T_29 0 rfl rfl ?_
          refine V.callVI0 (As := [.ref (da (d) 0), .int (nI (sp)), .long (val (byN mm)), .ref (ad 11)]) (rest := []) F (c_tellRFull l D d hd0 sp (val (byN mm)) hnf9) d_T_settle_123 sv_T_57 im_y_T_tellReplacing sl_y_T_tellReplacing 0 rfl rfl rfl rfl rfl (Nat.le_of_ble_eq_true rfl) ⟨rfl, rfl, (Nat.le_of_ble_eq_true rfl), (Nat.le_of_ble_eq_true rfl)⟩ ⟨(Nat.le_of_ble_eq_true rfl), (Nat.le_of_ble_eq_true rfl)⟩ (fun r9 u9 h9 => ?_)
          obtain ⟨rfl, rfl⟩ := h9
          exact V.iret F hr d_T_settle_126 (⟨rfl, P, rfl⟩)
        · skip
          exact absurd c99 (nI_nm1 (by have := hbN mm hm; omega))
      · skip
        exact absurd c58 (by omega)
  · skip
    exact absurd c17 (by rw [tk_ok ht hkd]; decide)

set_option maxHeartbeats 4000000 in
set_option maxRecDepth 100000 in
theorem c_se (l : Launch) (D : va_G) {ct : Nat → ClassId} {ad : Nat → Nat} {da : Nat → Nat → Nat} {nd : Nat} {nb : Nat} {nf : Nat} {bdk : Nat → Nat} {num : Nat → Nat} {spt : Nat → Nat} {val : Nat → Int64} {tim : Nat → Nat} {rep : Nat → Nat → Bool} {byN : Nat → Nat} {byS : Nat → Nat} {pk : Nat → Bool} {kn : Nat → Nat → Bool} {pe : Nat → Nat → Bool} {clk : Nat → Nat} {tol : Nat → Nat} {opn : Nat → Option Nat} (hnd : nd ≤ 8) (d : Nat) (hd0 : d < nd) (hbS : ∀ j, j < nf → byS j < nf) (hspt : ∀ k, k < nf → spt k < 2 ^ 31) (hso : ∀ a b, a ≤ b → b < nf → spt (byS a) ≤ spt (byS b)) (hsu : ∀ f, f < nf → ∃ a, a < nf ∧ byS a = f) (hbN : ∀ j, j < nf → byN j < nf) (t kd : Nat) (ht : t < 100) (hkd : kd < 10) (x : Int32) (s0 : Nat) (hs : s0 < nf) (hsG : (fun a => decide ((t * 10 + kd) * 100001 + 0 ≤ spt (byS a)) && (isF spt byS a && cfB spt val (stB (kn d) rep) nf (spt (byS a)))) s0 = true) (hsk : nI 0 = nI (cnt (fun a => decide ((t * 10 + kd) * 100001 + 0 ≤ spt (byS a)) && (isF spt byS a && cfB spt val (stB (kn d) rep) nf (spt (byS a)))) s0)) (sp : Nat) (hsp : spt (byS s0) = sp) (hhi : sp ≤ (t * 10 + kd) * 100001 + 100000) (mm : Nat) (hm : mm < nf) (hmq : (fun j => (fun k => decide (k < nf) && (decide (spt k = sp) && stB (kn d) rep k)) (byN j)) mm = true) (hmx : x = nI (cnt (fun j => (fun k => decide (k < nf) && (decide (spt k = sp) && stB (kn d) rep k)) (byN j)) mm)) (hlt : nf < 300) (hnum : ∀ k, k < nf → num k < 2 ^ 31) (htol : tol d ≤ 300) (hob : ∀ b0, opn d = some b0 → b0 < 2 ^ 31) : CI l y_T_settle b_T_settle 8 (some .int) (rmK 5 0 0) D (tyL ct) (CW ct ad da nd nb nf bdk num spt val tim rep byN byS pk kn pe clk tol opn) [.ref (ad 0), .int (nI (d)), .int (nI (t)), .int (nI (kd)), .int (x)] 0 0 (fun r u => r = nI (8 * tol d + d) ∧ ∃ (P : Nat → Bool) (Rp : Nat → Nat → Bool) (p1 p2 : Nat) (B1 B2 : Nat → Nat), (∀ k, k < 320 → P k = (fun k => decide (k < nf) && (decide (spt k = sp) && stB (kn d) rep k)) k) ∧ (∀ o n, Rp o n = (rep o n || (decide (o < nf) && (P o && decide (n = nf))))) ∧ (p1 ≤ nf ∧ (∀ j, j < p1 → B1 j = byN j) ∧ B1 p1 = nf ∧ (∀ j, p1 < j → j ≤ nf → B1 j = byN (j - 1)) ∧ (∀ j, p1 ≤ j → j < nf → va_up num nf (8 * tol d + d) nf < va_up num nf (8 * tol d + d) (byN j)) ∧ (∀ i, p1 = i + 1 → va_up num nf (8 * tol d + d) (byN i) ≤ va_up num nf (8 * tol d + d) nf)) ∧ (p2 ≤ nf ∧ (∀ j, j < p2 → B2 j = byS j) ∧ B2 p2 = nf ∧ (∀ j, p2 < j → j ≤ nf → B2 j = byS (j - 1)) ∧ (∀ j, p2 ≤ j → j < nf → va_up spt nf sp nf < va_up spt nf sp (byS j)) ∧ (∀ i, p2 = i + 1 → va_up spt nf sp (byS i) ≤ va_up spt nf sp nf)) ∧ u = CW ct ad da nd nb (nf + 1) bdk (va_up num nf (8 * tol d + d)) (va_up spt nf sp) (va_up val nf (val (byN mm))) (va_up tim nf (clk d + 1)) Rp B1 B2 P (knH opn kn d nf) (peH opn pe d nf) (va_up clk (d) ((clk (d)) + (1))) (va_up tol (d) ((tol (d)) + (1))) opn) := by
  refine CI.start (by decide) (Nat.le_of_ble_eq_true rfl) ?_
  intro p e s m below meth c F hr hnm
  show V p l e (rmK 5 0 0) s m [.ref (ad 0), .int (nI (d)), .int (nI (t)), .int (nI (kd)), .int (x)].toArray below meth c D (va_A (CW ct ad da nd nb nf bdk num spt val tim rep byN byS pk kn pe clk tol opn) s.heap.size) 8 0 0 (EI D below (CW ct ad da nd nb nf bdk num spt val tim rep byN byS pk kn pe clk tol opn) [.ref (ad 0), .int (nI (d)), .int (nI (t)), .int (nI (kd)), .int (x)].toArray s 0 0 (fun r u => r = nI (8 * tol d + d) ∧ ∃ (P : Nat → Bool) (Rp : Nat → Nat → Bool) (p1 p2 : Nat) (B1 B2 : Nat → Nat), (∀ k, k < 320 → P k = (fun k => decide (k < nf) && (decide (spt k = sp) && stB (kn d) rep k)) k) ∧ (∀ o n, Rp o n = (rep o n || (decide (o < nf) && (P o && decide (n = nf))))) ∧ (p1 ≤ nf ∧ (∀ j, j < p1 → B1 j = byN j) ∧ B1 p1 = nf ∧ (∀ j, p1 < j → j ≤ nf → B1 j = byN (j - 1)) ∧ (∀ j, p1 ≤ j → j < nf → va_up num nf (8 * tol d + d) nf < va_up num nf (8 * tol d + d) (byN j)) ∧ (∀ i, p1 = i + 1 → va_up num nf (8 * tol d + d) (byN i) ≤ va_up num nf (8 * tol d + d) nf)) ∧ (p2 ≤ nf ∧ (∀ j, j < p2 → B2 j = byS j) ∧ B2 p2 = nf ∧ (∀ j, p2 < j → j ≤ nf → B2 j = byS (j - 1)) ∧ (∀ j, p2 ≤ j → j < nf → va_up spt nf sp nf < va_up spt nf sp (byS j)) ∧ (∀ i, p2 = i + 1 → va_up spt nf sp (byS i) ≤ va_up spt nf sp nf)) ∧ u = CW ct ad da nd nb (nf + 1) bdk (va_up num nf (8 * tol d + d)) (va_up spt nf sp) (va_up val nf (val (byN mm))) (va_up tim nf (clk d + 1)) Rp B1 B2 P (knH opn kn d nf) (peH opn pe d nf) (va_up clk (d) ((clk (d)) + (1))) (va_up tol (d) ((tol (d)) + (1))) opn)) (CW ct ad da nd nb nf bdk num spt val tim rep byN byS pk kn pe clk tol opn) [(0, .ref (ad 0)), (1, .int (nI (d))), (2, .int (nI (t))), (3, .int (nI (kd))), (4, .int (x))] 0 []
  have hnf : nf ≤ 300 := by omega
  have hsb : sp < 2 ^ 31 := by have := hspt _ (hbS s0 hs); omega
  refine V.aload_n F d_T_settle_0 rfl 0 rfl ?_
  refine V.iload_n F d_T_settle_1 rfl 1 rfl ?_
  refine V.callVQ0 (As := [.int (nI (d))]) (rest := []) F (c_deskAt l D hnd d hd0) d_T_settle_2 sv_T_40 im_y_T_deskAt sl_y_T_deskAt 0 rfl rfl rfl rfl rfl (Nat.le_of_ble_eq_true rfl) ⟨rfl, rfl, (Nat.le_of_ble_eq_true rfl), (Nat.le_of_ble_eq_true rfl)⟩ ⟨(Nat.le_of_ble_eq_true rfl), (Nat.le_of_ble_eq_true rfl)⟩ (fun r9 u9 h9 => ?_)
  obtain ⟨rfl, rfl⟩ := h9
  refine V.astore (lv2 := [(5, .ref (da (d) 0)), (0, .ref (ad 0)), (1, .int (nI (d))), (2, .int (nI (t))), (3, .int (nI (kd))), (4, .int (x))]) F d_T_settle_5 (by decide) rfl ?_
  refine V.aload F d_T_settle_7 0 rfl ?_
  refine V.ifnull F d_T_settle_9 ?_
  refine V.iload_n F d_T_settle_12 rfl 3 rfl ?_
  refine V.iload_n F d_T_settle_13 rfl 4 rfl ?_
  refine V.callSI0 (As := [.int (nI (t)), .int (nI (kd))]) (rest := []) F (c_areTK l D _ ct (nI t) (nI kd)) d_T_settle_14 sv_T_44 st_y_T_areThingAndKind rfl rfl (Nat.le_of_ble_eq_true rfl) ⟨rfl, rfl, (Nat.le_of_ble_eq_true rfl), (Nat.le_of_ble_eq_true rfl)⟩ ⟨(Nat.le_of_ble_eq_true rfl), (Nat.le_of_ble_eq_true rfl)⟩ (fun r9 u9 h9 => ?_)
  obtain ⟨rfl, rfl⟩ := h9
  refine V.if_neB (b := decide (¬ nI t < 0 ∧ ¬ nI 100 ≤ nI t ∧ ¬ nI kd < 0 ∧ ¬ nI 10 ≤ nI kd)) (tgt := 22) F d_T_settle_17 (by decide) (fun c17 => ?_) (fun c17 => ?_)
  · skip
    refine V.aload_n F d_T_settle_22 rfl 1 rfl ?_
    refine V.get F ck_T d_T_settle_23 2 (by decide) lk_T_22 0 rfl rfl ?_
    refine V.aload F d_T_settle_26 0 rfl ?_
    refine V.getN F ck_K d_T_settle_28 1 (by decide) lk_T_65 (13 + (5 * (d) + 0)) (cw_d0 hd0) rfl ?_
    refine V.iload_n F d_T_settle_31 rfl 3 rfl ?_
    refine V.iload_n F d_T_settle_32 rfl 4 rfl ?_
    refine V.iconst F d_T_settle_33 (v := nI (0)) (by decide) ?_
    refine V.callSI0 (As := [.int (nI (t)), .int (nI (kd)), .int (nI (0))]) (rest := [.ref (da (d) 1), .ref (ad 3)]) F (c_spotOf l D _ ct t kd 0) d_T_settle_34 sv_T_53 st_y_T_spotOf rfl rfl (Nat.le_of_ble_eq_true rfl) ⟨rfl, rfl, (Nat.le_of_ble_eq_true rfl), (Nat.le_of_ble_eq_true rfl)⟩ ⟨(Nat.le_of_ble_eq_true rfl), (Nat.le_of_ble_eq_true rfl)⟩ (fun r9 u9 h9 => ?_)
    obtain ⟨rfl, rfl⟩ := h9
    refine V.iconst F d_T_settle_37 (v := nI (0)) (by decide) ?_
    refine V.callVI0 (As := [.ref (da (d) 1), .int (nI ((t * 10 + kd) * 100001 + 0)), .int (nI (0))]) (rest := []) F (c_cfSpot l D hnf hbS hspt hso hsu d hd0 ((t * 10 + kd) * 100001 + 0) (sp_lo ht hkd) (nI 0)) d_T_settle_38 sv_T_100 im_y_A_conflictSpot sl_y_A_conflictSpot 3 rfl rfl rfl rfl rfl (Nat.le_of_ble_eq_true rfl) ⟨rfl, rfl, (Nat.le_of_ble_eq_true rfl), (Nat.le_of_ble_eq_true rfl)⟩ ⟨(Nat.le_of_ble_eq_true rfl), (Nat.le_of_ble_eq_true rfl)⟩ (fun r9 u9 h9 => ?_)
    obtain ⟨h9, rfl⟩ := h9
    have e9 := kth_yes (G2 := (fun a => decide ((t * 10 + kd) * 100001 + 0 ≤ spt (byS a)) && (isF spt byS a && cfB spt val (stB (kn d) rep) nf (spt (byS a))))) (R := fun m => nI (spt (byS m))) hnf h9 (fun j hj => rfl) hs hsG hsk
    rw [hsp] at e9
    subst e9
    refine V.istore (lv2 := [(6, .int (nI (sp))), (5, .ref (da (d) 0)), (0, .ref (ad 0)), (1, .int (nI (d))), (2, .int (nI (t))), (3, .int (nI (kd))), (4, .int (x))]) F d_T_settle_41 (by decide) rfl ?_
    refine V.iload F d_T_settle_43 0 rfl ?_
    refine V.iconst F d_T_settle_45 (v := -1) (by decide) ?_
    refine V.icmp_eq (x := nI (sp)) (y := -1) (tgt := 61) F d_T_settle_46 (by decide) (fun c46 => ?_) (fun c46 => ?_)
    · skip
      exact absurd c46 (nI_nm1 (by omega))
    · skip
      refine V.iload F d_T_settle_49 0 rfl ?_
      refine V.iload_n F d_T_settle_51 rfl 4 rfl ?_
      refine V.iload_n F d_T_settle_52 rfl 5 rfl ?_
      refine V.ldc F d_T_settle_53 (v := nI (100000)) lk_T_128 ?_
      refine V.callSI0 (As := [.int (nI (t)), .int (nI (kd)), .int (nI (100000))]) (rest := [.int (nI (sp))]) F (c_spotOf l D _ ct t kd 100000) d_T_settle_55 sv_T_53 st_y_T_spotOf rfl rfl (Nat.le_of_ble_eq_true rfl) ⟨rfl, rfl, (Nat.le_of_ble_eq_true rfl), (Nat.le_of_ble_eq_true rfl)⟩ ⟨(Nat.le_of_ble_eq_true rfl), (Nat.le_of_ble_eq_true rfl)⟩ (fun r9 u9 h9 => ?_)
      obtain ⟨rfl, rfl⟩ := h9
      refine V.icmp_leN (tgt := 63) F d_T_settle_58 (by decide) (by omega) (by omega) (fun c58 => ?_) (fun c58 => ?_)
      · skip
        refine V.aload_n F d_T_settle_63 rfl 2 rfl ?_
        refine V.get F ck_T d_T_settle_64 2 (by decide) lk_T_22 0 rfl rfl ?_
        refine V.aload F d_T_settle_67 1 rfl ?_
        refine V.getN F ck_K d_T_settle_69 1 (by decide) lk_T_65 (13 + (5 * (d) + 0)) (cw_d0 hd0) rfl ?_
        refine V.iload F d_T_settle_72 0 rfl ?_
        refine V.aload_n F d_T_settle_74 rfl 2 rfl ?_
        refine V.get F ck_T d_T_settle_75 3 (by decide) lk_T_29 0 rfl rfl ?_
        refine V.callVV0 (As := [.ref (da (d) 1), .int (nI (sp)), .ref (ad 11)]) (rest := []) F (c_pickStanding l D hnf d hd0 sp (by have := hspt _ (hbS s0 hs); omega) hspt) d_T_settle_78 sv_T_104 im_y_A_pickStanding sl_y_A_pickStanding 3 rfl rfl rfl rfl rfl (Nat.le_of_ble_eq_true rfl) ⟨rfl, rfl, (Nat.le_of_ble_eq_true rfl), (Nat.le_of_ble_eq_true rfl)⟩ ⟨(Nat.le_of_ble_eq_true rfl), (Nat.le_of_ble_eq_true rfl)⟩ (fun u9 h9 => ?_)
        obtain ⟨P, hP, rfl⟩ := h9
        refine V.aload_n F d_T_settle_81 rfl 2 rfl ?_
        refine V.get F ck_T d_T_settle_82 2 (by decide) lk_T_22 0 rfl rfl ?_
        refine V.aload_n F d_T_settle_85 rfl 2 rfl ?_
        refine V.get F ck_T d_T_settle_86 3 (by decide) lk_T_29 0 rfl rfl ?_
        refine V.iload F d_T_settle_89 6 rfl ?_
        refine V.callVI0 (As := [.ref (ad 11), .int (x)]) (rest := []) F (c_inOrder l D hnf hbN (x)) d_T_settle_91 sv_T_121 im_y_A_inOrder sl_y_A_inOrder 3 rfl rfl rfl rfl rfl (Nat.le_of_ble_eq_true rfl) ⟨rfl, rfl, (Nat.le_of_ble_eq_true rfl), (Nat.le_of_ble_eq_true rfl)⟩ ⟨(Nat.le_of_ble_eq_true rfl), (Nat.le_of_ble_eq_true rfl)⟩ (fun r9 u9 h9 => ?_)
        obtain ⟨h9, rfl⟩ := h9
        have e9 := kth_yes (G2 := fun j => (fun k => decide (k < nf) && (decide (spt k = sp) && stB (kn d) rep k)) (byN j)) (R := fun m => nI (byN m)) hnf h9 (fun j hj => hP _ (by have := hbN j hj; omega)) hm hmq hmx
        subst e9
        refine V.istore (lv2 := [(7, .int (nI (byN mm))), (6, .int (nI (sp))), (5, .ref (da (d) 0)), (0, .ref (ad 0)), (1, .int (nI (d))), (2, .int (nI (t))), (3, .int (nI (kd))), (4, .int (x))]) F d_T_settle_94 (by decide) rfl ?_
        refine V.iload F d_T_settle_96 0 rfl ?_
        refine V.iconst F d_T_settle_98 (v := -1) (by decide) ?_
        refine V.icmp_ne (x := nI (byN mm)) (y := -1) (tgt := 104) F d_T_settle_99 (by decide) (fun c99 => ?_) (fun c99 => ?_)
        · skip
          refine V.aload_n F d_T_settle_104 rfl 3 rfl ?_
          refine V.aload F d_T_settle_105 2 rfl ?_
          refine V.iload F d_T_settle_107 1 rfl ?_
          refine V.aload_n F d_T_settle_109 rfl 3 rfl ?_
          refine V.get F ck_T d_T_settle_110 2 (by decide) lk_T_22 0 rfl rfl ?_
          refine V.getN F ck_A d_T_settle_113 2 (by decide) lk_T_96 3 rfl rfl ?_
          refine V.iload F d_T_settle_116 0 rfl ?_
          refine V.lald (v := val (byN mm)) F d_T_settle_118 6 1 rfl rfl (by have := hbN mm hm; omega) (by decide) rfl ?_
          refine V.aload_n F d_T_settle_119 rfl 3 rfl ?_
          refine V.get F ck_T d_T_settle_120 3 (by decide) lk_T_29 0 rfl rfl ?_
          refine V.callVI0 (As := [.ref (da (d) 0), .int (nI (sp)), .long (val (byN mm)), .ref (ad 11)]) (rest := []) F (c_tellR l D d hd0 sp (val (byN mm)) hlt hbN hbS hnum hspt hsb htol hnd hob) d_T_settle_123 sv_T_57 im_y_T_tellReplacing sl_y_T_tellReplacing 0 rfl rfl rfl rfl rfl (Nat.le_of_ble_eq_true rfl) ⟨rfl, rfl, (Nat.le_of_ble_eq_true rfl), (Nat.le_of_ble_eq_true rfl)⟩ ⟨(Nat.le_of_ble_eq_true rfl), (Nat.le_of_ble_eq_true rfl)⟩ (fun r9 u9 h9 => ?_)
          obtain ⟨rfl, Rp, p1, p2, B1, B2, hR, hB1, hB2, rfl⟩ := h9
          exact V.iret F hr d_T_settle_126 (⟨rfl, P, Rp, p1, p2, B1, B2, hP, hR, hB1, hB2, rfl⟩)
        · skip
          exact absurd c99 (nI_nm1 (by have := hbN mm hm; omega))
      · skip
        exact absurd c58 (by omega)
  · skip
    exact absurd c17 (by rw [tk_ok ht hkd]; decide)

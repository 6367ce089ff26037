theorem tk_ok {t k : Nat} (ht : t < 100) (hk : k < 10) : decide (¬ nI t < 0 ∧ ¬ nI 100 ≤ nI t ∧ ¬ nI k < 0 ∧ ¬ nI 10 ≤ nI k) = true := decide_eq_true ⟨nI_pos (by omega), nI_ge ht (by decide), nI_pos (by omega), nI_ge hk (by decide)⟩
theorem tk_bad {t k : Int32} {y : Int64} (hz : t < 0 ∨ nI 100 ≤ t ∨ k < 0 ∨ nI 10 ≤ k ∨ y < 0 ∨ 100000 < y) (h1 : decide (¬ t < 0 ∧ ¬ nI 100 ≤ t ∧ ¬ k < 0 ∧ ¬ nI 10 ≤ k) = true) (h2 : ¬ y < 0) (h3 : y < 100001) : False := by
  obtain ⟨a, b, c, d⟩ := of_decide_eq_true h1
  rcases hz with q | q | q | q | q | q
  · exact a q
  · exact b q
  · exact c q
  · exact d q
  · exact h2 q
  · simp only [Int64.lt_iff_toInt_lt] at q h3
    have e1 : (100000 : Int64).toInt = 100000 := by decide
    have e2 : (100001 : Int64).toInt = 100001 := by decide
    omega
theorem lN_lt1 {n : Nat} (h : n < 100001) : lN n < 100001 := (lN_lt (b := 100001) (by omega) (by decide)).mpr h
set_option maxHeartbeats 4000000 in
set_option maxRecDepth 100000 in
theorem c_tellNo (l : Launch) (D : va_G) {ct : Nat → ClassId} {ad : Nat → Nat} {da : Nat → Nat → Nat} {nd : Nat} {nb : Nat} {nf : Nat} {bdk : Nat → Nat} {num : Nat → Nat} {spt : Nat → Nat} {val : Nat → Int64} {tim : Nat → Nat} {rep : Nat → Nat → Bool} {byN : Nat → Nat} {byS : Nat → Nat} {pk : Nat → Bool} {kn : Nat → Nat → Bool} {pe : Nat → Nat → Bool} {clk : Nat → Nat} {tol : Nat → Nat} {opn : Nat → Option Nat} (x0 t kd : Int32) (y v : Int64) (hx : x0 < 0 ∨ nI nd ≤ x0) : CI l y_T_tell b_T_tell 9 (some .int) (rmK 4 0 0) D (tyL ct) (CW ct ad da nd nb nf bdk num spt val tim rep byN byS pk kn pe clk tol opn) [.ref (ad 0), .int (x0), .int (t), .int (kd), .long (y), .long (v)] 0 0 (fun r u => r = -1 ∧ u = CW ct ad da nd nb nf bdk num spt val tim rep byN byS pk kn pe clk tol opn) := by
  refine CI.start (by decide) (Nat.le_of_ble_eq_true rfl) ?_
  intro p e s m below meth c F hr hnm
  show V p l e (rmK 4 0 0) s m [.ref (ad 0), .int (x0), .int (t), .int (kd), .long (y), .long (v)].toArray below meth c D (va_A (CW ct ad da nd nb nf bdk num spt val tim rep byN byS pk kn pe clk tol opn) s.heap.size) 9 0 0 (EI D below (CW ct ad da nd nb nf bdk num spt val tim rep byN byS pk kn pe clk tol opn) [.ref (ad 0), .int (x0), .int (t), .int (kd), .long (y), .long (v)].toArray s 0 0 (fun r u => r = -1 ∧ u = CW ct ad da nd nb nf bdk num spt val tim rep byN byS pk kn pe clk tol opn)) (CW ct ad da nd nb nf bdk num spt val tim rep byN byS pk kn pe clk tol opn) [(0, .ref (ad 0)), (1, .int (x0)), (2, .int (t)), (3, .int (kd)), (4, .long (y)), (6, .long (v))] 0 []
  refine V.aload_n F d_T_tell_0 rfl 0 rfl ?_
  refine V.iload_n F d_T_tell_1 rfl 1 rfl ?_
  refine V.callVQ0 (As := [.int (x0)]) (rest := []) F (c_deskNo l D x0 hx) d_T_tell_2 sv_T_40 im_y_T_deskAt sl_y_T_deskAt 0 rfl rfl rfl rfl rfl (Nat.le_of_ble_eq_true rfl) ⟨rfl, rfl, (Nat.le_of_ble_eq_true rfl), (Nat.le_of_ble_eq_true rfl)⟩ ⟨(Nat.le_of_ble_eq_true rfl), (Nat.le_of_ble_eq_true rfl)⟩ (fun r9 u9 h9 => ?_)
  obtain ⟨rfl, rfl⟩ := h9
  refine V.astoreN (lv2 := [(8, .null), (0, .ref (ad 0)), (1, .int (x0)), (2, .int (t)), (3, .int (kd)), (4, .long (y)), (6, .long (v))]) F d_T_tell_5 (by decide) rfl ?_
  refine V.aloadN F d_T_tell_7 0 rfl ?_
  refine V.ifnullN (tgt := 36) F d_T_tell_9 (by decide) ?_
  refine V.iconst F d_T_tell_36 (v := -1) (by decide) ?_
  exact V.iret F hr d_T_tell_37 (⟨rfl, rfl⟩)

set_option maxHeartbeats 4000000 in
set_option maxRecDepth 100000 in
theorem c_tellBad (l : Launch) (D : va_G) {ct : Nat → ClassId} {ad : Nat → Nat} {da : Nat → Nat → Nat} {nd : Nat} {nb : Nat} {nf : Nat} {bdk : Nat → Nat} {num : Nat → Nat} {spt : Nat → Nat} {val : Nat → Int64} {tim : Nat → Nat} {rep : Nat → Nat → Bool} {byN : Nat → Nat} {byS : Nat → Nat} {pk : Nat → Bool} {kn : Nat → Nat → Bool} {pe : Nat → Nat → Bool} {clk : Nat → Nat} {tol : Nat → Nat} {opn : Nat → Option Nat} (hnd : nd ≤ 8) (d : Nat) (hd0 : d < nd) (t kd : Int32) (y v : Int64) (hz : t < 0 ∨ nI 100 ≤ t ∨ kd < 0 ∨ nI 10 ≤ kd ∨ y < 0 ∨ 100000 < y) : CI l y_T_tell b_T_tell 9 (some .int) (rmK 4 0 0) D (tyL ct) (CW ct ad da nd nb nf bdk num spt val tim rep byN byS pk kn pe clk tol opn) [.ref (ad 0), .int (nI (d)), .int (t), .int (kd), .long (y), .long (v)] 0 0 (fun r u => r = -1 ∧ u = CW ct ad da nd nb nf bdk num spt val tim rep byN byS pk kn pe clk tol opn) := by
  refine CI.start (by decide) (Nat.le_of_ble_eq_true rfl) ?_
  intro p e s m below meth c F hr hnm
  show V p l e (rmK 4 0 0) s m [.ref (ad 0), .int (nI (d)), .int (t), .int (kd), .long (y), .long (v)].toArray below meth c D (va_A (CW ct ad da nd nb nf bdk num spt val tim rep byN byS pk kn pe clk tol opn) s.heap.size) 9 0 0 (EI D below (CW ct ad da nd nb nf bdk num spt val tim rep byN byS pk kn pe clk tol opn) [.ref (ad 0), .int (nI (d)), .int (t), .int (kd), .long (y), .long (v)].toArray s 0 0 (fun r u => r = -1 ∧ u = CW ct ad da nd nb nf bdk num spt val tim rep byN byS pk kn pe clk tol opn)) (CW ct ad da nd nb nf bdk num spt val tim rep byN byS pk kn pe clk tol opn) [(0, .ref (ad 0)), (1, .int (nI (d))), (2, .int (t)), (3, .int (kd)), (4, .long (y)), (6, .long (v))] 0 []
  refine V.aload_n F d_T_tell_0 rfl 0 rfl ?_
  refine V.iload_n F d_T_tell_1 rfl 1 rfl ?_
  refine V.callVQ0 (As := [.int (nI (d))]) (rest := []) F (c_deskAt l D hnd d hd0) d_T_tell_2 sv_T_40 im_y_T_deskAt sl_y_T_deskAt 0 rfl rfl rfl rfl rfl (Nat.le_of_ble_eq_true rfl) ⟨rfl, rfl, (Nat.le_of_ble_eq_true rfl), (Nat.le_of_ble_eq_true rfl)⟩ ⟨(Nat.le_of_ble_eq_true rfl), (Nat.le_of_ble_eq_true rfl)⟩ (fun r9 u9 h9 => ?_)
  obtain ⟨rfl, rfl⟩ := h9
  refine V.astore (lv2 := [(8, .ref (da (d) 0)), (0, .ref (ad 0)), (1, .int (nI (d))), (2, .int (t)), (3, .int (kd)), (4, .long (y)), (6, .long (v))]) F d_T_tell_5 (by decide) rfl ?_
  refine V.aload F d_T_tell_7 0 rfl ?_
  refine V.ifnull F d_T_tell_9 ?_
  refine V.iload_n F d_T_tell_12 rfl 3 rfl ?_
  refine V.iload_n F d_T_tell_13 rfl 4 rfl ?_
  refine V.callSI0 (As := [.int (t), .int (kd)]) (rest := []) F (c_areTK l D _ ct t kd) d_T_tell_14 sv_T_44 st_y_T_areThingAndKind rfl rfl (Nat.le_of_ble_eq_true rfl) ⟨rfl, rfl, (Nat.le_of_ble_eq_true rfl), (Nat.le_of_ble_eq_true rfl)⟩ ⟨(Nat.le_of_ble_eq_true rfl), (Nat.le_of_ble_eq_true rfl)⟩ (fun r9 u9 h9 => ?_)
  obtain ⟨rfl, rfl⟩ := h9
  refine V.if_eqB (b := decide (¬ t < 0 ∧ ¬ nI 100 ≤ t ∧ ¬ kd < 0 ∧ ¬ nI 10 ≤ kd)) (tgt := 36) F d_T_tell_17 (by decide) (fun c17 => ?_) (fun c17 => ?_)
  · skip
    refine V.iconst F d_T_tell_36 (v := -1) (by decide) ?_
    exact V.iret F hr d_T_tell_37 (⟨rfl, rfl⟩)
  · skip
    refine V.lload F d_T_tell_20 5 rfl ?_
    refine V.lconst F d_T_tell_22 (v := 0) (by decide) ?_
    refine V.lcmp_lt (tgt := 36) F d_T_tell_23 d_T_tell_24 (by decide) (fun c23 => ?_) (fun c23 => ?_)
    · skip
      refine V.iconst F d_T_tell_36 (v := -1) (by decide) ?_
      exact V.iret F hr d_T_tell_37 (⟨rfl, rfl⟩)
    · skip
      refine V.lload F d_T_tell_27 5 rfl ?_
      refine V.ldc2 F d_T_tell_29 (v := 100001) lk_T_48 ?_
      refine V.lcmp_lt (tgt := 38) F d_T_tell_32 d_T_tell_33 (by decide) (fun c32 => ?_) (fun c32 => ?_)
      · skip
        exact (tk_bad hz c17 c23 c32).elim
      · skip
        refine V.iconst F d_T_tell_36 (v := -1) (by decide) ?_
        exact V.iret F hr d_T_tell_37 (⟨rfl, rfl⟩)

set_option maxHeartbeats 4000000 in
set_option maxRecDepth 100000 in
theorem c_tellFull (l : Launch) (D : va_G) {ct : Nat → ClassId} {ad : Nat → Nat} {da : Nat → Nat → Nat} {nd : Nat} {nb : Nat} {nf : Nat} {bdk : Nat → Nat} {num : Nat → Nat} {spt : Nat → Nat} {val : Nat → Int64} {tim : Nat → Nat} {rep : Nat → Nat → Bool} {byN : Nat → Nat} {byS : Nat → Nat} {pk : Nat → Bool} {kn : Nat → Nat → Bool} {pe : Nat → Nat → Bool} {clk : Nat → Nat} {tol : Nat → Nat} {opn : Nat → Option Nat} (hnd : nd ≤ 8) (d : Nat) (hd0 : d < nd) (t kd y : Nat) (v : Int64) (ht : t < 100) (hkd : kd < 10) (hy : y < 100001) (hnf : nf = 300) : CI l y_T_tell b_T_tell 9 (some .int) (rmK 4 0 0) D (tyL ct) (CW ct ad da nd nb nf bdk num spt val tim rep byN byS pk kn pe clk tol opn) [.ref (ad 0), .int (nI (d)), .int (nI (t)), .int (nI (kd)), .long (lN (y)), .long (v)] 0 0 (fun r u => r = -2 ∧ u = CW ct ad da nd nb nf bdk num spt val tim rep byN byS (fun k => decide (5 ≤ k / 64) && pk k) kn pe clk tol opn) := by
  refine CI.start (by decide) (Nat.le_of_ble_eq_true rfl) ?_
  intro p e s m below meth c F hr hnm
  show V p l e (rmK 4 0 0) s m [.ref (ad 0), .int (nI (d)), .int (nI (t)), .int (nI (kd)), .long (lN (y)), .long (v)].toArray below meth c D (va_A (CW ct ad da nd nb nf bdk num spt val tim rep byN byS pk kn pe clk tol opn) s.heap.size) 9 0 0 (EI D below (CW ct ad da nd nb nf bdk num spt val tim rep byN byS pk kn pe clk tol opn) [.ref (ad 0), .int (nI (d)), .int (nI (t)), .int (nI (kd)), .long (lN (y)), .long (v)].toArray s 0 0 (fun r u => r = -2 ∧ u = CW ct ad da nd nb nf bdk num spt val tim rep byN byS (fun k => decide (5 ≤ k / 64) && pk k) kn pe clk tol opn)) (CW ct ad da nd nb nf bdk num spt val tim rep byN byS pk kn pe clk tol opn) [(0, .ref (ad 0)), (1, .int (nI (d))), (2, .int (nI (t))), (3, .int (nI (kd))), (4, .long (lN (y))), (6, .long (v))] 0 []
  refine V.aload_n F d_T_tell_0 rfl 0 rfl ?_
  refine V.iload_n F d_T_tell_1 rfl 1 rfl ?_
  refine V.callVQ0 (As := [.int (nI (d))]) (rest := []) F (c_deskAt l D hnd d hd0) d_T_tell_2 sv_T_40 im_y_T_deskAt sl_y_T_deskAt 0 rfl rfl rfl rfl rfl (Nat.le_of_ble_eq_true rfl) ⟨rfl, rfl, (Nat.le_of_ble_eq_true rfl), (Nat.le_of_ble_eq_true rfl)⟩ ⟨(Nat.le_of_ble_eq_true rfl), (Nat.le_of_ble_eq_true rfl)⟩ (fun r9 u9 h9 => ?_)
  obtain ⟨rfl, rfl⟩ := h9
  refine V.astore (lv2 := [(8, .ref (da (d) 0)), (0, .ref (ad 0)), (1, .int (nI (d))), (2, .int (nI (t))), (3, .int (nI (kd))), (4, .long (lN (y))), (6, .long (v))]) F d_T_tell_5 (by decide) rfl ?_
  refine V.aload F d_T_tell_7 0 rfl ?_
  refine V.ifnull F d_T_tell_9 ?_
  refine V.iload_n F d_T_tell_12 rfl 3 rfl ?_
  refine V.iload_n F d_T_tell_13 rfl 4 rfl ?_
  refine V.callSI0 (As := [.int (nI (t)), .int (nI (kd))]) (rest := []) F (c_areTK l D _ ct (nI t) (nI kd)) d_T_tell_14 sv_T_44 st_y_T_areThingAndKind rfl rfl (Nat.le_of_ble_eq_true rfl) ⟨rfl, rfl, (Nat.le_of_ble_eq_true rfl), (Nat.le_of_ble_eq_true rfl)⟩ ⟨(Nat.le_of_ble_eq_true rfl), (Nat.le_of_ble_eq_true rfl)⟩ (fun r9 u9 h9 => ?_)
  obtain ⟨rfl, rfl⟩ := h9
  refine V.if_eqB (b := decide (¬ nI t < 0 ∧ ¬ nI 100 ≤ nI t ∧ ¬ nI kd < 0 ∧ ¬ nI 10 ≤ nI kd)) (tgt := 36) F d_T_tell_17 (by decide) (fun c17 => ?_) (fun c17 => ?_)
  · skip
    exact absurd c17 (by rw [tk_ok ht hkd]; decide)
  · skip
    refine V.lload F d_T_tell_20 5 rfl ?_
    refine V.lconst F d_T_tell_22 (v := 0) (by decide) ?_
    refine V.lcmp_lt (tgt := 36) F d_T_tell_23 d_T_tell_24 (by decide) (fun c23 => ?_) (fun c23 => ?_)
    · skip
      exact absurd c23 (lN_n0 (by omega))
    · skip
      refine V.lload F d_T_tell_27 5 rfl ?_
      refine V.ldc2 F d_T_tell_29 (v := 100001) lk_T_48 ?_
      refine V.lcmp_lt (tgt := 38) F d_T_tell_32 d_T_tell_33 (by decide) (fun c32 => ?_) (fun c32 => ?_)
      · skip
        refine V.aload_n F d_T_tell_38 rfl 1 rfl ?_
        refine V.get F ck_T d_T_tell_39 3 (by decide) lk_T_29 0 rfl rfl ?_
        refine V.callVV0 (As := []) (rest := []) F (c_clear l D none trivial) d_T_tell_42 sv_T_50 im_y_S_clear sl_y_S_clear 11 rfl rfl rfl rfl rfl (Nat.le_of_ble_eq_true rfl) ⟨rfl, rfl, (Nat.le_of_ble_eq_true rfl), (Nat.le_of_ble_eq_true rfl)⟩ ⟨(Nat.le_of_ble_eq_true rfl), (Nat.le_of_ble_eq_true rfl)⟩ (fun u9 h9 => ?_)
        obtain rfl := h9
        refine V.ws_eq (ws2 := CW ct ad da nd nb nf bdk num spt val tim rep byN byS (fun k => decide (5 ≤ k / 64) && pk k) kn pe clk tol opn) rfl ?_
        refine V.aload_n F d_T_tell_45 rfl 1 rfl ?_
        refine V.aload F d_T_tell_46 0 rfl ?_
        refine V.iload_n F d_T_tell_48 rfl 3 rfl ?_
        refine V.iload_n F d_T_tell_49 rfl 4 rfl ?_
        refine V.lload F d_T_tell_50 5 rfl ?_
        refine V.l2i F d_T_tell_52 (lN_i _) ?_
        refine V.callSI0 (As := [.int (nI (t)), .int (nI (kd)), .int (nI (y))]) (rest := [.ref (da (d) 0), .ref (ad 0)]) F (c_spotOf l D _ ct t kd y) d_T_tell_53 sv_T_53 st_y_T_spotOf rfl rfl (Nat.le_of_ble_eq_true rfl) ⟨rfl, rfl, (Nat.le_of_ble_eq_true rfl), (Nat.le_of_ble_eq_true rfl)⟩ ⟨(Nat.le_of_ble_eq_true rfl), (Nat.le_of_ble_eq_true rfl)⟩ (fun r9 u9 h9 => ?_)
        obtain ⟨rfl, rfl⟩ := h9
        refine V.lload F d_T_tell_56 6 rfl ?_
        refine V.aload_n F d_T_tell_58 rfl 1 rfl ?_
        refine V.get F ck_T d_T_tell_59 3 (by decide) lk_T_29 0 rfl rfl ?_
        refine V.callVI0 (As := [.ref (da (d) 0), .int (nI ((t * 10 + kd) * 100001 + y)), .long (v), .ref (ad 11)]) (rest := []) F (c_tellRFull l D d hd0 ((t * 10 + kd) * 100001 + y) v hnf) d_T_tell_62 sv_T_57 im_y_T_tellReplacing sl_y_T_tellReplacing 0 rfl rfl rfl rfl rfl (Nat.le_of_ble_eq_true rfl) ⟨rfl, rfl, (Nat.le_of_ble_eq_true rfl), (Nat.le_of_ble_eq_true rfl)⟩ ⟨(Nat.le_of_ble_eq_true rfl), (Nat.le_of_ble_eq_true rfl)⟩ (fun r9 u9 h9 => ?_)
        obtain ⟨rfl, rfl⟩ := h9
        exact V.iret F hr d_T_tell_65 (⟨rfl, rfl⟩)
      · skip
        exact absurd (lN_lt1 hy) c32

set_option maxHeartbeats 4000000 in
set_option maxRecDepth 100000 in
theorem c_tell (l : Launch) (D : va_G) {ct : Nat → ClassId} {ad : Nat → Nat} {da : Nat → Nat → Nat} {nd : Nat} {nb : Nat} {nf : Nat} {bdk : Nat → Nat} {num : Nat → Nat} {spt : Nat → Nat} {val : Nat → Int64} {tim : Nat → Nat} {rep : Nat → Nat → Bool} {byN : Nat → Nat} {byS : Nat → Nat} {pk : Nat → Bool} {kn : Nat → Nat → Bool} {pe : Nat → Nat → Bool} {clk : Nat → Nat} {tol : Nat → Nat} {opn : Nat → Option Nat} (hnd : nd ≤ 8) (d : Nat) (hd0 : d < nd) (t kd y : Nat) (v : Int64) (ht : t < 100) (hkd : kd < 10) (hy : y < 100001) (hlt : nf < 300) (hbN : ∀ j, j < nf → byN j < nf) (hbS : ∀ j, j < nf → byS j < nf) (hnum : ∀ k, k < nf → num k < 2 ^ 31) (hspt : ∀ k, k < nf → spt k < 2 ^ 31) (htol : tol d ≤ 300) (hob : ∀ b0, opn d = some b0 → b0 < 2 ^ 31) : CI l y_T_tell b_T_tell 9 (some .int) (rmK 4 0 0) D (tyL ct) (CW ct ad da nd nb nf bdk num spt val tim rep byN byS pk kn pe clk tol opn) [.ref (ad 0), .int (nI (d)), .int (nI (t)), .int (nI (kd)), .long (lN (y)), .long (v)] 0 0 (fun r u => r = nI (8 * tol d + d) ∧ ∃ (Rp : Nat → Nat → Bool) (p1 p2 : Nat) (B1 B2 : Nat → Nat), (∀ o n, Rp o n = (rep o n || (decide (o < nf) && ((fun k => decide (5 ≤ k / 64) && pk k) o && decide (n = nf))))) ∧ (p1 ≤ nf ∧ (∀ j, j < p1 → B1 j = byN j) ∧ B1 p1 = nf ∧ (∀ j, p1 < j → j ≤ nf → B1 j = byN (j - 1)) ∧ (∀ j, p1 ≤ j → j < nf → va_up num nf (8 * tol d + d) nf < va_up num nf (8 * tol d + d) (byN j)) ∧ (∀ i, p1 = i + 1 → va_up num nf (8 * tol d + d) (byN i) ≤ va_up num nf (8 * tol d + d) nf)) ∧ (p2 ≤ nf ∧ (∀ j, j < p2 → B2 j = byS j) ∧ B2 p2 = nf ∧ (∀ j, p2 < j → j ≤ nf → B2 j = byS (j - 1)) ∧ (∀ j, p2 ≤ j → j < nf → va_up spt nf ((t * 10 + kd) * 100001 + y) nf < va_up spt nf ((t * 10 + kd) * 100001 + y) (byS j)) ∧ (∀ i, p2 = i + 1 → va_up spt nf ((t * 10 + kd) * 100001 + y) (byS i) ≤ va_up spt nf ((t * 10 + kd) * 100001 + y) nf)) ∧ u = CW ct ad da nd nb (nf + 1) bdk (va_up num nf (8 * tol d + d)) (va_up spt nf ((t * 10 + kd) * 100001 + y)) (va_up val nf v) (va_up tim nf (clk d + 1)) Rp B1 B2 (fun k => decide (5 ≤ k / 64) && pk k) (knH opn kn d nf) (peH opn pe d nf) (va_up clk (d) ((clk (d)) + (1))) (va_up tol (d) ((tol (d)) + (1))) opn) := by
  refine CI.start (by decide) (Nat.le_of_ble_eq_true rfl) ?_
  intro p e s m below meth c F hr hnm
  show V p l e (rmK 4 0 0) s m [.ref (ad 0), .int (nI (d)), .int (nI (t)), .int (nI (kd)), .long (lN (y)), .long (v)].toArray below meth c D (va_A (CW ct ad da nd nb nf bdk num spt val tim rep byN byS pk kn pe clk tol opn) s.heap.size) 9 0 0 (EI D below (CW ct ad da nd nb nf bdk num spt val tim rep byN byS pk kn pe clk tol opn) [.ref (ad 0), .int (nI (d)), .int (nI (t)), .int (nI (kd)), .long (lN (y)), .long (v)].toArray s 0 0 (fun r u => r = nI (8 * tol d + d) ∧ ∃ (Rp : Nat → Nat → Bool) (p1 p2 : Nat) (B1 B2 : Nat → Nat), (∀ o n, Rp o n = (rep o n || (decide (o < nf) && ((fun k => decide (5 ≤ k / 64) && pk k) o && decide (n = nf))))) ∧ (p1 ≤ nf ∧ (∀ j, j < p1 → B1 j = byN j) ∧ B1 p1 = nf ∧ (∀ j, p1 < j → j ≤ nf → B1 j = byN (j - 1)) ∧ (∀ j, p1 ≤ j → j < nf → va_up num nf (8 * tol d + d) nf < va_up num nf (8 * tol d + d) (byN j)) ∧ (∀ i, p1 = i + 1 → va_up num nf (8 * tol d + d) (byN i) ≤ va_up num nf (8 * tol d + d) nf)) ∧ (p2 ≤ nf ∧ (∀ j, j < p2 → B2 j = byS j) ∧ B2 p2 = nf ∧ (∀ j, p2 < j → j ≤ nf → B2 j = byS (j - 1)) ∧ (∀ j, p2 ≤ j → j < nf → va_up spt nf ((t * 10 + kd) * 100001 + y) nf < va_up spt nf ((t * 10 + kd) * 100001 + y) (byS j)) ∧ (∀ i, p2 = i + 1 → va_up spt nf ((t * 10 + kd) * 100001 + y) (byS i) ≤ va_up spt nf ((t * 10 + kd) * 100001 + y) nf)) ∧ u = CW ct ad da nd nb (nf + 1) bdk (va_up num nf (8 * tol d + d)) (va_up spt nf ((t * 10 + kd) * 100001 + y)) (va_up val nf v) (va_up tim nf (clk d + 1)) Rp B1 B2 (fun k => decide (5 ≤ k / 64) && pk k) (knH opn kn d nf) (peH opn pe d nf) (va_up clk (d) ((clk (d)) + (1))) (va_up tol (d) ((tol (d)) + (1))) opn)) (CW ct ad da nd nb nf bdk num spt val tim rep byN byS pk kn pe clk tol opn) [(0, .ref (ad 0)), (1, .int (nI (d))), (2, .int (nI (t))), (3, .int (nI (kd))), (4, .long (lN (y))), (6, .long (v))] 0 []
  refine V.aload_n F d_T_tell_0 rfl 0 rfl ?_
  refine V.iload_n F d_T_tell_1 rfl 1 rfl ?_
  refine V.callVQ0 (As := [.int (nI (d))]) (rest := []) F (c_deskAt l D hnd d hd0) d_T_tell_2 sv_T_40 im_y_T_deskAt sl_y_T_deskAt 0 rfl rfl rfl rfl rfl (Nat.le_of_ble_eq_true rfl) ⟨rfl, rfl, (Nat.le_of_ble_eq_true rfl), (Nat.le_of_ble_eq_true rfl)⟩ ⟨(Nat.le_of_ble_eq_true rfl), (Nat.le_of_ble_eq_true rfl)⟩ (fun r9 u9 h9 => ?_)
  obtain ⟨rfl, rfl⟩ := h9
  refine V.astore (lv2 := [(8, .ref (da (d) 0)), (0, .ref (ad 0)), (1, .int (nI (d))), (2, .int (nI (t))), (3, .int (nI (kd))), (4, .long (lN (y))), (6, .long (v))]) F d_T_tell_5 (by decide) rfl ?_
  refine V.aload F d_T_tell_7 0 rfl ?_
  refine V.ifnull F d_T_tell_9 ?_
  refine V.iload_n F d_T_tell_12 rfl 3 rfl ?_
  refine V.iload_n F d_T_tell_13 rfl 4 rfl ?_
  refine V.callSI0 (As := [.int (nI (t)), .int (nI (kd))]) (rest := []) F (c_areTK l D _ ct (nI t) (nI kd)) d_T_tell_14 sv_T_44 st_y_T_areThingAndKind rfl rfl (Nat.le_of_ble_eq_true rfl) ⟨rfl, rfl, (Nat.le_of_ble_eq_true rfl), (Nat.le_of_ble_eq_true rfl)⟩ ⟨(Nat.le_of_ble_eq_true rfl), (Nat.le_of_ble_eq_true rfl)⟩ (fun r9 u9 h9 => ?_)
  obtain ⟨rfl, rfl⟩ := h9
  refine V.if_eqB (b := decide (¬ nI t < 0 ∧ ¬ nI 100 ≤ nI t ∧ ¬ nI kd < 0 ∧ ¬ nI 10 ≤ nI kd)) (tgt := 36) F d_T_tell_17 (by decide) (fun c17 => ?_) (fun c17 => ?_)
  · skip
    exact absurd c17 (by rw [tk_ok ht hkd]; decide)
  · skip
    refine V.lload F d_T_tell_20 5 rfl ?_
    refine V.lconst F d_T_tell_22 (v := 0) (by decide) ?_
    refine V.lcmp_lt (tgt := 36) F d_T_tell_23 d_T_tell_24 (by decide) (fun c23 => ?_) (fun c23 => ?_)
    · skip
      exact absurd c23 (lN_n0 (by omega))
    · skip
      refine V.lload F d_T_tell_27 5 rfl ?_
      refine V.ldc2 F d_T_tell_29 (v := 100001) lk_T_48 ?_
      refine V.lcmp_lt (tgt := 38) F d_T_tell_32 d_T_tell_33 (by decide) (fun c32 => ?_) (fun c32 => ?_)
      · skip
        refine V.aload_n F d_T_tell_38 rfl 1 rfl ?_
        refine V.get F ck_T d_T_tell_39 3 (by decide) lk_T_29 0 rfl rfl ?_
        refine V.callVV0 (As := []) (rest := []) F (c_clear l D none trivial) d_T_tell_42 sv_T_50 im_y_S_clear sl_y_S_clear 11 rfl rfl rfl rfl rfl (Nat.le_of_ble_eq_true rfl) ⟨rfl, rfl, (Nat.le_of_ble_eq_true rfl), (Nat.le_of_ble_eq_true rfl)⟩ ⟨(Nat.le_of_ble_eq_true rfl), (Nat.le_of_ble_eq_true rfl)⟩ (fun u9 h9 => ?_)
        obtain rfl := h9
        refine V.ws_eq (ws2 := CW ct ad da nd nb nf bdk num spt val tim rep byN byS (fun k => decide (5 ≤ k / 64) && pk k) kn pe clk tol opn) rfl ?_
        refine V.aload_n F d_T_tell_45 rfl 1 rfl ?_
        refine V.aload F d_T_tell_46 0 rfl ?_
        refine V.iload_n F d_T_tell_48 rfl 3 rfl ?_
        refine V.iload_n F d_T_tell_49 rfl 4 rfl ?_
        refine V.lload F d_T_tell_50 5 rfl ?_
        refine V.l2i F d_T_tell_52 (lN_i _) ?_
        refine V.callSI0 (As := [.int (nI (t)), .int (nI (kd)), .int (nI (y))]) (rest := [.ref (da (d) 0), .ref (ad 0)]) F (c_spotOf l D _ ct t kd y) d_T_tell_53 sv_T_53 st_y_T_spotOf rfl rfl (Nat.le_of_ble_eq_true rfl) ⟨rfl, rfl, (Nat.le_of_ble_eq_true rfl), (Nat.le_of_ble_eq_true rfl)⟩ ⟨(Nat.le_of_ble_eq_true rfl), (Nat.le_of_ble_eq_true rfl)⟩ (fun r9 u9 h9 => ?_)
        obtain ⟨rfl, rfl⟩ := h9
        refine V.lload F d_T_tell_56 6 rfl ?_
        refine V.aload_n F d_T_tell_58 rfl 1 rfl ?_
        refine V.get F ck_T d_T_tell_59 3 (by decide) lk_T_29 0 rfl rfl ?_
        refine V.callVI0 (As := [.ref (da (d) 0), .int (nI ((t * 10 + kd) * 100001 + y)), .long (v), .ref (ad 11)]) (rest := []) F (c_tellR l D d hd0 ((t * 10 + kd) * 100001 + y) v hlt hbN hbS hnum hspt (by omega) htol hnd hob) d_T_tell_62 sv_T_57 im_y_T_tellReplacing sl_y_T_tellReplacing 0 rfl rfl rfl rfl rfl (Nat.le_of_ble_eq_true rfl) ⟨rfl, rfl, (Nat.le_of_ble_eq_true rfl), (Nat.le_of_ble_eq_true rfl)⟩ ⟨(Nat.le_of_ble_eq_true rfl), (Nat.le_of_ble_eq_true rfl)⟩ (fun r9 u9 h9 => ?_)
        obtain ⟨rfl, Rp, p1, p2, B1, B2, hR, hB1, hB2, rfl⟩ := h9
        exact V.iret F hr d_T_tell_65 (⟨rfl, Rp, p1, p2, B1, B2, hR, hB1, hB2, rfl⟩)
      · skip
        exact absurd (lN_lt1 hy) c32

set_option maxHeartbeats 4000000 in
set_option maxRecDepth 100000 in
theorem c_corNoD (l : Launch) (D : va_G) {ct : Nat → ClassId} {ad : Nat → Nat} {da : Nat → Nat → Nat} {nd : Nat} {nb : Nat} {nf : Nat} {bdk : Nat → Nat} {num : Nat → Nat} {spt : Nat → Nat} {val : Nat → Int64} {tim : Nat → Nat} {rep : Nat → Nat → Bool} {byN : Nat → Nat} {byS : Nat → Nat} {pk : Nat → Bool} {kn : Nat → Nat → Bool} {pe : Nat → Nat → Bool} {clk : Nat → Nat} {tol : Nat → Nat} {opn : Nat → Option Nat} (hnf : nf ≤ 300) (x0 x : Int32) (v : Int64) (hx : x0 < 0 ∨ nI nd ≤ x0) : CI l y_T_correct b_T_correct 7 (some .int) (rmK 4 0 0) D (tyL ct) (CW ct ad da nd nb nf bdk num spt val tim rep byN byS pk kn pe clk tol opn) [.ref (ad 0), .int (x0), .int (x), .long (v)] 0 0 (fun r u => r = -1 ∧ u = CW ct ad da nd nb nf bdk num spt val tim rep byN byS pk kn pe clk tol opn) := by
  refine CI.start (by decide) (Nat.le_of_ble_eq_true rfl) ?_
  intro p e s m below meth c F hr hnm
  show V p l e (rmK 4 0 0) s m [.ref (ad 0), .int (x0), .int (x), .long (v)].toArray below meth c D (va_A (CW ct ad da nd nb nf bdk num spt val tim rep byN byS pk kn pe clk tol opn) s.heap.size) 7 0 0 (EI D below (CW ct ad da nd nb nf bdk num spt val tim rep byN byS pk kn pe clk tol opn) [.ref (ad 0), .int (x0), .int (x), .long (v)].toArray s 0 0 (fun r u => r = -1 ∧ u = CW ct ad da nd nb nf bdk num spt val tim rep byN byS pk kn pe clk tol opn)) (CW ct ad da nd nb nf bdk num spt val tim rep byN byS pk kn pe clk tol opn) [(0, .ref (ad 0)), (1, .int (x0)), (2, .int (x)), (3, .long (v))] 0 []
  refine V.aload_n F d_T_correct_0 rfl 0 rfl ?_
  refine V.iload_n F d_T_correct_1 rfl 1 rfl ?_
  refine V.callVQ0 (As := [.int (x0)]) (rest := []) F (c_deskNo l D x0 hx) d_T_correct_2 sv_T_40 im_y_T_deskAt sl_y_T_deskAt 0 rfl rfl rfl rfl rfl (Nat.le_of_ble_eq_true rfl) ⟨rfl, rfl, (Nat.le_of_ble_eq_true rfl), (Nat.le_of_ble_eq_true rfl)⟩ ⟨(Nat.le_of_ble_eq_true rfl), (Nat.le_of_ble_eq_true rfl)⟩ (fun r9 u9 h9 => ?_)
  obtain ⟨rfl, rfl⟩ := h9
  refine V.astoreN (lv2 := [(5, .null), (0, .ref (ad 0)), (1, .int (x0)), (2, .int (x)), (3, .long (v))]) F d_T_correct_5 (by decide) rfl ?_
  refine V.aload_n F d_T_correct_7 rfl 1 rfl ?_
  refine V.get F ck_T d_T_correct_8 2 (by decide) lk_T_22 0 rfl rfl ?_
  refine V.iload_n F d_T_correct_11 rfl 3 rfl ?_
  refine V.callVI0 (As := [.int (x)]) (rest := []) F (c_withNumber l D hnf x) d_T_correct_12 sv_T_61 im_y_A_withNumber sl_y_A_withNumber 3 rfl rfl rfl rfl rfl (Nat.le_of_ble_eq_true rfl) ⟨rfl, rfl, (Nat.le_of_ble_eq_true rfl), (Nat.le_of_ble_eq_true rfl)⟩ ⟨(Nat.le_of_ble_eq_true rfl), (Nat.le_of_ble_eq_true rfl)⟩ (fun r9 u9 h9 => ?_)
  obtain ⟨-, rfl⟩ := h9
  refine V.istore (lv2 := [(6, .int (r9)), (5, .null), (0, .ref (ad 0)), (1, .int (x0)), (2, .int (x)), (3, .long (v))]) F d_T_correct_15 (by decide) rfl ?_
  refine V.aloadN F d_T_correct_17 1 rfl ?_
  refine V.ifnullN (tgt := 45) F d_T_correct_19 (by decide) ?_
  refine V.iconst F d_T_correct_45 (v := -1) (by decide) ?_
  exact V.iret F hr d_T_correct_46 (⟨rfl, rfl⟩)

set_option maxHeartbeats 4000000 in
set_option maxRecDepth 100000 in
theorem c_corNF (l : Launch) (D : va_G) {ct : Nat → ClassId} {ad : Nat → Nat} {da : Nat → Nat → Nat} {nd : Nat} {nb : Nat} {nf : Nat} {bdk : Nat → Nat} {num : Nat → Nat} {spt : Nat → Nat} {val : Nat → Int64} {tim : Nat → Nat} {rep : Nat → Nat → Bool} {byN : Nat → Nat} {byS : Nat → Nat} {pk : Nat → Bool} {kn : Nat → Nat → Bool} {pe : Nat → Nat → Bool} {clk : Nat → Nat} {tol : Nat → Nat} {opn : Nat → Option Nat} (hnf : nf ≤ 300) (hnd : nd ≤ 8) (d : Nat) (hd0 : d < nd) (x : Int32) (v : Int64) (hnn : ∀ k, k < nf → ¬ nI (num k) = x) : CI l y_T_correct b_T_correct 7 (some .int) (rmK 4 0 0) D (tyL ct) (CW ct ad da nd nb nf bdk num spt val tim rep byN byS pk kn pe clk tol opn) [.ref (ad 0), .int (nI (d)), .int (x), .long (v)] 0 0 (fun r u => r = -1 ∧ u = CW ct ad da nd nb nf bdk num spt val tim rep byN byS pk kn pe clk tol opn) := by
  refine CI.start (by decide) (Nat.le_of_ble_eq_true rfl) ?_
  intro p e s m below meth c F hr hnm
  show V p l e (rmK 4 0 0) s m [.ref (ad 0), .int (nI (d)), .int (x), .long (v)].toArray below meth c D (va_A (CW ct ad da nd nb nf bdk num spt val tim rep byN byS pk kn pe clk tol opn) s.heap.size) 7 0 0 (EI D below (CW ct ad da nd nb nf bdk num spt val tim rep byN byS pk kn pe clk tol opn) [.ref (ad 0), .int (nI (d)), .int (x), .long (v)].toArray s 0 0 (fun r u => r = -1 ∧ u = CW ct ad da nd nb nf bdk num spt val tim rep byN byS pk kn pe clk tol opn)) (CW ct ad da nd nb nf bdk num spt val tim rep byN byS pk kn pe clk tol opn) [(0, .ref (ad 0)), (1, .int (nI (d))), (2, .int (x)), (3, .long (v))] 0 []
  refine V.aload_n F d_T_correct_0 rfl 0 rfl ?_
  refine V.iload_n F d_T_correct_1 rfl 1 rfl ?_
  refine V.callVQ0 (As := [.int (nI (d))]) (rest := []) F (c_deskAt l D hnd d hd0) d_T_correct_2 sv_T_40 im_y_T_deskAt sl_y_T_deskAt 0 rfl rfl rfl rfl rfl (Nat.le_of_ble_eq_true rfl) ⟨rfl, rfl, (Nat.le_of_ble_eq_true rfl), (Nat.le_of_ble_eq_true rfl)⟩ ⟨(Nat.le_of_ble_eq_true rfl), (Nat.le_of_ble_eq_true rfl)⟩ (fun r9 u9 h9 => ?_)
  obtain ⟨rfl, rfl⟩ := h9
  refine V.astore (lv2 := [(5, .ref (da (d) 0)), (0, .ref (ad 0)), (1, .int (nI (d))), (2, .int (x)), (3, .long (v))]) F d_T_correct_5 (by decide) rfl ?_
  refine V.aload_n F d_T_correct_7 rfl 1 rfl ?_
  refine V.get F ck_T d_T_correct_8 2 (by decide) lk_T_22 0 rfl rfl ?_
  refine V.iload_n F d_T_correct_11 rfl 3 rfl ?_
  refine V.callVI0 (As := [.int (x)]) (rest := []) F (c_withNumber l D hnf x) d_T_correct_12 sv_T_61 im_y_A_withNumber sl_y_A_withNumber 3 rfl rfl rfl rfl rfl (Nat.le_of_ble_eq_true rfl) ⟨rfl, rfl, (Nat.le_of_ble_eq_true rfl), (Nat.le_of_ble_eq_true rfl)⟩ ⟨(Nat.le_of_ble_eq_true rfl), (Nat.le_of_ble_eq_true rfl)⟩ (fun r9 u9 h9 => ?_)
  have e9 := wn_no h9.1 hnn
  obtain rfl := h9.2
  subst e9
  refine V.istore (lv2 := [(6, .int (-1)), (5, .ref (da (d) 0)), (0, .ref (ad 0)), (1, .int (nI (d))), (2, .int (x)), (3, .long (v))]) F d_T_correct_15 (by decide) rfl ?_
  refine V.aload F d_T_correct_17 1 rfl ?_
  refine V.ifnull F d_T_correct_19 ?_
  refine V.iload F d_T_correct_22 0 rfl ?_
  refine V.iconst F d_T_correct_24 (v := -1) (by decide) ?_
  refine V.icmp_eq (x := -1) (y := -1) (tgt := 45) F d_T_correct_25 (by decide) (fun c25 => ?_) (fun c25 => ?_)
  · skip
    refine V.iconst F d_T_correct_45 (v := -1) (by decide) ?_
    exact V.iret F hr d_T_correct_46 (⟨rfl, rfl⟩)
  · skip
    exact absurd rfl c25

set_option maxHeartbeats 4000000 in
set_option maxRecDepth 100000 in
theorem c_corNS (l : Launch) (D : va_G) {ct : Nat → ClassId} {ad : Nat → Nat} {da : Nat → Nat → Nat} {nd : Nat} {nb : Nat} {nf : Nat} {bdk : Nat → Nat} {num : Nat → Nat} {spt : Nat → Nat} {val : Nat → Int64} {tim : Nat → Nat} {rep : Nat → Nat → Bool} {byN : Nat → Nat} {byS : Nat → Nat} {pk : Nat → Bool} {kn : Nat → Nat → Bool} {pe : Nat → Nat → Bool} {clk : Nat → Nat} {tol : Nat → Nat} {opn : Nat → Option Nat} (hnf : nf ≤ 300) (hnd : nd ≤ 8) (d : Nat) (hd0 : d < nd) (x : Int32) (v : Int64) (f : Nat) (hf : f < nf) (hfx : nI (num f) = x) (hfm : ∀ k, k < f → ¬ nI (num k) = x) (hst : stB (kn d) rep f = false) : CI l y_T_correct b_T_correct 7 (some .int) (rmK 4 0 0) D (tyL ct) (CW ct ad da nd nb nf bdk num spt val tim rep byN byS pk kn pe clk tol opn) [.ref (ad 0), .int (nI (d)), .int (x), .long (v)] 0 0 (fun r u => r = -1 ∧ u = CW ct ad da nd nb nf bdk num spt val tim rep byN byS pk kn pe clk tol opn) := by
  refine CI.start (by decide) (Nat.le_of_ble_eq_true rfl) ?_
  intro p e s m below meth c F hr hnm
  show V p l e (rmK 4 0 0) s m [.ref (ad 0), .int (nI (d)), .int (x), .long (v)].toArray below meth c D (va_A (CW ct ad da nd nb nf bdk num spt val tim rep byN byS pk kn pe clk tol opn) s.heap.size) 7 0 0 (EI D below (CW ct ad da nd nb nf bdk num spt val tim rep byN byS pk kn pe clk tol opn) [.ref (ad 0), .int (nI (d)), .int (x), .long (v)].toArray s 0 0 (fun r u => r = -1 ∧ u = CW ct ad da nd nb nf bdk num spt val tim rep byN byS pk kn pe clk tol opn)) (CW ct ad da nd nb nf bdk num spt val tim rep byN byS pk kn pe clk tol opn) [(0, .ref (ad 0)), (1, .int (nI (d))), (2, .int (x)), (3, .long (v))] 0 []
  refine V.aload_n F d_T_correct_0 rfl 0 rfl ?_
  refine V.iload_n F d_T_correct_1 rfl 1 rfl ?_
  refine V.callVQ0 (As := [.int (nI (d))]) (rest := []) F (c_deskAt l D hnd d hd0) d_T_correct_2 sv_T_40 im_y_T_deskAt sl_y_T_deskAt 0 rfl rfl rfl rfl rfl (Nat.le_of_ble_eq_true rfl) ⟨rfl, rfl, (Nat.le_of_ble_eq_true rfl), (Nat.le_of_ble_eq_true rfl)⟩ ⟨(Nat.le_of_ble_eq_true rfl), (Nat.le_of_ble_eq_true rfl)⟩ (fun r9 u9 h9 => ?_)
  obtain ⟨rfl, rfl⟩ := h9
  refine V.astore (lv2 := [(5, .ref (da (d) 0)), (0, .ref (ad 0)), (1, .int (nI (d))), (2, .int (x)), (3, .long (v))]) F d_T_correct_5 (by decide) rfl ?_
  refine V.aload_n F d_T_correct_7 rfl 1 rfl ?_
  refine V.get F ck_T d_T_correct_8 2 (by decide) lk_T_22 0 rfl rfl ?_
  refine V.iload_n F d_T_correct_11 rfl 3 rfl ?_
  refine V.callVI0 (As := [.int (x)]) (rest := []) F (c_withNumber l D hnf x) d_T_correct_12 sv_T_61 im_y_A_withNumber sl_y_A_withNumber 3 rfl rfl rfl rfl rfl (Nat.le_of_ble_eq_true rfl) ⟨rfl, rfl, (Nat.le_of_ble_eq_true rfl), (Nat.le_of_ble_eq_true rfl)⟩ ⟨(Nat.le_of_ble_eq_true rfl), (Nat.le_of_ble_eq_true rfl)⟩ (fun r9 u9 h9 => ?_)
  have e9 := wn_yes h9.1 hf hfx hfm
  obtain rfl := h9.2
  subst e9
  refine V.istore (lv2 := [(6, .int (nI (f))), (5, .ref (da (d) 0)), (0, .ref (ad 0)), (1, .int (nI (d))), (2, .int (x)), (3, .long (v))]) F d_T_correct_15 (by decide) rfl ?_
  refine V.aload F d_T_correct_17 1 rfl ?_
  refine V.ifnull F d_T_correct_19 ?_
  refine V.iload F d_T_correct_22 0 rfl ?_
  refine V.iconst F d_T_correct_24 (v := -1) (by decide) ?_
  refine V.icmp_eq (x := nI (f)) (y := -1) (tgt := 45) F d_T_correct_25 (by decide) (fun c25 => ?_) (fun c25 => ?_)
  · skip
    exact absurd c25 (nI_nm1 (by omega))
  · skip
    refine V.aload_n F d_T_correct_28 rfl 2 rfl ?_
    refine V.get F ck_T d_T_correct_29 2 (by decide) lk_T_22 0 rfl rfl ?_
    refine V.aload F d_T_correct_32 1 rfl ?_
    refine V.getN F ck_K d_T_correct_34 1 (by decide) lk_T_65 (13 + (5 * (d) + 0)) (cw_d0 hd0) rfl ?_
    refine V.iload F d_T_correct_37 0 rfl ?_
    refine V.callVI0 (As := [.ref (da (d) 1), .int (nI (f))]) (rest := []) F (c_stands l D (some (d, false)) hd0 f (by omega)) d_T_correct_39 sv_T_68 im_y_A_standsAmong sl_y_A_standsAmong 3 rfl rfl rfl rfl rfl (Nat.le_of_ble_eq_true rfl) ⟨rfl, rfl, (Nat.le_of_ble_eq_true rfl), (Nat.le_of_ble_eq_true rfl)⟩ ⟨(Nat.le_of_ble_eq_true rfl), (Nat.le_of_ble_eq_true rfl)⟩ (fun r9 u9 h9 => ?_)
    obtain ⟨rfl, rfl⟩ := h9
    refine V.if_neB (b := stB (kn (d)) rep (f)) (tgt := 47) F d_T_correct_42 (by decide) (fun c42 => ?_) (fun c42 => ?_)
    · skip
      exact absurd (c42.symm.trans hst) (by decide)
    · skip
      refine V.iconst F d_T_correct_45 (v := -1) (by decide) ?_
      exact V.iret F hr d_T_correct_46 (⟨rfl, rfl⟩)

set_option maxHeartbeats 4000000 in
set_option maxRecDepth 100000 in
theorem c_corFull (l : Launch) (D : va_G) {ct : Nat → ClassId} {ad : Nat → Nat} {da : Nat → Nat → Nat} {nd : Nat} {nb : Nat} {nf : Nat} {bdk : Nat → Nat} {num : Nat → Nat} {spt : Nat → Nat} {val : Nat → Int64} {tim : Nat → Nat} {rep : Nat → Nat → Bool} {byN : Nat → Nat} {byS : Nat → Nat} {pk : Nat → Bool} {kn : Nat → Nat → Bool} {pe : Nat → Nat → Bool} {clk : Nat → Nat} {tol : Nat → Nat} {opn : Nat → Option Nat} (hnd : nd ≤ 8) (d : Nat) (hd0 : d < nd) (x : Int32) (v : Int64) (f : Nat) (hf : f < nf) (hfx : nI (num f) = x) (hfm : ∀ k, k < f → ¬ nI (num k) = x) (hst : stB (kn d) rep f = true) (hnf9 : nf = 300) : CI l y_T_correct b_T_correct 7 (some .int) (rmK 4 0 0) D (tyL ct) (CW ct ad da nd nb nf bdk num spt val tim rep byN byS pk kn pe clk tol opn) [.ref (ad 0), .int (nI (d)), .int (x), .long (v)] 0 0 (fun r u => r = -2 ∧ u = CW ct ad da nd nb nf bdk num spt val tim rep byN byS (fun k => (decide (5 ≤ k / 64) && pk k) || decide (k = f)) kn pe clk tol opn) := by
  refine CI.start (by decide) (Nat.le_of_ble_eq_true rfl) ?_
  intro p e s m below meth c F hr hnm
  show V p l e (rmK 4 0 0) s m [.ref (ad 0), .int (nI (d)), .int (x), .long (v)].toArray below meth c D (va_A (CW ct ad da nd nb nf bdk num spt val tim rep byN byS pk kn pe clk tol opn) s.heap.size) 7 0 0 (EI D below (CW ct ad da nd nb nf bdk num spt val tim rep byN byS pk kn pe clk tol opn) [.ref (ad 0), .int (nI (d)), .int (x), .long (v)].toArray s 0 0 (fun r u => r = -2 ∧ u = CW ct ad da nd nb nf bdk num spt val tim rep byN byS (fun k => (decide (5 ≤ k / 64) && pk k) || decide (k = f)) kn pe clk tol opn)) (CW ct ad da nd nb nf bdk num spt val tim rep byN byS pk kn pe clk tol opn) [(0, .ref (ad 0)), (1, .int (nI (d))), (2, .int (x)), (3, .long (v))] 0 []
  have hnf : nf ≤ 300 := by omega
  refine V.aload_n F d_T_correct_0 rfl 0 rfl ?_
  refine V.iload_n F d_T_correct_1 rfl 1 rfl ?_
  refine V.callVQ0 (As := [.int (nI (d))]) (rest := []) F (c_deskAt l D hnd d hd0) d_T_correct_2 sv_T_40 im_y_T_deskAt sl_y_T_deskAt 0 rfl rfl rfl rfl rfl (Nat.le_of_ble_eq_true rfl) ⟨rfl, rfl, (Nat.le_of_ble_eq_true rfl), (Nat.le_of_ble_eq_true rfl)⟩ ⟨(Nat.le_of_ble_eq_true rfl), (Nat.le_of_ble_eq_true rfl)⟩ (fun r9 u9 h9 => ?_)
  obtain ⟨rfl, rfl⟩ := h9
  refine V.astore (lv2 := [(5, .ref (da (d) 0)), (0, .ref (ad 0)), (1, .int (nI (d))), (2, .int (x)), (3, .long (v))]) F d_T_correct_5 (by decide) rfl ?_
  refine V.aload_n F d_T_correct_7 rfl 1 rfl ?_
  refine V.get F ck_T d_T_correct_8 2 (by decide) lk_T_22 0 rfl rfl ?_
  refine V.iload_n F d_T_correct_11 rfl 3 rfl ?_
  refine V.callVI0 (As := [.int (x)]) (rest := []) F (c_withNumber l D hnf x) d_T_correct_12 sv_T_61 im_y_A_withNumber sl_y_A_withNumber 3 rfl rfl rfl rfl rfl (Nat.le_of_ble_eq_true rfl) ⟨rfl, rfl, (Nat.le_of_ble_eq_true rfl), (Nat.le_of_ble_eq_true rfl)⟩ ⟨(Nat.le_of_ble_eq_true rfl), (Nat.le_of_ble_eq_true rfl)⟩ (fun r9 u9 h9 => ?_)
  have e9 := wn_yes h9.1 hf hfx hfm
  obtain rfl := h9.2
  subst e9
  refine V.istore (lv2 := [(6, .int (nI (f))), (5, .ref (da (d) 0)), (0, .ref (ad 0)), (1, .int (nI (d))), (2, .int (x)), (3, .long (v))]) F d_T_correct_15 (by decide) rfl ?_
  refine V.aload F d_T_correct_17 1 rfl ?_
  refine V.ifnull F d_T_correct_19 ?_
  refine V.iload F d_T_correct_22 0 rfl ?_
  refine V.iconst F d_T_correct_24 (v := -1) (by decide) ?_
  refine V.icmp_eq (x := nI (f)) (y := -1) (tgt := 45) F d_T_correct_25 (by decide) (fun c25 => ?_) (fun c25 => ?_)
  · skip
    exact absurd c25 (nI_nm1 (by omega))
  · skip
    refine V.aload_n F d_T_correct_28 rfl 2 rfl ?_
    refine V.get F ck_T d_T_correct_29 2 (by decide) lk_T_22 0 rfl rfl ?_
    refine V.aload F d_T_correct_32 1 rfl ?_
    refine V.getN F ck_K d_T_correct_34 1 (by decide) lk_T_65 (13 + (5 * (d) + 0)) (cw_d0 hd0) rfl ?_
    refine V.iload F d_T_correct_37 0 rfl ?_
    refine V.callVI0 (As := [.ref (da (d) 1), .int (nI (f))]) (rest := []) F (c_stands l D (some (d, false)) hd0 f (by omega)) d_T_correct_39 sv_T_68 im_y_A_standsAmong sl_y_A_standsAmong 3 rfl rfl rfl rfl rfl (Nat.le_of_ble_eq_true rfl) ⟨rfl, rfl, (Nat.le_of_ble_eq_true rfl), (Nat.le_of_ble_eq_true rfl)⟩ ⟨(Nat.le_of_ble_eq_true rfl), (Nat.le_of_ble_eq_true rfl)⟩ (fun r9 u9 h9 => ?_)
    obtain ⟨rfl, rfl⟩ := h9
    refine V.if_neB (b := stB (kn (d)) rep (f)) (tgt := 47) F d_T_correct_42 (by decide) (fun c42 => ?_) (fun c42 => ?_)
    · skip
      refine V.aload_n F d_T_correct_47 rfl 2 rfl ?_
      refine V.get F ck_T d_T_correct_48 3 (by decide) lk_T_29 0 rfl rfl ?_
      refine V.callVV0 (As := []) (rest := []) F (c_clear l D none trivial) d_T_correct_51 sv_T_50 im_y_S_clear sl_y_S_clear 11 rfl rfl rfl rfl rfl (Nat.le_of_ble_eq_true rfl) ⟨rfl, rfl, (Nat.le_of_ble_eq_true rfl), (Nat.le_of_ble_eq_true rfl)⟩ ⟨(Nat.le_of_ble_eq_true rfl), (Nat.le_of_ble_eq_true rfl)⟩ (fun u9 h9 => ?_)
      obtain rfl := h9
      refine V.ws_eq (ws2 := CW ct ad da nd nb nf bdk num spt val tim rep byN byS (fun k => decide (5 ≤ k / 64) && pk k) kn pe clk tol opn) rfl ?_
      refine V.aload_n F d_T_correct_54 rfl 2 rfl ?_
      refine V.get F ck_T d_T_correct_55 3 (by decide) lk_T_29 0 rfl rfl ?_
      refine V.iload F d_T_correct_58 0 rfl ?_
      refine V.callVV0 (As := [.int (nI (f))]) (rest := []) F (c_add l D none trivial f (by omega)) d_T_correct_60 sv_T_72 im_y_S_add sl_y_S_add 11 rfl rfl rfl rfl rfl (Nat.le_of_ble_eq_true rfl) ⟨rfl, rfl, (Nat.le_of_ble_eq_true rfl), (Nat.le_of_ble_eq_true rfl)⟩ ⟨(Nat.le_of_ble_eq_true rfl), (Nat.le_of_ble_eq_true rfl)⟩ (fun u9 h9 => ?_)
      obtain rfl := h9
      refine V.ws_eq (ws2 := CW ct ad da nd nb nf bdk num spt val tim rep byN byS (fun k => (decide (5 ≤ k / 64) && pk k) || decide (k = f)) kn pe clk tol opn) rfl ?_
      refine V.aload_n F d_T_correct_63 rfl 2 rfl ?_
      refine V.aload F d_T_correct_64 1 rfl ?_
      refine V.aload_n F d_T_correct_66 rfl 2 rfl ?_
      refine V.get F ck_T d_T_correct_67 2 (by decide) lk_T_22 0 rfl rfl ?_
      refine V.getN F ck_A d_T_correct_70 1 (by decide) lk_T_75 3 rfl rfl ?_
      refine V.iload F d_T_correct_73 0 rfl ?_
      refine V.iald (v := nI (spt (f))) F d_T_correct_75 5 0 rfl rfl (by omega) (by decide) rfl ?_
      refine V.lload_n F d_T_correct_76 rfl 5 rfl ?_
      refine V.aload_n F d_T_correct_77 rfl 2 rfl ?_
      refine V.get F ck_T d_T_correct_78 3 (by decide) lk_T_29 0 rfl rfl ?_
      refine V.callVI0 (As := [.ref (da (d) 0), .int (nI (spt (f))), .long (v), .ref (ad 11)]) (rest := []) F (c_tellRFull l D d hd0 (spt f) v hnf9) d_T_correct_81 sv_T_57 im_y_T_tellReplacing sl_y_T_tellReplacing 0 rfl rfl rfl rfl rfl (Nat.le_of_ble_eq_true rfl) ⟨rfl, rfl, (Nat.le_of_ble_eq_true rfl), (Nat.le_of_ble_eq_true rfl)⟩ ⟨(Nat.le_of_ble_eq_true rfl), (Nat.le_of_ble_eq_true rfl)⟩ (fun r9 u9 h9 => ?_)
      obtain ⟨rfl, rfl⟩ := h9
      exact V.iret F hr d_T_correct_84 (⟨rfl, rfl⟩)
    · skip
      exact absurd (c42.symm.trans hst) (by decide)

set_option maxHeartbeats 4000000 in
set_option maxRecDepth 100000 in
theorem c_cor (l : Launch) (D : va_G) {ct : Nat → ClassId} {ad : Nat → Nat} {da : Nat → Nat → Nat} {nd : Nat} {nb : Nat} {nf : Nat} {bdk : Nat → Nat} {num : Nat → Nat} {spt : Nat → Nat} {val : Nat → Int64} {tim : Nat → Nat} {rep : Nat → Nat → Bool} {byN : Nat → Nat} {byS : Nat → Nat} {pk : Nat → Bool} {kn : Nat → Nat → Bool} {pe : Nat → Nat → Bool} {clk : Nat → Nat} {tol : Nat → Nat} {opn : Nat → Option Nat} (hnd : nd ≤ 8) (d : Nat) (hd0 : d < nd) (x : Int32) (v : Int64) (f : Nat) (hf : f < nf) (hfx : nI (num f) = x) (hfm : ∀ k, k < f → ¬ nI (num k) = x) (hst : stB (kn d) rep f = true) (hlt : nf < 300) (hbN : ∀ j, j < nf → byN j < nf) (hbS : ∀ j, j < nf → byS j < nf) (hnum : ∀ k, k < nf → num k < 2 ^ 31) (hspt : ∀ k, k < nf → spt k < 2 ^ 31) (htol : tol d ≤ 300) (hob : ∀ b0, opn d = some b0 → b0 < 2 ^ 31) : CI l y_T_correct b_T_correct 7 (some .int) (rmK 4 0 0) D (tyL ct) (CW ct ad da nd nb nf bdk num spt val tim rep byN byS pk kn pe clk tol opn) [.ref (ad 0), .int (nI (d)), .int (x), .long (v)] 0 0 (fun r u => r = nI (8 * tol d + d) ∧ ∃ (Rp : Nat → Nat → Bool) (p1 p2 : Nat) (B1 B2 : Nat → Nat), (∀ o n, Rp o n = (rep o n || (decide (o < nf) && ((fun k => (decide (5 ≤ k / 64) && pk k) || decide (k = f)) o && decide (n = nf))))) ∧ (p1 ≤ nf ∧ (∀ j, j < p1 → B1 j = byN j) ∧ B1 p1 = nf ∧ (∀ j, p1 < j → j ≤ nf → B1 j = byN (j - 1)) ∧ (∀ j, p1 ≤ j → j < nf → va_up num nf (8 * tol d + d) nf < va_up num nf (8 * tol d + d) (byN j)) ∧ (∀ i, p1 = i + 1 → va_up num nf (8 * tol d + d) (byN i) ≤ va_up num nf (8 * tol d + d) nf)) ∧ (p2 ≤ nf ∧ (∀ j, j < p2 → B2 j = byS j) ∧ B2 p2 = nf ∧ (∀ j, p2 < j → j ≤ nf → B2 j = byS (j - 1)) ∧ (∀ j, p2 ≤ j → j < nf → va_up spt nf (spt f) nf < va_up spt nf (spt f) (byS j)) ∧ (∀ i, p2 = i + 1 → va_up spt nf (spt f) (byS i) ≤ va_up spt nf (spt f) nf)) ∧ u = CW ct ad da nd nb (nf + 1) bdk (va_up num nf (8 * tol d + d)) (va_up spt nf (spt f)) (va_up val nf v) (va_up tim nf (clk d + 1)) Rp B1 B2 (fun k => (decide (5 ≤ k / 64) && pk k) || decide (k = f)) (knH opn kn d nf) (peH opn pe d nf) (va_up clk (d) ((clk (d)) + (1))) (va_up tol (d) ((tol (d)) + (1))) opn) := by
  refine CI.start (by decide) (Nat.le_of_ble_eq_true rfl) ?_
  intro p e s m below meth c F hr hnm
  show V p l e (rmK 4 0 0) s m [.ref (ad 0), .int (nI (d)), .int (x), .long (v)].toArray below meth c D (va_A (CW ct ad da nd nb nf bdk num spt val tim rep byN byS pk kn pe clk tol opn) s.heap.size) 7 0 0 (EI D below (CW ct ad da nd nb nf bdk num spt val tim rep byN byS pk kn pe clk tol opn) [.ref (ad 0), .int (nI (d)), .int (x), .long (v)].toArray s 0 0 (fun r u => r = nI (8 * tol d + d) ∧ ∃ (Rp : Nat → Nat → Bool) (p1 p2 : Nat) (B1 B2 : Nat → Nat), (∀ o n, Rp o n = (rep o n || (decide (o < nf) && ((fun k => (decide (5 ≤ k / 64) && pk k) || decide (k = f)) o && decide (n = nf))))) ∧ (p1 ≤ nf ∧ (∀ j, j < p1 → B1 j = byN j) ∧ B1 p1 = nf ∧ (∀ j, p1 < j → j ≤ nf → B1 j = byN (j - 1)) ∧ (∀ j, p1 ≤ j → j < nf → va_up num nf (8 * tol d + d) nf < va_up num nf (8 * tol d + d) (byN j)) ∧ (∀ i, p1 = i + 1 → va_up num nf (8 * tol d + d) (byN i) ≤ va_up num nf (8 * tol d + d) nf)) ∧ (p2 ≤ nf ∧ (∀ j, j < p2 → B2 j = byS j) ∧ B2 p2 = nf ∧ (∀ j, p2 < j → j ≤ nf → B2 j = byS (j - 1)) ∧ (∀ j, p2 ≤ j → j < nf → va_up spt nf (spt f) nf < va_up spt nf (spt f) (byS j)) ∧ (∀ i, p2 = i + 1 → va_up spt nf (spt f) (byS i) ≤ va_up spt nf (spt f) nf)) ∧ u = CW ct ad da nd nb (nf + 1) bdk (va_up num nf (8 * tol d + d)) (va_up spt nf (spt f)) (va_up val nf v) (va_up tim nf (clk d + 1)) Rp B1 B2 (fun k => (decide (5 ≤ k / 64) && pk k) || decide (k = f)) (knH opn kn d nf) (peH opn pe d nf) (va_up clk (d) ((clk (d)) + (1))) (va_up tol (d) ((tol (d)) + (1))) opn)) (CW ct ad da nd nb nf bdk num spt val tim rep byN byS pk kn pe clk tol opn) [(0, .ref (ad 0)), (1, .int (nI (d))), (2, .int (x)), (3, .long (v))] 0 []
  have hnf : nf ≤ 300 := by omega
  refine V.aload_n F d_T_correct_0 rfl 0 rfl ?_
  refine V.iload_n F d_T_correct_1 rfl 1 rfl ?_
  refine V.callVQ0 (As := [.int (nI (d))]) (rest := []) F (c_deskAt l D hnd d hd0) d_T_correct_2 sv_T_40 im_y_T_deskAt sl_y_T_deskAt 0 rfl rfl rfl rfl rfl (Nat.le_of_ble_eq_true rfl) ⟨rfl, rfl, (Nat.le_of_ble_eq_true rfl), (Nat.le_of_ble_eq_true rfl)⟩ ⟨(Nat.le_of_ble_eq_true rfl), (Nat.le_of_ble_eq_true rfl)⟩ (fun r9 u9 h9 => ?_)
  obtain ⟨rfl, rfl⟩ := h9
  refine V.astore (lv2 := [(5, .ref (da (d) 0)), (0, .ref (ad 0)), (1, .int (nI (d))), (2, .int (x)), (3, .long (v))]) F d_T_correct_5 (by decide) rfl ?_
  refine V.aload_n F d_T_correct_7 rfl 1 rfl ?_
  refine V.get F ck_T d_T_correct_8 2 (by decide) lk_T_22 0 rfl rfl ?_
  refine V.iload_n F d_T_correct_11 rfl 3 rfl ?_
  refine V.callVI0 (As := [.int (x)]) (rest := []) F (c_withNumber l D hnf x) d_T_correct_12 sv_T_61 im_y_A_withNumber sl_y_A_withNumber 3 rfl rfl rfl rfl rfl (Nat.le_of_ble_eq_true rfl) ⟨rfl, rfl, (Nat.le_of_ble_eq_true rfl), (Nat.le_of_ble_eq_true rfl)⟩ ⟨(Nat.le_of_ble_eq_true rfl), (Nat.le_of_ble_eq_true rfl)⟩ (fun r9 u9 h9 => ?_)
  have e9 := wn_yes h9.1 hf hfx hfm
  obtain rfl := h9.2
  subst e9
  refine V.istore (lv2 := [(6, .int (nI (f))), (5, .ref (da (d) 0)), (0, .ref (ad 0)), (1, .int (nI (d))), (2, .int (x)), (3, .long (v))]) F d_T_correct_15 (by decide) rfl ?_
  refine V.aload F d_T_correct_17 1 rfl ?_
  refine V.ifnull F d_T_correct_19 ?_
  refine V.iload F d_T_correct_22 0 rfl ?_
  refine V.iconst F d_T_correct_24 (v := -1) (by decide) ?_
  refine V.icmp_eq (x := nI (f)) (y := -1) (tgt := 45) F d_T_correct_25 (by decide) (fun c25 => ?_) (fun c25 => ?_)
  · skip
    exact absurd c25 (nI_nm1 (by omega))
  · skip
    refine V.aload_n F d_T_correct_28 rfl 2 rfl ?_
    refine V.get F ck_T d_T_correct_29 2 (by decide) lk_T_22 0 rfl rfl ?_
    refine V.aload F d_T_correct_32 1 rfl ?_
    refine V.getN F ck_K d_T_correct_34 1 (by decide) lk_T_65 (13 + (5 * (d) + 0)) (cw_d0 hd0) rfl ?_
    refine V.iload F d_T_correct_37 0 rfl ?_
    refine V.callVI0 (As := [.ref (da (d) 1), .int (nI (f))]) (rest := []) F (c_stands l D (some (d, false)) hd0 f (by omega)) d_T_correct_39 sv_T_68 im_y_A_standsAmong sl_y_A_standsAmong 3 rfl rfl rfl rfl rfl (Nat.le_of_ble_eq_true rfl) ⟨rfl, rfl, (Nat.le_of_ble_eq_true rfl), (Nat.le_of_ble_eq_true rfl)⟩ ⟨(Nat.le_of_ble_eq_true rfl), (Nat.le_of_ble_eq_true rfl)⟩ (fun r9 u9 h9 => ?_)
    obtain ⟨rfl, rfl⟩ := h9
    refine V.if_neB (b := stB (kn (d)) rep (f)) (tgt := 47) F d_T_correct_42 (by decide) (fun c42 => ?_) (fun c42 => ?_)
    · skip
      refine V.aload_n F d_T_correct_47 rfl 2 rfl ?_
      refine V.get F ck_T d_T_correct_48 3 (by decide) lk_T_29 0 rfl rfl ?_
      refine V.callVV0 (As := []) (rest := []) F (c_clear l D none trivial) d_T_correct_51 sv_T_50 im_y_S_clear sl_y_S_clear 11 rfl rfl rfl rfl rfl (Nat.le_of_ble_eq_true rfl) ⟨rfl, rfl, (Nat.le_of_ble_eq_true rfl), (Nat.le_of_ble_eq_true rfl)⟩ ⟨(Nat.le_of_ble_eq_true rfl), (Nat.le_of_ble_eq_true rfl)⟩ (fun u9 h9 => ?_)
      obtain rfl := h9
      refine V.ws_eq (ws2 := CW ct ad da nd nb nf bdk num spt val tim rep byN byS (fun k => decide (5 ≤ k / 64) && pk k) kn pe clk tol opn) rfl ?_
      refine V.aload_n F d_T_correct_54 rfl 2 rfl ?_
      refine V.get F ck_T d_T_correct_55 3 (by decide) lk_T_29 0 rfl rfl ?_
      refine V.iload F d_T_correct_58 0 rfl ?_
      refine V.callVV0 (As := [.int (nI (f))]) (rest := []) F (c_add l D none trivial f (by omega)) d_T_correct_60 sv_T_72 im_y_S_add sl_y_S_add 11 rfl rfl rfl rfl rfl (Nat.le_of_ble_eq_true rfl) ⟨rfl, rfl, (Nat.le_of_ble_eq_true rfl), (Nat.le_of_ble_eq_true rfl)⟩ ⟨(Nat.le_of_ble_eq_true rfl), (Nat.le_of_ble_eq_true rfl)⟩ (fun u9 h9 => ?_)
      obtain rfl := h9
      refine V.ws_eq (ws2 := CW ct ad da nd nb nf bdk num spt val tim rep byN byS (fun k => (decide (5 ≤ k / 64) && pk k) || decide (k = f)) kn pe clk tol opn) rfl ?_
      refine V.aload_n F d_T_correct_63 rfl 2 rfl ?_
      refine V.aload F d_T_correct_64 1 rfl ?_
      refine V.aload_n F d_T_correct_66 rfl 2 rfl ?_
      refine V.get F ck_T d_T_correct_67 2 (by decide) lk_T_22 0 rfl rfl ?_
      refine V.getN F ck_A d_T_correct_70 1 (by decide) lk_T_75 3 rfl rfl ?_
      refine V.iload F d_T_correct_73 0 rfl ?_
      refine V.iald (v := nI (spt (f))) F d_T_correct_75 5 0 rfl rfl (by omega) (by decide) rfl ?_
      refine V.lload_n F d_T_correct_76 rfl 5 rfl ?_
      refine V.aload_n F d_T_correct_77 rfl 2 rfl ?_
      refine V.get F ck_T d_T_correct_78 3 (by decide) lk_T_29 0 rfl rfl ?_
      refine V.callVI0 (As := [.ref (da (d) 0), .int (nI (spt (f))), .long (v), .ref (ad 11)]) (rest := []) F (c_tellR l D d hd0 (spt f) v hlt hbN hbS hnum hspt (hspt f hf) htol hnd hob) d_T_correct_81 sv_T_57 im_y_T_tellReplacing sl_y_T_tellReplacing 0 rfl rfl rfl rfl rfl (Nat.le_of_ble_eq_true rfl) ⟨rfl, rfl, (Nat.le_of_ble_eq_true rfl), (Nat.le_of_ble_eq_true rfl)⟩ ⟨(Nat.le_of_ble_eq_true rfl), (Nat.le_of_ble_eq_true rfl)⟩ (fun r9 u9 h9 => ?_)
      obtain ⟨rfl, Rp, p1, p2, B1, B2, hR, hB1, hB2, rfl⟩ := h9
      exact V.iret F hr d_T_correct_84 (⟨rfl, Rp, p1, p2, B1, B2, hR, hB1, hB2, rfl⟩)
    · skip
      exact absurd (c42.symm.trans hst) (by decide)

set_option maxHeartbeats 4000000 in
set_option maxRecDepth 100000 in
theorem c_joinedNo2 (l : Launch) (D : va_G) {ct : Nat → ClassId} {ad : Nat → Nat} {da : Nat → Nat → Nat} {nd : Nat} {nb : Nat} {nf : Nat} {bdk : Nat → Nat} {num : Nat → Nat} {spt : Nat → Nat} {val : Nat → Int64} {tim : Nat → Nat} {rep : Nat → Nat → Bool} {byN : Nat → Nat} {byS : Nat → Nat} {pk : Nat → Bool} {kn : Nat → Nat → Bool} {pe : Nat → Nat → Bool} {clk : Nat → Nat} {tol : Nat → Nat} {opn : Nat → Option Nat} (hnd : nd ≤ 8) (d : Nat) (hd0 : d < nd) (x0 : Int32) (hx : x0 < 0 ∨ nI nd ≤ x0) : CQ l y_T_joined b_T_joined 5 (some (.object "ToldFacts$Desk")) (rmK 2 0 0) D (tyL ct) (CW ct ad da nd nb nf bdk num spt val tim rep byN byS pk kn pe clk tol opn) [.ref (ad 0), .int (nI (d)), .int (x0)] 0 0 (fun r u => r = none ∧ u = CW ct ad da nd nb nf bdk num spt val tim rep byN byS pk kn pe clk tol opn) := by
  refine CQ.start (by decide) (Nat.le_of_ble_eq_true rfl) ?_
  intro p e s m below meth c F hr hnm
  show V p l e (rmK 2 0 0) s m [.ref (ad 0), .int (nI (d)), .int (x0)].toArray below meth c D (va_A (CW ct ad da nd nb nf bdk num spt val tim rep byN byS pk kn pe clk tol opn) s.heap.size) 5 0 0 (EQ D below (CW ct ad da nd nb nf bdk num spt val tim rep byN byS pk kn pe clk tol opn) [.ref (ad 0), .int (nI (d)), .int (x0)].toArray s 0 0 (fun r u => r = none ∧ u = CW ct ad da nd nb nf bdk num spt val tim rep byN byS pk kn pe clk tol opn)) (CW ct ad da nd nb nf bdk num spt val tim rep byN byS pk kn pe clk tol opn) [(0, .ref (ad 0)), (1, .int (nI (d))), (2, .int (x0))] 0 []
  refine V.aload_n F d_T_joined_0 rfl 0 rfl ?_
  refine V.iload_n F d_T_joined_1 rfl 1 rfl ?_
  refine V.callVQ0 (As := [.int (nI (d))]) (rest := []) F (c_deskAt l D hnd d hd0) d_T_joined_2 sv_T_40 im_y_T_deskAt sl_y_T_deskAt 0 rfl rfl rfl rfl rfl (Nat.le_of_ble_eq_true rfl) ⟨rfl, rfl, (Nat.le_of_ble_eq_true rfl), (Nat.le_of_ble_eq_true rfl)⟩ ⟨(Nat.le_of_ble_eq_true rfl), (Nat.le_of_ble_eq_true rfl)⟩ (fun r9 u9 h9 => ?_)
  obtain ⟨rfl, rfl⟩ := h9
  refine V.astore_n (lv2 := [(3, .ref (da (d) 0)), (0, .ref (ad 0)), (1, .int (nI (d))), (2, .int (x0))]) F d_T_joined_5 rfl (by decide) rfl ?_
  refine V.aload_n F d_T_joined_6 rfl 1 rfl ?_
  refine V.iload_n F d_T_joined_7 rfl 3 rfl ?_
  refine V.callVQ0 (As := [.int (x0)]) (rest := []) F (c_deskNo l D x0 hx) d_T_joined_8 sv_T_40 im_y_T_deskAt sl_y_T_deskAt 0 rfl rfl rfl rfl rfl (Nat.le_of_ble_eq_true rfl) ⟨rfl, rfl, (Nat.le_of_ble_eq_true rfl), (Nat.le_of_ble_eq_true rfl)⟩ ⟨(Nat.le_of_ble_eq_true rfl), (Nat.le_of_ble_eq_true rfl)⟩ (fun r9 u9 h9 => ?_)
  obtain ⟨rfl, rfl⟩ := h9
  refine V.astoreN (lv2 := [(4, .null), (3, .ref (da (d) 0)), (0, .ref (ad 0)), (1, .int (nI (d))), (2, .int (x0))]) F d_T_joined_11 (by decide) rfl ?_
  refine V.aload_n F d_T_joined_13 rfl 1 rfl ?_
  refine V.ifnull F d_T_joined_14 ?_
  refine V.aloadN F d_T_joined_17 0 rfl ?_
  refine V.ifnullN (tgt := 27) F d_T_joined_19 (by decide) ?_
  refine V.null F d_T_joined_27 ?_
  exact V.aret (v := none) F hr d_T_joined_28 (⟨rfl, rfl⟩)

set_option maxHeartbeats 4000000 in
set_option maxRecDepth 100000 in
theorem c_joinedNo1b (l : Launch) (D : va_G) {ct : Nat → ClassId} {ad : Nat → Nat} {da : Nat → Nat → Nat} {nd : Nat} {nb : Nat} {nf : Nat} {bdk : Nat → Nat} {num : Nat → Nat} {spt : Nat → Nat} {val : Nat → Int64} {tim : Nat → Nat} {rep : Nat → Nat → Bool} {byN : Nat → Nat} {byS : Nat → Nat} {pk : Nat → Bool} {kn : Nat → Nat → Bool} {pe : Nat → Nat → Bool} {clk : Nat → Nat} {tol : Nat → Nat} {opn : Nat → Option Nat} (x0 : Int32) (hx : x0 < 0 ∨ nI nd ≤ x0) (hnd : nd ≤ 8) (d : Nat) (hd0 : d < nd) : CQ l y_T_joined b_T_joined 5 (some (.object "ToldFacts$Desk")) (rmK 2 0 0) D (tyL ct) (CW ct ad da nd nb nf bdk num spt val tim rep byN byS pk kn pe clk tol opn) [.ref (ad 0), .int (x0), .int (nI (d))] 0 0 (fun r u => r = none ∧ u = CW ct ad da nd nb nf bdk num spt val tim rep byN byS pk kn pe clk tol opn) := by
  refine CQ.start (by decide) (Nat.le_of_ble_eq_true rfl) ?_
  intro p e s m below meth c F hr hnm
  show V p l e (rmK 2 0 0) s m [.ref (ad 0), .int (x0), .int (nI (d))].toArray below meth c D (va_A (CW ct ad da nd nb nf bdk num spt val tim rep byN byS pk kn pe clk tol opn) s.heap.size) 5 0 0 (EQ D below (CW ct ad da nd nb nf bdk num spt val tim rep byN byS pk kn pe clk tol opn) [.ref (ad 0), .int (x0), .int (nI (d))].toArray s 0 0 (fun r u => r = none ∧ u = CW ct ad da nd nb nf bdk num spt val tim rep byN byS pk kn pe clk tol opn)) (CW ct ad da nd nb nf bdk num spt val tim rep byN byS pk kn pe clk tol opn) [(0, .ref (ad 0)), (1, .int (x0)), (2, .int (nI (d)))] 0 []
  refine V.aload_n F d_T_joined_0 rfl 0 rfl ?_
  refine V.iload_n F d_T_joined_1 rfl 1 rfl ?_
  refine V.callVQ0 (As := [.int (x0)]) (rest := []) F (c_deskNo l D x0 hx) d_T_joined_2 sv_T_40 im_y_T_deskAt sl_y_T_deskAt 0 rfl rfl rfl rfl rfl (Nat.le_of_ble_eq_true rfl) ⟨rfl, rfl, (Nat.le_of_ble_eq_true rfl), (Nat.le_of_ble_eq_true rfl)⟩ ⟨(Nat.le_of_ble_eq_true rfl), (Nat.le_of_ble_eq_true rfl)⟩ (fun r9 u9 h9 => ?_)
  obtain ⟨rfl, rfl⟩ := h9
  refine V.astore_nN (lv2 := [(3, .null), (0, .ref (ad 0)), (1, .int (x0)), (2, .int (nI (d)))]) F d_T_joined_5 rfl (by decide) rfl ?_
  refine V.aload_n F d_T_joined_6 rfl 1 rfl ?_
  refine V.iload_n F d_T_joined_7 rfl 3 rfl ?_
  refine V.callVQ0 (As := [.int (nI (d))]) (rest := []) F (c_deskAt l D hnd d hd0) d_T_joined_8 sv_T_40 im_y_T_deskAt sl_y_T_deskAt 0 rfl rfl rfl rfl rfl (Nat.le_of_ble_eq_true rfl) ⟨rfl, rfl, (Nat.le_of_ble_eq_true rfl), (Nat.le_of_ble_eq_true rfl)⟩ ⟨(Nat.le_of_ble_eq_true rfl), (Nat.le_of_ble_eq_true rfl)⟩ (fun r9 u9 h9 => ?_)
  obtain ⟨rfl, rfl⟩ := h9
  refine V.astore (lv2 := [(4, .ref (da (d) 0)), (3, .null), (0, .ref (ad 0)), (1, .int (x0)), (2, .int (nI (d)))]) F d_T_joined_11 (by decide) rfl ?_
  refine V.aload_nN F d_T_joined_13 rfl 1 rfl ?_
  refine V.ifnullN (tgt := 27) F d_T_joined_14 (by decide) ?_
  refine V.null F d_T_joined_27 ?_
  exact V.aret (v := none) F hr d_T_joined_28 (⟨rfl, rfl⟩)

set_option maxHeartbeats 4000000 in
set_option maxRecDepth 100000 in
theorem c_joinedNo1c (l : Launch) (D : va_G) {ct : Nat → ClassId} {ad : Nat → Nat} {da : Nat → Nat → Nat} {nd : Nat} {nb : Nat} {nf : Nat} {bdk : Nat → Nat} {num : Nat → Nat} {spt : Nat → Nat} {val : Nat → Int64} {tim : Nat → Nat} {rep : Nat → Nat → Bool} {byN : Nat → Nat} {byS : Nat → Nat} {pk : Nat → Bool} {kn : Nat → Nat → Bool} {pe : Nat → Nat → Bool} {clk : Nat → Nat} {tol : Nat → Nat} {opn : Nat → Option Nat} (x0 : Int32) (hx : x0 < 0 ∨ nI nd ≤ x0) (x1 : Int32) (hx1 : x1 < 0 ∨ nI nd ≤ x1) : CQ l y_T_joined b_T_joined 5 (some (.object "ToldFacts$Desk")) (rmK 2 0 0) D (tyL ct) (CW ct ad da nd nb nf bdk num spt val tim rep byN byS pk kn pe clk tol opn) [.ref (ad 0), .int (x0), .int (x1)] 0 0 (fun r u => r = none ∧ u = CW ct ad da nd nb nf bdk num spt val tim rep byN byS pk kn pe clk tol opn) := by
  refine CQ.start (by decide) (Nat.le_of_ble_eq_true rfl) ?_
  intro p e s m below meth c F hr hnm
  show V p l e (rmK 2 0 0) s m [.ref (ad 0), .int (x0), .int (x1)].toArray below meth c D (va_A (CW ct ad da nd nb nf bdk num spt val tim rep byN byS pk kn pe clk tol opn) s.heap.size) 5 0 0 (EQ D below (CW ct ad da nd nb nf bdk num spt val tim rep byN byS pk kn pe clk tol opn) [.ref (ad 0), .int (x0), .int (x1)].toArray s 0 0 (fun r u => r = none ∧ u = CW ct ad da nd nb nf bdk num spt val tim rep byN byS pk kn pe clk tol opn)) (CW ct ad da nd nb nf bdk num spt val tim rep byN byS pk kn pe clk tol opn) [(0, .ref (ad 0)), (1, .int (x0)), (2, .int (x1))] 0 []
  refine V.aload_n F d_T_joined_0 rfl 0 rfl ?_
  refine V.iload_n F d_T_joined_1 rfl 1 rfl ?_
  refine V.callVQ0 (As := [.int (x0)]) (rest := []) F (c_deskNo l D x0 hx) d_T_joined_2 sv_T_40 im_y_T_deskAt sl_y_T_deskAt 0 rfl rfl rfl rfl rfl (Nat.le_of_ble_eq_true rfl) ⟨rfl, rfl, (Nat.le_of_ble_eq_true rfl), (Nat.le_of_ble_eq_true rfl)⟩ ⟨(Nat.le_of_ble_eq_true rfl), (Nat.le_of_ble_eq_true rfl)⟩ (fun r9 u9 h9 => ?_)
  obtain ⟨rfl, rfl⟩ := h9
  refine V.astore_nN (lv2 := [(3, .null), (0, .ref (ad 0)), (1, .int (x0)), (2, .int (x1))]) F d_T_joined_5 rfl (by decide) rfl ?_
  refine V.aload_n F d_T_joined_6 rfl 1 rfl ?_
  refine V.iload_n F d_T_joined_7 rfl 3 rfl ?_
  refine V.callVQ0 (As := [.int (x1)]) (rest := []) F (c_deskNo l D x1 hx1) d_T_joined_8 sv_T_40 im_y_T_deskAt sl_y_T_deskAt 0 rfl rfl rfl rfl rfl (Nat.le_of_ble_eq_true rfl) ⟨rfl, rfl, (Nat.le_of_ble_eq_true rfl), (Nat.le_of_ble_eq_true rfl)⟩ ⟨(Nat.le_of_ble_eq_true rfl), (Nat.le_of_ble_eq_true rfl)⟩ (fun r9 u9 h9 => ?_)
  obtain ⟨rfl, rfl⟩ := h9
  refine V.astoreN (lv2 := [(4, .null), (3, .null), (0, .ref (ad 0)), (1, .int (x0)), (2, .int (x1))]) F d_T_joined_11 (by decide) rfl ?_
  refine V.aload_nN F d_T_joined_13 rfl 1 rfl ?_
  refine V.ifnullN (tgt := 27) F d_T_joined_14 (by decide) ?_
  refine V.null F d_T_joined_27 ?_
  exact V.aret (v := none) F hr d_T_joined_28 (⟨rfl, rfl⟩)

set_option maxHeartbeats 4000000 in
set_option maxRecDepth 100000 in
theorem c_joinedSame (l : Launch) (D : va_G) {ct : Nat → ClassId} {ad : Nat → Nat} {da : Nat → Nat → Nat} {nd : Nat} {nb : Nat} {nf : Nat} {bdk : Nat → Nat} {num : Nat → Nat} {spt : Nat → Nat} {val : Nat → Int64} {tim : Nat → Nat} {rep : Nat → Nat → Bool} {byN : Nat → Nat} {byS : Nat → Nat} {pk : Nat → Bool} {kn : Nat → Nat → Bool} {pe : Nat → Nat → Bool} {clk : Nat → Nat} {tol : Nat → Nat} {opn : Nat → Option Nat} (hnd : nd ≤ 8) (d : Nat) (hd0 : d < nd) : CQ l y_T_joined b_T_joined 5 (some (.object "ToldFacts$Desk")) (rmK 2 0 0) D (tyL ct) (CW ct ad da nd nb nf bdk num spt val tim rep byN byS pk kn pe clk tol opn) [.ref (ad 0), .int (nI (d)), .int (nI (d))] 0 0 (fun r u => r = none ∧ u = CW ct ad da nd nb nf bdk num spt val tim rep byN byS pk kn pe clk tol opn) := by
  refine CQ.start (by decide) (Nat.le_of_ble_eq_true rfl) ?_
  intro p e s m below meth c F hr hnm
  show V p l e (rmK 2 0 0) s m [.ref (ad 0), .int (nI (d)), .int (nI (d))].toArray below meth c D (va_A (CW ct ad da nd nb nf bdk num spt val tim rep byN byS pk kn pe clk tol opn) s.heap.size) 5 0 0 (EQ D below (CW ct ad da nd nb nf bdk num spt val tim rep byN byS pk kn pe clk tol opn) [.ref (ad 0), .int (nI (d)), .int (nI (d))].toArray s 0 0 (fun r u => r = none ∧ u = CW ct ad da nd nb nf bdk num spt val tim rep byN byS pk kn pe clk tol opn)) (CW ct ad da nd nb nf bdk num spt val tim rep byN byS pk kn pe clk tol opn) [(0, .ref (ad 0)), (1, .int (nI (d))), (2, .int (nI (d)))] 0 []
  refine V.aload_n F d_T_joined_0 rfl 0 rfl ?_
  refine V.iload_n F d_T_joined_1 rfl 1 rfl ?_
  refine V.callVQ0 (As := [.int (nI (d))]) (rest := []) F (c_deskAt l D hnd d hd0) d_T_joined_2 sv_T_40 im_y_T_deskAt sl_y_T_deskAt 0 rfl rfl rfl rfl rfl (Nat.le_of_ble_eq_true rfl) ⟨rfl, rfl, (Nat.le_of_ble_eq_true rfl), (Nat.le_of_ble_eq_true rfl)⟩ ⟨(Nat.le_of_ble_eq_true rfl), (Nat.le_of_ble_eq_true rfl)⟩ (fun r9 u9 h9 => ?_)
  obtain ⟨rfl, rfl⟩ := h9
  refine V.astore_n (lv2 := [(3, .ref (da (d) 0)), (0, .ref (ad 0)), (1, .int (nI (d))), (2, .int (nI (d)))]) F d_T_joined_5 rfl (by decide) rfl ?_
  refine V.aload_n F d_T_joined_6 rfl 1 rfl ?_
  refine V.iload_n F d_T_joined_7 rfl 3 rfl ?_
  refine V.callVQ0 (As := [.int (nI (d))]) (rest := []) F (c_deskAt l D hnd d hd0) d_T_joined_8 sv_T_40 im_y_T_deskAt sl_y_T_deskAt 0 rfl rfl rfl rfl rfl (Nat.le_of_ble_eq_true rfl) ⟨rfl, rfl, (Nat.le_of_ble_eq_true rfl), (Nat.le_of_ble_eq_true rfl)⟩ ⟨(Nat.le_of_ble_eq_true rfl), (Nat.le_of_ble_eq_true rfl)⟩ (fun r9 u9 h9 => ?_)
  obtain ⟨rfl, rfl⟩ := h9
  refine V.astore (lv2 := [(4, .ref (da (d) 0)), (3, .ref (da (d) 0)), (0, .ref (ad 0)), (1, .int (nI (d))), (2, .int (nI (d)))]) F d_T_joined_11 (by decide) rfl ?_
  refine V.aload_n F d_T_joined_13 rfl 1 rfl ?_
  refine V.ifnull F d_T_joined_14 ?_
  refine V.aload F d_T_joined_17 0 rfl ?_
  refine V.ifnull F d_T_joined_19 ?_
  refine V.iload_n F d_T_joined_22 rfl 3 rfl ?_
  refine V.iload_n F d_T_joined_23 rfl 4 rfl ?_
  refine V.icmp_neN (tgt := 29) F d_T_joined_24 (by decide) (by omega) (by omega) (fun c24 => ?_) (fun c24 => ?_)
  · skip
    exact absurd rfl c24
  · skip
    refine V.null F d_T_joined_27 ?_
    exact V.aret (v := none) F hr d_T_joined_28 (⟨rfl, rfl⟩)

set_option maxHeartbeats 4000000 in
set_option maxRecDepth 100000 in
theorem c_joined (l : Launch) (D : va_G) {ct : Nat → ClassId} {ad : Nat → Nat} {da : Nat → Nat → Nat} {nd : Nat} {nb : Nat} {nf : Nat} {bdk : Nat → Nat} {num : Nat → Nat} {spt : Nat → Nat} {val : Nat → Int64} {tim : Nat → Nat} {rep : Nat → Nat → Bool} {byN : Nat → Nat} {byS : Nat → Nat} {pk : Nat → Bool} {kn : Nat → Nat → Bool} {pe : Nat → Nat → Bool} {clk : Nat → Nat} {tol : Nat → Nat} {opn : Nat → Option Nat} (hnd : nd ≤ 8) (d : Nat) (hd0 : d < nd) (d2 : Nat) (hd2 : d2 < nd) (hne : d2 ≠ d) (hc1 : clk d < 2 ^ 31) (hc2 : clk d2 < 2 ^ 31) : CQ l y_T_joined b_T_joined 5 (some (.object "ToldFacts$Desk")) (rmK 2 0 0) D (tyL ct) (CW ct ad da nd nb nf bdk num spt val tim rep byN byS pk kn pe clk tol opn) [.ref (ad 0), .int (nI (d)), .int (nI (d2))] 0 0 (fun r u => r = some (da d 0) ∧ u = CW ct ad da nd nb nf bdk num spt val tim rep byN byS pk (va_up kn d (fun k => kn d k || (decide (k / 64 < 5) && kn d2 k))) pe (va_up clk d (max (clk d) (clk d2))) tol opn) := by
  refine CQ.start (by decide) (Nat.le_of_ble_eq_true rfl) ?_
  intro p e s m below meth c F hr hnm
  show V p l e (rmK 2 0 0) s m [.ref (ad 0), .int (nI (d)), .int (nI (d2))].toArray below meth c D (va_A (CW ct ad da nd nb nf bdk num spt val tim rep byN byS pk kn pe clk tol opn) s.heap.size) 5 0 0 (EQ D below (CW ct ad da nd nb nf bdk num spt val tim rep byN byS pk kn pe clk tol opn) [.ref (ad 0), .int (nI (d)), .int (nI (d2))].toArray s 0 0 (fun r u => r = some (da d 0) ∧ u = CW ct ad da nd nb nf bdk num spt val tim rep byN byS pk (va_up kn d (fun k => kn d k || (decide (k / 64 < 5) && kn d2 k))) pe (va_up clk d (max (clk d) (clk d2))) tol opn)) (CW ct ad da nd nb nf bdk num spt val tim rep byN byS pk kn pe clk tol opn) [(0, .ref (ad 0)), (1, .int (nI (d))), (2, .int (nI (d2)))] 0 []
  refine V.aload_n F d_T_joined_0 rfl 0 rfl ?_
  refine V.iload_n F d_T_joined_1 rfl 1 rfl ?_
  refine V.callVQ0 (As := [.int (nI (d))]) (rest := []) F (c_deskAt l D hnd d hd0) d_T_joined_2 sv_T_40 im_y_T_deskAt sl_y_T_deskAt 0 rfl rfl rfl rfl rfl (Nat.le_of_ble_eq_true rfl) ⟨rfl, rfl, (Nat.le_of_ble_eq_true rfl), (Nat.le_of_ble_eq_true rfl)⟩ ⟨(Nat.le_of_ble_eq_true rfl), (Nat.le_of_ble_eq_true rfl)⟩ (fun r9 u9 h9 => ?_)
  obtain ⟨rfl, rfl⟩ := h9
  refine V.astore_n (lv2 := [(3, .ref (da (d) 0)), (0, .ref (ad 0)), (1, .int (nI (d))), (2, .int (nI (d2)))]) F d_T_joined_5 rfl (by decide) rfl ?_
  refine V.aload_n F d_T_joined_6 rfl 1 rfl ?_
  refine V.iload_n F d_T_joined_7 rfl 3 rfl ?_
  refine V.callVQ0 (As := [.int (nI (d2))]) (rest := []) F (c_deskAt l D hnd d2 hd2) d_T_joined_8 sv_T_40 im_y_T_deskAt sl_y_T_deskAt 0 rfl rfl rfl rfl rfl (Nat.le_of_ble_eq_true rfl) ⟨rfl, rfl, (Nat.le_of_ble_eq_true rfl), (Nat.le_of_ble_eq_true rfl)⟩ ⟨(Nat.le_of_ble_eq_true rfl), (Nat.le_of_ble_eq_true rfl)⟩ (fun r9 u9 h9 => ?_)
  obtain ⟨rfl, rfl⟩ := h9
  refine V.astore (lv2 := [(4, .ref (da (d2) 0)), (3, .ref (da (d) 0)), (0, .ref (ad 0)), (1, .int (nI (d))), (2, .int (nI (d2)))]) F d_T_joined_11 (by decide) rfl ?_
  refine V.aload_n F d_T_joined_13 rfl 1 rfl ?_
  refine V.ifnull F d_T_joined_14 ?_
  refine V.aload F d_T_joined_17 0 rfl ?_
  refine V.ifnull F d_T_joined_19 ?_
  refine V.iload_n F d_T_joined_22 rfl 3 rfl ?_
  refine V.iload_n F d_T_joined_23 rfl 4 rfl ?_
  refine V.icmp_neN (tgt := 29) F d_T_joined_24 (by decide) (by omega) (by omega) (fun c24 => ?_) (fun c24 => ?_)
  · skip
    refine V.aload_n F d_T_joined_29 rfl 1 rfl ?_
    refine V.aload F d_T_joined_30 0 rfl ?_
    refine V.callVV0 (As := [.ref (da (d2) 0)]) (rest := []) F (c_learnFrom l D d hd0 d2 hd2 hne hc1 hc2) d_T_joined_32 sv_T_161 im_y_K_learnFrom sl_y_K_learnFrom (13 + (5 * (d) + 0)) (cw_d0 hd0) rfl rfl rfl rfl (Nat.le_of_ble_eq_true rfl) ⟨rfl, rfl, (Nat.le_of_ble_eq_true rfl), (Nat.le_of_ble_eq_true rfl)⟩ ⟨(Nat.le_of_ble_eq_true rfl), (Nat.le_of_ble_eq_true rfl)⟩ (fun u9 h9 => ?_)
    obtain rfl := h9
    refine V.aload_n F d_T_joined_35 rfl 1 rfl ?_
    exact V.aret (v := some (da (d) 0)) F hr d_T_joined_36 (⟨rfl, rfl⟩)
  · skip
    exact absurd c24.symm hne

set_option maxHeartbeats 4000000 in
set_option maxRecDepth 100000 in
theorem c_joinNo2 (l : Launch) (D : va_G) {ct : Nat → ClassId} {ad : Nat → Nat} {da : Nat → Nat → Nat} {nd : Nat} {nb : Nat} {nf : Nat} {bdk : Nat → Nat} {num : Nat → Nat} {spt : Nat → Nat} {val : Nat → Int64} {tim : Nat → Nat} {rep : Nat → Nat → Bool} {byN : Nat → Nat} {byS : Nat → Nat} {pk : Nat → Bool} {kn : Nat → Nat → Bool} {pe : Nat → Nat → Bool} {clk : Nat → Nat} {tol : Nat → Nat} {opn : Nat → Option Nat} (hnd : nd ≤ 8) (d : Nat) (hd0 : d < nd) (x0 : Int32) (hx : x0 < 0 ∨ nI nd ≤ x0) : CI l y_T_join b_T_join 4 (some .int) (rmK 5 0 0) D (tyL ct) (CW ct ad da nd nb nf bdk num spt val tim rep byN byS pk kn pe clk tol opn) [.ref (ad 0), .int (nI (d)), .int (x0)] 0 0 (fun r u => r = -1 ∧ u = CW ct ad da nd nb nf bdk num spt val tim rep byN byS pk kn pe clk tol opn) := by
  refine CI.start (by decide) (Nat.le_of_ble_eq_true rfl) ?_
  intro p e s m below meth c F hr hnm
  show V p l e (rmK 5 0 0) s m [.ref (ad 0), .int (nI (d)), .int (x0)].toArray below meth c D (va_A (CW ct ad da nd nb nf bdk num spt val tim rep byN byS pk kn pe clk tol opn) s.heap.size) 4 0 0 (EI D below (CW ct ad da nd nb nf bdk num spt val tim rep byN byS pk kn pe clk tol opn) [.ref (ad 0), .int (nI (d)), .int (x0)].toArray s 0 0 (fun r u => r = -1 ∧ u = CW ct ad da nd nb nf bdk num spt val tim rep byN byS pk kn pe clk tol opn)) (CW ct ad da nd nb nf bdk num spt val tim rep byN byS pk kn pe clk tol opn) [(0, .ref (ad 0)), (1, .int (nI (d))), (2, .int (x0))] 0 []
  refine V.aload_n F d_T_join_0 rfl 0 rfl ?_
  refine V.iload_n F d_T_join_1 rfl 1 rfl ?_
  refine V.iload_n F d_T_join_2 rfl 2 rfl ?_
  refine V.callVQ0 (As := [.int (nI (d)), .int (x0)]) (rest := []) F (c_joinedNo2 l D hnd d hd0 x0 hx) d_T_join_3 sv_T_78 im_y_T_joined sl_y_T_joined 0 rfl rfl rfl rfl rfl (Nat.le_of_ble_eq_true rfl) ⟨rfl, rfl, (Nat.le_of_ble_eq_true rfl), (Nat.le_of_ble_eq_true rfl)⟩ ⟨(Nat.le_of_ble_eq_true rfl), (Nat.le_of_ble_eq_true rfl)⟩ (fun r9 u9 h9 => ?_)
  obtain ⟨rfl, rfl⟩ := h9
  refine V.astore_nN (lv2 := [(3, .null), (0, .ref (ad 0)), (1, .int (nI (d))), (2, .int (x0))]) F d_T_join_6 rfl (by decide) rfl ?_
  refine V.aload_nN F d_T_join_7 rfl 0 rfl ?_
  refine V.ifnonnullN F d_T_join_8 ?_
  refine V.iconst F d_T_join_11 (v := -1) (by decide) ?_
  refine V.goto (tgt := 26) F d_T_join_12 (by decide) ?_
  exact V.iret F hr d_T_join_26 (⟨rfl, rfl⟩)

set_option maxHeartbeats 4000000 in
set_option maxRecDepth 100000 in
theorem c_joinNo1b (l : Launch) (D : va_G) {ct : Nat → ClassId} {ad : Nat → Nat} {da : Nat → Nat → Nat} {nd : Nat} {nb : Nat} {nf : Nat} {bdk : Nat → Nat} {num : Nat → Nat} {spt : Nat → Nat} {val : Nat → Int64} {tim : Nat → Nat} {rep : Nat → Nat → Bool} {byN : Nat → Nat} {byS : Nat → Nat} {pk : Nat → Bool} {kn : Nat → Nat → Bool} {pe : Nat → Nat → Bool} {clk : Nat → Nat} {tol : Nat → Nat} {opn : Nat → Option Nat} (x0 : Int32) (hx : x0 < 0 ∨ nI nd ≤ x0) (hnd : nd ≤ 8) (d : Nat) (hd0 : d < nd) : CI l y_T_join b_T_join 4 (some .int) (rmK 5 0 0) D (tyL ct) (CW ct ad da nd nb nf bdk num spt val tim rep byN byS pk kn pe clk tol opn) [.ref (ad 0), .int (x0), .int (nI (d))] 0 0 (fun r u => r = -1 ∧ u = CW ct ad da nd nb nf bdk num spt val tim rep byN byS pk kn pe clk tol opn) := by
  refine CI.start (by decide) (Nat.le_of_ble_eq_true rfl) ?_
  intro p e s m below meth c F hr hnm
  show V p l e (rmK 5 0 0) s m [.ref (ad 0), .int (x0), .int (nI (d))].toArray below meth c D (va_A (CW ct ad da nd nb nf bdk num spt val tim rep byN byS pk kn pe clk tol opn) s.heap.size) 4 0 0 (EI D below (CW ct ad da nd nb nf bdk num spt val tim rep byN byS pk kn pe clk tol opn) [.ref (ad 0), .int (x0), .int (nI (d))].toArray s 0 0 (fun r u => r = -1 ∧ u = CW ct ad da nd nb nf bdk num spt val tim rep byN byS pk kn pe clk tol opn)) (CW ct ad da nd nb nf bdk num spt val tim rep byN byS pk kn pe clk tol opn) [(0, .ref (ad 0)), (1, .int (x0)), (2, .int (nI (d)))] 0 []
  refine V.aload_n F d_T_join_0 rfl 0 rfl ?_
  refine V.iload_n F d_T_join_1 rfl 1 rfl ?_
  refine V.iload_n F d_T_join_2 rfl 2 rfl ?_
  refine V.callVQ0 (As := [.int (x0), .int (nI (d))]) (rest := []) F (c_joinedNo1b l D x0 hx hnd d hd0) d_T_join_3 sv_T_78 im_y_T_joined sl_y_T_joined 0 rfl rfl rfl rfl rfl (Nat.le_of_ble_eq_true rfl) ⟨rfl, rfl, (Nat.le_of_ble_eq_true rfl), (Nat.le_of_ble_eq_true rfl)⟩ ⟨(Nat.le_of_ble_eq_true rfl), (Nat.le_of_ble_eq_true rfl)⟩ (fun r9 u9 h9 => ?_)
  obtain ⟨rfl, rfl⟩ := h9
  refine V.astore_nN (lv2 := [(3, .null), (0, .ref (ad 0)), (1, .int (x0)), (2, .int (nI (d)))]) F d_T_join_6 rfl (by decide) rfl ?_
  refine V.aload_nN F d_T_join_7 rfl 0 rfl ?_
  refine V.ifnonnullN F d_T_join_8 ?_
  refine V.iconst F d_T_join_11 (v := -1) (by decide) ?_
  refine V.goto (tgt := 26) F d_T_join_12 (by decide) ?_
  exact V.iret F hr d_T_join_26 (⟨rfl, rfl⟩)

set_option maxHeartbeats 4000000 in
set_option maxRecDepth 100000 in
theorem c_joinNo1c (l : Launch) (D : va_G) {ct : Nat → ClassId} {ad : Nat → Nat} {da : Nat → Nat → Nat} {nd : Nat} {nb : Nat} {nf : Nat} {bdk : Nat → Nat} {num : Nat → Nat} {spt : Nat → Nat} {val : Nat → Int64} {tim : Nat → Nat} {rep : Nat → Nat → Bool} {byN : Nat → Nat} {byS : Nat → Nat} {pk : Nat → Bool} {kn : Nat → Nat → Bool} {pe : Nat → Nat → Bool} {clk : Nat → Nat} {tol : Nat → Nat} {opn : Nat → Option Nat} (x0 : Int32) (hx : x0 < 0 ∨ nI nd ≤ x0) (x1 : Int32) (hx1 : x1 < 0 ∨ nI nd ≤ x1) : CI l y_T_join b_T_join 4 (some .int) (rmK 5 0 0) D (tyL ct) (CW ct ad da nd nb nf bdk num spt val tim rep byN byS pk kn pe clk tol opn) [.ref (ad 0), .int (x0), .int (x1)] 0 0 (fun r u => r = -1 ∧ u = CW ct ad da nd nb nf bdk num spt val tim rep byN byS pk kn pe clk tol opn) := by
  refine CI.start (by decide) (Nat.le_of_ble_eq_true rfl) ?_
  intro p e s m below meth c F hr hnm
  show V p l e (rmK 5 0 0) s m [.ref (ad 0), .int (x0), .int (x1)].toArray below meth c D (va_A (CW ct ad da nd nb nf bdk num spt val tim rep byN byS pk kn pe clk tol opn) s.heap.size) 4 0 0 (EI D below (CW ct ad da nd nb nf bdk num spt val tim rep byN byS pk kn pe clk tol opn) [.ref (ad 0), .int (x0), .int (x1)].toArray s 0 0 (fun r u => r = -1 ∧ u = CW ct ad da nd nb nf bdk num spt val tim rep byN byS pk kn pe clk tol opn)) (CW ct ad da nd nb nf bdk num spt val tim rep byN byS pk kn pe clk tol opn) [(0, .ref (ad 0)), (1, .int (x0)), (2, .int (x1))] 0 []
  refine V.aload_n F d_T_join_0 rfl 0 rfl ?_
  refine V.iload_n F d_T_join_1 rfl 1 rfl ?_
  refine V.iload_n F d_T_join_2 rfl 2 rfl ?_
  refine V.callVQ0 (As := [.int (x0), .int (x1)]) (rest := []) F (c_joinedNo1c l D x0 hx x1 hx1) d_T_join_3 sv_T_78 im_y_T_joined sl_y_T_joined 0 rfl rfl rfl rfl rfl (Nat.le_of_ble_eq_true rfl) ⟨rfl, rfl, (Nat.le_of_ble_eq_true rfl), (Nat.le_of_ble_eq_true rfl)⟩ ⟨(Nat.le_of_ble_eq_true rfl), (Nat.le_of_ble_eq_true rfl)⟩ (fun r9 u9 h9 => ?_)
  obtain ⟨rfl, rfl⟩ := h9
  refine V.astore_nN (lv2 := [(3, .null), (0, .ref (ad 0)), (1, .int (x0)), (2, .int (x1))]) F d_T_join_6 rfl (by decide) rfl ?_
  refine V.aload_nN F d_T_join_7 rfl 0 rfl ?_
  refine V.ifnonnullN F d_T_join_8 ?_
  refine V.iconst F d_T_join_11 (v := -1) (by decide) ?_
  refine V.goto (tgt := 26) F d_T_join_12 (by decide) ?_
  exact V.iret F hr d_T_join_26 (⟨rfl, rfl⟩)

set_option maxHeartbeats 4000000 in
set_option maxRecDepth 100000 in
theorem c_joinSame (l : Launch) (D : va_G) {ct : Nat → ClassId} {ad : Nat → Nat} {da : Nat → Nat → Nat} {nd : Nat} {nb : Nat} {nf : Nat} {bdk : Nat → Nat} {num : Nat → Nat} {spt : Nat → Nat} {val : Nat → Int64} {tim : Nat → Nat} {rep : Nat → Nat → Bool} {byN : Nat → Nat} {byS : Nat → Nat} {pk : Nat → Bool} {kn : Nat → Nat → Bool} {pe : Nat → Nat → Bool} {clk : Nat → Nat} {tol : Nat → Nat} {opn : Nat → Option Nat} (hnd : nd ≤ 8) (d : Nat) (hd0 : d < nd) : CI l y_T_join b_T_join 4 (some .int) (rmK 5 0 0) D (tyL ct) (CW ct ad da nd nb nf bdk num spt val tim rep byN byS pk kn pe clk tol opn) [.ref (ad 0), .int (nI (d)), .int (nI (d))] 0 0 (fun r u => r = -1 ∧ u = CW ct ad da nd nb nf bdk num spt val tim rep byN byS pk kn pe clk tol opn) := by
  refine CI.start (by decide) (Nat.le_of_ble_eq_true rfl) ?_
  intro p e s m below meth c F hr hnm
  show V p l e (rmK 5 0 0) s m [.ref (ad 0), .int (nI (d)), .int (nI (d))].toArray below meth c D (va_A (CW ct ad da nd nb nf bdk num spt val tim rep byN byS pk kn pe clk tol opn) s.heap.size) 4 0 0 (EI D below (CW ct ad da nd nb nf bdk num spt val tim rep byN byS pk kn pe clk tol opn) [.ref (ad 0), .int (nI (d)), .int (nI (d))].toArray s 0 0 (fun r u => r = -1 ∧ u = CW ct ad da nd nb nf bdk num spt val tim rep byN byS pk kn pe clk tol opn)) (CW ct ad da nd nb nf bdk num spt val tim rep byN byS pk kn pe clk tol opn) [(0, .ref (ad 0)), (1, .int (nI (d))), (2, .int (nI (d)))] 0 []
  refine V.aload_n F d_T_join_0 rfl 0 rfl ?_
  refine V.iload_n F d_T_join_1 rfl 1 rfl ?_
  refine V.iload_n F d_T_join_2 rfl 2 rfl ?_
  refine V.callVQ0 (As := [.int (nI (d)), .int (nI (d))]) (rest := []) F (c_joinedSame l D hnd d hd0) d_T_join_3 sv_T_78 im_y_T_joined sl_y_T_joined 0 rfl rfl rfl rfl rfl (Nat.le_of_ble_eq_true rfl) ⟨rfl, rfl, (Nat.le_of_ble_eq_true rfl), (Nat.le_of_ble_eq_true rfl)⟩ ⟨(Nat.le_of_ble_eq_true rfl), (Nat.le_of_ble_eq_true rfl)⟩ (fun r9 u9 h9 => ?_)
  obtain ⟨rfl, rfl⟩ := h9
  refine V.astore_nN (lv2 := [(3, .null), (0, .ref (ad 0)), (1, .int (nI (d))), (2, .int (nI (d)))]) F d_T_join_6 rfl (by decide) rfl ?_
  refine V.aload_nN F d_T_join_7 rfl 0 rfl ?_
  refine V.ifnonnullN F d_T_join_8 ?_
  refine V.iconst F d_T_join_11 (v := -1) (by decide) ?_
  refine V.goto (tgt := 26) F d_T_join_12 (by decide) ?_
  exact V.iret F hr d_T_join_26 (⟨rfl, rfl⟩)

set_option maxHeartbeats 4000000 in
set_option maxRecDepth 100000 in
theorem c_join (l : Launch) (D : va_G) {ct : Nat → ClassId} {ad : Nat → Nat} {da : Nat → Nat → Nat} {nd : Nat} {nb : Nat} {nf : Nat} {bdk : Nat → Nat} {num : Nat → Nat} {spt : Nat → Nat} {val : Nat → Int64} {tim : Nat → Nat} {rep : Nat → Nat → Bool} {byN : Nat → Nat} {byS : Nat → Nat} {pk : Nat → Bool} {kn : Nat → Nat → Bool} {pe : Nat → Nat → Bool} {clk : Nat → Nat} {tol : Nat → Nat} {opn : Nat → Option Nat} (hnf : nf ≤ 300) (hnd : nd ≤ 8) (d : Nat) (hd0 : d < nd) (hbS : ∀ j, j < nf → byS j < nf) (hspt : ∀ k, k < nf → spt k < 2 ^ 31) (hso : ∀ a b, a ≤ b → b < nf → spt (byS a) ≤ spt (byS b)) (hsu : ∀ f, f < nf → ∃ a, a < nf ∧ byS a = f) (d2 : Nat) (hd2 : d2 < nd) (hne : d2 ≠ d) (hc1 : clk d < 2 ^ 31) (hc2 : clk d2 < 2 ^ 31) : CI l y_T_join b_T_join 4 (some .int) (rmK 5 0 0) D (tyL ct) (CW ct ad da nd nb nf bdk num spt val tim rep byN byS pk kn pe clk tol opn) [.ref (ad 0), .int (nI (d)), .int (nI (d2))] 0 0 (fun r u => r = nI (cnt (fun a => isF spt byS a && cfB spt val (stB (fun k => kn d k || (decide (k / 64 < 5) && kn d2 k)) rep) nf (spt (byS a))) nf) ∧ u = CW ct ad da nd nb nf bdk num spt val tim rep byN byS pk (va_up kn d (fun k => kn d k || (decide (k / 64 < 5) && kn d2 k))) pe (va_up clk d (max (clk d) (clk d2))) tol opn) := by
  refine CI.start (by decide) (Nat.le_of_ble_eq_true rfl) ?_
  intro p e s m below meth c F hr hnm
  show V p l e (rmK 5 0 0) s m [.ref (ad 0), .int (nI (d)), .int (nI (d2))].toArray below meth c D (va_A (CW ct ad da nd nb nf bdk num spt val tim rep byN byS pk kn pe clk tol opn) s.heap.size) 4 0 0 (EI D below (CW ct ad da nd nb nf bdk num spt val tim rep byN byS pk kn pe clk tol opn) [.ref (ad 0), .int (nI (d)), .int (nI (d2))].toArray s 0 0 (fun r u => r = nI (cnt (fun a => isF spt byS a && cfB spt val (stB (fun k => kn d k || (decide (k / 64 < 5) && kn d2 k)) rep) nf (spt (byS a))) nf) ∧ u = CW ct ad da nd nb nf bdk num spt val tim rep byN byS pk (va_up kn d (fun k => kn d k || (decide (k / 64 < 5) && kn d2 k))) pe (va_up clk d (max (clk d) (clk d2))) tol opn)) (CW ct ad da nd nb nf bdk num spt val tim rep byN byS pk kn pe clk tol opn) [(0, .ref (ad 0)), (1, .int (nI (d))), (2, .int (nI (d2)))] 0 []
  refine V.aload_n F d_T_join_0 rfl 0 rfl ?_
  refine V.iload_n F d_T_join_1 rfl 1 rfl ?_
  refine V.iload_n F d_T_join_2 rfl 2 rfl ?_
  refine V.callVQ0 (As := [.int (nI (d)), .int (nI (d2))]) (rest := []) F (c_joined l D hnd d hd0 d2 hd2 hne hc1 hc2) d_T_join_3 sv_T_78 im_y_T_joined sl_y_T_joined 0 rfl rfl rfl rfl rfl (Nat.le_of_ble_eq_true rfl) ⟨rfl, rfl, (Nat.le_of_ble_eq_true rfl), (Nat.le_of_ble_eq_true rfl)⟩ ⟨(Nat.le_of_ble_eq_true rfl), (Nat.le_of_ble_eq_true rfl)⟩ (fun r9 u9 h9 => ?_)
  obtain ⟨rfl, rfl⟩ := h9
  refine V.astore_n (lv2 := [(3, .ref (da (d) 0)), (0, .ref (ad 0)), (1, .int (nI (d))), (2, .int (nI (d2)))]) F d_T_join_6 rfl (by decide) rfl ?_
  refine V.aload_n F d_T_join_7 rfl 0 rfl ?_
  refine V.ifnonnull (tgt := 15) F d_T_join_8 (by decide) ?_
  refine V.aload_n F d_T_join_15 rfl 1 rfl ?_
  refine V.get F ck_T d_T_join_16 2 (by decide) lk_T_22 0 rfl rfl ?_
  refine V.aload_n F d_T_join_19 rfl 0 rfl ?_
  refine V.getN F ck_K d_T_join_20 1 (by decide) lk_T_65 (13 + (5 * (d) + 0)) (cw_d0 hd0) rfl ?_
  refine V.callVI0 (As := [.ref (da (d) 1)]) (rest := []) F (c_countCf l D hnf hbS hspt hso hsu d hd0) d_T_join_23 sv_T_82 im_y_A_countConflicts sl_y_A_countConflicts 3 rfl rfl rfl rfl rfl (Nat.le_of_ble_eq_true rfl) ⟨rfl, rfl, (Nat.le_of_ble_eq_true rfl), (Nat.le_of_ble_eq_true rfl)⟩ ⟨(Nat.le_of_ble_eq_true rfl), (Nat.le_of_ble_eq_true rfl)⟩ (fun r9 u9 h9 => ?_)
  obtain ⟨e9, rfl⟩ := h9
  rw [show (va_up kn d (fun k => kn d k || (decide (k / 64 < 5) && kn d2 k))) d = (fun k => kn d k || (decide (k / 64 < 5) && kn d2 k)) from va_up_self _ _ _] at e9
  subst e9
  exact V.iret F hr d_T_join_26 (⟨rfl, rfl⟩)

set_option maxHeartbeats 4000000 in
set_option maxRecDepth 100000 in
theorem c_eqNo2 (l : Launch) (D : va_G) {ct : Nat → ClassId} {ad : Nat → Nat} {da : Nat → Nat → Nat} {nd : Nat} {nb : Nat} {nf : Nat} {bdk : Nat → Nat} {num : Nat → Nat} {spt : Nat → Nat} {val : Nat → Int64} {tim : Nat → Nat} {rep : Nat → Nat → Bool} {byN : Nat → Nat} {byS : Nat → Nat} {pk : Nat → Bool} {kn : Nat → Nat → Bool} {pe : Nat → Nat → Bool} {clk : Nat → Nat} {tol : Nat → Nat} {opn : Nat → Option Nat} (hnd : nd ≤ 8) (d : Nat) (hd0 : d < nd) (x0 : Int32) (hx : x0 < 0 ∨ nI nd ≤ x0) : CI l y_T_equal b_T_equal 5 (some .boolean) (rmK 4 0 0) D (tyL ct) (CW ct ad da nd nb nf bdk num spt val tim rep byN byS pk kn pe clk tol opn) [.ref (ad 0), .int (nI (d)), .int (x0)] 0 0 (fun r u => r = bI false ∧ u = CW ct ad da nd nb nf bdk num spt val tim rep byN byS pk kn pe clk tol opn) := by
  refine CI.start (by decide) (Nat.le_of_ble_eq_true rfl) ?_
  intro p e s m below meth c F hr hnm
  show V p l e (rmK 4 0 0) s m [.ref (ad 0), .int (nI (d)), .int (x0)].toArray below meth c D (va_A (CW ct ad da nd nb nf bdk num spt val tim rep byN byS pk kn pe clk tol opn) s.heap.size) 5 0 0 (EI D below (CW ct ad da nd nb nf bdk num spt val tim rep byN byS pk kn pe clk tol opn) [.ref (ad 0), .int (nI (d)), .int (x0)].toArray s 0 0 (fun r u => r = bI false ∧ u = CW ct ad da nd nb nf bdk num spt val tim rep byN byS pk kn pe clk tol opn)) (CW ct ad da nd nb nf bdk num spt val tim rep byN byS pk kn pe clk tol opn) [(0, .ref (ad 0)), (1, .int (nI (d))), (2, .int (x0))] 0 []
  refine V.aload_n F d_T_equal_0 rfl 0 rfl ?_
  refine V.iload_n F d_T_equal_1 rfl 1 rfl ?_
  refine V.callVQ0 (As := [.int (nI (d))]) (rest := []) F (c_deskAt l D hnd d hd0) d_T_equal_2 sv_T_40 im_y_T_deskAt sl_y_T_deskAt 0 rfl rfl rfl rfl rfl (Nat.le_of_ble_eq_true rfl) ⟨rfl, rfl, (Nat.le_of_ble_eq_true rfl), (Nat.le_of_ble_eq_true rfl)⟩ ⟨(Nat.le_of_ble_eq_true rfl), (Nat.le_of_ble_eq_true rfl)⟩ (fun r9 u9 h9 => ?_)
  obtain ⟨rfl, rfl⟩ := h9
  refine V.astore_n (lv2 := [(3, .ref (da (d) 0)), (0, .ref (ad 0)), (1, .int (nI (d))), (2, .int (x0))]) F d_T_equal_5 rfl (by decide) rfl ?_
  refine V.aload_n F d_T_equal_6 rfl 1 rfl ?_
  refine V.iload_n F d_T_equal_7 rfl 3 rfl ?_
  refine V.callVQ0 (As := [.int (x0)]) (rest := []) F (c_deskNo l D x0 hx) d_T_equal_8 sv_T_40 im_y_T_deskAt sl_y_T_deskAt 0 rfl rfl rfl rfl rfl (Nat.le_of_ble_eq_true rfl) ⟨rfl, rfl, (Nat.le_of_ble_eq_true rfl), (Nat.le_of_ble_eq_true rfl)⟩ ⟨(Nat.le_of_ble_eq_true rfl), (Nat.le_of_ble_eq_true rfl)⟩ (fun r9 u9 h9 => ?_)
  obtain ⟨rfl, rfl⟩ := h9
  refine V.astoreN (lv2 := [(4, .null), (3, .ref (da (d) 0)), (0, .ref (ad 0)), (1, .int (nI (d))), (2, .int (x0))]) F d_T_equal_11 (by decide) rfl ?_
  refine V.aload_n F d_T_equal_13 rfl 1 rfl ?_
  refine V.ifnull F d_T_equal_14 ?_
  refine V.aloadN F d_T_equal_17 0 rfl ?_
  refine V.ifnullN (tgt := 41) F d_T_equal_19 (by decide) ?_
  refine V.iconst F d_T_equal_41 (v := nI (0)) (by decide) ?_
  exact V.zret F hr (nar_0) d_T_equal_42 (⟨bI_f, rfl⟩)

set_option maxHeartbeats 4000000 in
set_option maxRecDepth 100000 in
theorem c_eqNo1b (l : Launch) (D : va_G) {ct : Nat → ClassId} {ad : Nat → Nat} {da : Nat → Nat → Nat} {nd : Nat} {nb : Nat} {nf : Nat} {bdk : Nat → Nat} {num : Nat → Nat} {spt : Nat → Nat} {val : Nat → Int64} {tim : Nat → Nat} {rep : Nat → Nat → Bool} {byN : Nat → Nat} {byS : Nat → Nat} {pk : Nat → Bool} {kn : Nat → Nat → Bool} {pe : Nat → Nat → Bool} {clk : Nat → Nat} {tol : Nat → Nat} {opn : Nat → Option Nat} (x0 : Int32) (hx : x0 < 0 ∨ nI nd ≤ x0) (hnd : nd ≤ 8) (d : Nat) (hd0 : d < nd) : CI l y_T_equal b_T_equal 5 (some .boolean) (rmK 4 0 0) D (tyL ct) (CW ct ad da nd nb nf bdk num spt val tim rep byN byS pk kn pe clk tol opn) [.ref (ad 0), .int (x0), .int (nI (d))] 0 0 (fun r u => r = bI false ∧ u = CW ct ad da nd nb nf bdk num spt val tim rep byN byS pk kn pe clk tol opn) := by
  refine CI.start (by decide) (Nat.le_of_ble_eq_true rfl) ?_
  intro p e s m below meth c F hr hnm
  show V p l e (rmK 4 0 0) s m [.ref (ad 0), .int (x0), .int (nI (d))].toArray below meth c D (va_A (CW ct ad da nd nb nf bdk num spt val tim rep byN byS pk kn pe clk tol opn) s.heap.size) 5 0 0 (EI D below (CW ct ad da nd nb nf bdk num spt val tim rep byN byS pk kn pe clk tol opn) [.ref (ad 0), .int (x0), .int (nI (d))].toArray s 0 0 (fun r u => r = bI false ∧ u = CW ct ad da nd nb nf bdk num spt val tim rep byN byS pk kn pe clk tol opn)) (CW ct ad da nd nb nf bdk num spt val tim rep byN byS pk kn pe clk tol opn) [(0, .ref (ad 0)), (1, .int (x0)), (2, .int (nI (d)))] 0 []
  refine V.aload_n F d_T_equal_0 rfl 0 rfl ?_
  refine V.iload_n F d_T_equal_1 rfl 1 rfl ?_
  refine V.callVQ0 (As := [.int (x0)]) (rest := []) F (c_deskNo l D x0 hx) d_T_equal_2 sv_T_40 im_y_T_deskAt sl_y_T_deskAt 0 rfl rfl rfl rfl rfl (Nat.le_of_ble_eq_true rfl) ⟨rfl, rfl, (Nat.le_of_ble_eq_true rfl), (Nat.le_of_ble_eq_true rfl)⟩ ⟨(Nat.le_of_ble_eq_true rfl), (Nat.le_of_ble_eq_true rfl)⟩ (fun r9 u9 h9 => ?_)
  obtain ⟨rfl, rfl⟩ := h9
  refine V.astore_nN (lv2 := [(3, .null), (0, .ref (ad 0)), (1, .int (x0)), (2, .int (nI (d)))]) F d_T_equal_5 rfl (by decide) rfl ?_
  refine V.aload_n F d_T_equal_6 rfl 1 rfl ?_
  refine V.iload_n F d_T_equal_7 rfl 3 rfl ?_
  refine V.callVQ0 (As := [.int (nI (d))]) (rest := []) F (c_deskAt l D hnd d hd0) d_T_equal_8 sv_T_40 im_y_T_deskAt sl_y_T_deskAt 0 rfl rfl rfl rfl rfl (Nat.le_of_ble_eq_true rfl) ⟨rfl, rfl, (Nat.le_of_ble_eq_true rfl), (Nat.le_of_ble_eq_true rfl)⟩ ⟨(Nat.le_of_ble_eq_true rfl), (Nat.le_of_ble_eq_true rfl)⟩ (fun r9 u9 h9 => ?_)
  obtain ⟨rfl, rfl⟩ := h9
  refine V.astore (lv2 := [(4, .ref (da (d) 0)), (3, .null), (0, .ref (ad 0)), (1, .int (x0)), (2, .int (nI (d)))]) F d_T_equal_11 (by decide) rfl ?_
  refine V.aload_nN F d_T_equal_13 rfl 1 rfl ?_
  refine V.ifnullN (tgt := 41) F d_T_equal_14 (by decide) ?_
  refine V.iconst F d_T_equal_41 (v := nI (0)) (by decide) ?_
  exact V.zret F hr (nar_0) d_T_equal_42 (⟨bI_f, rfl⟩)

set_option maxHeartbeats 4000000 in
set_option maxRecDepth 100000 in
theorem c_eqNo1c (l : Launch) (D : va_G) {ct : Nat → ClassId} {ad : Nat → Nat} {da : Nat → Nat → Nat} {nd : Nat} {nb : Nat} {nf : Nat} {bdk : Nat → Nat} {num : Nat → Nat} {spt : Nat → Nat} {val : Nat → Int64} {tim : Nat → Nat} {rep : Nat → Nat → Bool} {byN : Nat → Nat} {byS : Nat → Nat} {pk : Nat → Bool} {kn : Nat → Nat → Bool} {pe : Nat → Nat → Bool} {clk : Nat → Nat} {tol : Nat → Nat} {opn : Nat → Option Nat} (x0 : Int32) (hx : x0 < 0 ∨ nI nd ≤ x0) (x1 : Int32) (hx1 : x1 < 0 ∨ nI nd ≤ x1) : CI l y_T_equal b_T_equal 5 (some .boolean) (rmK 4 0 0) D (tyL ct) (CW ct ad da nd nb nf bdk num spt val tim rep byN byS pk kn pe clk tol opn) [.ref (ad 0), .int (x0), .int (x1)] 0 0 (fun r u => r = bI false ∧ u = CW ct ad da nd nb nf bdk num spt val tim rep byN byS pk kn pe clk tol opn) := by
  refine CI.start (by decide) (Nat.le_of_ble_eq_true rfl) ?_
  intro p e s m below meth c F hr hnm
  show V p l e (rmK 4 0 0) s m [.ref (ad 0), .int (x0), .int (x1)].toArray below meth c D (va_A (CW ct ad da nd nb nf bdk num spt val tim rep byN byS pk kn pe clk tol opn) s.heap.size) 5 0 0 (EI D below (CW ct ad da nd nb nf bdk num spt val tim rep byN byS pk kn pe clk tol opn) [.ref (ad 0), .int (x0), .int (x1)].toArray s 0 0 (fun r u => r = bI false ∧ u = CW ct ad da nd nb nf bdk num spt val tim rep byN byS pk kn pe clk tol opn)) (CW ct ad da nd nb nf bdk num spt val tim rep byN byS pk kn pe clk tol opn) [(0, .ref (ad 0)), (1, .int (x0)), (2, .int (x1))] 0 []
  refine V.aload_n F d_T_equal_0 rfl 0 rfl ?_
  refine V.iload_n F d_T_equal_1 rfl 1 rfl ?_
  refine V.callVQ0 (As := [.int (x0)]) (rest := []) F (c_deskNo l D x0 hx) d_T_equal_2 sv_T_40 im_y_T_deskAt sl_y_T_deskAt 0 rfl rfl rfl rfl rfl (Nat.le_of_ble_eq_true rfl) ⟨rfl, rfl, (Nat.le_of_ble_eq_true rfl), (Nat.le_of_ble_eq_true rfl)⟩ ⟨(Nat.le_of_ble_eq_true rfl), (Nat.le_of_ble_eq_true rfl)⟩ (fun r9 u9 h9 => ?_)
  obtain ⟨rfl, rfl⟩ := h9
  refine V.astore_nN (lv2 := [(3, .null), (0, .ref (ad 0)), (1, .int (x0)), (2, .int (x1))]) F d_T_equal_5 rfl (by decide) rfl ?_
  refine V.aload_n F d_T_equal_6 rfl 1 rfl ?_
  refine V.iload_n F d_T_equal_7 rfl 3 rfl ?_
  refine V.callVQ0 (As := [.int (x1)]) (rest := []) F (c_deskNo l D x1 hx1) d_T_equal_8 sv_T_40 im_y_T_deskAt sl_y_T_deskAt 0 rfl rfl rfl rfl rfl (Nat.le_of_ble_eq_true rfl) ⟨rfl, rfl, (Nat.le_of_ble_eq_true rfl), (Nat.le_of_ble_eq_true rfl)⟩ ⟨(Nat.le_of_ble_eq_true rfl), (Nat.le_of_ble_eq_true rfl)⟩ (fun r9 u9 h9 => ?_)
  obtain ⟨rfl, rfl⟩ := h9
  refine V.astoreN (lv2 := [(4, .null), (3, .null), (0, .ref (ad 0)), (1, .int (x0)), (2, .int (x1))]) F d_T_equal_11 (by decide) rfl ?_
  refine V.aload_nN F d_T_equal_13 rfl 1 rfl ?_
  refine V.ifnullN (tgt := 41) F d_T_equal_14 (by decide) ?_
  refine V.iconst F d_T_equal_41 (v := nI (0)) (by decide) ?_
  exact V.zret F hr (nar_0) d_T_equal_42 (⟨bI_f, rfl⟩)

set_option maxHeartbeats 4000000 in
set_option maxRecDepth 100000 in
theorem c_eq (l : Launch) (D : va_G) {ct : Nat → ClassId} {ad : Nat → Nat} {da : Nat → Nat → Nat} {nd : Nat} {nb : Nat} {nf : Nat} {bdk : Nat → Nat} {num : Nat → Nat} {spt : Nat → Nat} {val : Nat → Int64} {tim : Nat → Nat} {rep : Nat → Nat → Bool} {byN : Nat → Nat} {byS : Nat → Nat} {pk : Nat → Bool} {kn : Nat → Nat → Bool} {pe : Nat → Nat → Bool} {clk : Nat → Nat} {tol : Nat → Nat} {opn : Nat → Option Nat} (hnd : nd ≤ 8) (d : Nat) (hd0 : d < nd) (d2 : Nat) (hd2 : d2 < nd) : CI l y_T_equal b_T_equal 5 (some .boolean) (rmK 4 0 0) D (tyL ct) (CW ct ad da nd nb nf bdk num spt val tim rep byN byS pk kn pe clk tol opn) [.ref (ad 0), .int (nI (d)), .int (nI (d2))] 0 0 (fun r u => r = bI (sameB (kn d) (kn d2) 320) ∧ u = CW ct ad da nd nb nf bdk num spt val tim rep byN byS pk kn pe clk tol opn) := by
  refine CI.start (by decide) (Nat.le_of_ble_eq_true rfl) ?_
  intro p e s m below meth c F hr hnm
  show V p l e (rmK 4 0 0) s m [.ref (ad 0), .int (nI (d)), .int (nI (d2))].toArray below meth c D (va_A (CW ct ad da nd nb nf bdk num spt val tim rep byN byS pk kn pe clk tol opn) s.heap.size) 5 0 0 (EI D below (CW ct ad da nd nb nf bdk num spt val tim rep byN byS pk kn pe clk tol opn) [.ref (ad 0), .int (nI (d)), .int (nI (d2))].toArray s 0 0 (fun r u => r = bI (sameB (kn d) (kn d2) 320) ∧ u = CW ct ad da nd nb nf bdk num spt val tim rep byN byS pk kn pe clk tol opn)) (CW ct ad da nd nb nf bdk num spt val tim rep byN byS pk kn pe clk tol opn) [(0, .ref (ad 0)), (1, .int (nI (d))), (2, .int (nI (d2)))] 0 []
  refine V.aload_n F d_T_equal_0 rfl 0 rfl ?_
  refine V.iload_n F d_T_equal_1 rfl 1 rfl ?_
  refine V.callVQ0 (As := [.int (nI (d))]) (rest := []) F (c_deskAt l D hnd d hd0) d_T_equal_2 sv_T_40 im_y_T_deskAt sl_y_T_deskAt 0 rfl rfl rfl rfl rfl (Nat.le_of_ble_eq_true rfl) ⟨rfl, rfl, (Nat.le_of_ble_eq_true rfl), (Nat.le_of_ble_eq_true rfl)⟩ ⟨(Nat.le_of_ble_eq_true rfl), (Nat.le_of_ble_eq_true rfl)⟩ (fun r9 u9 h9 => ?_)
  obtain ⟨rfl, rfl⟩ := h9
  refine V.astore_n (lv2 := [(3, .ref (da (d) 0)), (0, .ref (ad 0)), (1, .int (nI (d))), (2, .int (nI (d2)))]) F d_T_equal_5 rfl (by decide) rfl ?_
  refine V.aload_n F d_T_equal_6 rfl 1 rfl ?_
  refine V.iload_n F d_T_equal_7 rfl 3 rfl ?_
  refine V.callVQ0 (As := [.int (nI (d2))]) (rest := []) F (c_deskAt l D hnd d2 hd2) d_T_equal_8 sv_T_40 im_y_T_deskAt sl_y_T_deskAt 0 rfl rfl rfl rfl rfl (Nat.le_of_ble_eq_true rfl) ⟨rfl, rfl, (Nat.le_of_ble_eq_true rfl), (Nat.le_of_ble_eq_true rfl)⟩ ⟨(Nat.le_of_ble_eq_true rfl), (Nat.le_of_ble_eq_true rfl)⟩ (fun r9 u9 h9 => ?_)
  obtain ⟨rfl, rfl⟩ := h9
  refine V.astore (lv2 := [(4, .ref (da (d2) 0)), (3, .ref (da (d) 0)), (0, .ref (ad 0)), (1, .int (nI (d))), (2, .int (nI (d2)))]) F d_T_equal_11 (by decide) rfl ?_
  refine V.aload_n F d_T_equal_13 rfl 1 rfl ?_
  refine V.ifnull F d_T_equal_14 ?_
  refine V.aload F d_T_equal_17 0 rfl ?_
  refine V.ifnull F d_T_equal_19 ?_
  refine V.aload_n F d_T_equal_22 rfl 1 rfl ?_
  refine V.getN F ck_K d_T_equal_23 1 (by decide) lk_T_65 (13 + (5 * (d) + 0)) (cw_d0 hd0) rfl ?_
  refine V.aload F d_T_equal_26 0 rfl ?_
  refine V.getN F ck_K d_T_equal_28 1 (by decide) lk_T_65 (13 + (5 * (d2) + 0)) (cw_d0 hd2) rfl ?_
  refine V.callVI0 (As := [.ref (da (d2) 1)]) (rest := []) F (c_isSameAs l D (some (d, false)) hd0 (some (d2, false)) hd2) d_T_equal_31 sv_T_129 im_y_S_isSameAs sl_y_S_isSameAs (13 + (5 * (d) + 1)) (cw_d1 hd0) rfl rfl rfl rfl (Nat.le_of_ble_eq_true rfl) ⟨rfl, rfl, (Nat.le_of_ble_eq_true rfl), (Nat.le_of_ble_eq_true rfl)⟩ ⟨(Nat.le_of_ble_eq_true rfl), (Nat.le_of_ble_eq_true rfl)⟩ (fun r9 u9 h9 => ?_)
  obtain ⟨rfl, rfl⟩ := h9
  refine V.if_eqB (b := sameB (kn d) (kn d2) 320) (tgt := 41) F d_T_equal_34 (by decide) (fun c34 => ?_) (fun c34 => ?_)
  · skip
    refine V.iconst F d_T_equal_41 (v := nI (0)) (by decide) ?_
    exact V.zret F hr (nar_0) d_T_equal_42 (⟨by rw [c34]; exact bI_f, rfl⟩)
  · skip
    refine V.iconst F d_T_equal_37 (v := nI (1)) (by decide) ?_
    refine V.goto (tgt := 42) F d_T_equal_38 (by decide) ?_
    exact V.zret F hr (nar_1) d_T_equal_42 (⟨by rw [c34]; exact bI_t, rfl⟩)

set_option maxHeartbeats 4000000 in
set_option maxRecDepth 100000 in
theorem c_baNo (l : Launch) (D : va_G) {ct : Nat → ClassId} {ad : Nat → Nat} {da : Nat → Nat → Nat} {nd : Nat} {nb : Nat} {nf : Nat} {bdk : Nat → Nat} {num : Nat → Nat} {spt : Nat → Nat} {val : Nat → Int64} {tim : Nat → Nat} {rep : Nat → Nat → Bool} {byN : Nat → Nat} {byS : Nat → Nat} {pk : Nat → Bool} {kn : Nat → Nat → Bool} {pe : Nat → Nat → Bool} {clk : Nat → Nat} {tol : Nat → Nat} {opn : Nat → Option Nat} (x0 : Int32) (hx : x0 < 0 ∨ nI nd ≤ x0) : CI l y_T_batch b_T_batch 4 (some .int) (rmK 4 0 0) D (tyL ct) (CW ct ad da nd nb nf bdk num spt val tim rep byN byS pk kn pe clk tol opn) [.ref (ad 0), .int (x0)] 0 0 (fun r u => r = -1 ∧ u = CW ct ad da nd nb nf bdk num spt val tim rep byN byS pk kn pe clk tol opn) := by
  refine CI.start (by decide) (Nat.le_of_ble_eq_true rfl) ?_
  intro p e s m below meth c F hr hnm
  show V p l e (rmK 4 0 0) s m [.ref (ad 0), .int (x0)].toArray below meth c D (va_A (CW ct ad da nd nb nf bdk num spt val tim rep byN byS pk kn pe clk tol opn) s.heap.size) 4 0 0 (EI D below (CW ct ad da nd nb nf bdk num spt val tim rep byN byS pk kn pe clk tol opn) [.ref (ad 0), .int (x0)].toArray s 0 0 (fun r u => r = -1 ∧ u = CW ct ad da nd nb nf bdk num spt val tim rep byN byS pk kn pe clk tol opn)) (CW ct ad da nd nb nf bdk num spt val tim rep byN byS pk kn pe clk tol opn) [(0, .ref (ad 0)), (1, .int (x0))] 0 []
  refine V.aload_n F d_T_batch_0 rfl 0 rfl ?_
  refine V.iload_n F d_T_batch_1 rfl 1 rfl ?_
  refine V.callVQ0 (As := [.int (x0)]) (rest := []) F (c_deskNo l D x0 hx) d_T_batch_2 sv_T_40 im_y_T_deskAt sl_y_T_deskAt 0 rfl rfl rfl rfl rfl (Nat.le_of_ble_eq_true rfl) ⟨rfl, rfl, (Nat.le_of_ble_eq_true rfl), (Nat.le_of_ble_eq_true rfl)⟩ ⟨(Nat.le_of_ble_eq_true rfl), (Nat.le_of_ble_eq_true rfl)⟩ (fun r9 u9 h9 => ?_)
  obtain ⟨rfl, rfl⟩ := h9
  refine V.astore_nN (lv2 := [(2, .null), (0, .ref (ad 0)), (1, .int (x0))]) F d_T_batch_5 rfl (by decide) rfl ?_
  refine V.aload_nN F d_T_batch_6 rfl 0 rfl ?_
  refine V.ifnullN (tgt := 18) F d_T_batch_7 (by decide) ?_
  refine V.iconst F d_T_batch_18 (v := -1) (by decide) ?_
  exact V.iret F hr d_T_batch_19 (⟨rfl, rfl⟩)

set_option maxHeartbeats 4000000 in
set_option maxRecDepth 100000 in
theorem c_baOpen (l : Launch) (D : va_G) {ct : Nat → ClassId} {ad : Nat → Nat} {da : Nat → Nat → Nat} {nd : Nat} {nb : Nat} {nf : Nat} {bdk : Nat → Nat} {num : Nat → Nat} {spt : Nat → Nat} {val : Nat → Int64} {tim : Nat → Nat} {rep : Nat → Nat → Bool} {byN : Nat → Nat} {byS : Nat → Nat} {pk : Nat → Bool} {kn : Nat → Nat → Bool} {pe : Nat → Nat → Bool} {clk : Nat → Nat} {tol : Nat → Nat} {opn : Nat → Option Nat} (hnd : nd ≤ 8) (d : Nat) (hd0 : d < nd) (b0 : Nat) (ho : opn d = some b0) (hb0 : b0 < 2 ^ 31) : CI l y_T_batch b_T_batch 4 (some .int) (rmK 4 0 0) D (tyL ct) (CW ct ad da nd nb nf bdk num spt val tim rep byN byS pk kn pe clk tol opn) [.ref (ad 0), .int (nI (d))] 0 0 (fun r u => r = -1 ∧ u = CW ct ad da nd nb nf bdk num spt val tim rep byN byS pk kn pe clk tol opn) := by
  refine CI.start (by decide) (Nat.le_of_ble_eq_true rfl) ?_
  intro p e s m below meth c F hr hnm
  show V p l e (rmK 4 0 0) s m [.ref (ad 0), .int (nI (d))].toArray below meth c D (va_A (CW ct ad da nd nb nf bdk num spt val tim rep byN byS pk kn pe clk tol opn) s.heap.size) 4 0 0 (EI D below (CW ct ad da nd nb nf bdk num spt val tim rep byN byS pk kn pe clk tol opn) [.ref (ad 0), .int (nI (d))].toArray s 0 0 (fun r u => r = -1 ∧ u = CW ct ad da nd nb nf bdk num spt val tim rep byN byS pk kn pe clk tol opn)) (CW ct ad da nd nb nf bdk num spt val tim rep byN byS pk kn pe clk tol opn) [(0, .ref (ad 0)), (1, .int (nI (d)))] 0 []
  refine V.aload_n F d_T_batch_0 rfl 0 rfl ?_
  refine V.iload_n F d_T_batch_1 rfl 1 rfl ?_
  refine V.callVQ0 (As := [.int (nI (d))]) (rest := []) F (c_deskAt l D hnd d hd0) d_T_batch_2 sv_T_40 im_y_T_deskAt sl_y_T_deskAt 0 rfl rfl rfl rfl rfl (Nat.le_of_ble_eq_true rfl) ⟨rfl, rfl, (Nat.le_of_ble_eq_true rfl), (Nat.le_of_ble_eq_true rfl)⟩ ⟨(Nat.le_of_ble_eq_true rfl), (Nat.le_of_ble_eq_true rfl)⟩ (fun r9 u9 h9 => ?_)
  obtain ⟨rfl, rfl⟩ := h9
  refine V.astore_n (lv2 := [(2, .ref (da (d) 0)), (0, .ref (ad 0)), (1, .int (nI (d)))]) F d_T_batch_5 rfl (by decide) rfl ?_
  refine V.aload_n F d_T_batch_6 rfl 0 rfl ?_
  refine V.ifnull F d_T_batch_7 ?_
  refine V.aload_n F d_T_batch_10 rfl 0 rfl ?_
  refine V.getN F ck_K d_T_batch_11 5 (by decide) lk_T_133 (13 + (5 * (d) + 0)) (cw_d0 hd0) rfl ?_
  refine V.iconst F d_T_batch_14 (v := -1) (by decide) ?_
  refine V.icmp_eq (x := oI (opn (d))) (y := -1) (tgt := 20) F d_T_batch_15 (by decide) (fun c15 => ?_) (fun c15 => ?_)
  · skip
    exact absurd (show nI b0 = -1 by rw [ho] at c15; exact c15) (nI_nm1 hb0)
  · skip
    refine V.iconst F d_T_batch_18 (v := -1) (by decide) ?_
    exact V.iret F hr d_T_batch_19 (⟨rfl, rfl⟩)

set_option maxHeartbeats 4000000 in
set_option maxRecDepth 100000 in
theorem c_baFull (l : Launch) (D : va_G) {ct : Nat → ClassId} {ad : Nat → Nat} {da : Nat → Nat → Nat} {nd : Nat} {nb : Nat} {nf : Nat} {bdk : Nat → Nat} {num : Nat → Nat} {spt : Nat → Nat} {val : Nat → Int64} {tim : Nat → Nat} {rep : Nat → Nat → Bool} {byN : Nat → Nat} {byS : Nat → Nat} {pk : Nat → Bool} {kn : Nat → Nat → Bool} {pe : Nat → Nat → Bool} {clk : Nat → Nat} {tol : Nat → Nat} {opn : Nat → Option Nat} (hnd : nd ≤ 8) (d : Nat) (hd0 : d < nd) (ho : opn d = none) (hnb : nb = 40) : CI l y_T_batch b_T_batch 4 (some .int) (rmK 4 0 0) D (tyL ct) (CW ct ad da nd nb nf bdk num spt val tim rep byN byS pk kn pe clk tol opn) [.ref (ad 0), .int (nI (d))] 0 0 (fun r u => r = -2 ∧ u = CW ct ad da nd nb nf bdk num spt val tim rep byN byS pk kn pe clk tol opn) := by
  refine CI.start (by decide) (Nat.le_of_ble_eq_true rfl) ?_
  intro p e s m below meth c F hr hnm
  show V p l e (rmK 4 0 0) s m [.ref (ad 0), .int (nI (d))].toArray below meth c D (va_A (CW ct ad da nd nb nf bdk num spt val tim rep byN byS pk kn pe clk tol opn) s.heap.size) 4 0 0 (EI D below (CW ct ad da nd nb nf bdk num spt val tim rep byN byS pk kn pe clk tol opn) [.ref (ad 0), .int (nI (d))].toArray s 0 0 (fun r u => r = -2 ∧ u = CW ct ad da nd nb nf bdk num spt val tim rep byN byS pk kn pe clk tol opn)) (CW ct ad da nd nb nf bdk num spt val tim rep byN byS pk kn pe clk tol opn) [(0, .ref (ad 0)), (1, .int (nI (d)))] 0 []
  refine V.aload_n F d_T_batch_0 rfl 0 rfl ?_
  refine V.iload_n F d_T_batch_1 rfl 1 rfl ?_
  refine V.callVQ0 (As := [.int (nI (d))]) (rest := []) F (c_deskAt l D hnd d hd0) d_T_batch_2 sv_T_40 im_y_T_deskAt sl_y_T_deskAt 0 rfl rfl rfl rfl rfl (Nat.le_of_ble_eq_true rfl) ⟨rfl, rfl, (Nat.le_of_ble_eq_true rfl), (Nat.le_of_ble_eq_true rfl)⟩ ⟨(Nat.le_of_ble_eq_true rfl), (Nat.le_of_ble_eq_true rfl)⟩ (fun r9 u9 h9 => ?_)
  obtain ⟨rfl, rfl⟩ := h9
  refine V.astore_n (lv2 := [(2, .ref (da (d) 0)), (0, .ref (ad 0)), (1, .int (nI (d)))]) F d_T_batch_5 rfl (by decide) rfl ?_
  refine V.aload_n F d_T_batch_6 rfl 0 rfl ?_
  refine V.ifnull F d_T_batch_7 ?_
  refine V.aload_n F d_T_batch_10 rfl 0 rfl ?_
  refine V.getN F ck_K d_T_batch_11 5 (by decide) lk_T_133 (13 + (5 * (d) + 0)) (cw_d0 hd0) rfl ?_
  refine V.iconst F d_T_batch_14 (v := -1) (by decide) ?_
  refine V.icmp_eq (x := oI (opn (d))) (y := -1) (tgt := 20) F d_T_batch_15 (by decide) (fun c15 => ?_) (fun c15 => ?_)
  · skip
    refine V.aload_n F d_T_batch_20 rfl 1 rfl ?_
    refine V.get F ck_T d_T_batch_21 5 (by decide) lk_T_136 0 rfl rfl ?_
    refine V.bipush F d_T_batch_24 (v := nI (40)) (by decide) ?_
    refine V.icmp_ltN (tgt := 32) F d_T_batch_26 (by decide) (by omega) (by omega) (fun c26 => ?_) (fun c26 => ?_)
    · skip
      exact absurd c26 (by omega)
    · skip
      refine V.bipush F d_T_batch_29 (v := -2) (by decide) ?_
      exact V.iret F hr d_T_batch_31 (⟨rfl, rfl⟩)
  · skip
    exact absurd (by rw [ho]; rfl) c15

set_option maxHeartbeats 4000000 in
set_option maxRecDepth 100000 in
theorem c_ba (l : Launch) (D : va_G) {ct : Nat → ClassId} {ad : Nat → Nat} {da : Nat → Nat → Nat} {nd : Nat} {nb : Nat} {nf : Nat} {bdk : Nat → Nat} {num : Nat → Nat} {spt : Nat → Nat} {val : Nat → Int64} {tim : Nat → Nat} {rep : Nat → Nat → Bool} {byN : Nat → Nat} {byS : Nat → Nat} {pk : Nat → Bool} {kn : Nat → Nat → Bool} {pe : Nat → Nat → Bool} {clk : Nat → Nat} {tol : Nat → Nat} {opn : Nat → Option Nat} (hnd : nd ≤ 8) (d : Nat) (hd0 : d < nd) (ho : opn d = none) (hnb : nb < 40) : CI l y_T_batch b_T_batch 4 (some .int) (rmK 4 0 0) D (tyL ct) (CW ct ad da nd nb nf bdk num spt val tim rep byN byS pk kn pe clk tol opn) [.ref (ad 0), .int (nI (d))] 0 0 (fun r u => r = nI nb ∧ u = CW ct ad da nd (nb + 1) nf (va_up bdk nb d) num spt val tim rep byN byS pk kn pe clk tol (va_up opn d (some nb))) := by
  refine CI.start (by decide) (Nat.le_of_ble_eq_true rfl) ?_
  intro p e s m below meth c F hr hnm
  show V p l e (rmK 4 0 0) s m [.ref (ad 0), .int (nI (d))].toArray below meth c D (va_A (CW ct ad da nd nb nf bdk num spt val tim rep byN byS pk kn pe clk tol opn) s.heap.size) 4 0 0 (EI D below (CW ct ad da nd nb nf bdk num spt val tim rep byN byS pk kn pe clk tol opn) [.ref (ad 0), .int (nI (d))].toArray s 0 0 (fun r u => r = nI nb ∧ u = CW ct ad da nd (nb + 1) nf (va_up bdk nb d) num spt val tim rep byN byS pk kn pe clk tol (va_up opn d (some nb)))) (CW ct ad da nd nb nf bdk num spt val tim rep byN byS pk kn pe clk tol opn) [(0, .ref (ad 0)), (1, .int (nI (d)))] 0 []
  refine V.aload_n F d_T_batch_0 rfl 0 rfl ?_
  refine V.iload_n F d_T_batch_1 rfl 1 rfl ?_
  refine V.callVQ0 (As := [.int (nI (d))]) (rest := []) F (c_deskAt l D hnd d hd0) d_T_batch_2 sv_T_40 im_y_T_deskAt sl_y_T_deskAt 0 rfl rfl rfl rfl rfl (Nat.le_of_ble_eq_true rfl) ⟨rfl, rfl, (Nat.le_of_ble_eq_true rfl), (Nat.le_of_ble_eq_true rfl)⟩ ⟨(Nat.le_of_ble_eq_true rfl), (Nat.le_of_ble_eq_true rfl)⟩ (fun r9 u9 h9 => ?_)
  obtain ⟨rfl, rfl⟩ := h9
  refine V.astore_n (lv2 := [(2, .ref (da (d) 0)), (0, .ref (ad 0)), (1, .int (nI (d)))]) F d_T_batch_5 rfl (by decide) rfl ?_
  refine V.aload_n F d_T_batch_6 rfl 0 rfl ?_
  refine V.ifnull F d_T_batch_7 ?_
  refine V.aload_n F d_T_batch_10 rfl 0 rfl ?_
  refine V.getN F ck_K d_T_batch_11 5 (by decide) lk_T_133 (13 + (5 * (d) + 0)) (cw_d0 hd0) rfl ?_
  refine V.iconst F d_T_batch_14 (v := -1) (by decide) ?_
  refine V.icmp_eq (x := oI (opn (d))) (y := -1) (tgt := 20) F d_T_batch_15 (by decide) (fun c15 => ?_) (fun c15 => ?_)
  · skip
    refine V.aload_n F d_T_batch_20 rfl 1 rfl ?_
    refine V.get F ck_T d_T_batch_21 5 (by decide) lk_T_136 0 rfl rfl ?_
    refine V.bipush F d_T_batch_24 (v := nI (40)) (by decide) ?_
    refine V.icmp_ltN (tgt := 32) F d_T_batch_26 (by decide) (by omega) (by omega) (fun c26 => ?_) (fun c26 => ?_)
    · skip
      refine V.aload_n F d_T_batch_32 rfl 1 rfl ?_
      refine V.get F ck_T d_T_batch_33 5 (by decide) lk_T_136 0 rfl rfl ?_
      refine V.istore_n (lv2 := [(3, .int (nI (nb))), (2, .ref (da (d) 0)), (0, .ref (ad 0)), (1, .int (nI (d)))]) F d_T_batch_36 rfl (by decide) rfl ?_
      refine V.aload_n F d_T_batch_37 rfl 2 rfl ?_
      refine V.get F ck_T d_T_batch_38 1 (by decide) lk_T_15 0 rfl rfl ?_
      refine V.iload_n F d_T_batch_41 rfl 0 rfl ?_
      refine V.iload_n F d_T_batch_42 rfl 3 rfl ?_
      refine V.iast (ws2 := CW ct ad da nd nb nf (va_up bdk (nb) (d)) num spt val tim rep byN byS pk kn pe clk tol opn) F d_T_batch_43 2 0 rfl rfl (by omega) (by decide) (by rw [upd_nF]; exact cw_set_bdk) ?_
      refine V.aload_n F d_T_batch_44 rfl 2 rfl ?_
      refine V.dup F d_T_batch_45 rfl ?_
      refine V.get F ck_T d_T_batch_46 5 (by decide) lk_T_136 0 rfl rfl ?_
      refine V.iconst F d_T_batch_49 (v := nI (1)) (by decide) ?_
      refine V.iaddN F d_T_batch_50 ?_
      refine V.put (ws2 := CW ct ad da nd ((nb) + (1)) nf (va_up bdk (nb) (d)) num spt val tim rep byN byS pk kn pe clk tol opn) F ck_T d_T_batch_51 5 (by decide) lk_T_136 0 rfl rfl rfl rfl (Nat.le_of_ble_eq_true rfl) cw_set_nb ?_
      refine V.aload_n F d_T_batch_54 rfl 1 rfl ?_
      refine V.iload_n F d_T_batch_55 rfl 0 rfl ?_
      refine V.putN (ws2 := CW ct ad da nd ((nb) + (1)) nf (va_up bdk (nb) (d)) num spt val tim rep byN byS pk kn pe clk tol (va_up opn (d) (some (nb)))) F ck_K d_T_batch_56 5 (by decide) lk_T_133 (13 + (5 * (d) + 0)) (cw_d0 hd0) rfl rfl rfl (Nat.le_of_ble_eq_true rfl) (cw_set_opn (x := some (nb)) hd0) ?_
      refine V.iload_n F d_T_batch_59 rfl 0 rfl ?_
      exact V.iret F hr d_T_batch_60 (⟨rfl, rfl⟩)
    · skip
      exact absurd c26 (by omega)
  · skip
    exact absurd (by rw [ho]; rfl) c15

set_option maxHeartbeats 4000000 in
set_option maxRecDepth 100000 in
theorem c_enNo (l : Launch) (D : va_G) {ct : Nat → ClassId} {ad : Nat → Nat} {da : Nat → Nat → Nat} {nd : Nat} {nb : Nat} {nf : Nat} {bdk : Nat → Nat} {num : Nat → Nat} {spt : Nat → Nat} {val : Nat → Int64} {tim : Nat → Nat} {rep : Nat → Nat → Bool} {byN : Nat → Nat} {byS : Nat → Nat} {pk : Nat → Bool} {kn : Nat → Nat → Bool} {pe : Nat → Nat → Bool} {clk : Nat → Nat} {tol : Nat → Nat} {opn : Nat → Option Nat} (x : Int32) (hx : x < 0 ∨ nI nb ≤ x) : CI l y_T_endBatch b_T_endBatch 3 (some .boolean) (rmK 4 0 0) D (tyL ct) (CW ct ad da nd nb nf bdk num spt val tim rep byN byS pk kn pe clk tol opn) [.ref (ad 0), .int (x)] 0 0 (fun r u => r = bI false ∧ u = CW ct ad da nd nb nf bdk num spt val tim rep byN byS pk kn pe clk tol opn) := by
  refine CI.start (by decide) (Nat.le_of_ble_eq_true rfl) ?_
  intro p e s m below meth c F hr hnm
  show V p l e (rmK 4 0 0) s m [.ref (ad 0), .int (x)].toArray below meth c D (va_A (CW ct ad da nd nb nf bdk num spt val tim rep byN byS pk kn pe clk tol opn) s.heap.size) 3 0 0 (EI D below (CW ct ad da nd nb nf bdk num spt val tim rep byN byS pk kn pe clk tol opn) [.ref (ad 0), .int (x)].toArray s 0 0 (fun r u => r = bI false ∧ u = CW ct ad da nd nb nf bdk num spt val tim rep byN byS pk kn pe clk tol opn)) (CW ct ad da nd nb nf bdk num spt val tim rep byN byS pk kn pe clk tol opn) [(0, .ref (ad 0)), (1, .int (x))] 0 []
  refine V.iload_n F d_T_endBatch_0 rfl 1 rfl ?_
  refine V.if_lt (x := x) (tgt := 12) F d_T_endBatch_1 (by decide) (fun c1 => ?_) (fun c1 => ?_)
  · skip
    refine V.iconst F d_T_endBatch_12 (v := nI (0)) (by decide) ?_
    exact V.zret F hr (nar_0) d_T_endBatch_13 (⟨bI_f, rfl⟩)
  · skip
    refine V.iload_n F d_T_endBatch_4 rfl 1 rfl ?_
    refine V.aload_n F d_T_endBatch_5 rfl 0 rfl ?_
    refine V.get F ck_T d_T_endBatch_6 5 (by decide) lk_T_136 0 rfl rfl ?_
    refine V.icmp_lt (x := x) (y := nI (nb)) (tgt := 14) F d_T_endBatch_9 (by decide) (fun c9 => ?_) (fun c9 => ?_)
    · skip
      exact absurd hx (fun q => q.elim c1 (fun z => i32_ge z c9))
    · skip
      refine V.iconst F d_T_endBatch_12 (v := nI (0)) (by decide) ?_
      exact V.zret F hr (nar_0) d_T_endBatch_13 (⟨bI_f, rfl⟩)

set_option maxHeartbeats 4000000 in
set_option maxRecDepth 100000 in
theorem c_enOld (l : Launch) (D : va_G) {ct : Nat → ClassId} {ad : Nat → Nat} {da : Nat → Nat → Nat} {nd : Nat} {nb : Nat} {nf : Nat} {bdk : Nat → Nat} {num : Nat → Nat} {spt : Nat → Nat} {val : Nat → Int64} {tim : Nat → Nat} {rep : Nat → Nat → Bool} {byN : Nat → Nat} {byS : Nat → Nat} {pk : Nat → Bool} {kn : Nat → Nat → Bool} {pe : Nat → Nat → Bool} {clk : Nat → Nat} {tol : Nat → Nat} {opn : Nat → Option Nat} (b0 : Nat) (hb0 : b0 < nb) (hnb : nb ≤ 40) (d : Nat) (hd0 : d < nd) (hbd : bdk b0 = d) (hnd : nd ≤ 8) (hob : ∀ g, opn d = some g → g < 2 ^ 31) (ho : ¬ opn d = some b0) : CI l y_T_endBatch b_T_endBatch 3 (some .boolean) (rmK 4 0 0) D (tyL ct) (CW ct ad da nd nb nf bdk num spt val tim rep byN byS pk kn pe clk tol opn) [.ref (ad 0), .int (nI (b0))] 0 0 (fun r u => r = bI false ∧ u = CW ct ad da nd nb nf bdk num spt val tim rep byN byS pk kn pe clk tol opn) := by
  refine CI.start (by decide) (Nat.le_of_ble_eq_true rfl) ?_
  intro p e s m below meth c F hr hnm
  show V p l e (rmK 4 0 0) s m [.ref (ad 0), .int (nI (b0))].toArray below meth c D (va_A (CW ct ad da nd nb nf bdk num spt val tim rep byN byS pk kn pe clk tol opn) s.heap.size) 3 0 0 (EI D below (CW ct ad da nd nb nf bdk num spt val tim rep byN byS pk kn pe clk tol opn) [.ref (ad 0), .int (nI (b0))].toArray s 0 0 (fun r u => r = bI false ∧ u = CW ct ad da nd nb nf bdk num spt val tim rep byN byS pk kn pe clk tol opn)) (CW ct ad da nd nb nf bdk num spt val tim rep byN byS pk kn pe clk tol opn) [(0, .ref (ad 0)), (1, .int (nI (b0)))] 0 []
  refine V.iload_n F d_T_endBatch_0 rfl 1 rfl ?_
  refine V.if_lt (x := nI (b0)) (tgt := 12) F d_T_endBatch_1 (by decide) (fun c1 => ?_) (fun c1 => ?_)
  · skip
    exact absurd c1 (nI_pos (by omega))
  · skip
    refine V.iload_n F d_T_endBatch_4 rfl 1 rfl ?_
    refine V.aload_n F d_T_endBatch_5 rfl 0 rfl ?_
    refine V.get F ck_T d_T_endBatch_6 5 (by decide) lk_T_136 0 rfl rfl ?_
    refine V.icmp_ltN (tgt := 14) F d_T_endBatch_9 (by decide) (by omega) (by omega) (fun c9 => ?_) (fun c9 => ?_)
    · skip
      refine V.aload_n F d_T_endBatch_14 rfl 0 rfl ?_
      refine V.aload_n F d_T_endBatch_15 rfl 0 rfl ?_
      refine V.get F ck_T d_T_endBatch_16 1 (by decide) lk_T_15 0 rfl rfl ?_
      refine V.iload_n F d_T_endBatch_19 rfl 1 rfl ?_
      refine V.iald (v := nI (bdk (b0))) F d_T_endBatch_20 2 0 rfl rfl (by omega) (by decide) rfl ?_
      refine V.st_eq (st2 := [.int (nI (d)), .ref (ad 0)]) (by rw [hbd]) ?_
      refine V.callVQ0 (As := [.int (nI (d))]) (rest := []) F (c_deskAt l D hnd d hd0) d_T_endBatch_21 sv_T_40 im_y_T_deskAt sl_y_T_deskAt 0 rfl rfl rfl rfl rfl (Nat.le_of_ble_eq_true rfl) ⟨rfl, rfl, (Nat.le_of_ble_eq_true rfl), (Nat.le_of_ble_eq_true rfl)⟩ ⟨(Nat.le_of_ble_eq_true rfl), (Nat.le_of_ble_eq_true rfl)⟩ (fun r9 u9 h9 => ?_)
      obtain ⟨rfl, rfl⟩ := h9
      refine V.astore_n (lv2 := [(2, .ref (da (d) 0)), (0, .ref (ad 0)), (1, .int (nI (b0)))]) F d_T_endBatch_24 rfl (by decide) rfl ?_
      refine V.aload_n F d_T_endBatch_25 rfl 0 rfl ?_
      refine V.ifnull F d_T_endBatch_26 ?_
      refine V.aload_n F d_T_endBatch_29 rfl 0 rfl ?_
      refine V.getN F ck_K d_T_endBatch_30 5 (by decide) lk_T_133 (13 + (5 * (d) + 0)) (cw_d0 hd0) rfl ?_
      refine V.iload_n F d_T_endBatch_33 rfl 2 rfl ?_
      refine V.icmp_eq (x := oI (opn (d))) (y := nI (b0)) (tgt := 39) F d_T_endBatch_34 (by decide) (fun c34 => ?_) (fun c34 => ?_)
      · skip
        exact absurd ((oI_eq hob (by omega)).mp c34) ho
      · skip
        refine V.iconst F d_T_endBatch_37 (v := nI (0)) (by decide) ?_
        exact V.zret F hr (nar_0) d_T_endBatch_38 (⟨bI_f, rfl⟩)
    · skip
      exact absurd c9 (by omega)

set_option maxHeartbeats 4000000 in
set_option maxRecDepth 100000 in
theorem c_en (l : Launch) (D : va_G) {ct : Nat → ClassId} {ad : Nat → Nat} {da : Nat → Nat → Nat} {nd : Nat} {nb : Nat} {nf : Nat} {bdk : Nat → Nat} {num : Nat → Nat} {spt : Nat → Nat} {val : Nat → Int64} {tim : Nat → Nat} {rep : Nat → Nat → Bool} {byN : Nat → Nat} {byS : Nat → Nat} {pk : Nat → Bool} {kn : Nat → Nat → Bool} {pe : Nat → Nat → Bool} {clk : Nat → Nat} {tol : Nat → Nat} {opn : Nat → Option Nat} (b0 : Nat) (hb0 : b0 < nb) (hnb : nb ≤ 40) (d : Nat) (hd0 : d < nd) (hbd : bdk b0 = d) (hnd : nd ≤ 8) (hob : ∀ g, opn d = some g → g < 2 ^ 31) (ho : opn d = some b0) : CI l y_T_endBatch b_T_endBatch 3 (some .boolean) (rmK 4 0 0) D (tyL ct) (CW ct ad da nd nb nf bdk num spt val tim rep byN byS pk kn pe clk tol opn) [.ref (ad 0), .int (nI (b0))] 0 0 (fun r u => r = bI true ∧ u = CW ct ad da nd nb nf bdk num spt val tim rep byN byS pk (va_up kn d (fun k => kn d k || (decide (k / 64 < 5) && pe d k))) (va_up pe d (fun k => decide (5 ≤ k / 64) && pe d k)) clk tol (va_up opn d none)) := by
  refine CI.start (by decide) (Nat.le_of_ble_eq_true rfl) ?_
  intro p e s m below meth c F hr hnm
  show V p l e (rmK 4 0 0) s m [.ref (ad 0), .int (nI (b0))].toArray below meth c D (va_A (CW ct ad da nd nb nf bdk num spt val tim rep byN byS pk kn pe clk tol opn) s.heap.size) 3 0 0 (EI D below (CW ct ad da nd nb nf bdk num spt val tim rep byN byS pk kn pe clk tol opn) [.ref (ad 0), .int (nI (b0))].toArray s 0 0 (fun r u => r = bI true ∧ u = CW ct ad da nd nb nf bdk num spt val tim rep byN byS pk (va_up kn d (fun k => kn d k || (decide (k / 64 < 5) && pe d k))) (va_up pe d (fun k => decide (5 ≤ k / 64) && pe d k)) clk tol (va_up opn d none))) (CW ct ad da nd nb nf bdk num spt val tim rep byN byS pk kn pe clk tol opn) [(0, .ref (ad 0)), (1, .int (nI (b0)))] 0 []
  refine V.iload_n F d_T_endBatch_0 rfl 1 rfl ?_
  refine V.if_lt (x := nI (b0)) (tgt := 12) F d_T_endBatch_1 (by decide) (fun c1 => ?_) (fun c1 => ?_)
  · skip
    exact absurd c1 (nI_pos (by omega))
  · skip
    refine V.iload_n F d_T_endBatch_4 rfl 1 rfl ?_
    refine V.aload_n F d_T_endBatch_5 rfl 0 rfl ?_
    refine V.get F ck_T d_T_endBatch_6 5 (by decide) lk_T_136 0 rfl rfl ?_
    refine V.icmp_ltN (tgt := 14) F d_T_endBatch_9 (by decide) (by omega) (by omega) (fun c9 => ?_) (fun c9 => ?_)
    · skip
      refine V.aload_n F d_T_endBatch_14 rfl 0 rfl ?_
      refine V.aload_n F d_T_endBatch_15 rfl 0 rfl ?_
      refine V.get F ck_T d_T_endBatch_16 1 (by decide) lk_T_15 0 rfl rfl ?_
      refine V.iload_n F d_T_endBatch_19 rfl 1 rfl ?_
      refine V.iald (v := nI (bdk (b0))) F d_T_endBatch_20 2 0 rfl rfl (by omega) (by decide) rfl ?_
      refine V.st_eq (st2 := [.int (nI (d)), .ref (ad 0)]) (by rw [hbd]) ?_
      refine V.callVQ0 (As := [.int (nI (d))]) (rest := []) F (c_deskAt l D hnd d hd0) d_T_endBatch_21 sv_T_40 im_y_T_deskAt sl_y_T_deskAt 0 rfl rfl rfl rfl rfl (Nat.le_of_ble_eq_true rfl) ⟨rfl, rfl, (Nat.le_of_ble_eq_true rfl), (Nat.le_of_ble_eq_true rfl)⟩ ⟨(Nat.le_of_ble_eq_true rfl), (Nat.le_of_ble_eq_true rfl)⟩ (fun r9 u9 h9 => ?_)
      obtain ⟨rfl, rfl⟩ := h9
      refine V.astore_n (lv2 := [(2, .ref (da (d) 0)), (0, .ref (ad 0)), (1, .int (nI (b0)))]) F d_T_endBatch_24 rfl (by decide) rfl ?_
      refine V.aload_n F d_T_endBatch_25 rfl 0 rfl ?_
      refine V.ifnull F d_T_endBatch_26 ?_
      refine V.aload_n F d_T_endBatch_29 rfl 0 rfl ?_
      refine V.getN F ck_K d_T_endBatch_30 5 (by decide) lk_T_133 (13 + (5 * (d) + 0)) (cw_d0 hd0) rfl ?_
      refine V.iload_n F d_T_endBatch_33 rfl 2 rfl ?_
      refine V.icmp_eq (x := oI (opn (d))) (y := nI (b0)) (tgt := 39) F d_T_endBatch_34 (by decide) (fun c34 => ?_) (fun c34 => ?_)
      · skip
        refine V.aload_n F d_T_endBatch_39 rfl 0 rfl ?_
        refine V.callVV0 (As := []) (rest := []) F (c_learnPending l D d hd0) d_T_endBatch_40 sv_T_139 im_y_K_learnPending sl_y_K_learnPending (13 + (5 * (d) + 0)) (cw_d0 hd0) rfl rfl rfl rfl (Nat.le_of_ble_eq_true rfl) ⟨rfl, rfl, (Nat.le_of_ble_eq_true rfl), (Nat.le_of_ble_eq_true rfl)⟩ ⟨(Nat.le_of_ble_eq_true rfl), (Nat.le_of_ble_eq_true rfl)⟩ (fun u9 h9 => ?_)
        obtain rfl := h9
        refine V.iconst F d_T_endBatch_43 (v := nI (1)) (by decide) ?_
        exact V.zret F hr (nar_1) d_T_endBatch_44 (⟨bI_t, rfl⟩)
      · skip
        exact absurd ((oI_eq hob (by omega)).mpr ho) c34
    · skip
      exact absurd c9 (by omega)

set_option maxHeartbeats 4000000 in
set_option maxRecDepth 100000 in
theorem c_coNo (l : Launch) (D : va_G) {ct : Nat → ClassId} {ad : Nat → Nat} {da : Nat → Nat → Nat} {nd : Nat} {nb : Nat} {nf : Nat} {bdk : Nat → Nat} {num : Nat → Nat} {spt : Nat → Nat} {val : Nat → Int64} {tim : Nat → Nat} {rep : Nat → Nat → Bool} {byN : Nat → Nat} {byS : Nat → Nat} {pk : Nat → Bool} {kn : Nat → Nat → Bool} {pe : Nat → Nat → Bool} {clk : Nat → Nat} {tol : Nat → Nat} {opn : Nat → Option Nat} (x0 : Int32) (hx : x0 < 0 ∨ nI nd ≤ x0) : CI l y_T_counts b_T_counts 3 (some .int) (rmK 4 0 0) D (tyL ct) (CW ct ad da nd nb nf bdk num spt val tim rep byN byS pk kn pe clk tol opn) [.ref (ad 0), .int (x0)] 0 0 (fun r u => r = -1 ∧ u = CW ct ad da nd nb nf bdk num spt val tim rep byN byS pk kn pe clk tol opn) := by
  refine CI.start (by decide) (Nat.le_of_ble_eq_true rfl) ?_
  intro p e s m below meth c F hr hnm
  show V p l e (rmK 4 0 0) s m [.ref (ad 0), .int (x0)].toArray below meth c D (va_A (CW ct ad da nd nb nf bdk num spt val tim rep byN byS pk kn pe clk tol opn) s.heap.size) 3 0 0 (EI D below (CW ct ad da nd nb nf bdk num spt val tim rep byN byS pk kn pe clk tol opn) [.ref (ad 0), .int (x0)].toArray s 0 0 (fun r u => r = -1 ∧ u = CW ct ad da nd nb nf bdk num spt val tim rep byN byS pk kn pe clk tol opn)) (CW ct ad da nd nb nf bdk num spt val tim rep byN byS pk kn pe clk tol opn) [(0, .ref (ad 0)), (1, .int (x0))] 0 []
  refine V.aload_n F d_T_counts_0 rfl 0 rfl ?_
  refine V.iload_n F d_T_counts_1 rfl 1 rfl ?_
  refine V.callVQ0 (As := [.int (x0)]) (rest := []) F (c_deskNo l D x0 hx) d_T_counts_2 sv_T_40 im_y_T_deskAt sl_y_T_deskAt 0 rfl rfl rfl rfl rfl (Nat.le_of_ble_eq_true rfl) ⟨rfl, rfl, (Nat.le_of_ble_eq_true rfl), (Nat.le_of_ble_eq_true rfl)⟩ ⟨(Nat.le_of_ble_eq_true rfl), (Nat.le_of_ble_eq_true rfl)⟩ (fun r9 u9 h9 => ?_)
  obtain ⟨rfl, rfl⟩ := h9
  refine V.astore_nN (lv2 := [(2, .null), (0, .ref (ad 0)), (1, .int (x0))]) F d_T_counts_5 rfl (by decide) rfl ?_
  refine V.aload_nN F d_T_counts_6 rfl 0 rfl ?_
  refine V.ifnonnullN F d_T_counts_7 ?_
  refine V.iconst F d_T_counts_10 (v := -1) (by decide) ?_
  refine V.goto (tgt := 21) F d_T_counts_11 (by decide) ?_
  exact V.iret F hr d_T_counts_21 (⟨rfl, rfl⟩)

set_option maxHeartbeats 4000000 in
set_option maxRecDepth 100000 in
theorem c_co (l : Launch) (D : va_G) {ct : Nat → ClassId} {ad : Nat → Nat} {da : Nat → Nat → Nat} {nd : Nat} {nb : Nat} {nf : Nat} {bdk : Nat → Nat} {num : Nat → Nat} {spt : Nat → Nat} {val : Nat → Int64} {tim : Nat → Nat} {rep : Nat → Nat → Bool} {byN : Nat → Nat} {byS : Nat → Nat} {pk : Nat → Bool} {kn : Nat → Nat → Bool} {pe : Nat → Nat → Bool} {clk : Nat → Nat} {tol : Nat → Nat} {opn : Nat → Option Nat} (hnd : nd ≤ 8) (d : Nat) (hd0 : d < nd) : CI l y_T_counts b_T_counts 3 (some .int) (rmK 4 0 0) D (tyL ct) (CW ct ad da nd nb nf bdk num spt val tim rep byN byS pk kn pe clk tol opn) [.ref (ad 0), .int (nI (d))] 0 0 (fun r u => r = nI (cnt (kn d) 320) ∧ u = CW ct ad da nd nb nf bdk num spt val tim rep byN byS pk kn pe clk tol opn) := by
  refine CI.start (by decide) (Nat.le_of_ble_eq_true rfl) ?_
  intro p e s m below meth c F hr hnm
  show V p l e (rmK 4 0 0) s m [.ref (ad 0), .int (nI (d))].toArray below meth c D (va_A (CW ct ad da nd nb nf bdk num spt val tim rep byN byS pk kn pe clk tol opn) s.heap.size) 3 0 0 (EI D below (CW ct ad da nd nb nf bdk num spt val tim rep byN byS pk kn pe clk tol opn) [.ref (ad 0), .int (nI (d))].toArray s 0 0 (fun r u => r = nI (cnt (kn d) 320) ∧ u = CW ct ad da nd nb nf bdk num spt val tim rep byN byS pk kn pe clk tol opn)) (CW ct ad da nd nb nf bdk num spt val tim rep byN byS pk kn pe clk tol opn) [(0, .ref (ad 0)), (1, .int (nI (d)))] 0 []
  refine V.aload_n F d_T_counts_0 rfl 0 rfl ?_
  refine V.iload_n F d_T_counts_1 rfl 1 rfl ?_
  refine V.callVQ0 (As := [.int (nI (d))]) (rest := []) F (c_deskAt l D hnd d hd0) d_T_counts_2 sv_T_40 im_y_T_deskAt sl_y_T_deskAt 0 rfl rfl rfl rfl rfl (Nat.le_of_ble_eq_true rfl) ⟨rfl, rfl, (Nat.le_of_ble_eq_true rfl), (Nat.le_of_ble_eq_true rfl)⟩ ⟨(Nat.le_of_ble_eq_true rfl), (Nat.le_of_ble_eq_true rfl)⟩ (fun r9 u9 h9 => ?_)
  obtain ⟨rfl, rfl⟩ := h9
  refine V.astore_n (lv2 := [(2, .ref (da (d) 0)), (0, .ref (ad 0)), (1, .int (nI (d)))]) F d_T_counts_5 rfl (by decide) rfl ?_
  refine V.aload_n F d_T_counts_6 rfl 0 rfl ?_
  refine V.ifnonnull (tgt := 14) F d_T_counts_7 (by decide) ?_
  refine V.aload_n F d_T_counts_14 rfl 0 rfl ?_
  refine V.getN F ck_K d_T_counts_15 1 (by decide) lk_T_65 (13 + (5 * (d) + 0)) (cw_d0 hd0) rfl ?_
  refine V.callVI0 (As := []) (rest := []) F (c_size l D (some (d, false)) hd0) d_T_counts_18 sv_T_117 im_y_S_size sl_y_S_size (13 + (5 * (d) + 1)) (cw_d1 hd0) rfl rfl rfl rfl (Nat.le_of_ble_eq_true rfl) ⟨rfl, rfl, (Nat.le_of_ble_eq_true rfl), (Nat.le_of_ble_eq_true rfl)⟩ ⟨(Nat.le_of_ble_eq_true rfl), (Nat.le_of_ble_eq_true rfl)⟩ (fun r9 u9 h9 => ?_)
  obtain ⟨rfl, rfl⟩ := h9
  exact V.iret F hr d_T_counts_21 (⟨rfl, rfl⟩)

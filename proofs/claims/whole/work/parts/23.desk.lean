set_option maxHeartbeats 4000000 in
set_option maxRecDepth 100000 in
theorem c_nextNumber (l : Launch) (D : va_G) {ct : Nat → ClassId} {ad : Nat → Nat} {da : Nat → Nat → Nat} {nd : Nat} {nb : Nat} {nf : Nat} {bdk : Nat → Nat} {num : Nat → Nat} {spt : Nat → Nat} {val : Nat → Int64} {tim : Nat → Nat} {rep : Nat → Nat → Bool} {byN : Nat → Nat} {byS : Nat → Nat} {pk : Nat → Bool} {kn : Nat → Nat → Bool} {pe : Nat → Nat → Bool} {clk : Nat → Nat} {tol : Nat → Nat} {opn : Nat → Option Nat} (d : Nat) (hd0 : d < nd) : CI l y_K_nextNumber b_K_nextNumber 1 (some .int) (rmK 0 0 0) D (tyL ct) (CW ct ad da nd nb nf bdk num spt val tim rep byN byS pk kn pe clk tol opn) [.ref (da (d) 0)] 0 0 (fun r u => r = nI (8 * tol d + d) ∧ u = CW ct ad da nd nb nf bdk num spt val tim rep byN byS pk kn pe clk tol opn) := by
  refine CI.start (by decide) (Nat.le_of_ble_eq_true rfl) ?_
  intro p e s m below meth c F hr hnm
  show V p l e (rmK 0 0 0) s m [.ref (da (d) 0)].toArray below meth c D (va_A (CW ct ad da nd nb nf bdk num spt val tim rep byN byS pk kn pe clk tol opn) s.heap.size) 1 0 0 (EI D below (CW ct ad da nd nb nf bdk num spt val tim rep byN byS pk kn pe clk tol opn) [.ref (da (d) 0)].toArray s 0 0 (fun r u => r = nI (8 * tol d + d) ∧ u = CW ct ad da nd nb nf bdk num spt val tim rep byN byS pk kn pe clk tol opn)) (CW ct ad da nd nb nf bdk num spt val tim rep byN byS pk kn pe clk tol opn) [(0, .ref (da (d) 0))] 0 []
  refine V.bipush F d_K_nextNumber_0 (v := nI (8)) (by decide) ?_
  refine V.aload_n F d_K_nextNumber_2 rfl 0 rfl ?_
  refine V.get F ck_K d_K_nextNumber_3 4 (by decide) lk_K_28 (13 + (5 * (d) + 0)) (cw_d0 hd0) rfl ?_
  refine V.imulN F d_K_nextNumber_6 ?_
  refine V.aload_n F d_K_nextNumber_7 rfl 0 rfl ?_
  refine V.get F ck_K d_K_nextNumber_8 0 (by decide) lk_K_25 (13 + (5 * (d) + 0)) (cw_d0 hd0) rfl ?_
  refine V.iaddN F d_K_nextNumber_11 ?_
  exact V.iret F hr d_K_nextNumber_12 (⟨rfl, rfl⟩)

set_option maxHeartbeats 4000000 in
set_option maxRecDepth 100000 in
theorem c_nextTime (l : Launch) (D : va_G) {ct : Nat → ClassId} {ad : Nat → Nat} {da : Nat → Nat → Nat} {nd : Nat} {nb : Nat} {nf : Nat} {bdk : Nat → Nat} {num : Nat → Nat} {spt : Nat → Nat} {val : Nat → Int64} {tim : Nat → Nat} {rep : Nat → Nat → Bool} {byN : Nat → Nat} {byS : Nat → Nat} {pk : Nat → Bool} {kn : Nat → Nat → Bool} {pe : Nat → Nat → Bool} {clk : Nat → Nat} {tol : Nat → Nat} {opn : Nat → Option Nat} (d : Nat) (hd0 : d < nd) : CI l y_K_nextTime b_K_nextTime 1 (some .int) (rmK 0 0 0) D (tyL ct) (CW ct ad da nd nb nf bdk num spt val tim rep byN byS pk kn pe clk tol opn) [.ref (da (d) 0)] 0 0 (fun r u => r = nI (clk d + 1) ∧ u = CW ct ad da nd nb nf bdk num spt val tim rep byN byS pk kn pe clk tol opn) := by
  refine CI.start (by decide) (Nat.le_of_ble_eq_true rfl) ?_
  intro p e s m below meth c F hr hnm
  show V p l e (rmK 0 0 0) s m [.ref (da (d) 0)].toArray below meth c D (va_A (CW ct ad da nd nb nf bdk num spt val tim rep byN byS pk kn pe clk tol opn) s.heap.size) 1 0 0 (EI D below (CW ct ad da nd nb nf bdk num spt val tim rep byN byS pk kn pe clk tol opn) [.ref (da (d) 0)].toArray s 0 0 (fun r u => r = nI (clk d + 1) ∧ u = CW ct ad da nd nb nf bdk num spt val tim rep byN byS pk kn pe clk tol opn)) (CW ct ad da nd nb nf bdk num spt val tim rep byN byS pk kn pe clk tol opn) [(0, .ref (da (d) 0))] 0 []
  refine V.aload_n F d_K_nextTime_0 rfl 0 rfl ?_
  refine V.get F ck_K d_K_nextTime_1 3 (by decide) lk_K_31 (13 + (5 * (d) + 0)) (cw_d0 hd0) rfl ?_
  refine V.iconst F d_K_nextTime_4 (v := nI (1)) (by decide) ?_
  refine V.iaddN F d_K_nextTime_5 ?_
  exact V.iret F hr d_K_nextTime_6 (⟨rfl, rfl⟩)

set_option maxHeartbeats 4000000 in
set_option maxRecDepth 100000 in
theorem c_hearK (l : Launch) (D : va_G) {ct : Nat → ClassId} {ad : Nat → Nat} {da : Nat → Nat → Nat} {nd : Nat} {nb : Nat} {nf : Nat} {bdk : Nat → Nat} {num : Nat → Nat} {spt : Nat → Nat} {val : Nat → Int64} {tim : Nat → Nat} {rep : Nat → Nat → Bool} {byN : Nat → Nat} {byS : Nat → Nat} {pk : Nat → Bool} {kn : Nat → Nat → Bool} {pe : Nat → Nat → Bool} {clk : Nat → Nat} {tol : Nat → Nat} {opn : Nat → Option Nat} (d : Nat) (hd0 : d < nd) (n : Nat) (hn : n < 300) (ho : opn d = none) : CV l y_K_hear b_K_hear 2 none (rmK 2 0 0) D (tyL ct) (CW ct ad da nd nb nf bdk num spt val tim rep byN byS pk kn pe clk tol opn) [.ref (da (d) 0), .int (nI (n))] 0 0 (fun u => u = CW ct ad da nd nb nf bdk num spt val tim rep byN byS pk (va_up kn d (fun k => kn d k || decide (k = n))) pe (va_up clk (d) ((clk (d)) + (1))) (va_up tol (d) ((tol (d)) + (1))) opn) := by
  refine CV.start (by decide) (Nat.le_of_ble_eq_true rfl) ?_
  intro p e s m below meth c F hr hnm
  show V p l e (rmK 2 0 0) s m [.ref (da (d) 0), .int (nI (n))].toArray below meth c D (va_A (CW ct ad da nd nb nf bdk num spt val tim rep byN byS pk kn pe clk tol opn) s.heap.size) 2 0 0 (EV D below (CW ct ad da nd nb nf bdk num spt val tim rep byN byS pk kn pe clk tol opn) [.ref (da (d) 0), .int (nI (n))].toArray s 0 0 (fun u => u = CW ct ad da nd nb nf bdk num spt val tim rep byN byS pk (va_up kn d (fun k => kn d k || decide (k = n))) pe (va_up clk (d) ((clk (d)) + (1))) (va_up tol (d) ((tol (d)) + (1))) opn)) (CW ct ad da nd nb nf bdk num spt val tim rep byN byS pk kn pe clk tol opn) [(0, .ref (da (d) 0)), (1, .int (nI (n)))] 0 []
  refine V.aload_n F d_K_hear_0 rfl 0 rfl ?_
  refine V.dup F d_K_hear_1 rfl ?_
  refine V.get F ck_K d_K_hear_2 4 (by decide) lk_K_28 (13 + (5 * (d) + 0)) (cw_d0 hd0) rfl ?_
  refine V.iconst F d_K_hear_5 (v := nI (1)) (by decide) ?_
  refine V.iaddN F d_K_hear_6 ?_
  refine V.put (ws2 := CW ct ad da nd nb nf bdk num spt val tim rep byN byS pk kn pe clk (va_up tol (d) ((tol (d)) + (1))) opn) F ck_K d_K_hear_7 4 (by decide) lk_K_28 (13 + (5 * (d) + 0)) (cw_d0 hd0) rfl rfl rfl (Nat.le_of_ble_eq_true rfl) (cw_set_tol (x := (tol (d)) + (1)) hd0) ?_
  refine V.aload_n F d_K_hear_10 rfl 0 rfl ?_
  refine V.dup F d_K_hear_11 rfl ?_
  refine V.get F ck_K d_K_hear_12 3 (by decide) lk_K_31 (13 + (5 * (d) + 0)) (cw_d0 hd0) rfl ?_
  refine V.iconst F d_K_hear_15 (v := nI (1)) (by decide) ?_
  refine V.iaddN F d_K_hear_16 ?_
  refine V.put (ws2 := CW ct ad da nd nb nf bdk num spt val tim rep byN byS pk kn pe (va_up clk (d) ((clk (d)) + (1))) (va_up tol (d) ((tol (d)) + (1))) opn) F ck_K d_K_hear_17 3 (by decide) lk_K_31 (13 + (5 * (d) + 0)) (cw_d0 hd0) rfl rfl rfl (Nat.le_of_ble_eq_true rfl) (cw_set_clk (x := (clk (d)) + (1)) hd0) ?_
  refine V.aload_n F d_K_hear_20 rfl 0 rfl ?_
  refine V.get F ck_K d_K_hear_21 5 (by decide) lk_K_21 (13 + (5 * (d) + 0)) (cw_d0 hd0) rfl ?_
  refine V.iconst F d_K_hear_24 (v := -1) (by decide) ?_
  refine V.icmp_ne (x := oI (opn (d))) (y := -1) (tgt := 39) F d_K_hear_25 (by decide) (fun c25 => ?_) (fun c25 => ?_)
  · skip
    exact absurd (by rw [ho]; rfl) c25
  · skip
    refine V.aload_n F d_K_hear_28 rfl 0 rfl ?_
    refine V.get F ck_K d_K_hear_29 1 (by decide) lk_K_12 (13 + (5 * (d) + 0)) (cw_d0 hd0) rfl ?_
    refine V.iload_n F d_K_hear_32 rfl 1 rfl ?_
    refine V.callVV0 (As := [.int (nI (n))]) (rest := []) F (c_add l D (some (d, false)) hd0 n hn) d_K_hear_33 sv_K_34 im_y_S_add sl_y_S_add (13 + (5 * (d) + 1)) (cw_d1 hd0) rfl rfl rfl rfl (Nat.le_of_ble_eq_true rfl) ⟨rfl, rfl, (Nat.le_of_ble_eq_true rfl), (Nat.le_of_ble_eq_true rfl)⟩ ⟨(Nat.le_of_ble_eq_true rfl), (Nat.le_of_ble_eq_true rfl)⟩ (fun u9 h9 => ?_)
    obtain rfl := h9
    refine V.ws_eq (ws2 := CW ct ad da nd nb nf bdk num spt val tim rep byN byS pk (va_up kn d (fun k => kn d k || decide (k = n))) pe (va_up clk (d) ((clk (d)) + (1))) (va_up tol (d) ((tol (d)) + (1))) opn) rfl ?_
    refine V.goto (tgt := 47) F d_K_hear_36 (by decide) ?_
    exact V.vret F hr d_K_hear_47 (rfl)

set_option maxHeartbeats 4000000 in
set_option maxRecDepth 100000 in
theorem c_hearP (l : Launch) (D : va_G) {ct : Nat → ClassId} {ad : Nat → Nat} {da : Nat → Nat → Nat} {nd : Nat} {nb : Nat} {nf : Nat} {bdk : Nat → Nat} {num : Nat → Nat} {spt : Nat → Nat} {val : Nat → Int64} {tim : Nat → Nat} {rep : Nat → Nat → Bool} {byN : Nat → Nat} {byS : Nat → Nat} {pk : Nat → Bool} {kn : Nat → Nat → Bool} {pe : Nat → Nat → Bool} {clk : Nat → Nat} {tol : Nat → Nat} {opn : Nat → Option Nat} (d : Nat) (hd0 : d < nd) (n : Nat) (hn : n < 300) (b0 : Nat) (ho : opn d = some b0) (hb0 : b0 < 2 ^ 31) : CV l y_K_hear b_K_hear 2 none (rmK 2 0 0) D (tyL ct) (CW ct ad da nd nb nf bdk num spt val tim rep byN byS pk kn pe clk tol opn) [.ref (da (d) 0), .int (nI (n))] 0 0 (fun u => u = CW ct ad da nd nb nf bdk num spt val tim rep byN byS pk kn (va_up pe d (fun k => pe d k || decide (k = n))) (va_up clk (d) ((clk (d)) + (1))) (va_up tol (d) ((tol (d)) + (1))) opn) := by
  refine CV.start (by decide) (Nat.le_of_ble_eq_true rfl) ?_
  intro p e s m below meth c F hr hnm
  show V p l e (rmK 2 0 0) s m [.ref (da (d) 0), .int (nI (n))].toArray below meth c D (va_A (CW ct ad da nd nb nf bdk num spt val tim rep byN byS pk kn pe clk tol opn) s.heap.size) 2 0 0 (EV D below (CW ct ad da nd nb nf bdk num spt val tim rep byN byS pk kn pe clk tol opn) [.ref (da (d) 0), .int (nI (n))].toArray s 0 0 (fun u => u = CW ct ad da nd nb nf bdk num spt val tim rep byN byS pk kn (va_up pe d (fun k => pe d k || decide (k = n))) (va_up clk (d) ((clk (d)) + (1))) (va_up tol (d) ((tol (d)) + (1))) opn)) (CW ct ad da nd nb nf bdk num spt val tim rep byN byS pk kn pe clk tol opn) [(0, .ref (da (d) 0)), (1, .int (nI (n)))] 0 []
  refine V.aload_n F d_K_hear_0 rfl 0 rfl ?_
  refine V.dup F d_K_hear_1 rfl ?_
  refine V.get F ck_K d_K_hear_2 4 (by decide) lk_K_28 (13 + (5 * (d) + 0)) (cw_d0 hd0) rfl ?_
  refine V.iconst F d_K_hear_5 (v := nI (1)) (by decide) ?_
  refine V.iaddN F d_K_hear_6 ?_
  refine V.put (ws2 := CW ct ad da nd nb nf bdk num spt val tim rep byN byS pk kn pe clk (va_up tol (d) ((tol (d)) + (1))) opn) F ck_K d_K_hear_7 4 (by decide) lk_K_28 (13 + (5 * (d) + 0)) (cw_d0 hd0) rfl rfl rfl (Nat.le_of_ble_eq_true rfl) (cw_set_tol (x := (tol (d)) + (1)) hd0) ?_
  refine V.aload_n F d_K_hear_10 rfl 0 rfl ?_
  refine V.dup F d_K_hear_11 rfl ?_
  refine V.get F ck_K d_K_hear_12 3 (by decide) lk_K_31 (13 + (5 * (d) + 0)) (cw_d0 hd0) rfl ?_
  refine V.iconst F d_K_hear_15 (v := nI (1)) (by decide) ?_
  refine V.iaddN F d_K_hear_16 ?_
  refine V.put (ws2 := CW ct ad da nd nb nf bdk num spt val tim rep byN byS pk kn pe (va_up clk (d) ((clk (d)) + (1))) (va_up tol (d) ((tol (d)) + (1))) opn) F ck_K d_K_hear_17 3 (by decide) lk_K_31 (13 + (5 * (d) + 0)) (cw_d0 hd0) rfl rfl rfl (Nat.le_of_ble_eq_true rfl) (cw_set_clk (x := (clk (d)) + (1)) hd0) ?_
  refine V.aload_n F d_K_hear_20 rfl 0 rfl ?_
  refine V.get F ck_K d_K_hear_21 5 (by decide) lk_K_21 (13 + (5 * (d) + 0)) (cw_d0 hd0) rfl ?_
  refine V.iconst F d_K_hear_24 (v := -1) (by decide) ?_
  refine V.icmp_ne (x := oI (opn (d))) (y := -1) (tgt := 39) F d_K_hear_25 (by decide) (fun c25 => ?_) (fun c25 => ?_)
  · skip
    refine V.aload_n F d_K_hear_39 rfl 0 rfl ?_
    refine V.get F ck_K d_K_hear_40 2 (by decide) lk_K_18 (13 + (5 * (d) + 0)) (cw_d0 hd0) rfl ?_
    refine V.iload_n F d_K_hear_43 rfl 1 rfl ?_
    refine V.callVV0 (As := [.int (nI (n))]) (rest := []) F (c_add l D (some (d, true)) hd0 n hn) d_K_hear_44 sv_K_34 im_y_S_add sl_y_S_add (13 + (5 * (d) + 3)) (cw_d3 hd0) rfl rfl rfl rfl (Nat.le_of_ble_eq_true rfl) ⟨rfl, rfl, (Nat.le_of_ble_eq_true rfl), (Nat.le_of_ble_eq_true rfl)⟩ ⟨(Nat.le_of_ble_eq_true rfl), (Nat.le_of_ble_eq_true rfl)⟩ (fun u9 h9 => ?_)
    obtain rfl := h9
    refine V.ws_eq (ws2 := CW ct ad da nd nb nf bdk num spt val tim rep byN byS pk kn (va_up pe d (fun k => pe d k || decide (k = n))) (va_up clk (d) ((clk (d)) + (1))) (va_up tol (d) ((tol (d)) + (1))) opn) rfl ?_
    exact V.vret F hr d_K_hear_47 (rfl)
  · skip
    exact absurd (oI_none (fun g e9 => by rw [ho] at e9; cases e9; exact hb0) c25) (by rw [ho]; exact fun q => by cases q)

set_option maxHeartbeats 4000000 in
set_option maxRecDepth 100000 in
theorem c_learnFrom (l : Launch) (D : va_G) {ct : Nat → ClassId} {ad : Nat → Nat} {da : Nat → Nat → Nat} {nd : Nat} {nb : Nat} {nf : Nat} {bdk : Nat → Nat} {num : Nat → Nat} {spt : Nat → Nat} {val : Nat → Int64} {tim : Nat → Nat} {rep : Nat → Nat → Bool} {byN : Nat → Nat} {byS : Nat → Nat} {pk : Nat → Bool} {kn : Nat → Nat → Bool} {pe : Nat → Nat → Bool} {clk : Nat → Nat} {tol : Nat → Nat} {opn : Nat → Option Nat} (d : Nat) (hd0 : d < nd) (d2 : Nat) (hd2 : d2 < nd) (hne : d2 ≠ d) (hc1 : clk d < 2 ^ 31) (hc2 : clk d2 < 2 ^ 31) : CV l y_K_learnFrom b_K_learnFrom 2 none (rmK 1 0 0) D (tyL ct) (CW ct ad da nd nb nf bdk num spt val tim rep byN byS pk kn pe clk tol opn) [.ref (da (d) 0), .ref (da (d2) 0)] 0 0 (fun u => u = CW ct ad da nd nb nf bdk num spt val tim rep byN byS pk (va_up kn d (fun k => kn d k || (decide (k / 64 < 5) && kn d2 k))) pe (va_up clk d (max (clk d) (clk d2))) tol opn) := by
  refine CV.start (by decide) (Nat.le_of_ble_eq_true rfl) ?_
  intro p e s m below meth c F hr hnm
  show V p l e (rmK 1 0 0) s m [.ref (da (d) 0), .ref (da (d2) 0)].toArray below meth c D (va_A (CW ct ad da nd nb nf bdk num spt val tim rep byN byS pk kn pe clk tol opn) s.heap.size) 2 0 0 (EV D below (CW ct ad da nd nb nf bdk num spt val tim rep byN byS pk kn pe clk tol opn) [.ref (da (d) 0), .ref (da (d2) 0)].toArray s 0 0 (fun u => u = CW ct ad da nd nb nf bdk num spt val tim rep byN byS pk (va_up kn d (fun k => kn d k || (decide (k / 64 < 5) && kn d2 k))) pe (va_up clk d (max (clk d) (clk d2))) tol opn)) (CW ct ad da nd nb nf bdk num spt val tim rep byN byS pk kn pe clk tol opn) [(0, .ref (da (d) 0)), (1, .ref (da (d2) 0))] 0 []
  refine V.aload_n F d_K_learnFrom_0 rfl 0 rfl ?_
  refine V.get F ck_K d_K_learnFrom_1 1 (by decide) lk_K_12 (13 + (5 * (d) + 0)) (cw_d0 hd0) rfl ?_
  refine V.aload_n F d_K_learnFrom_4 rfl 1 rfl ?_
  refine V.get F ck_K d_K_learnFrom_5 1 (by decide) lk_K_12 (13 + (5 * (d2) + 0)) (cw_d0 hd2) rfl ?_
  refine V.callVV0 (As := [.ref (da (d2) 1)]) (rest := []) F (c_addAll l D (some (d, false)) hd0 (some (d2, false)) hd2 (fun q => hne (by cases q; rfl))) d_K_learnFrom_8 sv_K_38 im_y_S_addAll sl_y_S_addAll (13 + (5 * (d) + 1)) (cw_d1 hd0) rfl rfl rfl rfl (Nat.le_of_ble_eq_true rfl) ⟨rfl, rfl, (Nat.le_of_ble_eq_true rfl), (Nat.le_of_ble_eq_true rfl)⟩ ⟨(Nat.le_of_ble_eq_true rfl), (Nat.le_of_ble_eq_true rfl)⟩ (fun u9 h9 => ?_)
  obtain rfl := h9
  refine V.ws_eq (ws2 := CW ct ad da nd nb nf bdk num spt val tim rep byN byS pk (va_up kn d (fun k => kn d k || (decide (k / 64 < 5) && kn d2 k))) pe clk tol opn) rfl ?_
  refine V.aload_n F d_K_learnFrom_11 rfl 0 rfl ?_
  refine V.aload_n F d_K_learnFrom_12 rfl 0 rfl ?_
  refine V.get F ck_K d_K_learnFrom_13 3 (by decide) lk_K_31 (13 + (5 * (d) + 0)) (cw_d0 hd0) rfl ?_
  refine V.aload_n F d_K_learnFrom_16 rfl 1 rfl ?_
  refine V.get F ck_K d_K_learnFrom_17 3 (by decide) lk_K_31 (13 + (5 * (d2) + 0)) (cw_d0 hd2) rfl ?_
  refine V.mmaxN F d_K_learnFrom_20 lk_K_42 mx_static mx_init mx_code (Nat.le_of_ble_eq_true rfl) (Nat.le_of_ble_eq_true rfl) (Nat.le_of_ble_eq_true rfl) (Nat.le_of_ble_eq_true rfl) hc1 hc2 ?_
  refine V.put (ws2 := CW ct ad da nd nb nf bdk num spt val tim rep byN byS pk (va_up kn d (fun k => kn d k || (decide (k / 64 < 5) && kn d2 k))) pe (va_up clk (d) (max (clk (d)) (clk (d2)))) tol opn) F ck_K d_K_learnFrom_23 3 (by decide) lk_K_31 (13 + (5 * (d) + 0)) (cw_d0 hd0) rfl rfl rfl (Nat.le_of_ble_eq_true rfl) (cw_set_clk (x := max (clk (d)) (clk (d2))) hd0) ?_
  exact V.vret F hr d_K_learnFrom_26 (rfl)

set_option maxHeartbeats 4000000 in
set_option maxRecDepth 100000 in
theorem c_learnPending (l : Launch) (D : va_G) {ct : Nat → ClassId} {ad : Nat → Nat} {da : Nat → Nat → Nat} {nd : Nat} {nb : Nat} {nf : Nat} {bdk : Nat → Nat} {num : Nat → Nat} {spt : Nat → Nat} {val : Nat → Int64} {tim : Nat → Nat} {rep : Nat → Nat → Bool} {byN : Nat → Nat} {byS : Nat → Nat} {pk : Nat → Bool} {kn : Nat → Nat → Bool} {pe : Nat → Nat → Bool} {clk : Nat → Nat} {tol : Nat → Nat} {opn : Nat → Option Nat} (d : Nat) (hd0 : d < nd) : CV l y_K_learnPending b_K_learnPending 1 none (rmK 1 0 0) D (tyL ct) (CW ct ad da nd nb nf bdk num spt val tim rep byN byS pk kn pe clk tol opn) [.ref (da (d) 0)] 0 0 (fun u => u = CW ct ad da nd nb nf bdk num spt val tim rep byN byS pk (va_up kn d (fun k => kn d k || (decide (k / 64 < 5) && pe d k))) (va_up pe d (fun k => decide (5 ≤ k / 64) && pe d k)) clk tol (va_up opn d none)) := by
  refine CV.start (by decide) (Nat.le_of_ble_eq_true rfl) ?_
  intro p e s m below meth c F hr hnm
  show V p l e (rmK 1 0 0) s m [.ref (da (d) 0)].toArray below meth c D (va_A (CW ct ad da nd nb nf bdk num spt val tim rep byN byS pk kn pe clk tol opn) s.heap.size) 1 0 0 (EV D below (CW ct ad da nd nb nf bdk num spt val tim rep byN byS pk kn pe clk tol opn) [.ref (da (d) 0)].toArray s 0 0 (fun u => u = CW ct ad da nd nb nf bdk num spt val tim rep byN byS pk (va_up kn d (fun k => kn d k || (decide (k / 64 < 5) && pe d k))) (va_up pe d (fun k => decide (5 ≤ k / 64) && pe d k)) clk tol (va_up opn d none))) (CW ct ad da nd nb nf bdk num spt val tim rep byN byS pk kn pe clk tol opn) [(0, .ref (da (d) 0))] 0 []
  refine V.aload_n F d_K_learnPending_0 rfl 0 rfl ?_
  refine V.get F ck_K d_K_learnPending_1 1 (by decide) lk_K_12 (13 + (5 * (d) + 0)) (cw_d0 hd0) rfl ?_
  refine V.aload_n F d_K_learnPending_4 rfl 0 rfl ?_
  refine V.get F ck_K d_K_learnPending_5 2 (by decide) lk_K_18 (13 + (5 * (d) + 0)) (cw_d0 hd0) rfl ?_
  refine V.callVV0 (As := [.ref (da (d) 3)]) (rest := []) F (c_addAll l D (some (d, false)) hd0 (some (d, true)) hd0 (fun q => by cases q)) d_K_learnPending_8 sv_K_38 im_y_S_addAll sl_y_S_addAll (13 + (5 * (d) + 1)) (cw_d1 hd0) rfl rfl rfl rfl (Nat.le_of_ble_eq_true rfl) ⟨rfl, rfl, (Nat.le_of_ble_eq_true rfl), (Nat.le_of_ble_eq_true rfl)⟩ ⟨(Nat.le_of_ble_eq_true rfl), (Nat.le_of_ble_eq_true rfl)⟩ (fun u9 h9 => ?_)
  obtain rfl := h9
  refine V.ws_eq (ws2 := CW ct ad da nd nb nf bdk num spt val tim rep byN byS pk (va_up kn d (fun k => kn d k || (decide (k / 64 < 5) && pe d k))) pe clk tol opn) rfl ?_
  refine V.aload_n F d_K_learnPending_11 rfl 0 rfl ?_
  refine V.get F ck_K d_K_learnPending_12 2 (by decide) lk_K_18 (13 + (5 * (d) + 0)) (cw_d0 hd0) rfl ?_
  refine V.callVV0 (As := []) (rest := []) F (c_clear l D (some (d, true)) hd0) d_K_learnPending_15 sv_K_48 im_y_S_clear sl_y_S_clear (13 + (5 * (d) + 3)) (cw_d3 hd0) rfl rfl rfl rfl (Nat.le_of_ble_eq_true rfl) ⟨rfl, rfl, (Nat.le_of_ble_eq_true rfl), (Nat.le_of_ble_eq_true rfl)⟩ ⟨(Nat.le_of_ble_eq_true rfl), (Nat.le_of_ble_eq_true rfl)⟩ (fun u9 h9 => ?_)
  obtain rfl := h9
  refine V.ws_eq (ws2 := CW ct ad da nd nb nf bdk num spt val tim rep byN byS pk (va_up kn d (fun k => kn d k || (decide (k / 64 < 5) && pe d k))) (va_up pe d (fun k => decide (5 ≤ k / 64) && pe d k)) clk tol opn) rfl ?_
  refine V.aload_n F d_K_learnPending_18 rfl 0 rfl ?_
  refine V.iconst F d_K_learnPending_19 (v := -1) (by decide) ?_
  refine V.put (ws2 := CW ct ad da nd nb nf bdk num spt val tim rep byN byS pk (va_up kn d (fun k => kn d k || (decide (k / 64 < 5) && pe d k))) (va_up pe d (fun k => decide (5 ≤ k / 64) && pe d k)) clk tol (va_up opn (d) (none))) F ck_K d_K_learnPending_20 5 (by decide) lk_K_21 (13 + (5 * (d) + 0)) (cw_d0 hd0) rfl rfl rfl (Nat.le_of_ble_eq_true rfl) (cw_set_opn (x := none) hd0) ?_
  exact V.vret F hr d_K_learnPending_23 (rfl)

set_option maxHeartbeats 4000000 in
set_option maxRecDepth 100000 in
theorem c_deskAt (l : Launch) (D : va_G) {ct : Nat → ClassId} {ad : Nat → Nat} {da : Nat → Nat → Nat} {nd : Nat} {nb : Nat} {nf : Nat} {bdk : Nat → Nat} {num : Nat → Nat} {spt : Nat → Nat} {val : Nat → Int64} {tim : Nat → Nat} {rep : Nat → Nat → Bool} {byN : Nat → Nat} {byS : Nat → Nat} {pk : Nat → Bool} {kn : Nat → Nat → Bool} {pe : Nat → Nat → Bool} {clk : Nat → Nat} {tol : Nat → Nat} {opn : Nat → Option Nat} (hnd : nd ≤ 8) (j : Nat) (hj : j < nd) : CQ l y_T_deskAt b_T_deskAt 2 (some (.object "ToldFacts$Desk")) (rmK 0 0 0) D (tyL ct) (CW ct ad da nd nb nf bdk num spt val tim rep byN byS pk kn pe clk tol opn) [.ref (ad 0), .int (nI (j))] 0 0 (fun r u => r = some (da j 0) ∧ u = CW ct ad da nd nb nf bdk num spt val tim rep byN byS pk kn pe clk tol opn) := by
  refine CQ.start (by decide) (Nat.le_of_ble_eq_true rfl) ?_
  intro p e s m below meth c F hr hnm
  show V p l e (rmK 0 0 0) s m [.ref (ad 0), .int (nI (j))].toArray below meth c D (va_A (CW ct ad da nd nb nf bdk num spt val tim rep byN byS pk kn pe clk tol opn) s.heap.size) 2 0 0 (EQ D below (CW ct ad da nd nb nf bdk num spt val tim rep byN byS pk kn pe clk tol opn) [.ref (ad 0), .int (nI (j))].toArray s 0 0 (fun r u => r = some (da j 0) ∧ u = CW ct ad da nd nb nf bdk num spt val tim rep byN byS pk kn pe clk tol opn)) (CW ct ad da nd nb nf bdk num spt val tim rep byN byS pk kn pe clk tol opn) [(0, .ref (ad 0)), (1, .int (nI (j)))] 0 []
  refine V.iload_n F d_T_deskAt_0 rfl 1 rfl ?_
  refine V.if_lt (x := nI (j)) (tgt := 21) F d_T_deskAt_1 (by decide) (fun c1 => ?_) (fun c1 => ?_)
  · skip
    exact absurd c1 (nI_pos (by omega))
  · skip
    refine V.iload_n F d_T_deskAt_4 rfl 1 rfl ?_
    refine V.aload_n F d_T_deskAt_5 rfl 0 rfl ?_
    refine V.get F ck_T d_T_deskAt_6 4 (by decide) lk_T_33 0 rfl rfl ?_
    refine V.icmp_geN (tgt := 21) F d_T_deskAt_9 (by decide) (by omega) (by omega) (fun c9 => ?_) (fun c9 => ?_)
    · skip
      exact absurd c9 (by omega)
    · skip
      refine V.aload_n F d_T_deskAt_12 rfl 0 rfl ?_
      refine V.get F ck_T d_T_deskAt_13 0 (by decide) lk_T_11 0 rfl rfl ?_
      refine V.iload_n F d_T_deskAt_16 rfl 1 rfl ?_
      refine V.aldq (v := .ref (da (j) 0)) F d_T_deskAt_17 1 2 rfl rfl (by omega) (by decide) (by show va_rf (dkA da nd j) = _; unfold dkA; rw [if_pos hj]; rfl) ?_
      refine V.goto (tgt := 22) F d_T_deskAt_18 (by decide) ?_
      exact V.aret (v := some (da (j) 0)) F hr d_T_deskAt_22 (⟨rfl, rfl⟩)

set_option maxHeartbeats 4000000 in
set_option maxRecDepth 100000 in
theorem c_deskNo (l : Launch) (D : va_G) {ct : Nat → ClassId} {ad : Nat → Nat} {da : Nat → Nat → Nat} {nd : Nat} {nb : Nat} {nf : Nat} {bdk : Nat → Nat} {num : Nat → Nat} {spt : Nat → Nat} {val : Nat → Int64} {tim : Nat → Nat} {rep : Nat → Nat → Bool} {byN : Nat → Nat} {byS : Nat → Nat} {pk : Nat → Bool} {kn : Nat → Nat → Bool} {pe : Nat → Nat → Bool} {clk : Nat → Nat} {tol : Nat → Nat} {opn : Nat → Option Nat} (x : Int32) (hx : x < 0 ∨ nI nd ≤ x) : CQ l y_T_deskAt b_T_deskAt 2 (some (.object "ToldFacts$Desk")) (rmK 0 0 0) D (tyL ct) (CW ct ad da nd nb nf bdk num spt val tim rep byN byS pk kn pe clk tol opn) [.ref (ad 0), .int (x)] 0 0 (fun r u => r = none ∧ u = CW ct ad da nd nb nf bdk num spt val tim rep byN byS pk kn pe clk tol opn) := by
  refine CQ.start (by decide) (Nat.le_of_ble_eq_true rfl) ?_
  intro p e s m below meth c F hr hnm
  show V p l e (rmK 0 0 0) s m [.ref (ad 0), .int (x)].toArray below meth c D (va_A (CW ct ad da nd nb nf bdk num spt val tim rep byN byS pk kn pe clk tol opn) s.heap.size) 2 0 0 (EQ D below (CW ct ad da nd nb nf bdk num spt val tim rep byN byS pk kn pe clk tol opn) [.ref (ad 0), .int (x)].toArray s 0 0 (fun r u => r = none ∧ u = CW ct ad da nd nb nf bdk num spt val tim rep byN byS pk kn pe clk tol opn)) (CW ct ad da nd nb nf bdk num spt val tim rep byN byS pk kn pe clk tol opn) [(0, .ref (ad 0)), (1, .int (x))] 0 []
  refine V.iload_n F d_T_deskAt_0 rfl 1 rfl ?_
  refine V.if_lt (x := x) (tgt := 21) F d_T_deskAt_1 (by decide) (fun c1 => ?_) (fun c1 => ?_)
  · skip
    refine V.null F d_T_deskAt_21 ?_
    exact V.aret (v := none) F hr d_T_deskAt_22 (⟨rfl, rfl⟩)
  · skip
    refine V.iload_n F d_T_deskAt_4 rfl 1 rfl ?_
    refine V.aload_n F d_T_deskAt_5 rfl 0 rfl ?_
    refine V.get F ck_T d_T_deskAt_6 4 (by decide) lk_T_33 0 rfl rfl ?_
    refine V.icmp_ge (x := x) (y := nI (nd)) (tgt := 21) F d_T_deskAt_9 (by decide) (fun c9 => ?_) (fun c9 => ?_)
    · skip
      refine V.null F d_T_deskAt_21 ?_
      exact V.aret (v := none) F hr d_T_deskAt_22 (⟨rfl, rfl⟩)
    · skip
      exact absurd c9 (fun q => hx.elim c1 (fun z => q z))

set_option maxHeartbeats 4000000 in
set_option maxRecDepth 100000 in
theorem c_nnYes (l : Launch) (D : va_G) {ct : Nat → ClassId} {ad : Nat → Nat} {da : Nat → Nat → Nat} {nd : Nat} {nb : Nat} {nf : Nat} {bdk : Nat → Nat} {num : Nat → Nat} {spt : Nat → Nat} {val : Nat → Int64} {tim : Nat → Nat} {rep : Nat → Nat → Bool} {byN : Nat → Nat} {byS : Nat → Nat} {pk : Nat → Bool} {kn : Nat → Nat → Bool} {pe : Nat → Nat → Bool} {clk : Nat → Nat} {tol : Nat → Nat} {opn : Nat → Option Nat} (f : Nat) (hf : f < 300) : CI l y_T_numberOrNone b_T_numberOrNone 2 (some .int) (rmK 0 0 0) D (tyL ct) (CW ct ad da nd nb nf bdk num spt val tim rep byN byS pk kn pe clk tol opn) [.ref (ad 0), .int (nI (f))] 0 0 (fun r u => r = nI (num f) ∧ u = CW ct ad da nd nb nf bdk num spt val tim rep byN byS pk kn pe clk tol opn) := by
  refine CI.start (by decide) (Nat.le_of_ble_eq_true rfl) ?_
  intro p e s m below meth c F hr hnm
  show V p l e (rmK 0 0 0) s m [.ref (ad 0), .int (nI (f))].toArray below meth c D (va_A (CW ct ad da nd nb nf bdk num spt val tim rep byN byS pk kn pe clk tol opn) s.heap.size) 2 0 0 (EI D below (CW ct ad da nd nb nf bdk num spt val tim rep byN byS pk kn pe clk tol opn) [.ref (ad 0), .int (nI (f))].toArray s 0 0 (fun r u => r = nI (num f) ∧ u = CW ct ad da nd nb nf bdk num spt val tim rep byN byS pk kn pe clk tol opn)) (CW ct ad da nd nb nf bdk num spt val tim rep byN byS pk kn pe clk tol opn) [(0, .ref (ad 0)), (1, .int (nI (f)))] 0 []
  refine V.iload_n F d_T_numberOrNone_0 rfl 1 rfl ?_
  refine V.iconst F d_T_numberOrNone_1 (v := -1) (by decide) ?_
  refine V.icmp_ne (x := nI (f)) (y := -1) (tgt := 9) F d_T_numberOrNone_2 (by decide) (fun c2 => ?_) (fun c2 => ?_)
  · skip
    refine V.aload_n F d_T_numberOrNone_9 rfl 0 rfl ?_
    refine V.get F ck_T d_T_numberOrNone_10 2 (by decide) lk_T_22 0 rfl rfl ?_
    refine V.getN F ck_A d_T_numberOrNone_13 0 (by decide) lk_T_158 3 rfl rfl ?_
    refine V.iload_n F d_T_numberOrNone_16 rfl 1 rfl ?_
    refine V.iald (v := nI (num (f))) F d_T_numberOrNone_17 4 0 rfl rfl (by omega) (by decide) rfl ?_
    exact V.iret F hr d_T_numberOrNone_18 (⟨rfl, rfl⟩)
  · skip
    exact absurd c2 (nI_nm1 (by omega))

set_option maxHeartbeats 4000000 in
set_option maxRecDepth 100000 in
theorem c_nnNo (l : Launch) (D : va_G) {ct : Nat → ClassId} {ad : Nat → Nat} {da : Nat → Nat → Nat} {nd : Nat} {nb : Nat} {nf : Nat} {bdk : Nat → Nat} {num : Nat → Nat} {spt : Nat → Nat} {val : Nat → Int64} {tim : Nat → Nat} {rep : Nat → Nat → Bool} {byN : Nat → Nat} {byS : Nat → Nat} {pk : Nat → Bool} {kn : Nat → Nat → Bool} {pe : Nat → Nat → Bool} {clk : Nat → Nat} {tol : Nat → Nat} {opn : Nat → Option Nat} : CI l y_T_numberOrNone b_T_numberOrNone 2 (some .int) (rmK 0 0 0) D (tyL ct) (CW ct ad da nd nb nf bdk num spt val tim rep byN byS pk kn pe clk tol opn) [.ref (ad 0), .int (-1)] 0 0 (fun r u => r = -1 ∧ u = CW ct ad da nd nb nf bdk num spt val tim rep byN byS pk kn pe clk tol opn) := by
  refine CI.start (by decide) (Nat.le_of_ble_eq_true rfl) ?_
  intro p e s m below meth c F hr hnm
  show V p l e (rmK 0 0 0) s m [.ref (ad 0), .int (-1)].toArray below meth c D (va_A (CW ct ad da nd nb nf bdk num spt val tim rep byN byS pk kn pe clk tol opn) s.heap.size) 2 0 0 (EI D below (CW ct ad da nd nb nf bdk num spt val tim rep byN byS pk kn pe clk tol opn) [.ref (ad 0), .int (-1)].toArray s 0 0 (fun r u => r = -1 ∧ u = CW ct ad da nd nb nf bdk num spt val tim rep byN byS pk kn pe clk tol opn)) (CW ct ad da nd nb nf bdk num spt val tim rep byN byS pk kn pe clk tol opn) [(0, .ref (ad 0)), (1, .int (-1))] 0 []
  refine V.iload_n F d_T_numberOrNone_0 rfl 1 rfl ?_
  refine V.iconst F d_T_numberOrNone_1 (v := -1) (by decide) ?_
  refine V.icmp_ne (x := -1) (y := -1) (tgt := 9) F d_T_numberOrNone_2 (by decide) (fun c2 => ?_) (fun c2 => ?_)
  · skip
    exact absurd rfl c2
  · skip
    refine V.iconst F d_T_numberOrNone_5 (v := -1) (by decide) ?_
    refine V.goto (tgt := 18) F d_T_numberOrNone_6 (by decide) ?_
    exact V.iret F hr d_T_numberOrNone_18 (⟨rfl, rfl⟩)

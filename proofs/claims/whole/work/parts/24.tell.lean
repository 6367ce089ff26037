def knH (opn : Nat → Option Nat) (kn : Nat → Nat → Bool) (d n : Nat) : Nat → Nat → Bool := match opn d with
  | none => va_up kn d (fun k => kn d k || decide (k = n))
  | some _ => kn
def peH (opn : Nat → Option Nat) (pe : Nat → Nat → Bool) (d n : Nat) : Nat → Nat → Bool := match opn d with
  | none => pe
  | some _ => va_up pe d (fun k => pe d k || decide (k = n))
theorem c_hear (l : Launch) (D : va_G) {ct : Nat → ClassId} {ad : Nat → Nat} {da : Nat → Nat → Nat} {nd : Nat} {nb : Nat} {nf : Nat} {bdk : Nat → Nat} {num : Nat → Nat} {spt : Nat → Nat} {val : Nat → Int64} {tim : Nat → Nat} {rep : Nat → Nat → Bool} {byN : Nat → Nat} {byS : Nat → Nat} {pk : Nat → Bool} {kn : Nat → Nat → Bool} {pe : Nat → Nat → Bool} {clk : Nat → Nat} {tol : Nat → Nat} {opn : Nat → Option Nat} (d : Nat) (hd0 : d < nd) (n : Nat) (hn : n < 300) (hob : ∀ b0, opn d = some b0 → b0 < 2 ^ 31) : CV l y_K_hear b_K_hear 2 none (rmK 2 0 0) D (tyL ct) (CW ct ad da nd nb nf bdk num spt val tim rep byN byS pk kn pe clk tol opn) [.ref (da (d) 0), .int (nI (n))] 0 0 (fun u => u = CW ct ad da nd nb nf bdk num spt val tim rep byN byS pk (knH opn kn d n) (peH opn pe d n) (va_up clk (d) ((clk (d)) + (1))) (va_up tol (d) ((tol (d)) + (1))) opn) := by
  unfold knH peH
  cases ho : opn d with
  | none => exact c_hearK l D d hd0 n hn ho
  | some b0 => exact c_hearP l D d hd0 n hn b0 ho (hob b0 ho)

set_option maxHeartbeats 4000000 in
set_option maxRecDepth 100000 in
theorem c_tellRFull (l : Launch) (D : va_G) {ct : Nat → ClassId} {ad : Nat → Nat} {da : Nat → Nat → Nat} {nd : Nat} {nb : Nat} {nf : Nat} {bdk : Nat → Nat} {num : Nat → Nat} {spt : Nat → Nat} {val : Nat → Int64} {tim : Nat → Nat} {rep : Nat → Nat → Bool} {byN : Nat → Nat} {byS : Nat → Nat} {pk : Nat → Bool} {kn : Nat → Nat → Bool} {pe : Nat → Nat → Bool} {clk : Nat → Nat} {tol : Nat → Nat} {opn : Nat → Option Nat} (d : Nat) (hd0 : d < nd) (sp : Nat) (v : Int64) (hnf : nf = 300) : CI l y_T_tellReplacing b_T_tellReplacing 8 (some .int) (rmK 3 0 0) D (tyL ct) (CW ct ad da nd nb nf bdk num spt val tim rep byN byS pk kn pe clk tol opn) [.ref (ad 0), .ref (da (d) 0), .int (nI (sp)), .long (v), .ref (ad 11)] 0 0 (fun r u => r = -2 ∧ u = CW ct ad da nd nb nf bdk num spt val tim rep byN byS pk kn pe clk tol opn) := by
  refine CI.start (by decide) (Nat.le_of_ble_eq_true rfl) ?_
  intro p e s m below meth c F hr hnm
  show V p l e (rmK 3 0 0) s m [.ref (ad 0), .ref (da (d) 0), .int (nI (sp)), .long (v), .ref (ad 11)].toArray below meth c D (va_A (CW ct ad da nd nb nf bdk num spt val tim rep byN byS pk kn pe clk tol opn) s.heap.size) 8 0 0 (EI D below (CW ct ad da nd nb nf bdk num spt val tim rep byN byS pk kn pe clk tol opn) [.ref (ad 0), .ref (da (d) 0), .int (nI (sp)), .long (v), .ref (ad 11)].toArray s 0 0 (fun r u => r = -2 ∧ u = CW ct ad da nd nb nf bdk num spt val tim rep byN byS pk kn pe clk tol opn)) (CW ct ad da nd nb nf bdk num spt val tim rep byN byS pk kn pe clk tol opn) [(0, .ref (ad 0)), (1, .ref (da (d) 0)), (2, .int (nI (sp))), (3, .long (v)), (5, .ref (ad 11))] 0 []
  refine V.aload_n F d_T_tellReplacing_0 rfl 1 rfl ?_
  refine V.callVI0 (As := []) (rest := []) F (c_nextNumber l D d hd0) d_T_tellReplacing_1 sv_T_165 im_y_K_nextNumber sl_y_K_nextNumber (13 + (5 * (d) + 0)) (cw_d0 hd0) rfl rfl rfl rfl (Nat.le_of_ble_eq_true rfl) ⟨rfl, rfl, (Nat.le_of_ble_eq_true rfl), (Nat.le_of_ble_eq_true rfl)⟩ ⟨(Nat.le_of_ble_eq_true rfl), (Nat.le_of_ble_eq_true rfl)⟩ (fun r9 u9 h9 => ?_)
  obtain ⟨rfl, rfl⟩ := h9
  refine V.istore (lv2 := [(6, .int (nI (8 * tol d + d))), (0, .ref (ad 0)), (1, .ref (da (d) 0)), (2, .int (nI (sp))), (3, .long (v)), (5, .ref (ad 11))]) F d_T_tellReplacing_4 (by decide) rfl ?_
  refine V.aload_n F d_T_tellReplacing_6 rfl 1 rfl ?_
  refine V.get F ck_T d_T_tellReplacing_7 2 (by decide) lk_T_22 0 rfl rfl ?_
  refine V.iload F d_T_tellReplacing_10 0 rfl ?_
  refine V.iload_n F d_T_tellReplacing_12 rfl 3 rfl ?_
  refine V.lload_n F d_T_tellReplacing_13 rfl 4 rfl ?_
  refine V.aload_n F d_T_tellReplacing_14 rfl 2 rfl ?_
  refine V.callVI0 (As := []) (rest := [.long (v), .int (nI (sp)), .int (nI (8 * tol d + d)), .ref (ad 3)]) F (c_nextTime l D d hd0) d_T_tellReplacing_15 sv_T_168 im_y_K_nextTime sl_y_K_nextTime (13 + (5 * (d) + 0)) (cw_d0 hd0) rfl rfl rfl rfl (Nat.le_of_ble_eq_true rfl) ⟨rfl, rfl, (Nat.le_of_ble_eq_true rfl), (Nat.le_of_ble_eq_true rfl)⟩ ⟨(Nat.le_of_ble_eq_true rfl), (Nat.le_of_ble_eq_true rfl)⟩ (fun r9 u9 h9 => ?_)
  obtain ⟨rfl, rfl⟩ := h9
  refine V.aload F d_T_tellReplacing_18 5 rfl ?_
  refine V.callVI0 (As := [.int (nI (8 * tol d + d)), .int (nI (sp)), .long (v), .int (nI (clk d + 1)), .ref (ad 11)]) (rest := []) F (c_appendFull l D _ sp _ v hnf) d_T_tellReplacing_20 sv_T_171 im_y_A_append sl_y_A_append 3 rfl rfl rfl rfl rfl (Nat.le_of_ble_eq_true rfl) ⟨rfl, rfl, (Nat.le_of_ble_eq_true rfl), (Nat.le_of_ble_eq_true rfl)⟩ ⟨(Nat.le_of_ble_eq_true rfl), (Nat.le_of_ble_eq_true rfl)⟩ (fun r9 u9 h9 => ?_)
  obtain ⟨rfl, rfl⟩ := h9
  refine V.istore (lv2 := [(7, .int (-1)), (6, .int (nI (8 * tol d + d))), (0, .ref (ad 0)), (1, .ref (da (d) 0)), (2, .int (nI (sp))), (3, .long (v)), (5, .ref (ad 11))]) F d_T_tellReplacing_23 (by decide) rfl ?_
  refine V.iload F d_T_tellReplacing_25 0 rfl ?_
  refine V.iconst F d_T_tellReplacing_27 (v := -1) (by decide) ?_
  refine V.icmp_ne (x := -1) (y := -1) (tgt := 34) F d_T_tellReplacing_28 (by decide) (fun c28 => ?_) (fun c28 => ?_)
  · skip
    exact absurd rfl c28
  · skip
    refine V.bipush F d_T_tellReplacing_31 (v := -2) (by decide) ?_
    exact V.iret F hr d_T_tellReplacing_33 (⟨rfl, rfl⟩)

set_option maxHeartbeats 4000000 in
set_option maxRecDepth 100000 in
theorem c_tellR (l : Launch) (D : va_G) {ct : Nat → ClassId} {ad : Nat → Nat} {da : Nat → Nat → Nat} {nd : Nat} {nb : Nat} {nf : Nat} {bdk : Nat → Nat} {num : Nat → Nat} {spt : Nat → Nat} {val : Nat → Int64} {tim : Nat → Nat} {rep : Nat → Nat → Bool} {byN : Nat → Nat} {byS : Nat → Nat} {pk : Nat → Bool} {kn : Nat → Nat → Bool} {pe : Nat → Nat → Bool} {clk : Nat → Nat} {tol : Nat → Nat} {opn : Nat → Option Nat} (d : Nat) (hd0 : d < nd) (sp : Nat) (v : Int64) (hlt : nf < 300) (hbN : ∀ j, j < nf → byN j < nf) (hbS : ∀ j, j < nf → byS j < nf) (hnum : ∀ k, k < nf → num k < 2 ^ 31) (hspt : ∀ k, k < nf → spt k < 2 ^ 31) (hsp : sp < 2 ^ 31) (htol : tol d ≤ 300) (hnd : nd ≤ 8) (hob : ∀ b0, opn d = some b0 → b0 < 2 ^ 31) : CI l y_T_tellReplacing b_T_tellReplacing 8 (some .int) (rmK 3 0 0) D (tyL ct) (CW ct ad da nd nb nf bdk num spt val tim rep byN byS pk kn pe clk tol opn) [.ref (ad 0), .ref (da (d) 0), .int (nI (sp)), .long (v), .ref (ad 11)] 0 0 (fun r u => r = nI (8 * tol d + d) ∧ ∃ (Rp : Nat → Nat → Bool) (p1 p2 : Nat) (B1 B2 : Nat → Nat), (∀ o n, Rp o n = (rep o n || (decide (o < nf) && (pk o && decide (n = nf))))) ∧ (p1 ≤ nf ∧ (∀ j, j < p1 → B1 j = byN j) ∧ B1 p1 = nf ∧ (∀ j, p1 < j → j ≤ nf → B1 j = byN (j - 1)) ∧ (∀ j, p1 ≤ j → j < nf → va_up num nf (8 * tol d + d) nf < va_up num nf (8 * tol d + d) (byN j)) ∧ (∀ i, p1 = i + 1 → va_up num nf (8 * tol d + d) (byN i) ≤ va_up num nf (8 * tol d + d) nf)) ∧ (p2 ≤ nf ∧ (∀ j, j < p2 → B2 j = byS j) ∧ B2 p2 = nf ∧ (∀ j, p2 < j → j ≤ nf → B2 j = byS (j - 1)) ∧ (∀ j, p2 ≤ j → j < nf → va_up spt nf sp nf < va_up spt nf sp (byS j)) ∧ (∀ i, p2 = i + 1 → va_up spt nf sp (byS i) ≤ va_up spt nf sp nf)) ∧ u = CW ct ad da nd nb (nf + 1) bdk (va_up num nf (8 * tol d + d)) (va_up spt nf sp) (va_up val nf v) (va_up tim nf (clk d + 1)) Rp B1 B2 pk (knH opn kn d nf) (peH opn pe d nf) (va_up clk (d) ((clk (d)) + (1))) (va_up tol (d) ((tol (d)) + (1))) opn) := by
  refine CI.start (by decide) (Nat.le_of_ble_eq_true rfl) ?_
  intro p e s m below meth c F hr hnm
  show V p l e (rmK 3 0 0) s m [.ref (ad 0), .ref (da (d) 0), .int (nI (sp)), .long (v), .ref (ad 11)].toArray below meth c D (va_A (CW ct ad da nd nb nf bdk num spt val tim rep byN byS pk kn pe clk tol opn) s.heap.size) 8 0 0 (EI D below (CW ct ad da nd nb nf bdk num spt val tim rep byN byS pk kn pe clk tol opn) [.ref (ad 0), .ref (da (d) 0), .int (nI (sp)), .long (v), .ref (ad 11)].toArray s 0 0 (fun r u => r = nI (8 * tol d + d) ∧ ∃ (Rp : Nat → Nat → Bool) (p1 p2 : Nat) (B1 B2 : Nat → Nat), (∀ o n, Rp o n = (rep o n || (decide (o < nf) && (pk o && decide (n = nf))))) ∧ (p1 ≤ nf ∧ (∀ j, j < p1 → B1 j = byN j) ∧ B1 p1 = nf ∧ (∀ j, p1 < j → j ≤ nf → B1 j = byN (j - 1)) ∧ (∀ j, p1 ≤ j → j < nf → va_up num nf (8 * tol d + d) nf < va_up num nf (8 * tol d + d) (byN j)) ∧ (∀ i, p1 = i + 1 → va_up num nf (8 * tol d + d) (byN i) ≤ va_up num nf (8 * tol d + d) nf)) ∧ (p2 ≤ nf ∧ (∀ j, j < p2 → B2 j = byS j) ∧ B2 p2 = nf ∧ (∀ j, p2 < j → j ≤ nf → B2 j = byS (j - 1)) ∧ (∀ j, p2 ≤ j → j < nf → va_up spt nf sp nf < va_up spt nf sp (byS j)) ∧ (∀ i, p2 = i + 1 → va_up spt nf sp (byS i) ≤ va_up spt nf sp nf)) ∧ u = CW ct ad da nd nb (nf + 1) bdk (va_up num nf (8 * tol d + d)) (va_up spt nf sp) (va_up val nf v) (va_up tim nf (clk d + 1)) Rp B1 B2 pk (knH opn kn d nf) (peH opn pe d nf) (va_up clk (d) ((clk (d)) + (1))) (va_up tol (d) ((tol (d)) + (1))) opn)) (CW ct ad da nd nb nf bdk num spt val tim rep byN byS pk kn pe clk tol opn) [(0, .ref (ad 0)), (1, .ref (da (d) 0)), (2, .int (nI (sp))), (3, .long (v)), (5, .ref (ad 11))] 0 []
  refine V.aload_n F d_T_tellReplacing_0 rfl 1 rfl ?_
  refine V.callVI0 (As := []) (rest := []) F (c_nextNumber l D d hd0) d_T_tellReplacing_1 sv_T_165 im_y_K_nextNumber sl_y_K_nextNumber (13 + (5 * (d) + 0)) (cw_d0 hd0) rfl rfl rfl rfl (Nat.le_of_ble_eq_true rfl) ⟨rfl, rfl, (Nat.le_of_ble_eq_true rfl), (Nat.le_of_ble_eq_true rfl)⟩ ⟨(Nat.le_of_ble_eq_true rfl), (Nat.le_of_ble_eq_true rfl)⟩ (fun r9 u9 h9 => ?_)
  obtain ⟨rfl, rfl⟩ := h9
  refine V.istore (lv2 := [(6, .int (nI (8 * tol d + d))), (0, .ref (ad 0)), (1, .ref (da (d) 0)), (2, .int (nI (sp))), (3, .long (v)), (5, .ref (ad 11))]) F d_T_tellReplacing_4 (by decide) rfl ?_
  refine V.aload_n F d_T_tellReplacing_6 rfl 1 rfl ?_
  refine V.get F ck_T d_T_tellReplacing_7 2 (by decide) lk_T_22 0 rfl rfl ?_
  refine V.iload F d_T_tellReplacing_10 0 rfl ?_
  refine V.iload_n F d_T_tellReplacing_12 rfl 3 rfl ?_
  refine V.lload_n F d_T_tellReplacing_13 rfl 4 rfl ?_
  refine V.aload_n F d_T_tellReplacing_14 rfl 2 rfl ?_
  refine V.callVI0 (As := []) (rest := [.long (v), .int (nI (sp)), .int (nI (8 * tol d + d)), .ref (ad 3)]) F (c_nextTime l D d hd0) d_T_tellReplacing_15 sv_T_168 im_y_K_nextTime sl_y_K_nextTime (13 + (5 * (d) + 0)) (cw_d0 hd0) rfl rfl rfl rfl (Nat.le_of_ble_eq_true rfl) ⟨rfl, rfl, (Nat.le_of_ble_eq_true rfl), (Nat.le_of_ble_eq_true rfl)⟩ ⟨(Nat.le_of_ble_eq_true rfl), (Nat.le_of_ble_eq_true rfl)⟩ (fun r9 u9 h9 => ?_)
  obtain ⟨rfl, rfl⟩ := h9
  refine V.aload F d_T_tellReplacing_18 5 rfl ?_
  refine V.callVI0 (As := [.int (nI (8 * tol d + d)), .int (nI (sp)), .long (v), .int (nI (clk d + 1)), .ref (ad 11)]) (rest := []) F (c_append l D _ sp _ v hlt hbN hbS hnum hspt (by omega) hsp) d_T_tellReplacing_20 sv_T_171 im_y_A_append sl_y_A_append 3 rfl rfl rfl rfl rfl (Nat.le_of_ble_eq_true rfl) ⟨rfl, rfl, (Nat.le_of_ble_eq_true rfl), (Nat.le_of_ble_eq_true rfl)⟩ ⟨(Nat.le_of_ble_eq_true rfl), (Nat.le_of_ble_eq_true rfl)⟩ (fun r9 u9 h9 => ?_)
  obtain ⟨rfl, Rp, p1, p2, B1, B2, hR, hB1, hB2, rfl⟩ := h9
  refine V.istore (lv2 := [(7, .int (nI (nf))), (6, .int (nI (8 * tol d + d))), (0, .ref (ad 0)), (1, .ref (da (d) 0)), (2, .int (nI (sp))), (3, .long (v)), (5, .ref (ad 11))]) F d_T_tellReplacing_23 (by decide) rfl ?_
  refine V.iload F d_T_tellReplacing_25 0 rfl ?_
  refine V.iconst F d_T_tellReplacing_27 (v := -1) (by decide) ?_
  refine V.icmp_ne (x := nI (nf)) (y := -1) (tgt := 34) F d_T_tellReplacing_28 (by decide) (fun c28 => ?_) (fun c28 => ?_)
  · skip
    refine V.aload_n F d_T_tellReplacing_34 rfl 3 rfl ?_
    refine V.iload F d_T_tellReplacing_35 0 rfl ?_
    refine V.callVV0 (As := [.int (nI (nf))]) (rest := []) F (c_hear l D d hd0 nf (by omega) hob) d_T_tellReplacing_37 sv_T_175 im_y_K_hear sl_y_K_hear (13 + (5 * (d) + 0)) (cw_d0 hd0) rfl rfl rfl rfl (Nat.le_of_ble_eq_true rfl) ⟨rfl, rfl, (Nat.le_of_ble_eq_true rfl), (Nat.le_of_ble_eq_true rfl)⟩ ⟨(Nat.le_of_ble_eq_true rfl), (Nat.le_of_ble_eq_true rfl)⟩ (fun u9 h9 => ?_)
    obtain rfl := h9
    refine V.iload F d_T_tellReplacing_40 1 rfl ?_
    exact V.iret F hr d_T_tellReplacing_42 (⟨rfl, Rp, p1, p2, B1, B2, hR, hB1, hB2, rfl⟩)
  · skip
    exact absurd c28 (nI_nm1 (by omega))

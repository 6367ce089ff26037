def CWx (dc : Nat) (fa : Nat → Option Nat) (ct : Nat → ClassId) (ad : Nat → Nat) (da : Nat → Nat → Nat) (nd : Nat) (nb : Nat) (nf : Nat) (bdk : Nat → Nat) (num : Nat → Nat) (spt : Nat → Nat) (val : Nat → Int64) (tim : Nat → Nat) (rep : Nat → Nat → Bool) (byN : Nat → Nat) (byS : Nat → Nat) (pk : Nat → Bool) (kn : Nat → Nat → Bool) (pe : Nat → Nat → Bool) (clk : Nat → Nat) (tol : Nat → Nat) (opn : Nat → Option Nat) : va_W := [(ad 0, .inr (0, [.ref (ad 1), .ref (ad 2), .ref (ad 3), .ref (ad 11), .int (nI dc), .int (nI nb)])), (ad 1, .inl (ct 2, 8, .inr (.inr (.inr (.inr fa))))), (ad 2, aI ct 40 bdk), (ad 3, .inr (2, [.ref (ad 4), .ref (ad 5), .ref (ad 6), .ref (ad 7), .ref (ad 8), .ref (ad 9), .ref (ad 10), .int (nI nf)])), (ad 4, aI ct 300 num), (ad 5, aI ct 300 spt), (ad 6, aL ct 300 val), (ad 7, aI ct 300 tim), (ad 8, aL ct 1500 (rpW rep)), (ad 9, aI ct 300 byN), (ad 10, aI ct 300 byS), (ad 11, .inr (1, [.ref (ad 12)])), (ad 12, aL ct 5 (wd pk))] ++ fl (dkC ct da kn pe clk tol opn) nd
section CXS
variable {ct : Nat → ClassId} {ad : Nat → Nat} {da : Nat → Nat → Nat} {nd : Nat} {nb : Nat} {nf : Nat} {bdk : Nat → Nat} {num : Nat → Nat} {spt : Nat → Nat} {val : Nat → Int64} {tim : Nat → Nat} {rep : Nat → Nat → Bool} {byN : Nat → Nat} {byS : Nat → Nat} {pk : Nat → Bool} {kn : Nat → Nat → Bool} {pe : Nat → Nat → Bool} {clk : Nat → Nat} {tol : Nat → Nat} {opn : Nat → Option Nat}
theorem cx_0 : CW ct ad da nd nb nf bdk num spt val tim rep byN byS pk kn pe clk tol opn = CWx nd (dkA da nd) ct ad da nd nb nf bdk num spt val tim rep byN byS pk kn pe clk tol opn := rfl
theorem cx_len {dc : Nat} {fa : Nat → Option Nat} : (CWx dc fa ct ad da nd nb nf bdk num spt val tim rep byN byS pk kn pe clk tol opn).length = 13 + 5 * nd := by
  unfold CWx
  rw [List.length_append, fl_len (fun _ => rfl) nd]
  rfl
theorem cx_last {dc : Nat} {fa : Nat → Option Nat} {x : Nat × va_E} {T : va_W} : (CWx dc fa ct ad da nd nb nf bdk num spt val tim rep byN byS pk kn pe clk tol opn ++ (x :: T))[13 + 5 * nd]? = some x := by
  rw [List.getElem?_append_right (by rw [cx_len]; omega), cx_len, Nat.sub_self]
  rfl
def daN (da : Nat → Nat → Nat) (nd q a b c e : Nat) : Nat → Nat → Nat := fun i j => if i = nd then (if j = 0 then q else if j = 1 then a else if j = 2 then b else if j = 3 then c else e) else da i j
theorem desk_fin {q a b c e : Nat} (hk : kn nd = fun _ => false) (hp : pe nd = fun _ => false) (hc : clk nd = 0) (ht : tol nd = 0) : CWx (nd + 1) (va_up (dkA da nd) nd (some q)) ct ad da nd nb nf bdk num spt val tim rep byN byS pk kn pe clk tol opn ++ [(q, .inr (3, [.int (nI nd), .ref a, .ref c, .int 0, .int 0, .int (-1)])), (a, .inr (1, [.ref b])), (b, .inl (ct 1, 5, .inr (.inl (fun _ => 0)))), (c, .inr (1, [.ref e])), (e, .inl (ct 1, 5, .inr (.inl (fun _ => 0))))] = CW ct ad (daN da nd q a b c e) (nd + 1) nb nf bdk num spt val tim rep byN byS pk kn pe clk tol (va_up opn nd none) := by
  have e1 : dkA (daN da nd q a b c e) (nd + 1) = va_up (dkA da nd) nd (some q) := by
    funext j
    unfold dkA daN
    by_cases h : j = nd
    · subst h
      rw [va_up_self, if_pos (by omega), if_pos rfl, if_pos rfl]
    · rw [va_up_ne _ _ h]
      by_cases h2 : j < nd
      · rw [if_pos h2, if_pos (by omega), if_neg h]
      · rw [if_neg h2, if_neg (by omega)]
  have e2 : fl (dkC ct (daN da nd q a b c e) kn pe clk tol (va_up opn nd none)) nd = fl (dkC ct da kn pe clk tol opn) nd := fl_congr (fun i hi => by
    have hne : i ≠ nd := by omega
    have hd : ∀ j, daN da nd q a b c e i j = da i j := fun j => by unfold daN; rw [if_neg hne]
    simp only [dkC, hd, va_up_ne _ _ hne])
  have e3 : (wd fun _ => false) = fun _ => (0 : Int64) := funext fun w => wd_0 w
  have e4 : dkC ct (daN da nd q a b c e) kn pe clk tol (va_up opn nd none) nd = [(q, .inr (3, [.int (nI nd), .ref a, .ref c, .int 0, .int 0, .int (-1)])), (a, .inr (1, [.ref b])), (b, .inl (ct 1, 5, .inr (.inl (fun _ => 0)))), (c, .inr (1, [.ref e])), (e, .inl (ct 1, 5, .inr (.inl (fun _ => 0))))] := by
    have d0 : daN da nd q a b c e nd 0 = q := by simp [daN]
    have d1 : daN da nd q a b c e nd 1 = a := by simp [daN]
    have d2 : daN da nd q a b c e nd 2 = b := by simp [daN]
    have d3 : daN da nd q a b c e nd 3 = c := by simp [daN]
    have d4 : daN da nd q a b c e nd 4 = e := by simp [daN]
    simp only [dkC, d0, d1, d2, d3, d4, va_up_self, hk, hp, hc, ht, aL, e3]
    rfl
  unfold CWx CW
  rw [fl, e2, e4, e1, List.append_assoc]
end CXS
set_option maxHeartbeats 4000000 in
set_option maxRecDepth 100000 in
theorem c_deskFull (l : Launch) (D : va_G) {ct : Nat → ClassId} {ad : Nat → Nat} {da : Nat → Nat → Nat} {nd : Nat} {nb : Nat} {nf : Nat} {bdk : Nat → Nat} {num : Nat → Nat} {spt : Nat → Nat} {val : Nat → Int64} {tim : Nat → Nat} {rep : Nat → Nat → Bool} {byN : Nat → Nat} {byS : Nat → Nat} {pk : Nat → Bool} {kn : Nat → Nat → Bool} {pe : Nat → Nat → Bool} {clk : Nat → Nat} {tol : Nat → Nat} {opn : Nat → Option Nat} (hnd : nd = 8) : CI l y_T_desk b_T_desk 2 (some .int) (rmK 3 5 18) D (tyL ct) (CW ct ad da nd nb nf bdk num spt val tim rep byN byS pk kn pe clk tol opn) [.ref (ad 0)] 5 18 (fun r u => r = -2 ∧ u = CW ct ad da nd nb nf bdk num spt val tim rep byN byS pk kn pe clk tol opn) := by
  refine CI.start (by decide) (Nat.le_of_ble_eq_true rfl) ?_
  intro p e s m below meth c F hr hnm
  show V p l e (rmK 3 5 18) s m [.ref (ad 0)].toArray below meth c D (va_A (CW ct ad da nd nb nf bdk num spt val tim rep byN byS pk kn pe clk tol opn) s.heap.size) 2 0 0 (EI D below (CW ct ad da nd nb nf bdk num spt val tim rep byN byS pk kn pe clk tol opn) [.ref (ad 0)].toArray s 5 18 (fun r u => r = -2 ∧ u = CW ct ad da nd nb nf bdk num spt val tim rep byN byS pk kn pe clk tol opn)) (CW ct ad da nd nb nf bdk num spt val tim rep byN byS pk kn pe clk tol opn) [(0, .ref (ad 0))] 0 []
  refine V.aload_n F d_T_desk_0 rfl 0 rfl ?_
  refine V.get F ck_T d_T_desk_1 4 (by decide) lk_T_33 0 rfl rfl ?_
  refine V.bipush F d_T_desk_4 (v := nI (8)) (by decide) ?_
  refine V.icmp_ltN (tgt := 12) F d_T_desk_6 (by decide) (by omega) (by omega) (fun c6 => ?_) (fun c6 => ?_)
  · skip
    exact absurd c6 (by omega)
  · skip
    refine V.bipush F d_T_desk_9 (v := -2) (by decide) ?_
    refine V.widen (k := 5) (n := 18) (by decide) (by decide) ?_
    exact V.iret F hr d_T_desk_11 (⟨rfl, rfl⟩)

set_option maxHeartbeats 4000000 in
set_option maxRecDepth 100000 in
theorem c_desk (l : Launch) (D : va_G) {ct : Nat → ClassId} {ad : Nat → Nat} {da : Nat → Nat → Nat} {nd : Nat} {nb : Nat} {nf : Nat} {bdk : Nat → Nat} {num : Nat → Nat} {spt : Nat → Nat} {val : Nat → Int64} {tim : Nat → Nat} {rep : Nat → Nat → Bool} {byN : Nat → Nat} {byS : Nat → Nat} {pk : Nat → Bool} {kn : Nat → Nat → Bool} {pe : Nat → Nat → Bool} {clk : Nat → Nat} {tol : Nat → Nat} {opn : Nat → Option Nat} (hnd : nd < 8) (hk : kn nd = fun _ => false) (hp : pe nd = fun _ => false) (hc : clk nd = 0) (ht : tol nd = 0) : CI l y_T_desk b_T_desk 2 (some .int) (rmK 3 5 18) D (tyL ct) (CW ct ad da nd nb nf bdk num spt val tim rep byN byS pk kn pe clk tol opn) [.ref (ad 0)] 5 18 (fun r u => r = nI nd ∧ ∃ q a b c e : Nat, u = CW ct ad (daN da nd q a b c e) (nd + 1) nb nf bdk num spt val tim rep byN byS pk kn pe clk tol (va_up opn nd none)) := by
  refine CI.start (by decide) (Nat.le_of_ble_eq_true rfl) ?_
  intro p e s m below meth c F hr hnm
  show V p l e (rmK 3 5 18) s m [.ref (ad 0)].toArray below meth c D (va_A (CW ct ad da nd nb nf bdk num spt val tim rep byN byS pk kn pe clk tol opn) s.heap.size) 2 0 0 (EI D below (CW ct ad da nd nb nf bdk num spt val tim rep byN byS pk kn pe clk tol opn) [.ref (ad 0)].toArray s 5 18 (fun r u => r = nI nd ∧ ∃ q a b c e : Nat, u = CW ct ad (daN da nd q a b c e) (nd + 1) nb nf bdk num spt val tim rep byN byS pk kn pe clk tol (va_up opn nd none))) (CW ct ad da nd nb nf bdk num spt val tim rep byN byS pk kn pe clk tol opn) [(0, .ref (ad 0))] 0 []
  refine V.aload_n F d_T_desk_0 rfl 0 rfl ?_
  refine V.get F ck_T d_T_desk_1 4 (by decide) lk_T_33 0 rfl rfl ?_
  refine V.bipush F d_T_desk_4 (v := nI (8)) (by decide) ?_
  refine V.icmp_ltN (tgt := 12) F d_T_desk_6 (by decide) (by omega) (by omega) (fun c6 => ?_) (fun c6 => ?_)
  · skip
    refine V.aload_n F d_T_desk_12 rfl 0 rfl ?_
    refine V.get F ck_T d_T_desk_13 4 (by decide) lk_T_33 0 rfl rfl ?_
    refine V.istore_n (lv2 := [(1, .int (nI (nd))), (0, .ref (ad 0))]) F d_T_desk_16 rfl (by decide) rfl ?_
    refine V.aload_n F d_T_desk_17 rfl 1 rfl ?_
    refine V.get F ck_T d_T_desk_18 0 (by decide) lk_T_11 0 rfl rfl ?_
    refine V.iload_n F d_T_desk_21 rfl 0 rfl ?_
    refine V.ws_eq (ws2 := CWx (nd) (dkA da nd) ct ad da nd nb nf bdk num spt val tim rep byN byS pk kn pe clk tol opn) cx_0 ?_
    refine V.new F ck_K d_T_desk_22 lk_T_9 ins_K ini_K (fs := [.int (0), .null, .null, .int (0), .int (0), .int (0)]) (fun j hj => by rcases (show j = 0 ∨ j = 1 ∨ j = 2 ∨ j = 3 ∨ j = 4 ∨ j = 5 by omega) with rfl | rfl | rfl | rfl | rfl | rfl <;> rfl) (Nat.le_of_ble_eq_true rfl) (Nat.le_of_ble_eq_true rfl) (fun q1 => ?_)
    refine V.ws_eq (ws2 := CWx (nd) (dkA da nd) ct ad da nd nb nf bdk num spt val tim rep byN byS pk kn pe clk tol opn ++ [(q1, .inr (3, [.int (0), .null, .null, .int (0), .int (0), .int (0)]))]) rfl ?_
    refine V.dup F d_T_desk_25 rfl ?_
    refine V.iload_n F d_T_desk_26 rfl 0 rfl ?_
    refine V.callIV (As := [.int (nI (nd))]) (rest := [.ref (q1), .int (nI (nd)), .ref (ad 1)]) F (i_K l D q1 nd) d_T_desk_27 sv_T_37 im_y_K_init rfl (CWx (nd) (dkA da nd) ct ad da nd nb nf bdk num spt val tim rep byN byS pk kn pe clk tol opn) [] (by rw [List.append_nil]) rfl rfl (Nat.le_of_ble_eq_true rfl) ⟨rfl, rfl, (Nat.le_of_ble_eq_true rfl), (Nat.le_of_ble_eq_true rfl)⟩ ⟨(Nat.le_of_ble_eq_true rfl), (Nat.le_of_ble_eq_true rfl)⟩ (fun u9 h9 => ?_)
    obtain ⟨a, b, c9, e9, rfl⟩ := h9
    refine V.ws_eq (ws2 := CWx (nd) (dkA da nd) ct ad da nd nb nf bdk num spt val tim rep byN byS pk kn pe clk tol opn ++ [(q1, .inr (3, [.int (nI (nd)), .ref (a), .ref (c9), .int (0), .int (0), .int (-1)])), (a, .inr (1, [.ref (b)])), (b, .inl (ct 1, 5, .inr (.inl (fun _ => 0)))), (c9, .inr (1, [.ref (e9)])), (e9, .inl (ct 1, 5, .inr (.inl (fun _ => 0))))]) (by rw [List.append_nil]) ?_
    refine V.astq (r := (R_K, F_K, 6)) (ws2 := CWx (nd) (va_up (dkA da nd) nd (some q1)) ct ad da nd nb nf bdk num spt val tim rep byN byS pk kn pe clk tol opn ++ [(q1, .inr (3, [.int (nI (nd)), .ref (a), .ref (c9), .int (0), .int (0), .int (-1)])), (a, .inr (1, [.ref (b)])), (b, .inl (ct 1, 5, .inr (.inl (fun _ => 0)))), (c9, .inr (1, [.ref (e9)])), (e9, .inl (ct 1, 5, .inr (.inl (fun _ => 0))))]) F d_T_desk_30 1 2 (13 + 5 * nd) rfl rfl cx_last rfl (by omega) (by decide) rfl ?_
    refine V.aload_n F d_T_desk_31 rfl 1 rfl ?_
    refine V.dup F d_T_desk_32 rfl ?_
    refine V.get F ck_T d_T_desk_33 4 (by decide) lk_T_33 0 rfl rfl ?_
    refine V.iconst F d_T_desk_36 (v := nI (1)) (by decide) ?_
    refine V.iaddN F d_T_desk_37 ?_
    refine V.put (ws2 := CWx ((nd) + (1)) (va_up (dkA da nd) nd (some q1)) ct ad da nd nb nf bdk num spt val tim rep byN byS pk kn pe clk tol opn ++ [(q1, .inr (3, [.int (nI (nd)), .ref (a), .ref (c9), .int (0), .int (0), .int (-1)])), (a, .inr (1, [.ref (b)])), (b, .inl (ct 1, 5, .inr (.inl (fun _ => 0)))), (c9, .inr (1, [.ref (e9)])), (e9, .inl (ct 1, 5, .inr (.inl (fun _ => 0))))]) F ck_T d_T_desk_38 4 (by decide) lk_T_33 0 rfl rfl rfl rfl (Nat.le_of_ble_eq_true rfl) rfl ?_
    refine V.iload_n F d_T_desk_41 rfl 0 rfl ?_
    refine V.widen (k := 5) (n := 18) (by decide) (by decide) ?_
    exact V.iret F hr d_T_desk_42 (⟨rfl, q1, a, b, c9, e9, desk_fin hk hp hc ht⟩)
  · skip
    exact absurd c6 (by omega)

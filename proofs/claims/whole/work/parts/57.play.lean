abbrev Ab := (Nat) × (Nat → Nat) × (Nat → Nat) × (Nat → Int64) × (Nat → Nat) × (Nat → Nat → Bool) × (Nat → Nat → Bool) × (Nat → Nat) × (Nat → Nat) × (Nat → Nat) × (Nat → Nat) × (Nat → Nat) × (Nat → Option Nat)
def tellA (opn : Nat → Option Nat) (d t k y : Nat) (v : Int64) (a : Ab) : Ab := match a with
  | (nf, num, spt, val, tim, kn, pe, clk, tol, thg, knd, dy, bof) => if nf < 300 then (nf + 1, va_up num nf (8 * tol d + d), va_up spt nf ((t * 10 + k) * 100001 + y), va_up val nf v, va_up tim nf (clk d + 1), knH opn kn d nf, peH opn pe d nf, va_up clk d (clk d + 1), va_up tol d (tol d + 1), va_up thg nf t, va_up knd nf k, va_up dy nf y, va_up bof nf (opn d)) else (nf, num, spt, val, tim, kn, pe, clk, tol, thg, knd, dy, bof)
def joinA (d d2 : Nat) (a : Ab) : Ab := match a with
  | (nf, num, spt, val, tim, kn, pe, clk, tol, thg, knd, dy, bof) => if d2 = d then (nf, num, spt, val, tim, kn, pe, clk, tol, thg, knd, dy, bof) else (nf, num, spt, val, tim, jn kn d d2 nf, pe, va_up clk d (max (clk d) (clk d2)), tol, thg, knd, dy, bof)
def turnA (nd : Nat) (opn : Nat → Option Nat) (a : Ab) (x : Int64) : Ab × Int64 := if rnd (drw (drw x)) 4 < 3 then (tellA opn (rnd (drw x) nd) (rnd (drw (drw (drw x))) 4) (rnd (drw (drw (drw (drw x)))) 2) (rnd (drw (drw (drw (drw (drw x))))) 3) (lN (rnd (drw (drw (drw (drw (drw (drw x)))))) 5)) a, drw (drw (drw (drw (drw (drw x)))))) else (joinA (rnd (drw x) nd) (rnd (drw (drw (drw x))) nd) a, drw (drw (drw x)))
def itA (nd : Nat) (opn : Nat → Option Nat) (a : Ab) (x : Int64) : Nat → Ab × Int64
  | 0 => (a, x)
  | n + 1 => turnA nd opn (itA nd opn a x n).1 (itA nd opn a x n).2
def sm (f : Nat → Nat) : Nat → Nat
  | 0 => 0
  | n + 1 => sm f n + f n
theorem sm_congr {f g : Nat → Nat} : ∀ {n : Nat}, (∀ i, i < n → f i = g i) → sm f n = sm g n
  | 0, _ => rfl
  | n + 1, h => by rw [sm, sm, sm_congr (fun i hi => h i (by omega)), h n (by omega)]
theorem rnd_lt (x : Int64) {b : Nat} (h : 0 < b) : rnd x b < b := Nat.mod_lt _ h
section TN
variable {nd : Nat} {opn : Nat → Option Nat} {nf : Nat} {num : Nat → Nat} {spt : Nat → Nat} {val : Nat → Int64} {tim : Nat → Nat} {kn : Nat → Nat → Bool} {pe : Nat → Nat → Bool} {clk : Nat → Nat} {tol : Nat → Nat} {thg : Nat → Nat} {knd : Nat → Nat} {dy : Nat → Nat} {bof : Nat → Option Nat} {x : Int64}
theorem tellA_lt {d t k y : Nat} {v : Int64} (h2 : nf < 300) : tellA opn d t k y v (nf, num, spt, val, tim, kn, pe, clk, tol, thg, knd, dy, bof) = (nf + 1, va_up num nf (8 * tol d + d), va_up spt nf ((t * 10 + k) * 100001 + y), va_up val nf v, va_up tim nf (clk d + 1), knH opn kn d nf, peH opn pe d nf, va_up clk d (clk d + 1), va_up tol d (tol d + 1), va_up thg nf t, va_up knd nf k, va_up dy nf y, va_up bof nf (opn d)) := if_pos h2
theorem tellA_ge {d t k y : Nat} {v : Int64} (h2 : nf = 300) : tellA opn d t k y v (nf, num, spt, val, tim, kn, pe, clk, tol, thg, knd, dy, bof) = (nf, num, spt, val, tim, kn, pe, clk, tol, thg, knd, dy, bof) := if_neg (by omega)
theorem joinA_ne {d d2 : Nat} (h2 : d2 ≠ d) : joinA d d2 (nf, num, spt, val, tim, kn, pe, clk, tol, thg, knd, dy, bof) = (nf, num, spt, val, tim, jn kn d d2 nf, pe, va_up clk d (max (clk d) (clk d2)), tol, thg, knd, dy, bof) := if_neg h2
theorem joinA_eq {d d2 : Nat} (h2 : d2 = d) : joinA d d2 (nf, num, spt, val, tim, kn, pe, clk, tol, thg, knd, dy, bof) = (nf, num, spt, val, tim, kn, pe, clk, tol, thg, knd, dy, bof) := if_pos h2
theorem tn_tell (h : rnd (drw (drw x)) 4 < 3) (h2 : nf < 300) {d t k y : Nat} {v : Int64} (hd : d = rnd (drw x) nd) (ht : t = rnd (drw (drw (drw x))) 4) (hk : k = rnd (drw (drw (drw (drw x)))) 2) (hy : y = rnd (drw (drw (drw (drw (drw x))))) 3) (hv : v = lN (rnd (drw (drw (drw (drw (drw (drw x)))))) 5)) : ((nf + 1, va_up num nf (8 * tol d + d), va_up spt nf ((t * 10 + k) * 100001 + y), va_up val nf v, va_up tim nf (clk d + 1), knH opn kn d nf, peH opn pe d nf, va_up clk d (clk d + 1), va_up tol d (tol d + 1), va_up thg nf t, va_up knd nf k, va_up dy nf y, va_up bof nf (opn d)), drw (drw (drw (drw (drw (drw x)))))) = turnA nd opn (nf, num, spt, val, tim, kn, pe, clk, tol, thg, knd, dy, bof) x := by
  subst hd ht hk hy hv
  unfold turnA
  rw [if_pos h, tellA_lt h2]
theorem tn_full (h : rnd (drw (drw x)) 4 < 3) (h2 : nf = 300) : ((nf, num, spt, val, tim, kn, pe, clk, tol, thg, knd, dy, bof), drw (drw (drw (drw (drw (drw x)))))) = turnA nd opn (nf, num, spt, val, tim, kn, pe, clk, tol, thg, knd, dy, bof) x := by
  unfold turnA
  rw [if_pos h, tellA_ge h2]
theorem tn_join (h : 3 ≤ rnd (drw (drw x)) 4) {d d2 : Nat} (hd : d = rnd (drw x) nd) (hd2 : d2 = rnd (drw (drw (drw x))) nd) (h2 : d2 ≠ d) : ((nf, num, spt, val, tim, jn kn d d2 nf, pe, va_up clk d (max (clk d) (clk d2)), tol, thg, knd, dy, bof), drw (drw (drw x))) = turnA nd opn (nf, num, spt, val, tim, kn, pe, clk, tol, thg, knd, dy, bof) x := by
  subst hd hd2
  unfold turnA
  rw [if_neg (by omega), joinA_ne h2]
theorem tn_same (h : 3 ≤ rnd (drw (drw x)) 4) (h2 : rnd (drw (drw (drw x))) nd = rnd (drw x) nd) : ((nf, num, spt, val, tim, kn, pe, clk, tol, thg, knd, dy, bof), drw (drw (drw x))) = turnA nd opn (nf, num, spt, val, tim, kn, pe, clk, tol, thg, knd, dy, bof) x := by
  unfold turnA
  rw [if_neg (by omega), joinA_eq h2]
theorem it_succ {n : Nat} {a b : Ab} {x0 z : Int64} (h : (a, x) = itA nd opn b x0 n) {a2 : Ab} (h2 : (a2, z) = turnA nd opn a x) : (a2, z) = itA nd opn b x0 (n + 1) := by
  rw [itA, ← h]
  exact h2
end TN
theorem ap_l {X Y : va_W} {k : Nat} {v : Nat × va_E} (h : X[k]? = some v) : (X ++ Y)[k]? = some v := by
  obtain ⟨hk, _⟩ := List.getElem?_eq_some_iff.mp h
  rw [List.getElem?_append_left hk, h]
section CLA
variable {ct : Nat → ClassId} {ad : Nat → Nat} {da : Nat → Nat → Nat} {nd : Nat} {nb : Nat} {nf : Nat} {bdk : Nat → Nat} {num : Nat → Nat} {spt : Nat → Nat} {val : Nat → Int64} {tim : Nat → Nat} {rep : Nat → Nat → Bool} {byN : Nat → Nat} {byS : Nat → Nat} {pk : Nat → Bool} {kn : Nat → Nat → Bool} {pe : Nat → Nat → Bool} {clk : Nat → Nat} {tol : Nat → Nat} {opn : Nat → Option Nat}
theorem cw_last {x : Nat × va_E} : (CW ct ad da nd nb nf bdk num spt val tim rep byN byS pk kn pe clk tol opn ++ [x])[13 + 5 * nd]? = some x := cx_last
theorem rp_same {Rp : Nat → Nat → Bool} (hnf : nf ≤ 300) (hR : ∀ o n, Rp o n = (rep o n || (decide (o < nf) && ((fun k => decide (5 ≤ k / 64) && pk k) o && decide (n = nf))))) : Rp = rep := by
  funext o9 n9
  rw [hR o9 n9]
  show (rep o9 n9 || (decide (o9 < nf) && ((decide (5 ≤ o9 / 64) && pk o9) && decide (n9 = nf)))) = rep o9 n9
  by_cases q : o9 < nf
  · rw [show (decide (5 ≤ o9 / 64) && pk o9) = false by rw [decide_eq_false (by omega)]; rfl, Bool.false_and, Bool.and_false, Bool.or_false]
  · rw [decide_eq_false q, Bool.false_and, Bool.or_false]
end CLA
set_option maxHeartbeats 4000000 in
set_option maxRecDepth 100000 in
theorem c_turn (l : Launch) (D : va_G) {ct : Nat → ClassId} {ad : Nat → Nat} {da : Nat → Nat → Nat} {nd : Nat} {nb : Nat} {nf : Nat} {bdk : Nat → Nat} {num : Nat → Nat} {spt : Nat → Nat} {val : Nat → Int64} {tim : Nat → Nat} {rep : Nat → Nat → Bool} {byN : Nat → Nat} {byS : Nat → Nat} {pk : Nat → Bool} {kn : Nat → Nat → Bool} {pe : Nat → Nat → Bool} {clk : Nat → Nat} {tol : Nat → Nat} {opn : Nat → Option Nat} {thg : Nat → Nat} {knd : Nat → Nat} {dy : Nat → Nat} {bof : Nat → Option Nat} (dr : Nat) (x : Int64) (hI : Inv nd nb nf bdk num spt tim rep kn pe clk tol opn thg knd dy bof) (hO : Ord nf num spt byN byS) (h0 : 0 < nd) : CV l y_T_playTurn b_T_playTurn 7 none (rmK 5 0 0) D (tyL ct) (CW ct ad da nd nb nf bdk num spt val tim rep byN byS pk kn pe clk tol opn ++ [(dr, .inr (4, [.long (x)]))]) [.ref (ad 0), .ref (dr)] 0 0 (fun u => ∃ (nf1 : Nat) (num1 : Nat → Nat) (spt1 : Nat → Nat) (val1 : Nat → Int64) (tim1 : Nat → Nat) (kn1 : Nat → Nat → Bool) (pe1 : Nat → Nat → Bool) (clk1 : Nat → Nat) (tol1 : Nat → Nat) (thg1 : Nat → Nat) (knd1 : Nat → Nat) (dy1 : Nat → Nat) (bof1 : Nat → Option Nat) (byN1 : Nat → Nat) (byS1 : Nat → Nat) (pk1 : Nat → Bool) (x1 : Int64), ((nf1, num1, spt1, val1, tim1, kn1, pe1, clk1, tol1, thg1, knd1, dy1, bof1), x1) = turnA nd opn (nf, num, spt, val, tim, kn, pe, clk, tol, thg, knd, dy, bof) x ∧ Inv nd nb nf1 bdk num1 spt1 tim1 rep kn1 pe1 clk1 tol1 opn thg1 knd1 dy1 bof1 ∧ Ord nf1 num1 spt1 byN1 byS1 ∧ u = CW ct ad da nd nb nf1 bdk num1 spt1 val1 tim1 rep byN1 byS1 pk1 kn1 pe1 clk1 tol1 opn ++ [(dr, .inr (4, [.long x1]))]) := by
  refine CV.start (by decide) (Nat.le_of_ble_eq_true rfl) ?_
  intro p e s m below meth c F hr hnm
  show V p l e (rmK 5 0 0) s m [.ref (ad 0), .ref (dr)].toArray below meth c D (va_A (CW ct ad da nd nb nf bdk num spt val tim rep byN byS pk kn pe clk tol opn ++ [(dr, .inr (4, [.long (x)]))]) s.heap.size) 7 0 0 (EV D below (CW ct ad da nd nb nf bdk num spt val tim rep byN byS pk kn pe clk tol opn ++ [(dr, .inr (4, [.long (x)]))]) [.ref (ad 0), .ref (dr)].toArray s 0 0 (fun u => ∃ (nf1 : Nat) (num1 : Nat → Nat) (spt1 : Nat → Nat) (val1 : Nat → Int64) (tim1 : Nat → Nat) (kn1 : Nat → Nat → Bool) (pe1 : Nat → Nat → Bool) (clk1 : Nat → Nat) (tol1 : Nat → Nat) (thg1 : Nat → Nat) (knd1 : Nat → Nat) (dy1 : Nat → Nat) (bof1 : Nat → Option Nat) (byN1 : Nat → Nat) (byS1 : Nat → Nat) (pk1 : Nat → Bool) (x1 : Int64), ((nf1, num1, spt1, val1, tim1, kn1, pe1, clk1, tol1, thg1, knd1, dy1, bof1), x1) = turnA nd opn (nf, num, spt, val, tim, kn, pe, clk, tol, thg, knd, dy, bof) x ∧ Inv nd nb nf1 bdk num1 spt1 tim1 rep kn1 pe1 clk1 tol1 opn thg1 knd1 dy1 bof1 ∧ Ord nf1 num1 spt1 byN1 byS1 ∧ u = CW ct ad da nd nb nf1 bdk num1 spt1 val1 tim1 rep byN1 byS1 pk1 kn1 pe1 clk1 tol1 opn ++ [(dr, .inr (4, [.long x1]))])) (CW ct ad da nd nb nf bdk num spt val tim rep byN byS pk kn pe clk tol opn ++ [(dr, .inr (4, [.long (x)]))]) [(0, .ref (ad 0)), (1, .ref (dr))] 0 []
  have hnd := hI.1.1
  have hnf := hI.1.2.2.1
  have hd1 := rnd_lt (drw x) h0
  have hd2 := rnd_lt (drw (drw (drw x))) h0
  have k2 := rnd_lt (drw (drw x)) (b := 4) (by decide)
  have k3 := rnd_lt (drw (drw (drw x))) (b := 4) (by decide)
  have k4 := rnd_lt (drw (drw (drw (drw x)))) (b := 2) (by decide)
  have k5 := rnd_lt (drw (drw (drw (drw (drw x))))) (b := 3) (by decide)
  have k6 := rnd_lt (drw (drw (drw (drw (drw (drw x)))))) (b := 5) (by decide)
  refine V.aload_n F d_T_playTurn_0 rfl 1 rfl ?_
  refine V.aload_n F d_T_playTurn_1 rfl 0 rfl ?_
  refine V.get F ck_T d_T_playTurn_2 4 (by decide) lk_T_33 0 (ap_l rfl) rfl ?_
  refine V.callVI (As := [.int (nI (nd))]) (rest := []) F (c_below l D dr (x) (nd) h0 (by omega)) d_T_playTurn_5 sv_T_178 im_y_W_below sl_y_W_below (CW ct ad da nd nb nf bdk num spt val tim rep byN byS pk kn pe clk tol opn) [] (by rw [List.append_nil]) (13 + 5 * nd) cw_last rfl rfl rfl rfl (Nat.le_of_ble_eq_true rfl) ⟨rfl, rfl, (Nat.le_of_ble_eq_true rfl), (Nat.le_of_ble_eq_true rfl)⟩ ⟨(Nat.le_of_ble_eq_true rfl), (Nat.le_of_ble_eq_true rfl)⟩ (fun r9 u9 h9 => ?_)
  obtain ⟨rfl, rfl⟩ := h9
  refine V.ws_eq (ws2 := CW ct ad da nd nb nf bdk num spt val tim rep byN byS pk kn pe clk tol opn ++ [(dr, .inr (4, [.long (drw x)]))]) (by rw [List.append_nil]) ?_
  refine V.istore_n (lv2 := [(2, .int (nI (rnd (drw x) nd))), (0, .ref (ad 0)), (1, .ref (dr))]) F d_T_playTurn_8 rfl (by decide) rfl ?_
  refine V.aload_n F d_T_playTurn_9 rfl 2 rfl ?_
  refine V.iconst F d_T_playTurn_10 (v := nI (4)) (by decide) ?_
  refine V.callVI (As := [.int (nI (4))]) (rest := []) F (c_below l D dr (drw x) (4) (by decide) (by decide)) d_T_playTurn_11 sv_T_178 im_y_W_below sl_y_W_below (CW ct ad da nd nb nf bdk num spt val tim rep byN byS pk kn pe clk tol opn) [] (by rw [List.append_nil]) (13 + 5 * nd) cw_last rfl rfl rfl rfl (Nat.le_of_ble_eq_true rfl) ⟨rfl, rfl, (Nat.le_of_ble_eq_true rfl), (Nat.le_of_ble_eq_true rfl)⟩ ⟨(Nat.le_of_ble_eq_true rfl), (Nat.le_of_ble_eq_true rfl)⟩ (fun r9 u9 h9 => ?_)
  obtain ⟨rfl, rfl⟩ := h9
  refine V.ws_eq (ws2 := CW ct ad da nd nb nf bdk num spt val tim rep byN byS pk kn pe clk tol opn ++ [(dr, .inr (4, [.long (drw (drw x))]))]) (by rw [List.append_nil]) ?_
  refine V.iconst F d_T_playTurn_14 (v := nI (3)) (by decide) ?_
  refine V.icmp_geN (tgt := 63) F d_T_playTurn_15 (by decide) (by omega) (by omega) (fun c15 => ?_) (fun c15 => ?_)
  · skip
    refine V.aload_n F d_T_playTurn_63 rfl 1 rfl ?_
    refine V.iload_n F d_T_playTurn_64 rfl 0 rfl ?_
    refine V.aload_n F d_T_playTurn_65 rfl 2 rfl ?_
    refine V.aload_n F d_T_playTurn_66 rfl 1 rfl ?_
    refine V.get F ck_T d_T_playTurn_67 4 (by decide) lk_T_33 0 (ap_l rfl) rfl ?_
    refine V.callVI (As := [.int (nI (nd))]) (rest := [.int (nI (rnd (drw x) nd)), .ref (ad 0)]) F (c_below l D dr (drw (drw x)) (nd) h0 (by omega)) d_T_playTurn_70 sv_T_178 im_y_W_below sl_y_W_below (CW ct ad da nd nb nf bdk num spt val tim rep byN byS pk kn pe clk tol opn) [] (by rw [List.append_nil]) (13 + 5 * nd) cw_last rfl rfl rfl rfl (Nat.le_of_ble_eq_true rfl) ⟨rfl, rfl, (Nat.le_of_ble_eq_true rfl), (Nat.le_of_ble_eq_true rfl)⟩ ⟨(Nat.le_of_ble_eq_true rfl), (Nat.le_of_ble_eq_true rfl)⟩ (fun r9 u9 h9 => ?_)
    obtain ⟨rfl, rfl⟩ := h9
    refine V.ws_eq (ws2 := CW ct ad da nd nb nf bdk num spt val tim rep byN byS pk kn pe clk tol opn ++ [(dr, .inr (4, [.long (drw (drw (drw x)))]))]) (by rw [List.append_nil]) ?_
    by_cases hs : rnd (drw (drw (drw x))) nd = rnd (drw x) nd
    · skip
      refine V.st_eq (st2 := [.int (nI (rnd (drw x) nd)), .int (nI (rnd (drw x) nd)), .ref (ad 0)]) (by rw [hs]) ?_
      refine V.callVQ (As := [.int (nI (rnd (drw x) nd)), .int (nI (rnd (drw x) nd))]) (rest := []) F (c_joinedSame l D hnd (rnd (drw x) nd) hd1) d_T_playTurn_73 sv_T_78 im_y_T_joined sl_y_T_joined [] [(dr, .inr (4, [.long (drw (drw (drw x)))]))] rfl 0 (ap_l rfl) rfl rfl rfl rfl (Nat.le_of_ble_eq_true rfl) ⟨rfl, rfl, (Nat.le_of_ble_eq_true rfl), (Nat.le_of_ble_eq_true rfl)⟩ ⟨(Nat.le_of_ble_eq_true rfl), (Nat.le_of_ble_eq_true rfl)⟩ (fun r9 u9 h9 => ?_)
      obtain ⟨rfl, rfl⟩ := h9
      refine V.ws_eq (ws2 := CW ct ad da nd nb nf bdk num spt val tim rep byN byS pk kn pe clk tol opn ++ [(dr, .inr (4, [.long (drw (drw (drw x)))]))]) rfl ?_
      refine V.pop F d_T_playTurn_76 rfl ?_
      exact V.vret F hr d_T_playTurn_77 (⟨_, _, _, _, _, _, _, _, _, _, _, _, _, _, _, _, _, tn_same c15 hs, hI, hO, rfl⟩)
    · skip
      refine V.callVQ (As := [.int (nI (rnd (drw x) nd)), .int (nI (rnd (drw (drw (drw x))) nd))]) (rest := []) F (c_joined l D hnd (rnd (drw x) nd) hd1 (rnd (drw (drw (drw x))) nd) hd2 hs (hI.tolB _ hd1).2 (hI.tolB _ hd2).2) d_T_playTurn_73 sv_T_78 im_y_T_joined sl_y_T_joined [] [(dr, .inr (4, [.long (drw (drw (drw x)))]))] rfl 0 (ap_l rfl) rfl rfl rfl rfl (Nat.le_of_ble_eq_true rfl) ⟨rfl, rfl, (Nat.le_of_ble_eq_true rfl), (Nat.le_of_ble_eq_true rfl)⟩ ⟨(Nat.le_of_ble_eq_true rfl), (Nat.le_of_ble_eq_true rfl)⟩ (fun r9 u9 h9 => ?_)
      obtain ⟨rfl, rfl⟩ := h9
      refine V.ws_eq (ws2 := CW ct ad da nd nb nf bdk num spt val tim rep byN byS pk (va_up kn (rnd (drw x) nd) (fun k => kn (rnd (drw x) nd) k || (decide (k / 64 < 5) && kn (rnd (drw (drw (drw x))) nd) k))) pe (va_up clk (rnd (drw x) nd) (max (clk (rnd (drw x) nd)) (clk (rnd (drw (drw (drw x))) nd)))) tol opn ++ [(dr, .inr (4, [.long (drw (drw (drw x)))]))]) rfl ?_
      refine V.pop F d_T_playTurn_76 rfl ?_
      exact V.vret F hr d_T_playTurn_77 (⟨_, _, _, _, _, _, _, _, _, _, _, _, _, _, _, _, _, tn_join c15 rfl rfl hs, inv_join hI hd1 hd2, hO, by rw [jn_eq hI.2.2.2.2.1 hnf]⟩)
  · skip
    refine V.aload_n F d_T_playTurn_18 rfl 2 rfl ?_
    refine V.iconst F d_T_playTurn_19 (v := nI (4)) (by decide) ?_
    refine V.callVI (As := [.int (nI (4))]) (rest := []) F (c_below l D dr (drw (drw x)) (4) (by decide) (by decide)) d_T_playTurn_20 sv_T_178 im_y_W_below sl_y_W_below (CW ct ad da nd nb nf bdk num spt val tim rep byN byS pk kn pe clk tol opn) [] (by rw [List.append_nil]) (13 + 5 * nd) cw_last rfl rfl rfl rfl (Nat.le_of_ble_eq_true rfl) ⟨rfl, rfl, (Nat.le_of_ble_eq_true rfl), (Nat.le_of_ble_eq_true rfl)⟩ ⟨(Nat.le_of_ble_eq_true rfl), (Nat.le_of_ble_eq_true rfl)⟩ (fun r9 u9 h9 => ?_)
    obtain ⟨rfl, rfl⟩ := h9
    refine V.ws_eq (ws2 := CW ct ad da nd nb nf bdk num spt val tim rep byN byS pk kn pe clk tol opn ++ [(dr, .inr (4, [.long (drw (drw (drw x)))]))]) (by rw [List.append_nil]) ?_
    refine V.istore_n (lv2 := [(3, .int (nI (rnd (drw (drw (drw x))) 4))), (2, .int (nI (rnd (drw x) nd))), (0, .ref (ad 0)), (1, .ref (dr))]) F d_T_playTurn_23 rfl (by decide) rfl ?_
    refine V.aload_n F d_T_playTurn_24 rfl 3 rfl ?_
    refine V.iconst F d_T_playTurn_25 (v := nI (2)) (by decide) ?_
    refine V.callVI (As := [.int (nI (2))]) (rest := []) F (c_below l D dr (drw (drw (drw x))) (2) (by decide) (by decide)) d_T_playTurn_26 sv_T_178 im_y_W_below sl_y_W_below (CW ct ad da nd nb nf bdk num spt val tim rep byN byS pk kn pe clk tol opn) [] (by rw [List.append_nil]) (13 + 5 * nd) cw_last rfl rfl rfl rfl (Nat.le_of_ble_eq_true rfl) ⟨rfl, rfl, (Nat.le_of_ble_eq_true rfl), (Nat.le_of_ble_eq_true rfl)⟩ ⟨(Nat.le_of_ble_eq_true rfl), (Nat.le_of_ble_eq_true rfl)⟩ (fun r9 u9 h9 => ?_)
    obtain ⟨rfl, rfl⟩ := h9
    refine V.ws_eq (ws2 := CW ct ad da nd nb nf bdk num spt val tim rep byN byS pk kn pe clk tol opn ++ [(dr, .inr (4, [.long (drw (drw (drw (drw x))))]))]) (by rw [List.append_nil]) ?_
    refine V.istore (lv2 := [(4, .int (nI (rnd (drw (drw (drw (drw x)))) 2))), (3, .int (nI (rnd (drw (drw (drw x))) 4))), (2, .int (nI (rnd (drw x) nd))), (0, .ref (ad 0)), (1, .ref (dr))]) F d_T_playTurn_29 (by decide) rfl ?_
    refine V.aload_n F d_T_playTurn_31 rfl 4 rfl ?_
    refine V.iconst F d_T_playTurn_32 (v := nI (3)) (by decide) ?_
    refine V.callVI (As := [.int (nI (3))]) (rest := []) F (c_below l D dr (drw (drw (drw (drw x)))) (3) (by decide) (by decide)) d_T_playTurn_33 sv_T_178 im_y_W_below sl_y_W_below (CW ct ad da nd nb nf bdk num spt val tim rep byN byS pk kn pe clk tol opn) [] (by rw [List.append_nil]) (13 + 5 * nd) cw_last rfl rfl rfl rfl (Nat.le_of_ble_eq_true rfl) ⟨rfl, rfl, (Nat.le_of_ble_eq_true rfl), (Nat.le_of_ble_eq_true rfl)⟩ ⟨(Nat.le_of_ble_eq_true rfl), (Nat.le_of_ble_eq_true rfl)⟩ (fun r9 u9 h9 => ?_)
    obtain ⟨rfl, rfl⟩ := h9
    refine V.ws_eq (ws2 := CW ct ad da nd nb nf bdk num spt val tim rep byN byS pk kn pe clk tol opn ++ [(dr, .inr (4, [.long (drw (drw (drw (drw (drw x)))))]))]) (by rw [List.append_nil]) ?_
    refine V.istore (lv2 := [(5, .int (nI (rnd (drw (drw (drw (drw (drw x))))) 3))), (4, .int (nI (rnd (drw (drw (drw (drw x)))) 2))), (3, .int (nI (rnd (drw (drw (drw x))) 4))), (2, .int (nI (rnd (drw x) nd))), (0, .ref (ad 0)), (1, .ref (dr))]) F d_T_playTurn_36 (by decide) rfl ?_
    refine V.aload_n F d_T_playTurn_38 rfl 5 rfl ?_
    refine V.iconst F d_T_playTurn_39 (v := nI (5)) (by decide) ?_
    refine V.callVI (As := [.int (nI (5))]) (rest := []) F (c_below l D dr (drw (drw (drw (drw (drw x))))) (5) (by decide) (by decide)) d_T_playTurn_40 sv_T_178 im_y_W_below sl_y_W_below (CW ct ad da nd nb nf bdk num spt val tim rep byN byS pk kn pe clk tol opn) [] (by rw [List.append_nil]) (13 + 5 * nd) cw_last rfl rfl rfl rfl (Nat.le_of_ble_eq_true rfl) ⟨rfl, rfl, (Nat.le_of_ble_eq_true rfl), (Nat.le_of_ble_eq_true rfl)⟩ ⟨(Nat.le_of_ble_eq_true rfl), (Nat.le_of_ble_eq_true rfl)⟩ (fun r9 u9 h9 => ?_)
    obtain ⟨rfl, rfl⟩ := h9
    refine V.ws_eq (ws2 := CW ct ad da nd nb nf bdk num spt val tim rep byN byS pk kn pe clk tol opn ++ [(dr, .inr (4, [.long (drw (drw (drw (drw (drw (drw x))))))]))]) (by rw [List.append_nil]) ?_
    refine V.istore (lv2 := [(6, .int (nI (rnd (drw (drw (drw (drw (drw (drw x)))))) 5))), (5, .int (nI (rnd (drw (drw (drw (drw (drw x))))) 3))), (4, .int (nI (rnd (drw (drw (drw (drw x)))) 2))), (3, .int (nI (rnd (drw (drw (drw x))) 4))), (2, .int (nI (rnd (drw x) nd))), (0, .ref (ad 0)), (1, .ref (dr))]) F d_T_playTurn_43 (by decide) rfl ?_
    refine V.aload_n F d_T_playTurn_45 rfl 5 rfl ?_
    refine V.iload_n F d_T_playTurn_46 rfl 4 rfl ?_
    refine V.iload_n F d_T_playTurn_47 rfl 3 rfl ?_
    refine V.iload F d_T_playTurn_48 2 rfl ?_
    refine V.iload F d_T_playTurn_50 1 rfl ?_
    refine V.i2l F d_T_playTurn_52 (nI_l (by omega)) ?_
    refine V.iload F d_T_playTurn_53 0 rfl ?_
    refine V.i2l F d_T_playTurn_55 (nI_l (by omega)) ?_
    by_cases hlt : nf < 300
    · skip
      refine V.callVI (As := [.int (nI (rnd (drw x) nd)), .int (nI (rnd (drw (drw (drw x))) 4)), .int (nI (rnd (drw (drw (drw (drw x)))) 2)), .long (lN (rnd (drw (drw (drw (drw (drw x))))) 3)), .long (lN (rnd (drw (drw (drw (drw (drw (drw x)))))) 5))]) (rest := []) F (c_tell l D hnd (rnd (drw x) nd) hd1 (rnd (drw (drw (drw x))) 4) (rnd (drw (drw (drw (drw x)))) 2) (rnd (drw (drw (drw (drw (drw x))))) 3) (lN (rnd (drw (drw (drw (drw (drw (drw x)))))) 5)) (by omega) (by omega) (by omega) hlt hO.1 hO.2.2.2.1 hI.numB hI.sptB (hI.tolB _ hd1).1 (hI.opnB _ hd1)) d_T_playTurn_56 sv_T_181 im_y_T_tell sl_y_T_tell [] [(dr, .inr (4, [.long (drw (drw (drw (drw (drw (drw x))))))]))] rfl 0 (ap_l rfl) rfl rfl rfl rfl (Nat.le_of_ble_eq_true rfl) ⟨rfl, rfl, (Nat.le_of_ble_eq_true rfl), (Nat.le_of_ble_eq_true rfl)⟩ ⟨(Nat.le_of_ble_eq_true rfl), (Nat.le_of_ble_eq_true rfl)⟩ (fun r9 u9 h9 => ?_)
      obtain ⟨rfl, Rp, p1, p2, B1, B2, hR, hB1, hB2, rfl⟩ := h9
      rw [rp_same hnf hR]
      refine V.ws_eq (ws2 := CW ct ad da nd nb (nf + 1) bdk (va_up num nf (8 * tol (rnd (drw x) nd) + (rnd (drw x) nd))) (va_up spt nf (((rnd (drw (drw (drw x))) 4) * 10 + (rnd (drw (drw (drw (drw x)))) 2)) * 100001 + (rnd (drw (drw (drw (drw (drw x))))) 3))) (va_up val nf (lN (rnd (drw (drw (drw (drw (drw (drw x)))))) 5))) (va_up tim nf (clk (rnd (drw x) nd) + 1)) rep B1 B2 (fun k => decide (5 ≤ k / 64) && pk k) (knH opn kn (rnd (drw x) nd) nf) (peH opn pe (rnd (drw x) nd) nf) (va_up clk (rnd (drw x) nd) (clk (rnd (drw x) nd) + 1)) (va_up tol (rnd (drw x) nd) (tol (rnd (drw x) nd) + 1)) opn ++ [(dr, .inr (4, [.long (drw (drw (drw (drw (drw (drw x))))))]))]) rfl ?_
      refine V.pop F d_T_playTurn_59 rfl ?_
      refine V.goto (tgt := 77) F d_T_playTurn_60 (by decide) ?_
      exact V.vret F hr d_T_playTurn_77 (⟨_, _, _, _, _, _, _, _, _, _, _, _, _, _, _, _, _, tn_tell c15 hlt rfl rfl rfl rfl rfl, inv_tell hI hd1 hlt rfl (by omega) (by omega) (by omega) (fun o n q => by have := hI.2.2.2.2.2.2.2.2.2.2.1 o n q; omega), ord_tell hO (hI.fresh hd1) hB1 hB2, rfl⟩)
    · skip
      have hn3 : nf = 300 := by omega
      refine V.callVI (As := [.int (nI (rnd (drw x) nd)), .int (nI (rnd (drw (drw (drw x))) 4)), .int (nI (rnd (drw (drw (drw (drw x)))) 2)), .long (lN (rnd (drw (drw (drw (drw (drw x))))) 3)), .long (lN (rnd (drw (drw (drw (drw (drw (drw x)))))) 5))]) (rest := []) F (c_tellFull l D hnd (rnd (drw x) nd) hd1 (rnd (drw (drw (drw x))) 4) (rnd (drw (drw (drw (drw x)))) 2) (rnd (drw (drw (drw (drw (drw x))))) 3) (lN (rnd (drw (drw (drw (drw (drw (drw x)))))) 5)) (by omega) (by omega) (by omega) hn3) d_T_playTurn_56 sv_T_181 im_y_T_tell sl_y_T_tell [] [(dr, .inr (4, [.long (drw (drw (drw (drw (drw (drw x))))))]))] rfl 0 (ap_l rfl) rfl rfl rfl rfl (Nat.le_of_ble_eq_true rfl) ⟨rfl, rfl, (Nat.le_of_ble_eq_true rfl), (Nat.le_of_ble_eq_true rfl)⟩ ⟨(Nat.le_of_ble_eq_true rfl), (Nat.le_of_ble_eq_true rfl)⟩ (fun r9 u9 h9 => ?_)
      obtain ⟨rfl, rfl⟩ := h9
      refine V.ws_eq (ws2 := CW ct ad da nd nb nf bdk num spt val tim rep byN byS (fun k => decide (5 ≤ k / 64) && pk k) kn pe clk tol opn ++ [(dr, .inr (4, [.long (drw (drw (drw (drw (drw (drw x))))))]))]) rfl ?_
      refine V.pop F d_T_playTurn_59 rfl ?_
      refine V.goto (tgt := 77) F d_T_playTurn_60 (by decide) ?_
      exact V.vret F hr d_T_playTurn_77 (⟨_, _, _, _, _, _, _, _, _, _, _, _, _, _, _, _, _, tn_full c15 hn3, hI, hO, rfl⟩)

set_option maxHeartbeats 4000000 in
set_option maxRecDepth 100000 in
theorem c_playNo (l : Launch) (D : va_G) {ct : Nat → ClassId} {ad : Nat → Nat} {da : Nat → Nat → Nat} {nd : Nat} {nb : Nat} {nf : Nat} {bdk : Nat → Nat} {num : Nat → Nat} {spt : Nat → Nat} {val : Nat → Int64} {tim : Nat → Nat} {rep : Nat → Nat → Bool} {byN : Nat → Nat} {byS : Nat → Nat} {pk : Nat → Bool} {kn : Nat → Nat → Bool} {pe : Nat → Nat → Bool} {clk : Nat → Nat} {tol : Nat → Nat} {opn : Nat → Option Nat} (x : Int64) (n : Int32) (hnd : nd ≤ 8) (hz : nd = 0 ∨ n < 0 ∨ ¬ n ≤ nI 200) : CI l y_T_play b_T_play 7 (some .int) (rmK 6 1 1) D (tyL ct) (CW ct ad da nd nb nf bdk num spt val tim rep byN byS pk kn pe clk tol opn) [.ref (ad 0), .long (x), .int (n)] 1 1 (fun r u => r = -1 ∧ u = CW ct ad da nd nb nf bdk num spt val tim rep byN byS pk kn pe clk tol opn) := by
  refine CI.start (by decide) (Nat.le_of_ble_eq_true rfl) ?_
  intro p e s m below meth c F hr hnm
  show V p l e (rmK 6 1 1) s m [.ref (ad 0), .long (x), .int (n)].toArray below meth c D (va_A (CW ct ad da nd nb nf bdk num spt val tim rep byN byS pk kn pe clk tol opn) s.heap.size) 7 0 0 (EI D below (CW ct ad da nd nb nf bdk num spt val tim rep byN byS pk kn pe clk tol opn) [.ref (ad 0), .long (x), .int (n)].toArray s 1 1 (fun r u => r = -1 ∧ u = CW ct ad da nd nb nf bdk num spt val tim rep byN byS pk kn pe clk tol opn)) (CW ct ad da nd nb nf bdk num spt val tim rep byN byS pk kn pe clk tol opn) [(0, .ref (ad 0)), (1, .long (x)), (3, .int (n))] 0 []
  refine V.aload_n F d_T_play_0 rfl 0 rfl ?_
  refine V.get F ck_T d_T_play_1 4 (by decide) lk_T_33 0 rfl rfl ?_
  refine V.iconst F d_T_play_4 (v := nI (1)) (by decide) ?_
  refine V.icmp_ltN (tgt := 19) F d_T_play_5 (by decide) (by omega) (by omega) (fun c5 => ?_) (fun c5 => ?_)
  · skip
    refine V.iconst F d_T_play_19 (v := -1) (by decide) ?_
    refine V.widen (k := 1) (n := 1) (by decide) (by decide) ?_
    exact V.iret F hr d_T_play_20 (⟨rfl, rfl⟩)
  · skip
    refine V.iload_n F d_T_play_8 rfl 2 rfl ?_
    refine V.if_lt (x := n) (tgt := 19) F d_T_play_9 (by decide) (fun c9 => ?_) (fun c9 => ?_)
    · skip
      refine V.iconst F d_T_play_19 (v := -1) (by decide) ?_
      refine V.widen (k := 1) (n := 1) (by decide) (by decide) ?_
      exact V.iret F hr d_T_play_20 (⟨rfl, rfl⟩)
    · skip
      refine V.iload_n F d_T_play_12 rfl 2 rfl ?_
      refine V.sipush F d_T_play_13 (v := nI (200)) (by decide) ?_
      refine V.icmp_le (x := n) (y := nI (200)) (tgt := 21) F d_T_play_16 (by decide) (fun c16 => ?_) (fun c16 => ?_)
      · skip
        exact absurd hz (fun q => q.elim (fun q => by omega) (fun q => q.elim c9 (fun q => q c16)))
      · skip
        refine V.iconst F d_T_play_19 (v := -1) (by decide) ?_
        refine V.widen (k := 1) (n := 1) (by decide) (by decide) ?_
        exact V.iret F hr d_T_play_20 (⟨rfl, rfl⟩)

set_option maxHeartbeats 4000000 in
set_option maxRecDepth 100000 in
theorem c_play (l : Launch) (D : va_G) {ct : Nat → ClassId} {ad : Nat → Nat} {da : Nat → Nat → Nat} {nd : Nat} {nb : Nat} {nf0 : Nat} {bdk : Nat → Nat} {num0 : Nat → Nat} {spt0 : Nat → Nat} {val0 : Nat → Int64} {tim0 : Nat → Nat} {rep : Nat → Nat → Bool} {byN0 : Nat → Nat} {byS0 : Nat → Nat} {pk0 : Nat → Bool} {kn0 : Nat → Nat → Bool} {pe0 : Nat → Nat → Bool} {clk0 : Nat → Nat} {tol0 : Nat → Nat} {opn : Nat → Option Nat} {thg0 : Nat → Nat} {knd0 : Nat → Nat} {dy0 : Nat → Nat} {bof0 : Nat → Option Nat} (x0 : Int64) (tn : Nat) (ht : tn < 201) (hI0 : Inv nd nb nf0 bdk num0 spt0 tim0 rep kn0 pe0 clk0 tol0 opn thg0 knd0 dy0 bof0) (hO0 : Ord nf0 num0 spt0 byN0 byS0) (h0 : 0 < nd) : CI l y_T_play b_T_play 7 (some .int) (rmK 6 1 1) D (tyL ct) (CW ct ad da nd nb nf0 bdk num0 spt0 val0 tim0 rep byN0 byS0 pk0 kn0 pe0 clk0 tol0 opn) [.ref (ad 0), .long (x0), .int (nI (tn))] 1 1 (fun r u => ∃ (nf : Nat) (num : Nat → Nat) (spt : Nat → Nat) (val : Nat → Int64) (tim : Nat → Nat) (kn : Nat → Nat → Bool) (pe : Nat → Nat → Bool) (clk : Nat → Nat) (tol : Nat → Nat) (thg : Nat → Nat) (knd : Nat → Nat) (dy : Nat → Nat) (bof : Nat → Option Nat) (byN : Nat → Nat) (byS : Nat → Nat) (pk : Nat → Bool) (x : Int64), ((nf, num, spt, val, tim, kn, pe, clk, tol, thg, knd, dy, bof), x) = itA nd opn (nf0, num0, spt0, val0, tim0, kn0, pe0, clk0, tol0, thg0, knd0, dy0, bof0) x0 tn ∧ Inv nd nb nf bdk num spt tim rep kn pe clk tol opn thg knd dy bof ∧ Ord nf num spt byN byS ∧ r = nI (sm (fun d => cnt (kn d) 320) nd) ∧ u = CW ct ad da nd nb nf bdk num spt val tim rep byN byS pk kn pe clk tol opn) := by
  refine CI.start (by decide) (Nat.le_of_ble_eq_true rfl) ?_
  intro p e s m below meth c F hr hnm
  show V p l e (rmK 6 1 1) s m [.ref (ad 0), .long (x0), .int (nI (tn))].toArray below meth c D (va_A (CW ct ad da nd nb nf0 bdk num0 spt0 val0 tim0 rep byN0 byS0 pk0 kn0 pe0 clk0 tol0 opn) s.heap.size) 7 0 0 (EI D below (CW ct ad da nd nb nf0 bdk num0 spt0 val0 tim0 rep byN0 byS0 pk0 kn0 pe0 clk0 tol0 opn) [.ref (ad 0), .long (x0), .int (nI (tn))].toArray s 1 1 (fun r u => ∃ (nf : Nat) (num : Nat → Nat) (spt : Nat → Nat) (val : Nat → Int64) (tim : Nat → Nat) (kn : Nat → Nat → Bool) (pe : Nat → Nat → Bool) (clk : Nat → Nat) (tol : Nat → Nat) (thg : Nat → Nat) (knd : Nat → Nat) (dy : Nat → Nat) (bof : Nat → Option Nat) (byN : Nat → Nat) (byS : Nat → Nat) (pk : Nat → Bool) (x : Int64), ((nf, num, spt, val, tim, kn, pe, clk, tol, thg, knd, dy, bof), x) = itA nd opn (nf0, num0, spt0, val0, tim0, kn0, pe0, clk0, tol0, thg0, knd0, dy0, bof0) x0 tn ∧ Inv nd nb nf bdk num spt tim rep kn pe clk tol opn thg knd dy bof ∧ Ord nf num spt byN byS ∧ r = nI (sm (fun d => cnt (kn d) 320) nd) ∧ u = CW ct ad da nd nb nf bdk num spt val tim rep byN byS pk kn pe clk tol opn)) (CW ct ad da nd nb nf0 bdk num0 spt0 val0 tim0 rep byN0 byS0 pk0 kn0 pe0 clk0 tol0 opn) [(0, .ref (ad 0)), (1, .long (x0)), (3, .int (nI (tn)))] 0 []
  have hnd := hI0.1.1
  refine V.aload_n F d_T_play_0 rfl 0 rfl ?_
  refine V.get F ck_T d_T_play_1 4 (by decide) lk_T_33 0 rfl rfl ?_
  refine V.iconst F d_T_play_4 (v := nI (1)) (by decide) ?_
  refine V.icmp_ltN (tgt := 19) F d_T_play_5 (by decide) (by omega) (by omega) (fun c5 => ?_) (fun c5 => ?_)
  · skip
    exact absurd c5 (by omega)
  · skip
    refine V.iload_n F d_T_play_8 rfl 2 rfl ?_
    refine V.if_lt (x := nI (tn)) (tgt := 19) F d_T_play_9 (by decide) (fun c9 => ?_) (fun c9 => ?_)
    · skip
      exact absurd c9 (nI_pos (by omega))
    · skip
      refine V.iload_n F d_T_play_12 rfl 2 rfl ?_
      refine V.sipush F d_T_play_13 (v := nI (200)) (by decide) ?_
      refine V.icmp_leN (tgt := 21) F d_T_play_16 (by decide) (by omega) (by omega) (fun c16 => ?_) (fun c16 => ?_)
      · skip
        refine V.new F ck_W d_T_play_21 lk_T_142 ins_W ini_W (fs := [.long (0)]) (fun j hj => by rcases (show j = 0 by omega) with rfl <;> rfl) (Nat.le_of_ble_eq_true rfl) (Nat.le_of_ble_eq_true rfl) (fun q1 => ?_)
        refine V.ws_eq (ws2 := CW ct ad da nd nb nf0 bdk num0 spt0 val0 tim0 rep byN0 byS0 pk0 kn0 pe0 clk0 tol0 opn ++ [(q1, .inr (4, [.long (0)]))]) rfl ?_
        refine V.dup F d_T_play_24 rfl ?_
        refine V.lload_n F d_T_play_25 rfl 1 rfl ?_
        refine V.callIV (As := [.long (x0)]) (rest := [.ref (q1)]) F (i_W l D q1 x0) d_T_play_26 sv_T_144 im_y_W_init rfl (CW ct ad da nd nb nf0 bdk num0 spt0 val0 tim0 rep byN0 byS0 pk0 kn0 pe0 clk0 tol0 opn) [] (by rw [List.append_nil]) rfl rfl (Nat.le_of_ble_eq_true rfl) ⟨rfl, rfl, (Nat.le_of_ble_eq_true rfl), (Nat.le_of_ble_eq_true rfl)⟩ ⟨(Nat.le_of_ble_eq_true rfl), (Nat.le_of_ble_eq_true rfl)⟩ (fun u9 h9 => ?_)
        subst h9
        refine V.ws_eq (ws2 := CW ct ad da nd nb nf0 bdk num0 spt0 val0 tim0 rep byN0 byS0 pk0 kn0 pe0 clk0 tol0 opn ++ [(q1, .inr (4, [.long (x0)]))]) (by rw [List.append_nil]) ?_
        refine V.widen (k := 1) (n := 1) (by decide) (by decide) ?_
        refine V.astore (lv2 := [(4, .ref (q1)), (0, .ref (ad 0)), (1, .long (x0)), (3, .int (nI (tn)))]) F d_T_play_29 (by decide) rfl ?_
        refine V.iconst F d_T_play_31 (v := nI (0)) (by decide) ?_
        refine V.istore (lv2 := [(5, .int (nI (0))), (4, .ref (q1)), (0, .ref (ad 0)), (1, .long (x0)), (3, .int (nI (tn)))]) F d_T_play_32 (by decide) rfl ?_
        have L34 : ∀ (n9 : Nat) (i : Nat) (nf : Nat) (num : Nat → Nat) (spt : Nat → Nat) (val : Nat → Int64) (tim : Nat → Nat) (kn : Nat → Nat → Bool) (pe : Nat → Nat → Bool) (clk : Nat → Nat) (tol : Nat → Nat) (thg : Nat → Nat) (knd : Nat → Nat) (dy : Nat → Nat) (bof : Nat → Option Nat) (byN : Nat → Nat) (byS : Nat → Nat) (pk : Nat → Bool) (x : Int64), tn - i < n9 → (i ≤ tn) → (((nf, num, spt, val, tim, kn, pe, clk, tol, thg, knd, dy, bof), x) = itA nd opn (nf0, num0, spt0, val0, tim0, kn0, pe0, clk0, tol0, thg0, knd0, dy0, bof0) x0 i) → (Inv nd nb nf bdk num spt tim rep kn pe clk tol opn thg knd dy bof) → (Ord nf num spt byN byS) → V p l e (rmK 6 1 1) s m [.ref (ad 0), .long (x0), .int (nI (tn))].toArray below meth c D (va_A (CW ct ad da nd nb nf0 bdk num0 spt0 val0 tim0 rep byN0 byS0 pk0 kn0 pe0 clk0 tol0 opn) s.heap.size) 7 1 1 (EI D below (CW ct ad da nd nb nf0 bdk num0 spt0 val0 tim0 rep byN0 byS0 pk0 kn0 pe0 clk0 tol0 opn) [.ref (ad 0), .long (x0), .int (nI (tn))].toArray s 1 1 (fun r u => ∃ (nf : Nat) (num : Nat → Nat) (spt : Nat → Nat) (val : Nat → Int64) (tim : Nat → Nat) (kn : Nat → Nat → Bool) (pe : Nat → Nat → Bool) (clk : Nat → Nat) (tol : Nat → Nat) (thg : Nat → Nat) (knd : Nat → Nat) (dy : Nat → Nat) (bof : Nat → Option Nat) (byN : Nat → Nat) (byS : Nat → Nat) (pk : Nat → Bool) (x : Int64), ((nf, num, spt, val, tim, kn, pe, clk, tol, thg, knd, dy, bof), x) = itA nd opn (nf0, num0, spt0, val0, tim0, kn0, pe0, clk0, tol0, thg0, knd0, dy0, bof0) x0 tn ∧ Inv nd nb nf bdk num spt tim rep kn pe clk tol opn thg knd dy bof ∧ Ord nf num spt byN byS ∧ r = nI (sm (fun d => cnt (kn d) 320) nd) ∧ u = CW ct ad da nd nb nf bdk num spt val tim rep byN byS pk kn pe clk tol opn)) (CW ct ad da nd nb nf bdk num spt val tim rep byN byS pk kn pe clk tol opn ++ [(q1, .inr (4, [.long (x)]))]) [(5, .int (nI (i))), (4, .ref (q1)), (0, .ref (ad 0)), (1, .long (x0)), (3, .int (nI (tn)))] 34 [] := by
          intro n9
          induction n9 with
          | zero => intro i nf num spt val tim kn pe clk tol thg knd dy bof byN byS pk x h9 hi he hI hO; exact absurd h9 (Nat.not_lt_zero _)
          | succ n9 ih34 =>
            intro i nf num spt val tim kn pe clk tol thg knd dy bof byN byS pk x h9 hi he hI hO
            refine V.iload F d_T_play_34 0 rfl ?_
            refine V.iload_n F d_T_play_36 rfl 4 rfl ?_
            refine V.icmp_geN (tgt := 52) F d_T_play_37 (by decide) (by omega) (by omega) (fun c37 => ?_) (fun c37 => ?_)
            · skip
              have e8 : i = tn := by omega
              rw [e8] at he
              refine V.iconst F d_T_play_52 (v := nI (0)) (by decide) ?_
              refine V.istore (lv2 := [(5, .int (nI (0))), (4, .ref (q1)), (0, .ref (ad 0)), (1, .long (x0)), (3, .int (nI (tn)))]) F d_T_play_53 (by decide) rfl ?_
              refine V.iconst F d_T_play_55 (v := nI (0)) (by decide) ?_
              refine V.istore (lv2 := [(6, .int (nI (0))), (5, .int (nI (0))), (4, .ref (q1)), (0, .ref (ad 0)), (1, .long (x0)), (3, .int (nI (tn)))]) F d_T_play_56 (by decide) rfl ?_
              have L58 : ∀ (n9 : Nat) (i : Nat), nd - i < n9 → (i ≤ nd) → V p l e (rmK 6 1 1) s m [.ref (ad 0), .long (x0), .int (nI (tn))].toArray below meth c D (va_A (CW ct ad da nd nb nf0 bdk num0 spt0 val0 tim0 rep byN0 byS0 pk0 kn0 pe0 clk0 tol0 opn) s.heap.size) 7 1 1 (EI D below (CW ct ad da nd nb nf0 bdk num0 spt0 val0 tim0 rep byN0 byS0 pk0 kn0 pe0 clk0 tol0 opn) [.ref (ad 0), .long (x0), .int (nI (tn))].toArray s 1 1 (fun r u => ∃ (nf : Nat) (num : Nat → Nat) (spt : Nat → Nat) (val : Nat → Int64) (tim : Nat → Nat) (kn : Nat → Nat → Bool) (pe : Nat → Nat → Bool) (clk : Nat → Nat) (tol : Nat → Nat) (thg : Nat → Nat) (knd : Nat → Nat) (dy : Nat → Nat) (bof : Nat → Option Nat) (byN : Nat → Nat) (byS : Nat → Nat) (pk : Nat → Bool) (x : Int64), ((nf, num, spt, val, tim, kn, pe, clk, tol, thg, knd, dy, bof), x) = itA nd opn (nf0, num0, spt0, val0, tim0, kn0, pe0, clk0, tol0, thg0, knd0, dy0, bof0) x0 tn ∧ Inv nd nb nf bdk num spt tim rep kn pe clk tol opn thg knd dy bof ∧ Ord nf num spt byN byS ∧ r = nI (sm (fun d => cnt (kn d) 320) nd) ∧ u = CW ct ad da nd nb nf bdk num spt val tim rep byN byS pk kn pe clk tol opn)) (CW ct ad da nd nb nf bdk num spt val tim rep byN byS pk kn pe clk tol opn ++ [(q1, .inr (4, [.long (x)]))]) [(6, .int (nI (i))), (5, .int (nI (sm (fun d => cnt (kn d) 320) i))), (4, .ref (q1)), (0, .ref (ad 0)), (1, .long (x0)), (3, .int (nI (tn)))] 58 [] := by
                intro n9
                induction n9 with
                | zero => intro i h9 hi2; exact absurd h9 (Nat.not_lt_zero _)
                | succ n9 ih58 =>
                  intro i h9 hi2
                  refine V.iload F d_T_play_58 0 rfl ?_
                  refine V.aload_n F d_T_play_60 rfl 3 rfl ?_
                  refine V.get F ck_T d_T_play_61 4 (by decide) lk_T_33 0 (ap_l rfl) rfl ?_
                  refine V.icmp_geN (tgt := 84) F d_T_play_64 (by decide) (by omega) (by omega) (fun c64 => ?_) (fun c64 => ?_)
                  · skip
                    refine V.ws_sub (ws2 := CW ct ad da nd nb nf bdk num spt val tim rep byN byS pk kn pe clk tol opn) (fun H9 h9 => fr_cut (wa := []) (wb := [(q1, .inr (4, [.long (x)]))]) h9) (fun h9 => fr_cutD (wa := []) (wb := [(q1, .inr (4, [.long (x)]))]) h9 (fun _ q => q)) ?_
                    refine V.iload F d_T_play_84 1 rfl ?_
                    exact V.iret F hr d_T_play_86 (⟨nf, num, spt, val, tim, kn, pe, clk, tol, thg, knd, dy, bof, byN, byS, pk, x, he, hI, hO, by rw [show i = nd by omega], rfl⟩)
                  · skip
                    refine V.iload F d_T_play_67 1 rfl ?_
                    refine V.aload_n F d_T_play_69 rfl 3 rfl ?_
                    refine V.iload F d_T_play_70 0 rfl ?_
                    refine V.callVI (As := [.int (nI (i))]) (rest := [.int (nI (sm (fun d => cnt (kn d) 320) i))]) F (c_co l D hnd i c64) d_T_play_72 sv_T_151 im_y_T_counts sl_y_T_counts [] [(q1, .inr (4, [.long (x)]))] rfl 0 (ap_l rfl) rfl rfl rfl rfl (Nat.le_of_ble_eq_true rfl) ⟨rfl, rfl, (Nat.le_of_ble_eq_true rfl), (Nat.le_of_ble_eq_true rfl)⟩ ⟨(Nat.le_of_ble_eq_true rfl), (Nat.le_of_ble_eq_true rfl)⟩ (fun r9 u9 h9 => ?_)
                    obtain ⟨rfl, rfl⟩ := h9
                    refine V.ws_eq (ws2 := CW ct ad da nd nb nf bdk num spt val tim rep byN byS pk kn pe clk tol opn ++ [(q1, .inr (4, [.long (x)]))]) rfl ?_
                    refine V.iaddN F d_T_play_75 ?_
                    refine V.istore (lv2 := [(5, .int (nI ((sm (fun d => cnt (kn d) 320) i) + (cnt (kn i) 320)))), (6, .int (nI (i))), (4, .ref (q1)), (0, .ref (ad 0)), (1, .long (x0)), (3, .int (nI (tn)))]) F d_T_play_76 (by decide) rfl ?_
                    refine V.iincN (k := 1) (lv2 := [(6, .int (nI (i + 1))), (5, .int (nI ((sm (fun d => cnt (kn d) 320) i) + (cnt (kn i) 320)))), (4, .ref (q1)), (0, .ref (ad 0)), (1, .long (x0)), (3, .int (nI (tn)))]) F d_T_play_78 1 rfl (by decide) (by decide) rfl ?_
                    refine V.goto (tgt := 58) F d_T_play_81 (by decide) ?_
                    exact ih58 (i + 1) (by omega) (by omega)
              exact L58 _ (0) (Nat.lt_succ_self _) (by omega)
            · skip
              refine V.aload_n F d_T_play_40 rfl 2 rfl ?_
              refine V.aload F d_T_play_41 1 rfl ?_
              refine V.callVV0 (As := [.ref (q1)]) (rest := []) F (c_turn l D q1 x hI hO h0) d_T_play_43 sv_T_147 im_y_T_playTurn sl_y_T_playTurn 0 (ap_l rfl) rfl rfl rfl rfl (Nat.le_of_ble_eq_true rfl) ⟨rfl, rfl, (Nat.le_of_ble_eq_true rfl), (Nat.le_of_ble_eq_true rfl)⟩ ⟨(Nat.le_of_ble_eq_true rfl), (Nat.le_of_ble_eq_true rfl)⟩ (fun u9 h9 => ?_)
              obtain ⟨nf1, num1, spt1, val1, tim1, kn1, pe1, clk1, tol1, thg1, knd1, dy1, bof1, byN1, byS1, pk1, x1, e1, hI1, hO1, rfl⟩ := h9
              refine V.iincN (k := 1) (lv2 := [(5, .int (nI (i + 1))), (4, .ref (q1)), (0, .ref (ad 0)), (1, .long (x0)), (3, .int (nI (tn)))]) F d_T_play_46 0 rfl (by decide) (by decide) rfl ?_
              refine V.goto (tgt := 34) F d_T_play_49 (by decide) ?_
              exact ih34 (i + 1) (nf1) (num1) (spt1) (val1) (tim1) (kn1) (pe1) (clk1) (tol1) (thg1) (knd1) (dy1) (bof1) (byN1) (byS1) (pk1) (x1) (by omega) (by omega) (it_succ he e1) (hI1) (hO1)
        exact L34 _ (0) (nf0) (num0) (spt0) (val0) (tim0) (kn0) (pe0) (clk0) (tol0) (thg0) (knd0) (dy0) (bof0) (byN0) (byS0) (pk0) (x0) (Nat.lt_succ_self _) (by omega) (rfl) (hI0) (hO0)
      · skip
        exact absurd c16 (by omega)

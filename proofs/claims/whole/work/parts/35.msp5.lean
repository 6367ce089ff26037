theorem dl_irr (dy : Nat → Nat) : ∀ k, (fun k g => decide (dy k < dy g)) k k = false := fun k => decide_eq_false (Nat.lt_irrefl _)
theorem dl_tr (dy : Nat → Nat) : ∀ {k g i}, (fun k g => decide (dy k < dy g)) k g = false → (fun k g => decide (dy k < dy g)) i g = true → (fun k g => decide (dy k < dy g)) k i = false := fun {k g i} h1 h2 => by
  have h1 := of_decide_eq_false h1
  have h2 := of_decide_eq_true h2
  exact decide_eq_false (by omega)
theorem rr_step {Rr rep : Nat → Nat → Bool} {S : Nat → Bool} {i m : Nat} {x : Bool} (h : ∀ o n, Rr o n = if n = m ∧ o < i then S o else rep o n) (hx : x = S i) : ∀ o n, up2 Rr i m x o n = if n = m ∧ o < i + 1 then S o else rep o n := by
  intro o n
  unfold up2
  by_cases e : o = i ∧ n = m
  · rw [if_pos e, if_pos ⟨e.2, by omega⟩, hx, e.1]
  · rw [if_neg e, h o n]
    by_cases e2 : n = m ∧ o < i
    · rw [if_pos e2, if_pos ⟨e2.1, by omega⟩]
    · rw [if_neg e2, if_neg (by omega)]
theorem i32_m1 {x : Int32} (h : 0 ≤ x) : ¬ x = -1 := fun q => by
  rw [q] at h
  exact absurd h (by decide)
set_option maxHeartbeats 4000000 in
set_option maxRecDepth 100000 in
theorem m_setNoD (l : Launch) (D : va_G) {ct : Nat → ClassId} {mo : Nat → Nat} {nd : Nat} {nb : Nat} {nf : Nat} {bdk : Nat → Nat} {num : Nat → Nat} {thg : Nat → Nat} {knd : Nat → Nat} {dy : Nat → Nat} {val : Nat → Int64} {tim : Nat → Nat} {rep : Nat → Nat → Bool} {kn : Nat → Nat → Bool} {clk : Nat → Nat} {tol : Nat → Nat} {opn : Nat → Option Nat} {bof : Nat → Option Nat} {std : Nat → Bool} {xd : Int64} (x0 t kd x : Int32) (hx : x0 < 0 ∨ nI nd ≤ x0) : CI l y_M_settle b_M_settle 11 (some .int) (rmK 2 1 300) D (tyL ct) (MW ct mo nd nb nf bdk num thg knd dy val tim rep kn clk tol opn bof std xd) [.ref (mo 0), .int (x0), .int (t), .int (kd), .int (x)] 1 300 (fun r u => r = -1 ∧ u = MW ct mo nd nb nf bdk num thg knd dy val tim rep kn clk tol opn bof std xd) := by
  refine CI.start (by decide) (Nat.le_of_ble_eq_true rfl) ?_
  intro p e s m below meth c F hr hnm
  show V p l e (rmK 2 1 300) s m [.ref (mo 0), .int (x0), .int (t), .int (kd), .int (x)].toArray below meth c D (va_A (MW ct mo nd nb nf bdk num thg knd dy val tim rep kn clk tol opn bof std xd) s.heap.size) 11 0 0 (EI D below (MW ct mo nd nb nf bdk num thg knd dy val tim rep kn clk tol opn bof std xd) [.ref (mo 0), .int (x0), .int (t), .int (kd), .int (x)].toArray s 1 300 (fun r u => r = -1 ∧ u = MW ct mo nd nb nf bdk num thg knd dy val tim rep kn clk tol opn bof std xd)) (MW ct mo nd nb nf bdk num thg knd dy val tim rep kn clk tol opn bof std xd) [(0, .ref (mo 0)), (1, .int (x0)), (2, .int (t)), (3, .int (kd)), (4, .int (x))] 0 []
  refine V.aload_n F d_M_settle_0 rfl 0 rfl ?_
  refine V.iload_n F d_M_settle_1 rfl 1 rfl ?_
  refine V.callVI0 (As := [.int (x0)]) (rest := []) F (m_isDeskNo l D x0 hx) d_M_settle_2 sv_M_62 im_y_M_isDesk sl_y_M_isDesk 0 rfl rfl rfl rfl rfl (Nat.le_of_ble_eq_true rfl) ⟨rfl, rfl, (Nat.le_of_ble_eq_true rfl), (Nat.le_of_ble_eq_true rfl)⟩ ⟨(Nat.le_of_ble_eq_true rfl), (Nat.le_of_ble_eq_true rfl)⟩ (fun r9 u9 h9 => ?_)
  obtain ⟨rfl, rfl⟩ := h9
  refine V.if_eqB (b := false) (tgt := 13) F d_M_settle_5 (by decide) (fun c5 => ?_) (fun c5 => ?_)
  · skip
    refine V.iconst F d_M_settle_13 (v := -1) (by decide) ?_
    refine V.widen (k := 1) (n := 300) (by decide) (by decide) ?_
    exact V.iret F hr d_M_settle_14 (⟨rfl, rfl⟩)
  · skip
    exact absurd c5 (by decide)

set_option maxHeartbeats 4000000 in
set_option maxRecDepth 100000 in
theorem m_setNeg (l : Launch) (D : va_G) {ct : Nat → ClassId} {mo : Nat → Nat} {nd : Nat} {nb : Nat} {nf : Nat} {bdk : Nat → Nat} {num : Nat → Nat} {thg : Nat → Nat} {knd : Nat → Nat} {dy : Nat → Nat} {val : Nat → Int64} {tim : Nat → Nat} {rep : Nat → Nat → Bool} {kn : Nat → Nat → Bool} {clk : Nat → Nat} {tol : Nat → Nat} {opn : Nat → Option Nat} {bof : Nat → Option Nat} {std : Nat → Bool} {xd : Int64} (hnd : nd ≤ 8) (d : Nat) (hd0 : d < nd) (t kd x : Int32) (hx : x < 0) : CI l y_M_settle b_M_settle 11 (some .int) (rmK 2 1 300) D (tyL ct) (MW ct mo nd nb nf bdk num thg knd dy val tim rep kn clk tol opn bof std xd) [.ref (mo 0), .int (nI (d)), .int (t), .int (kd), .int (x)] 1 300 (fun r u => r = -1 ∧ u = MW ct mo nd nb nf bdk num thg knd dy val tim rep kn clk tol opn bof std xd) := by
  refine CI.start (by decide) (Nat.le_of_ble_eq_true rfl) ?_
  intro p e s m below meth c F hr hnm
  show V p l e (rmK 2 1 300) s m [.ref (mo 0), .int (nI (d)), .int (t), .int (kd), .int (x)].toArray below meth c D (va_A (MW ct mo nd nb nf bdk num thg knd dy val tim rep kn clk tol opn bof std xd) s.heap.size) 11 0 0 (EI D below (MW ct mo nd nb nf bdk num thg knd dy val tim rep kn clk tol opn bof std xd) [.ref (mo 0), .int (nI (d)), .int (t), .int (kd), .int (x)].toArray s 1 300 (fun r u => r = -1 ∧ u = MW ct mo nd nb nf bdk num thg knd dy val tim rep kn clk tol opn bof std xd)) (MW ct mo nd nb nf bdk num thg knd dy val tim rep kn clk tol opn bof std xd) [(0, .ref (mo 0)), (1, .int (nI (d))), (2, .int (t)), (3, .int (kd)), (4, .int (x))] 0 []
  refine V.aload_n F d_M_settle_0 rfl 0 rfl ?_
  refine V.iload_n F d_M_settle_1 rfl 1 rfl ?_
  refine V.callVI0 (As := [.int (nI (d))]) (rest := []) F (m_isDesk l D hnd d hd0) d_M_settle_2 sv_M_62 im_y_M_isDesk sl_y_M_isDesk 0 rfl rfl rfl rfl rfl (Nat.le_of_ble_eq_true rfl) ⟨rfl, rfl, (Nat.le_of_ble_eq_true rfl), (Nat.le_of_ble_eq_true rfl)⟩ ⟨(Nat.le_of_ble_eq_true rfl), (Nat.le_of_ble_eq_true rfl)⟩ (fun r9 u9 h9 => ?_)
  obtain ⟨rfl, rfl⟩ := h9
  refine V.if_eqB (b := true) (tgt := 13) F d_M_settle_5 (by decide) (fun c5 => ?_) (fun c5 => ?_)
  · skip
    exact absurd c5 (by decide)
  · skip
    refine V.iload F d_M_settle_8 4 rfl ?_
    refine V.if_ge (x := x) (tgt := 15) F d_M_settle_10 (by decide) (fun c10 => ?_) (fun c10 => ?_)
    · skip
      exact absurd hx (i32_ge c10)
    · skip
      refine V.iconst F d_M_settle_13 (v := -1) (by decide) ?_
      refine V.widen (k := 1) (n := 300) (by decide) (by decide) ?_
      exact V.iret F hr d_M_settle_14 (⟨rfl, rfl⟩)

set_option maxHeartbeats 4000000 in
set_option maxRecDepth 100000 in
theorem m_set (l : Launch) (D : va_G) {ct : Nat → ClassId} {mo : Nat → Nat} {nd : Nat} {nb : Nat} {nf : Nat} {bdk : Nat → Nat} {num : Nat → Nat} {thg : Nat → Nat} {knd : Nat → Nat} {dy : Nat → Nat} {val : Nat → Int64} {tim : Nat → Nat} {rep : Nat → Nat → Bool} {kn : Nat → Nat → Bool} {clk : Nat → Nat} {tol : Nat → Nat} {opn : Nat → Option Nat} {bof : Nat → Option Nat} {std : Nat → Bool} {xd : Int64} (hnf : nf ≤ 300) (hnd : nd ≤ 8) (d : Nat) (hd0 : d < nd) (spt : Nat → Nat) (hsp : SpR spt thg knd dy nf) (hnum : ∀ k, k < nf → num k < 2 ^ 31) (t kd x : Int32) (hx : ¬ x < 0) (hob : ∀ b0, opn d = some b0 → b0 < 2 ^ 31) : CI l y_M_settle b_M_settle 11 (some .int) (rmK 2 1 300) D (tyL ct) (MW ct mo nd nb nf bdk num thg knd dy val tim rep kn clk tol opn bof std xd) [.ref (mo 0), .int (nI (d)), .int (t), .int (kd), .int (x)] 1 300 (fun r u => ∃ P : Nat → Bool, (∀ f, f < nf → P f = lkB (kn d) rep f nf) ∧ ((∃ b : Option Nat, ((∀ g, b = some g → g < nf ∧ (nI (thg g) = t ∧ nI (knd g) = kd ∧ fcB spt val P nf g = true) ∧ ∀ f, f < nf → (nI (thg f) = t ∧ nI (knd f) = kd ∧ fcB spt val P nf f = true) → (fun k g => decide (dy k < dy g)) f g = false) ∧ (b = none → ∀ f, f < nf → ¬ (nI (thg f) = t ∧ nI (knd f) = kd ∧ fcB spt val P nf f = true))) ∧ b = none ∧ r = -1 ∧ u = MW ct mo nd nb nf bdk num thg knd dy val tim rep kn clk tol opn bof P xd) ∨ (∃ sp : Nat, ((∀ g, (some sp) = some g → g < nf ∧ (nI (thg g) = t ∧ nI (knd g) = kd ∧ fcB spt val P nf g = true) ∧ ∀ f, f < nf → (nI (thg f) = t ∧ nI (knd f) = kd ∧ fcB spt val P nf f = true) → (fun k g => decide (dy k < dy g)) f g = false) ∧ ((some sp) = none → ∀ f, f < nf → ¬ (nI (thg f) = t ∧ nI (knd f) = kd ∧ fcB spt val P nf f = true))) ∧ ((∃ cb : Option Nat, ((∀ g, cb = some g → g < nf ∧ (fun g => decide (spt sp = spt g) && P g) g = true ∧ x = nI (cnt (fun h => decide (spt sp = spt h) && (decide (num h < num g) && P h)) nf)) ∧ (cb = none → ∀ g, g < nf → (fun g => decide (spt sp = spt g) && P g) g = true → ¬ x = nI (cnt (fun h => decide (spt sp = spt h) && (decide (num h < num g) && P h)) nf))) ∧ cb = none ∧ r = -1 ∧ u = MW ct mo nd nb nf bdk num thg knd dy val tim rep kn clk tol opn bof P xd) ∨ (∃ ch : Nat, ((∀ g, (some ch) = some g → g < nf ∧ (fun g => decide (spt sp = spt g) && P g) g = true ∧ x = nI (cnt (fun h => decide (spt sp = spt h) && (decide (num h < num g) && P h)) nf)) ∧ ((some ch) = none → ∀ g, g < nf → (fun g => decide (spt sp = spt g) && P g) g = true → ¬ x = nI (cnt (fun h => decide (spt sp = spt h) && (decide (num h < num g) && P h)) nf))) ∧ ((nf = 300 ∧ r = -2 ∧ u = MW ct mo nd nb nf bdk num thg knd dy val tim rep kn clk tol opn bof P xd) ∨ (nf < 300 ∧ r = nI (8 * tol d + d) ∧ ∃ (Rr : Nat → Nat → Bool), (∀ o n, Rr o n = if n = nf ∧ o < nf then (decide (spt o = spt sp) && P o) else rep o n) ∧ u = MW ct mo nd nb (nf + 1) bdk (va_up num nf (8 * tol d + d)) (va_up thg nf (thg sp)) (va_up knd nf (knd sp)) (va_up dy nf (dy sp)) (va_up val nf (val ch)) (va_up tim nf (clk d + 1)) Rr (up2 kn d nf (oB (opn d))) (va_up clk d (clk d + 1)) (va_up tol d (tol d + 1)) opn (va_up bof nf (opn d)) P xd))))))) := by
  refine CI.start (by decide) (Nat.le_of_ble_eq_true rfl) ?_
  intro p e s m below meth c F hr hnm
  show V p l e (rmK 2 1 300) s m [.ref (mo 0), .int (nI (d)), .int (t), .int (kd), .int (x)].toArray below meth c D (va_A (MW ct mo nd nb nf bdk num thg knd dy val tim rep kn clk tol opn bof std xd) s.heap.size) 11 0 0 (EI D below (MW ct mo nd nb nf bdk num thg knd dy val tim rep kn clk tol opn bof std xd) [.ref (mo 0), .int (nI (d)), .int (t), .int (kd), .int (x)].toArray s 1 300 (fun r u => ∃ P : Nat → Bool, (∀ f, f < nf → P f = lkB (kn d) rep f nf) ∧ ((∃ b : Option Nat, ((∀ g, b = some g → g < nf ∧ (nI (thg g) = t ∧ nI (knd g) = kd ∧ fcB spt val P nf g = true) ∧ ∀ f, f < nf → (nI (thg f) = t ∧ nI (knd f) = kd ∧ fcB spt val P nf f = true) → (fun k g => decide (dy k < dy g)) f g = false) ∧ (b = none → ∀ f, f < nf → ¬ (nI (thg f) = t ∧ nI (knd f) = kd ∧ fcB spt val P nf f = true))) ∧ b = none ∧ r = -1 ∧ u = MW ct mo nd nb nf bdk num thg knd dy val tim rep kn clk tol opn bof P xd) ∨ (∃ sp : Nat, ((∀ g, (some sp) = some g → g < nf ∧ (nI (thg g) = t ∧ nI (knd g) = kd ∧ fcB spt val P nf g = true) ∧ ∀ f, f < nf → (nI (thg f) = t ∧ nI (knd f) = kd ∧ fcB spt val P nf f = true) → (fun k g => decide (dy k < dy g)) f g = false) ∧ ((some sp) = none → ∀ f, f < nf → ¬ (nI (thg f) = t ∧ nI (knd f) = kd ∧ fcB spt val P nf f = true))) ∧ ((∃ cb : Option Nat, ((∀ g, cb = some g → g < nf ∧ (fun g => decide (spt sp = spt g) && P g) g = true ∧ x = nI (cnt (fun h => decide (spt sp = spt h) && (decide (num h < num g) && P h)) nf)) ∧ (cb = none → ∀ g, g < nf → (fun g => decide (spt sp = spt g) && P g) g = true → ¬ x = nI (cnt (fun h => decide (spt sp = spt h) && (decide (num h < num g) && P h)) nf))) ∧ cb = none ∧ r = -1 ∧ u = MW ct mo nd nb nf bdk num thg knd dy val tim rep kn clk tol opn bof P xd) ∨ (∃ ch : Nat, ((∀ g, (some ch) = some g → g < nf ∧ (fun g => decide (spt sp = spt g) && P g) g = true ∧ x = nI (cnt (fun h => decide (spt sp = spt h) && (decide (num h < num g) && P h)) nf)) ∧ ((some ch) = none → ∀ g, g < nf → (fun g => decide (spt sp = spt g) && P g) g = true → ¬ x = nI (cnt (fun h => decide (spt sp = spt h) && (decide (num h < num g) && P h)) nf))) ∧ ((nf = 300 ∧ r = -2 ∧ u = MW ct mo nd nb nf bdk num thg knd dy val tim rep kn clk tol opn bof P xd) ∨ (nf < 300 ∧ r = nI (8 * tol d + d) ∧ ∃ (Rr : Nat → Nat → Bool), (∀ o n, Rr o n = if n = nf ∧ o < nf then (decide (spt o = spt sp) && P o) else rep o n) ∧ u = MW ct mo nd nb (nf + 1) bdk (va_up num nf (8 * tol d + d)) (va_up thg nf (thg sp)) (va_up knd nf (knd sp)) (va_up dy nf (dy sp)) (va_up val nf (val ch)) (va_up tim nf (clk d + 1)) Rr (up2 kn d nf (oB (opn d))) (va_up clk d (clk d + 1)) (va_up tol d (tol d + 1)) opn (va_up bof nf (opn d)) P xd)))))))) (MW ct mo nd nb nf bdk num thg knd dy val tim rep kn clk tol opn bof std xd) [(0, .ref (mo 0)), (1, .int (nI (d))), (2, .int (t)), (3, .int (kd)), (4, .int (x))] 0 []
  refine V.aload_n F d_M_settle_0 rfl 0 rfl ?_
  refine V.iload_n F d_M_settle_1 rfl 1 rfl ?_
  refine V.callVI0 (As := [.int (nI (d))]) (rest := []) F (m_isDesk l D hnd d hd0) d_M_settle_2 sv_M_62 im_y_M_isDesk sl_y_M_isDesk 0 rfl rfl rfl rfl rfl (Nat.le_of_ble_eq_true rfl) ⟨rfl, rfl, (Nat.le_of_ble_eq_true rfl), (Nat.le_of_ble_eq_true rfl)⟩ ⟨(Nat.le_of_ble_eq_true rfl), (Nat.le_of_ble_eq_true rfl)⟩ (fun r9 u9 h9 => ?_)
  obtain ⟨rfl, rfl⟩ := h9
  refine V.if_eqB (b := true) (tgt := 13) F d_M_settle_5 (by decide) (fun c5 => ?_) (fun c5 => ?_)
  · skip
    exact absurd c5 (by decide)
  · skip
    refine V.iload F d_M_settle_8 4 rfl ?_
    refine V.if_ge (x := x) (tgt := 15) F d_M_settle_10 (by decide) (fun c10 => ?_) (fun c10 => ?_)
    · skip
      refine V.iconst F d_M_settle_15 (v := -1) (by decide) ?_
      refine V.istore (lv2 := [(5, .int (-1)), (0, .ref (mo 0)), (1, .int (nI (d))), (2, .int (t)), (3, .int (kd)), (4, .int (x))]) F d_M_settle_16 (by decide) rfl ?_
      refine V.aload_n F d_M_settle_18 rfl 1 rfl ?_
      refine V.iload_n F d_M_settle_19 rfl 2 rfl ?_
      refine V.callVV0 (As := [.int (nI (d))]) (rest := []) F (m_look l D hnf hnd d hd0) d_M_settle_20 sv_M_80 im_y_M_look sl_y_M_look 0 rfl rfl rfl rfl rfl (Nat.le_of_ble_eq_true rfl) ⟨rfl, rfl, (Nat.le_of_ble_eq_true rfl), (Nat.le_of_ble_eq_true rfl)⟩ ⟨(Nat.le_of_ble_eq_true rfl), (Nat.le_of_ble_eq_true rfl)⟩ (fun u9 h9 => ?_)
      obtain ⟨P, hP, rfl⟩ := h9
      refine V.iconst F d_M_settle_23 (v := nI (0)) (by decide) ?_
      refine V.istore (lv2 := [(6, .int (nI (0))), (5, .int (-1)), (0, .ref (mo 0)), (1, .int (nI (d))), (2, .int (t)), (3, .int (kd)), (4, .int (x))]) F d_M_settle_24 (by decide) rfl ?_
      have L26 : ∀ (n9 : Nat) (i : Nat) (b : Option Nat), nf - i < n9 → (i ≤ nf) → (((∀ g, b = some g → g < i ∧ (nI (thg g) = t ∧ nI (knd g) = kd ∧ fcB spt val P nf g = true) ∧ ∀ f, f < i → (nI (thg f) = t ∧ nI (knd f) = kd ∧ fcB spt val P nf f = true) → (fun k g => decide (dy k < dy g)) f g = false) ∧ (b = none → ∀ f, f < i → ¬ (nI (thg f) = t ∧ nI (knd f) = kd ∧ fcB spt val P nf f = true)))) → V p l e (rmK 2 1 300) s m [.ref (mo 0), .int (nI (d)), .int (t), .int (kd), .int (x)].toArray below meth c D (va_A (MW ct mo nd nb nf bdk num thg knd dy val tim rep kn clk tol opn bof std xd) s.heap.size) 11 0 0 (EI D below (MW ct mo nd nb nf bdk num thg knd dy val tim rep kn clk tol opn bof std xd) [.ref (mo 0), .int (nI (d)), .int (t), .int (kd), .int (x)].toArray s 1 300 (fun r u => ∃ P : Nat → Bool, (∀ f, f < nf → P f = lkB (kn d) rep f nf) ∧ ((∃ b : Option Nat, ((∀ g, b = some g → g < nf ∧ (nI (thg g) = t ∧ nI (knd g) = kd ∧ fcB spt val P nf g = true) ∧ ∀ f, f < nf → (nI (thg f) = t ∧ nI (knd f) = kd ∧ fcB spt val P nf f = true) → (fun k g => decide (dy k < dy g)) f g = false) ∧ (b = none → ∀ f, f < nf → ¬ (nI (thg f) = t ∧ nI (knd f) = kd ∧ fcB spt val P nf f = true))) ∧ b = none ∧ r = -1 ∧ u = MW ct mo nd nb nf bdk num thg knd dy val tim rep kn clk tol opn bof P xd) ∨ (∃ sp : Nat, ((∀ g, (some sp) = some g → g < nf ∧ (nI (thg g) = t ∧ nI (knd g) = kd ∧ fcB spt val P nf g = true) ∧ ∀ f, f < nf → (nI (thg f) = t ∧ nI (knd f) = kd ∧ fcB spt val P nf f = true) → (fun k g => decide (dy k < dy g)) f g = false) ∧ ((some sp) = none → ∀ f, f < nf → ¬ (nI (thg f) = t ∧ nI (knd f) = kd ∧ fcB spt val P nf f = true))) ∧ ((∃ cb : Option Nat, ((∀ g, cb = some g → g < nf ∧ (fun g => decide (spt sp = spt g) && P g) g = true ∧ x = nI (cnt (fun h => decide (spt sp = spt h) && (decide (num h < num g) && P h)) nf)) ∧ (cb = none → ∀ g, g < nf → (fun g => decide (spt sp = spt g) && P g) g = true → ¬ x = nI (cnt (fun h => decide (spt sp = spt h) && (decide (num h < num g) && P h)) nf))) ∧ cb = none ∧ r = -1 ∧ u = MW ct mo nd nb nf bdk num thg knd dy val tim rep kn clk tol opn bof P xd) ∨ (∃ ch : Nat, ((∀ g, (some ch) = some g → g < nf ∧ (fun g => decide (spt sp = spt g) && P g) g = true ∧ x = nI (cnt (fun h => decide (spt sp = spt h) && (decide (num h < num g) && P h)) nf)) ∧ ((some ch) = none → ∀ g, g < nf → (fun g => decide (spt sp = spt g) && P g) g = true → ¬ x = nI (cnt (fun h => decide (spt sp = spt h) && (decide (num h < num g) && P h)) nf))) ∧ ((nf = 300 ∧ r = -2 ∧ u = MW ct mo nd nb nf bdk num thg knd dy val tim rep kn clk tol opn bof P xd) ∨ (nf < 300 ∧ r = nI (8 * tol d + d) ∧ ∃ (Rr : Nat → Nat → Bool), (∀ o n, Rr o n = if n = nf ∧ o < nf then (decide (spt o = spt sp) && P o) else rep o n) ∧ u = MW ct mo nd nb (nf + 1) bdk (va_up num nf (8 * tol d + d)) (va_up thg nf (thg sp)) (va_up knd nf (knd sp)) (va_up dy nf (dy sp)) (va_up val nf (val ch)) (va_up tim nf (clk d + 1)) Rr (up2 kn d nf (oB (opn d))) (va_up clk d (clk d + 1)) (va_up tol d (tol d + 1)) opn (va_up bof nf (opn d)) P xd)))))))) (MW ct mo nd nb nf bdk num thg knd dy val tim rep kn clk tol opn bof P xd) [(6, .int (nI (i))), (5, .int (oI b)), (0, .ref (mo 0)), (1, .int (nI (d))), (2, .int (t)), (3, .int (kd)), (4, .int (x))] 26 [] := by
        intro n9
        induction n9 with
        | zero => intro i b h9 hi hb; exact absurd h9 (Nat.not_lt_zero _)
        | succ n9 ih26 =>
          intro i b h9 hi hb
          refine V.iload F d_M_settle_26 0 rfl ?_
          refine V.aload_n F d_M_settle_28 rfl 2 rfl ?_
          refine V.get F ck_M d_M_settle_29 13 (by decide) lk_M_59 0 rfl rfl ?_
          refine V.icmp_geN (tgt := 117) F d_M_settle_32 (by decide) (by omega) (by omega) (fun c32 => ?_) (fun c32 => ?_)
          · skip
            have e8 : i = nf := by omega
            rw [e8] at hb
            refine V.iload F d_M_settle_117 1 rfl ?_
            refine V.iconst F d_M_settle_119 (v := -1) (by decide) ?_
            refine V.icmp_ne (x := oI b) (y := -1) (tgt := 127) F d_M_settle_120 (by decide) (fun c120 => ?_) (fun c120 => ?_)
            · skip
              obtain ⟨sp, rfl⟩ := oI_some c120
              have hs9 := (hb.1 sp rfl).1
              obtain ⟨hs1, hs2, hs3⟩ := (hb.1 sp rfl).2.1
              refine V.aload_n F d_M_settle_127 rfl 2 rfl ?_
              refine V.iload F d_M_settle_128 1 rfl ?_
              refine V.iload F d_M_settle_130 6 rfl ?_
              refine V.callVI0 (As := [.int (nI (sp)), .int (x)]) (rest := []) F (m_standing l D hnf spt hsp hnum sp (by omega) x) d_M_settle_132 sv_M_97 im_y_M_standing sl_y_M_standing 0 rfl rfl rfl rfl rfl (Nat.le_of_ble_eq_true rfl) ⟨rfl, rfl, (Nat.le_of_ble_eq_true rfl), (Nat.le_of_ble_eq_true rfl)⟩ ⟨(Nat.le_of_ble_eq_true rfl), (Nat.le_of_ble_eq_true rfl)⟩ (fun r9 u9 h9 => ?_)
              obtain ⟨h9, rfl⟩ := h9
              obtain ⟨cb, rfl, hc⟩ := h9.2 (i32_m1 c10)
              refine V.istore (lv2 := [(6, .int (oI cb)), (5, .int (nI (sp))), (0, .ref (mo 0)), (1, .int (nI (d))), (2, .int (t)), (3, .int (kd)), (4, .int (x))]) F d_M_settle_135 (by decide) rfl ?_
              refine V.iload F d_M_settle_137 0 rfl ?_
              refine V.iconst F d_M_settle_139 (v := -1) (by decide) ?_
              refine V.icmp_ne (x := oI cb) (y := -1) (tgt := 145) F d_M_settle_140 (by decide) (fun c140 => ?_) (fun c140 => ?_)
              · skip
                obtain ⟨ch, rfl⟩ := oI_some c140
                have hc9 := (hc.1 ch rfl).1
                refine V.aload_n F d_M_settle_145 rfl 2 rfl ?_
                refine V.get F ck_M d_M_settle_146 13 (by decide) lk_M_59 0 rfl rfl ?_
                refine V.sipush F d_M_settle_149 (v := nI (300)) (by decide) ?_
                refine V.icmp_neN (tgt := 158) F d_M_settle_152 (by decide) (by omega) (by omega) (fun c152 => ?_) (fun c152 => ?_)
                · skip
                  refine V.aload_n F d_M_settle_158 rfl 2 rfl ?_
                  refine V.get F ck_M d_M_settle_159 13 (by decide) lk_M_59 0 rfl rfl ?_
                  refine V.istore (lv2 := [(7, .int (nI (nf))), (6, .int (nI (ch))), (5, .int (nI (sp))), (0, .ref (mo 0)), (1, .int (nI (d))), (2, .int (t)), (3, .int (kd)), (4, .int (x))]) F d_M_settle_162 (by decide) rfl ?_
                  refine V.sipush F d_M_settle_164 (v := nI (300)) (by decide) ?_
                  refine V.newa_z F d_M_settle_167 arr_boolean 3 rfl (by decide) (Nat.le_of_ble_eq_true rfl) (Nat.le_of_ble_eq_true rfl) (fun q9 => ?_)
                  refine V.ws_eq (ws2 := MW ct mo nd nb nf bdk num thg knd dy val tim rep kn clk tol opn bof P xd ++ [(q9, aB ct 300 (fun _ => false))]) rfl ?_
                  refine V.astore (lv2 := [(8, .ref (q9)), (7, .int (nI (nf))), (6, .int (nI (ch))), (5, .int (nI (sp))), (0, .ref (mo 0)), (1, .int (nI (d))), (2, .int (t)), (3, .int (kd)), (4, .int (x))]) F d_M_settle_169 (by decide) rfl ?_
                  refine V.iconst F d_M_settle_171 (v := nI (0)) (by decide) ?_
                  refine V.istore (lv2 := [(9, .int (nI (0))), (8, .ref (q9)), (7, .int (nI (nf))), (6, .int (nI (ch))), (5, .int (nI (sp))), (0, .ref (mo 0)), (1, .int (nI (d))), (2, .int (t)), (3, .int (kd)), (4, .int (x))]) F d_M_settle_172 (by decide) rfl ?_
                  have L174 : ∀ (n9 : Nat) (i : Nat) (Sd : Nat → Bool), nf - i < n9 → (i ≤ nf) → (∀ f, f < i → Sd f = (decide (spt f = spt sp) && P f)) → V p l e (rmK 2 1 300) s m [.ref (mo 0), .int (nI (d)), .int (t), .int (kd), .int (x)].toArray below meth c D (va_A (MW ct mo nd nb nf bdk num thg knd dy val tim rep kn clk tol opn bof std xd) s.heap.size) 11 (0 + 1) (0 + 300) (EI D below (MW ct mo nd nb nf bdk num thg knd dy val tim rep kn clk tol opn bof std xd) [.ref (mo 0), .int (nI (d)), .int (t), .int (kd), .int (x)].toArray s 1 300 (fun r u => ∃ P : Nat → Bool, (∀ f, f < nf → P f = lkB (kn d) rep f nf) ∧ ((∃ b : Option Nat, ((∀ g, b = some g → g < nf ∧ (nI (thg g) = t ∧ nI (knd g) = kd ∧ fcB spt val P nf g = true) ∧ ∀ f, f < nf → (nI (thg f) = t ∧ nI (knd f) = kd ∧ fcB spt val P nf f = true) → (fun k g => decide (dy k < dy g)) f g = false) ∧ (b = none → ∀ f, f < nf → ¬ (nI (thg f) = t ∧ nI (knd f) = kd ∧ fcB spt val P nf f = true))) ∧ b = none ∧ r = -1 ∧ u = MW ct mo nd nb nf bdk num thg knd dy val tim rep kn clk tol opn bof P xd) ∨ (∃ sp : Nat, ((∀ g, (some sp) = some g → g < nf ∧ (nI (thg g) = t ∧ nI (knd g) = kd ∧ fcB spt val P nf g = true) ∧ ∀ f, f < nf → (nI (thg f) = t ∧ nI (knd f) = kd ∧ fcB spt val P nf f = true) → (fun k g => decide (dy k < dy g)) f g = false) ∧ ((some sp) = none → ∀ f, f < nf → ¬ (nI (thg f) = t ∧ nI (knd f) = kd ∧ fcB spt val P nf f = true))) ∧ ((∃ cb : Option Nat, ((∀ g, cb = some g → g < nf ∧ (fun g => decide (spt sp = spt g) && P g) g = true ∧ x = nI (cnt (fun h => decide (spt sp = spt h) && (decide (num h < num g) && P h)) nf)) ∧ (cb = none → ∀ g, g < nf → (fun g => decide (spt sp = spt g) && P g) g = true → ¬ x = nI (cnt (fun h => decide (spt sp = spt h) && (decide (num h < num g) && P h)) nf))) ∧ cb = none ∧ r = -1 ∧ u = MW ct mo nd nb nf bdk num thg knd dy val tim rep kn clk tol opn bof P xd) ∨ (∃ ch : Nat, ((∀ g, (some ch) = some g → g < nf ∧ (fun g => decide (spt sp = spt g) && P g) g = true ∧ x = nI (cnt (fun h => decide (spt sp = spt h) && (decide (num h < num g) && P h)) nf)) ∧ ((some ch) = none → ∀ g, g < nf → (fun g => decide (spt sp = spt g) && P g) g = true → ¬ x = nI (cnt (fun h => decide (spt sp = spt h) && (decide (num h < num g) && P h)) nf))) ∧ ((nf = 300 ∧ r = -2 ∧ u = MW ct mo nd nb nf bdk num thg knd dy val tim rep kn clk tol opn bof P xd) ∨ (nf < 300 ∧ r = nI (8 * tol d + d) ∧ ∃ (Rr : Nat → Nat → Bool), (∀ o n, Rr o n = if n = nf ∧ o < nf then (decide (spt o = spt sp) && P o) else rep o n) ∧ u = MW ct mo nd nb (nf + 1) bdk (va_up num nf (8 * tol d + d)) (va_up thg nf (thg sp)) (va_up knd nf (knd sp)) (va_up dy nf (dy sp)) (va_up val nf (val ch)) (va_up tim nf (clk d + 1)) Rr (up2 kn d nf (oB (opn d))) (va_up clk d (clk d + 1)) (va_up tol d (tol d + 1)) opn (va_up bof nf (opn d)) P xd)))))))) (MW ct mo nd nb nf bdk num thg knd dy val tim rep kn clk tol opn bof P xd ++ [(q9, aB ct 300 (Sd))]) [(9, .int (nI (i))), (8, .ref (q9)), (7, .int (nI (nf))), (6, .int (nI (ch))), (5, .int (nI (sp))), (0, .ref (mo 0)), (1, .int (nI (d))), (2, .int (t)), (3, .int (kd)), (4, .int (x))] 174 [] := by
                    intro n9
                    induction n9 with
                    | zero => intro i Sd h9 hi9 hSd; exact absurd h9 (Nat.not_lt_zero _)
                    | succ n9 ih174 =>
                      intro i Sd h9 hi9 hSd
                      refine V.iload F d_M_settle_174 0 rfl ?_
                      refine V.iload F d_M_settle_176 2 rfl ?_
                      refine V.icmp_geN (tgt := 218) F d_M_settle_178 (by decide) (by omega) (by omega) (fun c178 => ?_) (fun c178 => ?_)
                      · skip
                        have e7 : i = nf := by omega
                        rw [e7] at hSd
                        refine V.aload_n F d_M_settle_218 rfl 5 rfl ?_
                        refine V.iload_n F d_M_settle_219 rfl 6 rfl ?_
                        refine V.iload_n F d_M_settle_220 rfl 7 rfl ?_
                        refine V.iload_n F d_M_settle_221 rfl 8 rfl ?_
                        refine V.aload_n F d_M_settle_222 rfl 5 rfl ?_
                        refine V.get F ck_M d_M_settle_223 7 (by decide) lk_M_29 0 rfl rfl ?_
                        refine V.iload F d_M_settle_226 4 rfl ?_
                        refine V.lald (v := lN (dy (sp))) F d_M_settle_228 7 1 rfl rfl (by omega) (by decide) rfl ?_
                        refine V.aload_n F d_M_settle_229 rfl 5 rfl ?_
                        refine V.get F ck_M d_M_settle_230 8 (by decide) lk_M_32 0 rfl rfl ?_
                        refine V.iload F d_M_settle_233 3 rfl ?_
                        refine V.lald (v := val (ch)) F d_M_settle_235 8 1 rfl rfl (by omega) (by decide) rfl ?_
                        refine V.st_eq (st2 := [.long (val (ch)), .long (lN (dy (sp))), .int (nI (knd sp)), .int (nI (thg sp)), .int (nI (d)), .ref (mo 0)]) (by rw [hs1, hs2]) ?_
                        refine V.callVI (As := [.int (nI (d)), .int (nI (thg sp)), .int (nI (knd sp)), .long (lN (dy (sp))), .long (val (ch))]) (rest := []) F (m_add l D (by omega) hnd d hd0 (thg sp) (knd sp) (dy sp) (val ch) hob) d_M_settle_236 sv_M_68 im_y_M_add sl_y_M_add [] [(q9, aB ct 300 (Sd))] rfl 0 rfl rfl rfl rfl rfl (Nat.le_of_ble_eq_true rfl) ⟨rfl, rfl, (Nat.le_of_ble_eq_true rfl), (Nat.le_of_ble_eq_true rfl)⟩ ⟨(Nat.le_of_ble_eq_true rfl), (Nat.le_of_ble_eq_true rfl)⟩ (fun r9 u9 h9 => ?_)
                        obtain ⟨rfl, rfl⟩ := h9
                        refine V.ws_eq (ws2 := MW ct mo nd nb (nf + 1) bdk (va_up num nf (8 * tol d + d)) (va_up thg nf (thg sp)) (va_up knd nf (knd sp)) (va_up dy nf (dy sp)) (va_up val nf (val ch)) (va_up tim nf (clk d + 1)) rep (up2 kn d nf (oB (opn d))) (va_up clk d (clk d + 1)) (va_up tol d (tol d + 1)) opn (va_up bof nf (opn d)) P xd ++ [(q9, aB ct 300 (Sd))]) rfl ?_
                        refine V.istore (lv2 := [(9, .int (nI (nf))), (8, .ref (q9)), (7, .int (nI (nf))), (6, .int (nI (ch))), (5, .int (nI (sp))), (0, .ref (mo 0)), (1, .int (nI (d))), (2, .int (t)), (3, .int (kd)), (4, .int (x))]) F d_M_settle_239 (by decide) rfl ?_
                        refine V.iconst F d_M_settle_241 (v := nI (0)) (by decide) ?_
                        refine V.istore (lv2 := [(10, .int (nI (0))), (9, .int (nI (nf))), (8, .ref (q9)), (7, .int (nI (nf))), (6, .int (nI (ch))), (5, .int (nI (sp))), (0, .ref (mo 0)), (1, .int (nI (d))), (2, .int (t)), (3, .int (kd)), (4, .int (x))]) F d_M_settle_242 (by decide) rfl ?_
                        have L244 : ∀ (n9 : Nat) (i : Nat) (Rr : Nat → Nat → Bool), nf - i < n9 → (i ≤ nf) → (∀ o n, Rr o n = if n = nf ∧ o < i then (decide (spt o = spt sp) && P o) else rep o n) → V p l e (rmK 2 1 300) s m [.ref (mo 0), .int (nI (d)), .int (t), .int (kd), .int (x)].toArray below meth c D (va_A (MW ct mo nd nb nf bdk num thg knd dy val tim rep kn clk tol opn bof std xd) s.heap.size) 11 (0 + 1) (0 + 300) (EI D below (MW ct mo nd nb nf bdk num thg knd dy val tim rep kn clk tol opn bof std xd) [.ref (mo 0), .int (nI (d)), .int (t), .int (kd), .int (x)].toArray s 1 300 (fun r u => ∃ P : Nat → Bool, (∀ f, f < nf → P f = lkB (kn d) rep f nf) ∧ ((∃ b : Option Nat, ((∀ g, b = some g → g < nf ∧ (nI (thg g) = t ∧ nI (knd g) = kd ∧ fcB spt val P nf g = true) ∧ ∀ f, f < nf → (nI (thg f) = t ∧ nI (knd f) = kd ∧ fcB spt val P nf f = true) → (fun k g => decide (dy k < dy g)) f g = false) ∧ (b = none → ∀ f, f < nf → ¬ (nI (thg f) = t ∧ nI (knd f) = kd ∧ fcB spt val P nf f = true))) ∧ b = none ∧ r = -1 ∧ u = MW ct mo nd nb nf bdk num thg knd dy val tim rep kn clk tol opn bof P xd) ∨ (∃ sp : Nat, ((∀ g, (some sp) = some g → g < nf ∧ (nI (thg g) = t ∧ nI (knd g) = kd ∧ fcB spt val P nf g = true) ∧ ∀ f, f < nf → (nI (thg f) = t ∧ nI (knd f) = kd ∧ fcB spt val P nf f = true) → (fun k g => decide (dy k < dy g)) f g = false) ∧ ((some sp) = none → ∀ f, f < nf → ¬ (nI (thg f) = t ∧ nI (knd f) = kd ∧ fcB spt val P nf f = true))) ∧ ((∃ cb : Option Nat, ((∀ g, cb = some g → g < nf ∧ (fun g => decide (spt sp = spt g) && P g) g = true ∧ x = nI (cnt (fun h => decide (spt sp = spt h) && (decide (num h < num g) && P h)) nf)) ∧ (cb = none → ∀ g, g < nf → (fun g => decide (spt sp = spt g) && P g) g = true → ¬ x = nI (cnt (fun h => decide (spt sp = spt h) && (decide (num h < num g) && P h)) nf))) ∧ cb = none ∧ r = -1 ∧ u = MW ct mo nd nb nf bdk num thg knd dy val tim rep kn clk tol opn bof P xd) ∨ (∃ ch : Nat, ((∀ g, (some ch) = some g → g < nf ∧ (fun g => decide (spt sp = spt g) && P g) g = true ∧ x = nI (cnt (fun h => decide (spt sp = spt h) && (decide (num h < num g) && P h)) nf)) ∧ ((some ch) = none → ∀ g, g < nf → (fun g => decide (spt sp = spt g) && P g) g = true → ¬ x = nI (cnt (fun h => decide (spt sp = spt h) && (decide (num h < num g) && P h)) nf))) ∧ ((nf = 300 ∧ r = -2 ∧ u = MW ct mo nd nb nf bdk num thg knd dy val tim rep kn clk tol opn bof P xd) ∨ (nf < 300 ∧ r = nI (8 * tol d + d) ∧ ∃ (Rr : Nat → Nat → Bool), (∀ o n, Rr o n = if n = nf ∧ o < nf then (decide (spt o = spt sp) && P o) else rep o n) ∧ u = MW ct mo nd nb (nf + 1) bdk (va_up num nf (8 * tol d + d)) (va_up thg nf (thg sp)) (va_up knd nf (knd sp)) (va_up dy nf (dy sp)) (va_up val nf (val ch)) (va_up tim nf (clk d + 1)) Rr (up2 kn d nf (oB (opn d))) (va_up clk d (clk d + 1)) (va_up tol d (tol d + 1)) opn (va_up bof nf (opn d)) P xd)))))))) (MW ct mo nd nb (nf + 1) bdk (va_up num nf (8 * tol d + d)) (va_up thg nf (thg sp)) (va_up knd nf (knd sp)) (va_up dy nf (dy sp)) (va_up val nf (val ch)) (va_up tim nf (clk d + 1)) Rr (up2 kn d nf (oB (opn d))) (va_up clk d (clk d + 1)) (va_up tol d (tol d + 1)) opn (va_up bof nf (opn d)) P xd ++ [(q9, aB ct 300 (Sd))]) [(10, .int (nI (i))), (9, .int (nI (nf))), (8, .ref (q9)), (7, .int (nI (nf))), (6, .int (nI (ch))), (5, .int (nI (sp))), (0, .ref (mo 0)), (1, .int (nI (d))), (2, .int (t)), (3, .int (kd)), (4, .int (x))] 244 [] := by
                          intro n9
                          induction n9 with
                          | zero => intro i Rr h9 hi8 hR; exact absurd h9 (Nat.not_lt_zero _)
                          | succ n9 ih244 =>
                            intro i Rr h9 hi8 hR
                            refine V.iload F d_M_settle_244 0 rfl ?_
                            refine V.iload F d_M_settle_246 3 rfl ?_
                            refine V.icmp_geN (tgt := 276) F d_M_settle_248 (by decide) (by omega) (by omega) (fun c248 => ?_) (fun c248 => ?_)
                            · skip
                              have e6 : i = nf := by omega
                              rw [e6] at hR
                              refine V.aload_n F d_M_settle_276 rfl 6 rfl ?_
                              refine V.get F ck_M d_M_settle_277 4 (by decide) lk_M_20 0 rfl rfl ?_
                              refine V.iload F d_M_settle_280 1 rfl ?_
                              refine V.iald (v := nI (8 * tol d + d)) F d_M_settle_282 4 0 rfl rfl (by omega) (by decide) (by show nI (va_up num nf _ nf) = _; rw [va_up_self]) ?_
                              refine V.ws_sub (ws2 := MW ct mo nd nb (nf + 1) bdk (va_up num nf (8 * tol d + d)) (va_up thg nf (thg sp)) (va_up knd nf (knd sp)) (va_up dy nf (dy sp)) (va_up val nf (val ch)) (va_up tim nf (clk d + 1)) Rr (up2 kn d nf (oB (opn d))) (va_up clk d (clk d + 1)) (va_up tol d (tol d + 1)) opn (va_up bof nf (opn d)) P xd) (fun H9 h9 => fr_cut (wa := []) (wb := [(q9, aB ct 300 (Sd))]) h9) (fun h9 => fr_cutD (wa := []) (wb := [(q9, aB ct 300 (Sd))]) h9 (fun _ q => q)) ?_
                              refine V.widen (k := 1) (n := 300) (by decide) (by decide) ?_
                              exact V.iret F hr d_M_settle_283 (⟨P, hP, Or.inr ⟨sp, hb, Or.inr ⟨ch, hc, Or.inr ⟨by omega, rfl, Rr, hR, rfl⟩⟩⟩⟩)
                            · skip
                              refine V.aload_n F d_M_settle_251 rfl 6 rfl ?_
                              refine V.get F ck_M d_M_settle_252 11 (by decide) lk_M_42 0 rfl rfl ?_
                              refine V.iload F d_M_settle_255 1 rfl ?_
                              refine V.sipush F d_M_settle_257 (v := nI (300)) (by decide) ?_
                              refine V.imulN F d_M_settle_260 ?_
                              refine V.iload F d_M_settle_261 0 rfl ?_
                              refine V.iaddN F d_M_settle_263 ?_
                              refine V.aload F d_M_settle_264 2 rfl ?_
                              refine V.iload F d_M_settle_266 0 rfl ?_
                              refine V.zald (v := bI ((Sd) (i))) F d_M_settle_268 15 3 rfl rfl (by omega) (by decide) rfl ?_
                              refine V.zast (b := (Sd) (i)) (ws2 := MW ct mo nd nb (nf + 1) bdk (va_up num nf (8 * tol d + d)) (va_up thg nf (thg sp)) (va_up knd nf (knd sp)) (va_up dy nf (dy sp)) (va_up val nf (val ch)) (va_up tim nf (clk d + 1)) (up2 Rr (i) (nf) ((Sd) (i))) (up2 kn d nf (oB (opn d))) (va_up clk d (clk d + 1)) (va_up tol d (tol d + 1)) opn (va_up bof nf (opn d)) P xd ++ [(q9, aB ct 300 (Sd))]) F d_M_settle_269 11 3 rfl rfl (by omega) (by decide) (by rw [rp_up (by omega)]; rfl) ?_
                              refine V.iincN (k := 1) (lv2 := [(10, .int (nI (i + 1))), (9, .int (nI (nf))), (8, .ref (q9)), (7, .int (nI (nf))), (6, .int (nI (ch))), (5, .int (nI (sp))), (0, .ref (mo 0)), (1, .int (nI (d))), (2, .int (t)), (3, .int (kd)), (4, .int (x))]) F d_M_settle_270 0 rfl (by decide) (by decide) rfl ?_
                              refine V.goto (tgt := 244) F d_M_settle_273 (by decide) ?_
                              exact ih244 (i + 1) (up2 Rr i nf (Sd i)) (by omega) (by omega) (rr_step hR (hSd i (by omega)))
                        exact L244 _ (0) (rep) (Nat.lt_succ_self _) (by omega) (fun o n => by rw [if_neg (by omega)])
                      · skip
                        refine V.aload F d_M_settle_181 1 rfl ?_
                        refine V.iload F d_M_settle_183 0 rfl ?_
                        refine V.aload_n F d_M_settle_185 rfl 5 rfl ?_
                        refine V.iload F d_M_settle_186 0 rfl ?_
                        refine V.iload F d_M_settle_188 4 rfl ?_
                        refine V.callVI (As := [.int (nI (i)), .int (nI (sp))]) (rest := [.int (nI (i)), .ref (q9)]) F (m_areOne l D hnf spt hsp i sp (by omega) (by omega)) d_M_settle_190 sv_M_84 im_y_M_areOne sl_y_M_areOne [] [(q9, aB ct 300 (Sd))] rfl 0 rfl rfl rfl rfl rfl (Nat.le_of_ble_eq_true rfl) ⟨rfl, rfl, (Nat.le_of_ble_eq_true rfl), (Nat.le_of_ble_eq_true rfl)⟩ ⟨(Nat.le_of_ble_eq_true rfl), (Nat.le_of_ble_eq_true rfl)⟩ (fun r9 u9 h9 => ?_)
                        obtain ⟨rfl, rfl⟩ := h9
                        refine V.ws_eq (ws2 := MW ct mo nd nb nf bdk num thg knd dy val tim rep kn clk tol opn bof P xd ++ [(q9, aB ct 300 (Sd))]) rfl ?_
                        refine V.if_eqB (b := decide (spt i = spt sp)) (tgt := 210) F d_M_settle_193 (by decide) (fun c193 => ?_) (fun c193 => ?_)
                        · skip
                          refine V.iconst F d_M_settle_210 (v := nI (0)) (by decide) ?_
                          refine V.zast (b := false) (ws2 := MW ct mo nd nb nf bdk num thg knd dy val tim rep kn clk tol opn bof P xd ++ [(q9, aB ct 300 (va_up (Sd) (i) (false)))]) F d_M_settle_211 15 3 rfl rfl (by omega) (by decide) (by rw [upd_bI]; rfl) ?_
                          refine V.iincN (k := 1) (lv2 := [(9, .int (nI (i + 1))), (8, .ref (q9)), (7, .int (nI (nf))), (6, .int (nI (ch))), (5, .int (nI (sp))), (0, .ref (mo 0)), (1, .int (nI (d))), (2, .int (t)), (3, .int (kd)), (4, .int (x))]) F d_M_settle_212 0 rfl (by decide) (by decide) rfl ?_
                          refine V.goto (tgt := 174) F d_M_settle_215 (by decide) ?_
                          exact ih174 (i + 1) (va_up Sd i false) (by omega) (by omega) (fun f hf => by
          by_cases e9 : f = i
          · rw [e9, va_up_self]; rw [c193]; rfl
          · rw [va_up_ne _ _ e9]; exact hSd f (by omega))
                        · skip
                          refine V.aload_n F d_M_settle_196 rfl 5 rfl ?_
                          refine V.get F ck_M d_M_settle_197 16 (by decide) lk_M_52 0 rfl rfl ?_
                          refine V.iload F d_M_settle_200 0 rfl ?_
                          refine V.zald (v := bI (P (i))) F d_M_settle_202 14 3 rfl rfl (by omega) (by decide) rfl ?_
                          refine V.if_eqB (b := P (i)) (tgt := 210) F d_M_settle_203 (by decide) (fun c203 => ?_) (fun c203 => ?_)
                          · skip
                            refine V.iconst F d_M_settle_210 (v := nI (0)) (by decide) ?_
                            refine V.zast (b := false) (ws2 := MW ct mo nd nb nf bdk num thg knd dy val tim rep kn clk tol opn bof P xd ++ [(q9, aB ct 300 (va_up (Sd) (i) (false)))]) F d_M_settle_211 15 3 rfl rfl (by omega) (by decide) (by rw [upd_bI]; rfl) ?_
                            refine V.iincN (k := 1) (lv2 := [(9, .int (nI (i + 1))), (8, .ref (q9)), (7, .int (nI (nf))), (6, .int (nI (ch))), (5, .int (nI (sp))), (0, .ref (mo 0)), (1, .int (nI (d))), (2, .int (t)), (3, .int (kd)), (4, .int (x))]) F d_M_settle_212 0 rfl (by decide) (by decide) rfl ?_
                            refine V.goto (tgt := 174) F d_M_settle_215 (by decide) ?_
                            exact ih174 (i + 1) (va_up Sd i false) (by omega) (by omega) (fun f hf => by
          by_cases e9 : f = i
          · rw [e9, va_up_self]; rw [c203, Bool.and_false]
          · rw [va_up_ne _ _ e9]; exact hSd f (by omega))
                          · skip
                            refine V.iconst F d_M_settle_206 (v := nI (1)) (by decide) ?_
                            refine V.goto (tgt := 211) F d_M_settle_207 (by decide) ?_
                            refine V.zast (b := true) (ws2 := MW ct mo nd nb nf bdk num thg knd dy val tim rep kn clk tol opn bof P xd ++ [(q9, aB ct 300 (va_up (Sd) (i) (true)))]) F d_M_settle_211 15 3 rfl rfl (by omega) (by decide) (by rw [upd_bI]; rfl) ?_
                            refine V.iincN (k := 1) (lv2 := [(9, .int (nI (i + 1))), (8, .ref (q9)), (7, .int (nI (nf))), (6, .int (nI (ch))), (5, .int (nI (sp))), (0, .ref (mo 0)), (1, .int (nI (d))), (2, .int (t)), (3, .int (kd)), (4, .int (x))]) F d_M_settle_212 0 rfl (by decide) (by decide) rfl ?_
                            refine V.goto (tgt := 174) F d_M_settle_215 (by decide) ?_
                            exact ih174 (i + 1) (va_up Sd i true) (by omega) (by omega) (fun f hf => by
          by_cases e9 : f = i
          · rw [e9, va_up_self]; rw [c193, c203]; rfl
          · rw [va_up_ne _ _ e9]; exact hSd f (by omega))
                  exact L174 _ (0) (fun _ => false) (Nat.lt_succ_self _) (by omega) (fun f hf => absurd hf (by omega))
                · skip
                  refine V.bipush F d_M_settle_155 (v := -2) (by decide) ?_
                  refine V.widen (k := 1) (n := 300) (by decide) (by decide) ?_
                  exact V.iret F hr d_M_settle_157 (⟨P, hP, Or.inr ⟨sp, hb, Or.inr ⟨ch, hc, Or.inl ⟨c152, rfl, rfl⟩⟩⟩⟩)
              · skip
                have hcn := oI_none (fun g e9 => by have := (hc.1 g e9).1; omega) c140
                refine V.iconst F d_M_settle_143 (v := -1) (by decide) ?_
                refine V.widen (k := 1) (n := 300) (by decide) (by decide) ?_
                exact V.iret F hr d_M_settle_144 (⟨P, hP, Or.inr ⟨sp, hb, Or.inl ⟨cb, hc, hcn, rfl, rfl⟩⟩⟩)
            · skip
              have hbn := oI_none (fun g e9 => by have := (hb.1 g e9).1; omega) c120
              refine V.iconst F d_M_settle_123 (v := -1) (by decide) ?_
              refine V.goto (tgt := 135) F d_M_settle_124 (by decide) ?_
              refine V.istore (lv2 := [(6, .int (-1)), (5, .int (oI b)), (0, .ref (mo 0)), (1, .int (nI (d))), (2, .int (t)), (3, .int (kd)), (4, .int (x))]) F d_M_settle_135 (by decide) rfl ?_
              refine V.iload F d_M_settle_137 0 rfl ?_
              refine V.iconst F d_M_settle_139 (v := -1) (by decide) ?_
              refine V.icmp_ne (x := -1) (y := -1) (tgt := 145) F d_M_settle_140 (by decide) (fun c140 => ?_) (fun c140 => ?_)
              · skip
                exact absurd rfl c140
              · skip
                refine V.iconst F d_M_settle_143 (v := -1) (by decide) ?_
                refine V.widen (k := 1) (n := 300) (by decide) (by decide) ?_
                exact V.iret F hr d_M_settle_144 (⟨P, hP, Or.inl ⟨b, hb, hbn, rfl, rfl⟩⟩)
          · skip
            obtain ⟨-, -, -, hd9⟩ := hsp i (by omega)
            refine V.aload_n F d_M_settle_35 rfl 2 rfl ?_
            refine V.get F ck_M d_M_settle_36 5 (by decide) lk_M_23 0 rfl rfl ?_
            refine V.iload F d_M_settle_39 0 rfl ?_
            refine V.iald (v := nI (thg (i))) F d_M_settle_41 5 0 rfl rfl (by omega) (by decide) rfl ?_
            refine V.iload_n F d_M_settle_42 rfl 4 rfl ?_
            refine V.icmp_ne (x := nI (thg (i))) (y := t) (tgt := 85) F d_M_settle_43 (by decide) (fun c43 => ?_) (fun c43 => ?_)
            · skip
              refine V.iconst F d_M_settle_85 (v := nI (0)) (by decide) ?_
              refine V.istore (lv2 := [(7, .int (nI (0))), (6, .int (nI (i))), (5, .int (oI b)), (0, .ref (mo 0)), (1, .int (nI (d))), (2, .int (t)), (3, .int (kd)), (4, .int (x))]) F d_M_settle_86 (by decide) rfl ?_
              refine V.iload F d_M_settle_88 0 rfl ?_
              refine V.if_eqN (a := 0) (tgt := 107) F d_M_settle_90 (by decide) (by omega) (fun c90 => ?_) (fun c90 => ?_)
              · skip
                refine V.iload F d_M_settle_107 2 rfl ?_
                refine V.istore (lv2 := [(5, .int (oI b)), (7, .int (nI (0))), (6, .int (nI (i))), (0, .ref (mo 0)), (1, .int (nI (d))), (2, .int (t)), (3, .int (kd)), (4, .int (x))]) F d_M_settle_109 (by decide) rfl ?_
                refine V.iincN (k := 1) (lv2 := [(6, .int (nI (i + 1))), (5, .int (oI b)), (7, .int (nI (0))), (0, .ref (mo 0)), (1, .int (nI (d))), (2, .int (t)), (3, .int (kd)), (4, .int (x))]) F d_M_settle_111 2 rfl (by decide) (by decide) rfl ?_
                refine V.goto (tgt := 26) F d_M_settle_114 (by decide) ?_
                refine V.lvs [0, 1, 3, 4, 5, 6, 7] rfl ?_
                exact ih26 (i + 1) (b) (by omega) (by omega) (best_skip (CA := fun f => nI (thg f) = t ∧ nI (knd f) = kd ∧ fcB spt val P nf f = true) (lt := fun k g => decide (dy k < dy g)) hb (fun q => c43 q.1))
              · skip
                exact absurd c90 (by decide)
            · skip
              refine V.aload_n F d_M_settle_46 rfl 2 rfl ?_
              refine V.get F ck_M d_M_settle_47 6 (by decide) lk_M_26 0 rfl rfl ?_
              refine V.iload F d_M_settle_50 0 rfl ?_
              refine V.iald (v := nI (knd (i))) F d_M_settle_52 6 0 rfl rfl (by omega) (by decide) rfl ?_
              refine V.iload_n F d_M_settle_53 rfl 5 rfl ?_
              refine V.icmp_ne (x := nI (knd (i))) (y := kd) (tgt := 85) F d_M_settle_54 (by decide) (fun c54 => ?_) (fun c54 => ?_)
              · skip
                refine V.iconst F d_M_settle_85 (v := nI (0)) (by decide) ?_
                refine V.istore (lv2 := [(7, .int (nI (0))), (6, .int (nI (i))), (5, .int (oI b)), (0, .ref (mo 0)), (1, .int (nI (d))), (2, .int (t)), (3, .int (kd)), (4, .int (x))]) F d_M_settle_86 (by decide) rfl ?_
                refine V.iload F d_M_settle_88 0 rfl ?_
                refine V.if_eqN (a := 0) (tgt := 107) F d_M_settle_90 (by decide) (by omega) (fun c90 => ?_) (fun c90 => ?_)
                · skip
                  refine V.iload F d_M_settle_107 2 rfl ?_
                  refine V.istore (lv2 := [(5, .int (oI b)), (7, .int (nI (0))), (6, .int (nI (i))), (0, .ref (mo 0)), (1, .int (nI (d))), (2, .int (t)), (3, .int (kd)), (4, .int (x))]) F d_M_settle_109 (by decide) rfl ?_
                  refine V.iincN (k := 1) (lv2 := [(6, .int (nI (i + 1))), (5, .int (oI b)), (7, .int (nI (0))), (0, .ref (mo 0)), (1, .int (nI (d))), (2, .int (t)), (3, .int (kd)), (4, .int (x))]) F d_M_settle_111 2 rfl (by decide) (by decide) rfl ?_
                  refine V.goto (tgt := 26) F d_M_settle_114 (by decide) ?_
                  refine V.lvs [0, 1, 3, 4, 5, 6, 7] rfl ?_
                  exact ih26 (i + 1) (b) (by omega) (by omega) (best_skip (CA := fun f => nI (thg f) = t ∧ nI (knd f) = kd ∧ fcB spt val P nf f = true) (lt := fun k g => decide (dy k < dy g)) hb (fun q => c54 q.2.1))
                · skip
                  exact absurd c90 (by decide)
              · skip
                refine V.iload F d_M_settle_57 1 rfl ?_
                refine V.iconst F d_M_settle_59 (v := -1) (by decide) ?_
                refine V.icmp_eq (x := oI b) (y := -1) (tgt := 81) F d_M_settle_60 (by decide) (fun c60 => ?_) (fun c60 => ?_)
                · skip
                  have hbn := oI_none (fun g e9 => by have := (hb.1 g e9).1; omega) c60
                  refine V.iconst F d_M_settle_81 (v := nI (1)) (by decide) ?_
                  refine V.goto (tgt := 86) F d_M_settle_82 (by decide) ?_
                  refine V.istore (lv2 := [(7, .int (nI (1))), (6, .int (nI (i))), (5, .int (oI b)), (0, .ref (mo 0)), (1, .int (nI (d))), (2, .int (t)), (3, .int (kd)), (4, .int (x))]) F d_M_settle_86 (by decide) rfl ?_
                  refine V.iload F d_M_settle_88 0 rfl ?_
                  refine V.if_eqN (a := 1) (tgt := 107) F d_M_settle_90 (by decide) (by omega) (fun c90 => ?_) (fun c90 => ?_)
                  · skip
                    exact absurd c90 (by decide)
                  · skip
                    refine V.aload_n F d_M_settle_93 rfl 3 rfl ?_
                    refine V.iload F d_M_settle_94 1 rfl ?_
                    refine V.callVI0 (As := [.int (nI (i))]) (rest := []) F (m_isFC l D hnf spt hsp i (by omega)) d_M_settle_96 sv_M_88 im_y_M_isFirstOfConflict sl_y_M_isFirstOfConflict 0 rfl rfl rfl rfl rfl (Nat.le_of_ble_eq_true rfl) ⟨rfl, rfl, (Nat.le_of_ble_eq_true rfl), (Nat.le_of_ble_eq_true rfl)⟩ ⟨(Nat.le_of_ble_eq_true rfl), (Nat.le_of_ble_eq_true rfl)⟩ (fun r9 u9 h9 => ?_)
                    obtain ⟨rfl, rfl⟩ := h9
                    refine V.if_eqB (b := fcB spt val P nf i) (tgt := 107) F d_M_settle_99 (by decide) (fun c99 => ?_) (fun c99 => ?_)
                    · skip
                      refine V.iload F d_M_settle_107 2 rfl ?_
                      refine V.istore (lv2 := [(5, .int (oI b)), (7, .int (nI (1))), (6, .int (nI (i))), (0, .ref (mo 0)), (1, .int (nI (d))), (2, .int (t)), (3, .int (kd)), (4, .int (x))]) F d_M_settle_109 (by decide) rfl ?_
                      refine V.iincN (k := 1) (lv2 := [(6, .int (nI (i + 1))), (5, .int (oI b)), (7, .int (nI (1))), (0, .ref (mo 0)), (1, .int (nI (d))), (2, .int (t)), (3, .int (kd)), (4, .int (x))]) F d_M_settle_111 2 rfl (by decide) (by decide) rfl ?_
                      refine V.goto (tgt := 26) F d_M_settle_114 (by decide) ?_
                      refine V.lvs [0, 1, 3, 4, 5, 6, 7] rfl ?_
                      exact ih26 (i + 1) (b) (by omega) (by omega) (best_skip (CA := fun f => nI (thg f) = t ∧ nI (knd f) = kd ∧ fcB spt val P nf f = true) (lt := fun k g => decide (dy k < dy g)) hb (fun q => by rw [q.2.2] at c99; cases c99))
                    · skip
                      refine V.iload F d_M_settle_102 1 rfl ?_
                      refine V.goto (tgt := 109) F d_M_settle_104 (by decide) ?_
                      refine V.istore (lv2 := [(5, .int (nI (i))), (7, .int (nI (1))), (6, .int (nI (i))), (0, .ref (mo 0)), (1, .int (nI (d))), (2, .int (t)), (3, .int (kd)), (4, .int (x))]) F d_M_settle_109 (by decide) rfl ?_
                      refine V.iincN (k := 1) (lv2 := [(6, .int (nI (i + 1))), (5, .int (nI (i))), (7, .int (nI (1))), (0, .ref (mo 0)), (1, .int (nI (d))), (2, .int (t)), (3, .int (kd)), (4, .int (x))]) F d_M_settle_111 2 rfl (by decide) (by decide) rfl ?_
                      refine V.goto (tgt := 26) F d_M_settle_114 (by decide) ?_
                      refine V.lvs [0, 1, 3, 4, 5, 6, 7] rfl ?_
                      exact ih26 (i + 1) (some i) (by omega) (by omega) (best_first (CA := fun f => nI (thg f) = t ∧ nI (knd f) = kd ∧ fcB spt val P nf f = true) (lt := fun k g => decide (dy k < dy g)) (dl_irr dy) hb hbn ⟨c43, c54, c99⟩)
                · skip
                  obtain ⟨g, rfl⟩ := oI_some c60
                  have hg9 := (hb.1 g rfl).1
                  obtain ⟨-, -, -, hd8⟩ := hsp g (by omega)
                  refine V.aload_n F d_M_settle_63 rfl 2 rfl ?_
                  refine V.get F ck_M d_M_settle_64 7 (by decide) lk_M_29 0 rfl rfl ?_
                  refine V.iload F d_M_settle_67 0 rfl ?_
                  refine V.lald (v := lN (dy (i))) F d_M_settle_69 7 1 rfl rfl (by omega) (by decide) rfl ?_
                  refine V.aload_n F d_M_settle_70 rfl 2 rfl ?_
                  refine V.get F ck_M d_M_settle_71 7 (by decide) lk_M_29 0 rfl rfl ?_
                  refine V.iload F d_M_settle_74 1 rfl ?_
                  refine V.lald (v := lN (dy (g))) F d_M_settle_76 7 1 rfl rfl (by omega) (by decide) rfl ?_
                  refine V.lcmp_ge (tgt := 85) F d_M_settle_77 d_M_settle_78 (by decide) (fun c77 => ?_) (fun c77 => ?_)
                  · skip
                    have k77 := (lN_le (by omega) (by omega)).mp c77
                    refine V.iconst F d_M_settle_85 (v := nI (0)) (by decide) ?_
                    refine V.istore (lv2 := [(7, .int (nI (0))), (6, .int (nI (i))), (5, .int (nI (g))), (0, .ref (mo 0)), (1, .int (nI (d))), (2, .int (t)), (3, .int (kd)), (4, .int (x))]) F d_M_settle_86 (by decide) rfl ?_
                    refine V.iload F d_M_settle_88 0 rfl ?_
                    refine V.if_eqN (a := 0) (tgt := 107) F d_M_settle_90 (by decide) (by omega) (fun c90 => ?_) (fun c90 => ?_)
                    · skip
                      refine V.iload F d_M_settle_107 2 rfl ?_
                      refine V.istore (lv2 := [(5, .int (nI (g))), (7, .int (nI (0))), (6, .int (nI (i))), (0, .ref (mo 0)), (1, .int (nI (d))), (2, .int (t)), (3, .int (kd)), (4, .int (x))]) F d_M_settle_109 (by decide) rfl ?_
                      refine V.iincN (k := 1) (lv2 := [(6, .int (nI (i + 1))), (5, .int (nI (g))), (7, .int (nI (0))), (0, .ref (mo 0)), (1, .int (nI (d))), (2, .int (t)), (3, .int (kd)), (4, .int (x))]) F d_M_settle_111 2 rfl (by decide) (by decide) rfl ?_
                      refine V.goto (tgt := 26) F d_M_settle_114 (by decide) ?_
                      refine V.lvs [0, 1, 3, 4, 5, 6, 7] rfl ?_
                      exact ih26 (i + 1) (some g) (by omega) (by omega) (best_keep (CA := fun f => nI (thg f) = t ∧ nI (knd f) = kd ∧ fcB spt val P nf f = true) (lt := fun k g => decide (dy k < dy g)) hb (decide_eq_false (by omega)))
                    · skip
                      exact absurd c90 (by decide)
                  · skip
                    have k77 : dy i < dy g := Nat.lt_of_not_le (fun q => c77 ((lN_le (by omega) (by omega)).mpr q))
                    refine V.iconst F d_M_settle_81 (v := nI (1)) (by decide) ?_
                    refine V.goto (tgt := 86) F d_M_settle_82 (by decide) ?_
                    refine V.istore (lv2 := [(7, .int (nI (1))), (6, .int (nI (i))), (5, .int (nI (g))), (0, .ref (mo 0)), (1, .int (nI (d))), (2, .int (t)), (3, .int (kd)), (4, .int (x))]) F d_M_settle_86 (by decide) rfl ?_
                    refine V.iload F d_M_settle_88 0 rfl ?_
                    refine V.if_eqN (a := 1) (tgt := 107) F d_M_settle_90 (by decide) (by omega) (fun c90 => ?_) (fun c90 => ?_)
                    · skip
                      exact absurd c90 (by decide)
                    · skip
                      refine V.aload_n F d_M_settle_93 rfl 3 rfl ?_
                      refine V.iload F d_M_settle_94 1 rfl ?_
                      refine V.callVI0 (As := [.int (nI (i))]) (rest := []) F (m_isFC l D hnf spt hsp i (by omega)) d_M_settle_96 sv_M_88 im_y_M_isFirstOfConflict sl_y_M_isFirstOfConflict 0 rfl rfl rfl rfl rfl (Nat.le_of_ble_eq_true rfl) ⟨rfl, rfl, (Nat.le_of_ble_eq_true rfl), (Nat.le_of_ble_eq_true rfl)⟩ ⟨(Nat.le_of_ble_eq_true rfl), (Nat.le_of_ble_eq_true rfl)⟩ (fun r9 u9 h9 => ?_)
                      obtain ⟨rfl, rfl⟩ := h9
                      refine V.if_eqB (b := fcB spt val P nf i) (tgt := 107) F d_M_settle_99 (by decide) (fun c99 => ?_) (fun c99 => ?_)
                      · skip
                        refine V.iload F d_M_settle_107 2 rfl ?_
                        refine V.istore (lv2 := [(5, .int (nI (g))), (7, .int (nI (1))), (6, .int (nI (i))), (0, .ref (mo 0)), (1, .int (nI (d))), (2, .int (t)), (3, .int (kd)), (4, .int (x))]) F d_M_settle_109 (by decide) rfl ?_
                        refine V.iincN (k := 1) (lv2 := [(6, .int (nI (i + 1))), (5, .int (nI (g))), (7, .int (nI (1))), (0, .ref (mo 0)), (1, .int (nI (d))), (2, .int (t)), (3, .int (kd)), (4, .int (x))]) F d_M_settle_111 2 rfl (by decide) (by decide) rfl ?_
                        refine V.goto (tgt := 26) F d_M_settle_114 (by decide) ?_
                        refine V.lvs [0, 1, 3, 4, 5, 6, 7] rfl ?_
                        exact ih26 (i + 1) (some g) (by omega) (by omega) (best_skip (CA := fun f => nI (thg f) = t ∧ nI (knd f) = kd ∧ fcB spt val P nf f = true) (lt := fun k g => decide (dy k < dy g)) hb (fun q => by rw [q.2.2] at c99; cases c99))
                      · skip
                        refine V.iload F d_M_settle_102 1 rfl ?_
                        refine V.goto (tgt := 109) F d_M_settle_104 (by decide) ?_
                        refine V.istore (lv2 := [(5, .int (nI (i))), (7, .int (nI (1))), (6, .int (nI (i))), (0, .ref (mo 0)), (1, .int (nI (d))), (2, .int (t)), (3, .int (kd)), (4, .int (x))]) F d_M_settle_109 (by decide) rfl ?_
                        refine V.iincN (k := 1) (lv2 := [(6, .int (nI (i + 1))), (5, .int (nI (i))), (7, .int (nI (1))), (0, .ref (mo 0)), (1, .int (nI (d))), (2, .int (t)), (3, .int (kd)), (4, .int (x))]) F d_M_settle_111 2 rfl (by decide) (by decide) rfl ?_
                        refine V.goto (tgt := 26) F d_M_settle_114 (by decide) ?_
                        refine V.lvs [0, 1, 3, 4, 5, 6, 7] rfl ?_
                        exact ih26 (i + 1) (some i) (by omega) (by omega) (best_up (CA := fun f => nI (thg f) = t ∧ nI (knd f) = kd ∧ fcB spt val P nf f = true) (lt := fun k g => decide (dy k < dy g)) (dl_irr dy) (dl_tr dy) hb (decide_eq_true k77) ⟨c43, c54, c99⟩)
      exact L26 _ (0) (none) (Nat.lt_succ_self _) (by omega) (⟨fun g q => (by cases q), fun _ k hk => absurd hk (by omega)⟩)
    · skip
      exact absurd (i32_nl c10) hx

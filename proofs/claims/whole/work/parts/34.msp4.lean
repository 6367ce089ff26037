theorem li_lt {a b : Nat} (ha : a < 2 ^ 31) (hb : b < 2 ^ 31) (h : ¬ lN a < lN b) : ¬ a < b := fun q => h ((lN_lt ha hb).mpr q)
theorem li_eq {a b : Nat} (h : ¬ lN a = lN b) : a ≠ b := fun q => h (by rw [q])
set_option maxHeartbeats 4000000 in
set_option maxRecDepth 100000 in
theorem m_knownNo (l : Launch) (D : va_G) {ct : Nat → ClassId} {mo : Nat → Nat} {nd : Nat} {nb : Nat} {nf : Nat} {bdk : Nat → Nat} {num : Nat → Nat} {thg : Nat → Nat} {knd : Nat → Nat} {dy : Nat → Nat} {val : Nat → Int64} {tim : Nat → Nat} {rep : Nat → Nat → Bool} {kn : Nat → Nat → Bool} {clk : Nat → Nat} {tol : Nat → Nat} {opn : Nat → Option Nat} {bof : Nat → Option Nat} {std : Nat → Bool} {xd : Int64} (x0 t kd : Int32) (y on : Int64) (hx : x0 < 0 ∨ nI nd ≤ x0) : CL l y_M_known b_M_known 11 (some .long) (rmK 2 0 0) D (tyL ct) (MW ct mo nd nb nf bdk num thg knd dy val tim rep kn clk tol opn bof std xd) [.ref (mo 0), .int (x0), .int (t), .int (kd), .long (y), .long (on)] 0 0 (fun r u => r = -9223372036854775808 ∧ u = MW ct mo nd nb nf bdk num thg knd dy val tim rep kn clk tol opn bof std xd) := by
  refine CL.start (by decide) (Nat.le_of_ble_eq_true rfl) ?_
  intro p e s m below meth c F hr hnm
  show V p l e (rmK 2 0 0) s m [.ref (mo 0), .int (x0), .int (t), .int (kd), .long (y), .long (on)].toArray below meth c D (va_A (MW ct mo nd nb nf bdk num thg knd dy val tim rep kn clk tol opn bof std xd) s.heap.size) 11 0 0 (EL D below (MW ct mo nd nb nf bdk num thg knd dy val tim rep kn clk tol opn bof std xd) [.ref (mo 0), .int (x0), .int (t), .int (kd), .long (y), .long (on)].toArray s 0 0 (fun r u => r = -9223372036854775808 ∧ u = MW ct mo nd nb nf bdk num thg knd dy val tim rep kn clk tol opn bof std xd)) (MW ct mo nd nb nf bdk num thg knd dy val tim rep kn clk tol opn bof std xd) [(0, .ref (mo 0)), (1, .int (x0)), (2, .int (t)), (3, .int (kd)), (4, .long (y)), (6, .long (on))] 0 []
  refine V.aload_n F d_M_known_0 rfl 0 rfl ?_
  refine V.iload_n F d_M_known_1 rfl 1 rfl ?_
  refine V.callVI0 (As := [.int (x0)]) (rest := []) F (m_isDeskNo l D x0 hx) d_M_known_2 sv_M_62 im_y_M_isDesk sl_y_M_isDesk 0 rfl rfl rfl rfl rfl (Nat.le_of_ble_eq_true rfl) ⟨rfl, rfl, (Nat.le_of_ble_eq_true rfl), (Nat.le_of_ble_eq_true rfl)⟩ ⟨(Nat.le_of_ble_eq_true rfl), (Nat.le_of_ble_eq_true rfl)⟩ (fun r9 u9 h9 => ?_)
  obtain ⟨rfl, rfl⟩ := h9
  refine V.if_neB (b := false) (tgt := 12) F d_M_known_5 (by decide) (fun c5 => ?_) (fun c5 => ?_)
  · skip
    exact absurd c5 (by decide)
  · skip
    refine V.ldc2 F d_M_known_8 (v := -9223372036854775808) lk_M_103 ?_
    exact V.lret F hr d_M_known_11 (⟨rfl, rfl⟩)

set_option maxHeartbeats 4000000 in
set_option maxRecDepth 100000 in
theorem m_known (l : Launch) (D : va_G) {ct : Nat → ClassId} {mo : Nat → Nat} {nd : Nat} {nb : Nat} {nf : Nat} {bdk : Nat → Nat} {num : Nat → Nat} {thg : Nat → Nat} {knd : Nat → Nat} {dy : Nat → Nat} {val : Nat → Int64} {tim : Nat → Nat} {rep : Nat → Nat → Bool} {kn : Nat → Nat → Bool} {clk : Nat → Nat} {tol : Nat → Nat} {opn : Nat → Option Nat} {bof : Nat → Option Nat} {std : Nat → Bool} {xd : Int64} (hnf : nf ≤ 300) (hnd : nd ≤ 8) (d : Nat) (hd0 : d < nd) (spt : Nat → Nat) (hsp : SpR spt thg knd dy nf) (hnum : ∀ k, k < nf → num k < 2 ^ 31) (htim : ∀ k, k < nf → tim k < 2 ^ 31) (t kd : Int32) (y on : Int64) : CL l y_M_known b_M_known 11 (some .long) (rmK 2 0 0) D (tyL ct) (MW ct mo nd nb nf bdk num thg knd dy val tim rep kn clk tol opn bof std xd) [.ref (mo 0), .int (nI (d)), .int (t), .int (kd), .long (y), .long (on)] 0 0 (fun r u => (∃ b : Option Nat, r = (match b with | none => -9223372036854775808 | some g => val g) ∧ (∀ g, b = some g → g < nf ∧ (nI (thg g) = t ∧ nI (knd g) = kd ∧ ¬ y < lN (dy g) ∧ lkB (fun k => kn d k && decide (¬ on < lN (tim k))) rep g nf = true) ∧ ∀ k, k < nf → (nI (thg k) = t ∧ nI (knd k) = kd ∧ ¬ y < lN (dy k) ∧ lkB (fun k => kn d k && decide (¬ on < lN (tim k))) rep k nf = true) → ltB dy tim num k g = false) ∧ (b = none → ∀ k, k < nf → ¬ (nI (thg k) = t ∧ nI (knd k) = kd ∧ ¬ y < lN (dy k) ∧ lkB (fun k => kn d k && decide (¬ on < lN (tim k))) rep k nf = true))) ∧ u = MW ct mo nd nb nf bdk num thg knd dy val tim rep kn clk tol opn bof std xd) := by
  refine CL.start (by decide) (Nat.le_of_ble_eq_true rfl) ?_
  intro p e s m below meth c F hr hnm
  show V p l e (rmK 2 0 0) s m [.ref (mo 0), .int (nI (d)), .int (t), .int (kd), .long (y), .long (on)].toArray below meth c D (va_A (MW ct mo nd nb nf bdk num thg knd dy val tim rep kn clk tol opn bof std xd) s.heap.size) 11 0 0 (EL D below (MW ct mo nd nb nf bdk num thg knd dy val tim rep kn clk tol opn bof std xd) [.ref (mo 0), .int (nI (d)), .int (t), .int (kd), .long (y), .long (on)].toArray s 0 0 (fun r u => (∃ b : Option Nat, r = (match b with | none => -9223372036854775808 | some g => val g) ∧ (∀ g, b = some g → g < nf ∧ (nI (thg g) = t ∧ nI (knd g) = kd ∧ ¬ y < lN (dy g) ∧ lkB (fun k => kn d k && decide (¬ on < lN (tim k))) rep g nf = true) ∧ ∀ k, k < nf → (nI (thg k) = t ∧ nI (knd k) = kd ∧ ¬ y < lN (dy k) ∧ lkB (fun k => kn d k && decide (¬ on < lN (tim k))) rep k nf = true) → ltB dy tim num k g = false) ∧ (b = none → ∀ k, k < nf → ¬ (nI (thg k) = t ∧ nI (knd k) = kd ∧ ¬ y < lN (dy k) ∧ lkB (fun k => kn d k && decide (¬ on < lN (tim k))) rep k nf = true))) ∧ u = MW ct mo nd nb nf bdk num thg knd dy val tim rep kn clk tol opn bof std xd)) (MW ct mo nd nb nf bdk num thg knd dy val tim rep kn clk tol opn bof std xd) [(0, .ref (mo 0)), (1, .int (nI (d))), (2, .int (t)), (3, .int (kd)), (4, .long (y)), (6, .long (on))] 0 []
  refine V.aload_n F d_M_known_0 rfl 0 rfl ?_
  refine V.iload_n F d_M_known_1 rfl 1 rfl ?_
  refine V.callVI0 (As := [.int (nI (d))]) (rest := []) F (m_isDesk l D hnd d hd0) d_M_known_2 sv_M_62 im_y_M_isDesk sl_y_M_isDesk 0 rfl rfl rfl rfl rfl (Nat.le_of_ble_eq_true rfl) ⟨rfl, rfl, (Nat.le_of_ble_eq_true rfl), (Nat.le_of_ble_eq_true rfl)⟩ ⟨(Nat.le_of_ble_eq_true rfl), (Nat.le_of_ble_eq_true rfl)⟩ (fun r9 u9 h9 => ?_)
  obtain ⟨rfl, rfl⟩ := h9
  refine V.if_neB (b := true) (tgt := 12) F d_M_known_5 (by decide) (fun c5 => ?_) (fun c5 => ?_)
  · skip
    refine V.iconst F d_M_known_12 (v := -1) (by decide) ?_
    refine V.istore (lv2 := [(8, .int (-1)), (0, .ref (mo 0)), (1, .int (nI (d))), (2, .int (t)), (3, .int (kd)), (4, .long (y)), (6, .long (on))]) F d_M_known_13 (by decide) rfl ?_
    refine V.iconst F d_M_known_15 (v := nI (0)) (by decide) ?_
    refine V.istore (lv2 := [(9, .int (nI (0))), (8, .int (-1)), (0, .ref (mo 0)), (1, .int (nI (d))), (2, .int (t)), (3, .int (kd)), (4, .long (y)), (6, .long (on))]) F d_M_known_16 (by decide) rfl ?_
    have L18 : ∀ (n9 : Nat) (i : Nat) (b : Option Nat), nf - i < n9 → (i ≤ nf) → ((∀ g, b = some g → g < i ∧ (nI (thg g) = t ∧ nI (knd g) = kd ∧ ¬ y < lN (dy g) ∧ lkB (fun k => kn d k && decide (¬ on < lN (tim k))) rep g nf = true) ∧ ∀ k, k < i → (nI (thg k) = t ∧ nI (knd k) = kd ∧ ¬ y < lN (dy k) ∧ lkB (fun k => kn d k && decide (¬ on < lN (tim k))) rep k nf = true) → ltB dy tim num k g = false) ∧ (b = none → ∀ k, k < i → ¬ (nI (thg k) = t ∧ nI (knd k) = kd ∧ ¬ y < lN (dy k) ∧ lkB (fun k => kn d k && decide (¬ on < lN (tim k))) rep k nf = true))) → V p l e (rmK 2 0 0) s m [.ref (mo 0), .int (nI (d)), .int (t), .int (kd), .long (y), .long (on)].toArray below meth c D (va_A (MW ct mo nd nb nf bdk num thg knd dy val tim rep kn clk tol opn bof std xd) s.heap.size) 11 0 0 (EL D below (MW ct mo nd nb nf bdk num thg knd dy val tim rep kn clk tol opn bof std xd) [.ref (mo 0), .int (nI (d)), .int (t), .int (kd), .long (y), .long (on)].toArray s 0 0 (fun r u => (∃ b : Option Nat, r = (match b with | none => -9223372036854775808 | some g => val g) ∧ (∀ g, b = some g → g < nf ∧ (nI (thg g) = t ∧ nI (knd g) = kd ∧ ¬ y < lN (dy g) ∧ lkB (fun k => kn d k && decide (¬ on < lN (tim k))) rep g nf = true) ∧ ∀ k, k < nf → (nI (thg k) = t ∧ nI (knd k) = kd ∧ ¬ y < lN (dy k) ∧ lkB (fun k => kn d k && decide (¬ on < lN (tim k))) rep k nf = true) → ltB dy tim num k g = false) ∧ (b = none → ∀ k, k < nf → ¬ (nI (thg k) = t ∧ nI (knd k) = kd ∧ ¬ y < lN (dy k) ∧ lkB (fun k => kn d k && decide (¬ on < lN (tim k))) rep k nf = true))) ∧ u = MW ct mo nd nb nf bdk num thg knd dy val tim rep kn clk tol opn bof std xd)) (MW ct mo nd nb nf bdk num thg knd dy val tim rep kn clk tol opn bof std xd) [(9, .int (nI (i))), (8, .int (oI b)), (0, .ref (mo 0)), (1, .int (nI (d))), (2, .int (t)), (3, .int (kd)), (4, .long (y)), (6, .long (on))] 18 [] := by
      intro n9
      induction n9 with
      | zero => intro i b h9 hi hb; exact absurd h9 (Nat.not_lt_zero _)
      | succ n9 ih18 =>
        intro i b h9 hi hb
        refine V.iload F d_M_known_18 0 rfl ?_
        refine V.aload_n F d_M_known_20 rfl 2 rfl ?_
        refine V.get F ck_M d_M_known_21 13 (by decide) lk_M_59 0 rfl rfl ?_
        refine V.icmp_geN (tgt := 196) F d_M_known_24 (by decide) (by omega) (by omega) (fun c24 => ?_) (fun c24 => ?_)
        · skip
          have e8 : i = nf := by omega
          rw [e8] at hb
          refine V.iload F d_M_known_196 1 rfl ?_
          refine V.iconst F d_M_known_198 (v := -1) (by decide) ?_
          refine V.icmp_ne (x := oI b) (y := -1) (tgt := 208) F d_M_known_199 (by decide) (fun c199 => ?_) (fun c199 => ?_)
          · skip
            obtain ⟨g, rfl⟩ := oI_some c199
            have hg9 := (hb.1 g rfl).1
            refine V.aload_n F d_M_known_208 rfl 2 rfl ?_
            refine V.get F ck_M d_M_known_209 8 (by decide) lk_M_32 0 rfl rfl ?_
            refine V.iload F d_M_known_212 1 rfl ?_
            refine V.lald (v := val (g)) F d_M_known_214 8 1 rfl rfl (by omega) (by decide) rfl ?_
            exact V.lret F hr d_M_known_215 (⟨⟨some g, rfl, hb⟩, rfl⟩)
          · skip
            have hbn := oI_none (fun g e9 => by have := (hb.1 g e9).1; omega) c199
            refine V.ldc2 F d_M_known_202 (v := -9223372036854775808) lk_M_103 ?_
            refine V.goto (tgt := 215) F d_M_known_205 (by decide) ?_
            exact V.lret F hr d_M_known_215 (⟨⟨none, rfl, by rw [hbn] at hb; exact hb⟩, rfl⟩)
        · skip
          obtain ⟨-, -, -, hd9⟩ := hsp i (by omega)
          have ht9 := htim i (by omega)
          have hn9 := hnum i (by omega)
          refine V.aload_n F d_M_known_27 rfl 2 rfl ?_
          refine V.get F ck_M d_M_known_28 5 (by decide) lk_M_23 0 rfl rfl ?_
          refine V.iload F d_M_known_31 0 rfl ?_
          refine V.iald (v := nI (thg (i))) F d_M_known_33 5 0 rfl rfl (by omega) (by decide) rfl ?_
          refine V.iload_n F d_M_known_34 rfl 4 rfl ?_
          refine V.icmp_ne (x := nI (thg (i))) (y := t) (tgt := 190) F d_M_known_35 (by decide) (fun c35 => ?_) (fun c35 => ?_)
          · skip
            refine V.iincN (k := 1) (lv2 := [(9, .int (nI (i + 1))), (8, .int (oI b)), (0, .ref (mo 0)), (1, .int (nI (d))), (2, .int (t)), (3, .int (kd)), (4, .long (y)), (6, .long (on))]) F d_M_known_190 0 rfl (by decide) (by decide) rfl ?_
            refine V.goto (tgt := 18) F d_M_known_193 (by decide) ?_
            exact ih18 (i + 1) (b) (by omega) (by omega) (best_skip (CA := fun k => nI (thg k) = t ∧ nI (knd k) = kd ∧ ¬ y < lN (dy k) ∧ lkB (fun k => kn d k && decide (¬ on < lN (tim k))) rep k nf = true) (lt := ltB dy tim num) hb (fun q => c35 q.1))
          · skip
            refine V.aload_n F d_M_known_38 rfl 2 rfl ?_
            refine V.get F ck_M d_M_known_39 6 (by decide) lk_M_26 0 rfl rfl ?_
            refine V.iload F d_M_known_42 0 rfl ?_
            refine V.iald (v := nI (knd (i))) F d_M_known_44 6 0 rfl rfl (by omega) (by decide) rfl ?_
            refine V.iload_n F d_M_known_45 rfl 5 rfl ?_
            refine V.icmp_ne (x := nI (knd (i))) (y := kd) (tgt := 190) F d_M_known_46 (by decide) (fun c46 => ?_) (fun c46 => ?_)
            · skip
              refine V.iincN (k := 1) (lv2 := [(9, .int (nI (i + 1))), (8, .int (oI b)), (0, .ref (mo 0)), (1, .int (nI (d))), (2, .int (t)), (3, .int (kd)), (4, .long (y)), (6, .long (on))]) F d_M_known_190 0 rfl (by decide) (by decide) rfl ?_
              refine V.goto (tgt := 18) F d_M_known_193 (by decide) ?_
              exact ih18 (i + 1) (b) (by omega) (by omega) (best_skip (CA := fun k => nI (thg k) = t ∧ nI (knd k) = kd ∧ ¬ y < lN (dy k) ∧ lkB (fun k => kn d k && decide (¬ on < lN (tim k))) rep k nf = true) (lt := ltB dy tim num) hb (fun q => c46 q.2.1))
            · skip
              refine V.aload_n F d_M_known_49 rfl 2 rfl ?_
              refine V.get F ck_M d_M_known_50 7 (by decide) lk_M_29 0 rfl rfl ?_
              refine V.iload F d_M_known_53 0 rfl ?_
              refine V.lald (v := lN (dy (i))) F d_M_known_55 7 1 rfl rfl (by omega) (by decide) rfl ?_
              refine V.lload F d_M_known_56 6 rfl ?_
              refine V.lcmp_gt (tgt := 190) F d_M_known_58 d_M_known_59 (by decide) (fun c58 => ?_) (fun c58 => ?_)
              · skip
                refine V.iincN (k := 1) (lv2 := [(9, .int (nI (i + 1))), (8, .int (oI b)), (0, .ref (mo 0)), (1, .int (nI (d))), (2, .int (t)), (3, .int (kd)), (4, .long (y)), (6, .long (on))]) F d_M_known_190 0 rfl (by decide) (by decide) rfl ?_
                refine V.goto (tgt := 18) F d_M_known_193 (by decide) ?_
                exact ih18 (i + 1) (b) (by omega) (by omega) (best_skip (CA := fun k => nI (thg k) = t ∧ nI (knd k) = kd ∧ ¬ y < lN (dy k) ∧ lkB (fun k => kn d k && decide (¬ on < lN (tim k))) rep k nf = true) (lt := ltB dy tim num) hb (fun q => q.2.2.1 c58))
              · skip
                refine V.aload_n F d_M_known_62 rfl 2 rfl ?_
                refine V.iload_n F d_M_known_63 rfl 3 rfl ?_
                refine V.iload F d_M_known_64 0 rfl ?_
                refine V.lload F d_M_known_66 7 rfl ?_
                refine V.callVI0 (As := [.int (nI (d)), .int (nI (i)), .long (on)]) (rest := []) F (m_stands l D hnf hnd d hd0 i (by omega) on) d_M_known_68 sv_M_105 im_y_M_stands sl_y_M_stands 0 rfl rfl rfl rfl rfl (Nat.le_of_ble_eq_true rfl) ⟨rfl, rfl, (Nat.le_of_ble_eq_true rfl), (Nat.le_of_ble_eq_true rfl)⟩ ⟨(Nat.le_of_ble_eq_true rfl), (Nat.le_of_ble_eq_true rfl)⟩ (fun r9 u9 h9 => ?_)
                obtain ⟨rfl, rfl⟩ := h9
                refine V.if_eqB (b := lkB (fun k => kn d k && decide (¬ on < lN (tim k))) rep i nf) (tgt := 190) F d_M_known_71 (by decide) (fun c71 => ?_) (fun c71 => ?_)
                · skip
                  refine V.iincN (k := 1) (lv2 := [(9, .int (nI (i + 1))), (8, .int (oI b)), (0, .ref (mo 0)), (1, .int (nI (d))), (2, .int (t)), (3, .int (kd)), (4, .long (y)), (6, .long (on))]) F d_M_known_190 0 rfl (by decide) (by decide) rfl ?_
                  refine V.goto (tgt := 18) F d_M_known_193 (by decide) ?_
                  exact ih18 (i + 1) (b) (by omega) (by omega) (best_skip (CA := fun k => nI (thg k) = t ∧ nI (knd k) = kd ∧ ¬ y < lN (dy k) ∧ lkB (fun k => kn d k && decide (¬ on < lN (tim k))) rep k nf = true) (lt := ltB dy tim num) hb (fun q => by rw [q.2.2.2] at c71; cases c71))
                · skip
                  refine V.iload F d_M_known_74 1 rfl ?_
                  refine V.iconst F d_M_known_76 (v := -1) (by decide) ?_
                  refine V.icmp_eq (x := oI b) (y := -1) (tgt := 169) F d_M_known_77 (by decide) (fun c77 => ?_) (fun c77 => ?_)
                  · skip
                    refine V.iconst F d_M_known_169 (v := nI (1)) (by decide) ?_
                    refine V.goto (tgt := 174) F d_M_known_170 (by decide) ?_
                    refine V.istore (lv2 := [(10, .int (nI (1))), (9, .int (nI (i))), (8, .int (oI b)), (0, .ref (mo 0)), (1, .int (nI (d))), (2, .int (t)), (3, .int (kd)), (4, .long (y)), (6, .long (on))]) F d_M_known_174 (by decide) rfl ?_
                    refine V.iload F d_M_known_176 0 rfl ?_
                    refine V.if_eqN (a := 1) (tgt := 186) F d_M_known_178 (by decide) (by omega) (fun c178 => ?_) (fun c178 => ?_)
                    · skip
                      exact absurd c178 (by decide)
                    · skip
                      refine V.iload F d_M_known_181 1 rfl ?_
                      refine V.goto (tgt := 188) F d_M_known_183 (by decide) ?_
                      refine V.istore (lv2 := [(8, .int (nI (i))), (10, .int (nI (1))), (9, .int (nI (i))), (0, .ref (mo 0)), (1, .int (nI (d))), (2, .int (t)), (3, .int (kd)), (4, .long (y)), (6, .long (on))]) F d_M_known_188 (by decide) rfl ?_
                      refine V.iincN (k := 1) (lv2 := [(9, .int (nI (i + 1))), (8, .int (nI (i))), (10, .int (nI (1))), (0, .ref (mo 0)), (1, .int (nI (d))), (2, .int (t)), (3, .int (kd)), (4, .long (y)), (6, .long (on))]) F d_M_known_190 2 rfl (by decide) (by decide) rfl ?_
                      refine V.goto (tgt := 18) F d_M_known_193 (by decide) ?_
                      refine V.lvs [0, 1, 3, 4, 5, 6, 7, 8] rfl ?_
                      exact ih18 (i + 1) (some i) (by omega) (by omega) (best_first (CA := fun k => nI (thg k) = t ∧ nI (knd k) = kd ∧ ¬ y < lN (dy k) ∧ lkB (fun k => kn d k && decide (¬ on < lN (tim k))) rep k nf = true) (lt := ltB dy tim num) ltB_irr hb (oI_none (fun g e9 => by have := (hb.1 g e9).1; omega) c77) ⟨c35, c46, c58, c71⟩)
                  · skip
                    obtain ⟨g, rfl⟩ := oI_some c77
                    have hg9 := (hb.1 g rfl).1
                    obtain ⟨-, -, -, hd8⟩ := hsp g (by omega)
                    have ht8 := htim g (by omega)
                    have hn8 := hnum g (by omega)
                    refine V.aload_n F d_M_known_80 rfl 2 rfl ?_
                    refine V.get F ck_M d_M_known_81 7 (by decide) lk_M_29 0 rfl rfl ?_
                    refine V.iload F d_M_known_84 0 rfl ?_
                    refine V.lald (v := lN (dy (i))) F d_M_known_86 7 1 rfl rfl (by omega) (by decide) rfl ?_
                    refine V.aload_n F d_M_known_87 rfl 2 rfl ?_
                    refine V.get F ck_M d_M_known_88 7 (by decide) lk_M_29 0 rfl rfl ?_
                    refine V.iload F d_M_known_91 1 rfl ?_
                    refine V.lald (v := lN (dy (g))) F d_M_known_93 7 1 rfl rfl (by omega) (by decide) rfl ?_
                    refine V.lcmp_gt (tgt := 169) F d_M_known_94 d_M_known_95 (by decide) (fun c94 => ?_) (fun c94 => ?_)
                    · skip
                      have k94 := (lN_lt (by omega) (by omega)).mp c94
                      refine V.iconst F d_M_known_169 (v := nI (1)) (by decide) ?_
                      refine V.goto (tgt := 174) F d_M_known_170 (by decide) ?_
                      refine V.istore (lv2 := [(10, .int (nI (1))), (9, .int (nI (i))), (8, .int (nI (g))), (0, .ref (mo 0)), (1, .int (nI (d))), (2, .int (t)), (3, .int (kd)), (4, .long (y)), (6, .long (on))]) F d_M_known_174 (by decide) rfl ?_
                      refine V.iload F d_M_known_176 0 rfl ?_
                      refine V.if_eqN (a := 1) (tgt := 186) F d_M_known_178 (by decide) (by omega) (fun c178 => ?_) (fun c178 => ?_)
                      · skip
                        exact absurd c178 (by decide)
                      · skip
                        refine V.iload F d_M_known_181 1 rfl ?_
                        refine V.goto (tgt := 188) F d_M_known_183 (by decide) ?_
                        refine V.istore (lv2 := [(8, .int (nI (i))), (10, .int (nI (1))), (9, .int (nI (i))), (0, .ref (mo 0)), (1, .int (nI (d))), (2, .int (t)), (3, .int (kd)), (4, .long (y)), (6, .long (on))]) F d_M_known_188 (by decide) rfl ?_
                        refine V.iincN (k := 1) (lv2 := [(9, .int (nI (i + 1))), (8, .int (nI (i))), (10, .int (nI (1))), (0, .ref (mo 0)), (1, .int (nI (d))), (2, .int (t)), (3, .int (kd)), (4, .long (y)), (6, .long (on))]) F d_M_known_190 2 rfl (by decide) (by decide) rfl ?_
                        refine V.goto (tgt := 18) F d_M_known_193 (by decide) ?_
                        refine V.lvs [0, 1, 3, 4, 5, 6, 7, 8] rfl ?_
                        exact ih18 (i + 1) (some i) (by omega) (by omega) (best_up (CA := fun k => nI (thg k) = t ∧ nI (knd k) = kd ∧ ¬ y < lN (dy k) ∧ lkB (fun k => kn d k && decide (¬ on < lN (tim k))) rep k nf = true) (lt := ltB dy tim num) ltB_irr ltB_tr hb (by unfold ltB; rw [if_pos (by omega), decide_eq_true k94]) ⟨c35, c46, c58, c71⟩)
                    · skip
                      have k94 := li_lt (by omega) (by omega) c94
                      refine V.aload_n F d_M_known_98 rfl 2 rfl ?_
                      refine V.get F ck_M d_M_known_99 7 (by decide) lk_M_29 0 rfl rfl ?_
                      refine V.iload F d_M_known_102 0 rfl ?_
                      refine V.lald (v := lN (dy (i))) F d_M_known_104 7 1 rfl rfl (by omega) (by decide) rfl ?_
                      refine V.aload_n F d_M_known_105 rfl 2 rfl ?_
                      refine V.get F ck_M d_M_known_106 7 (by decide) lk_M_29 0 rfl rfl ?_
                      refine V.iload F d_M_known_109 1 rfl ?_
                      refine V.lald (v := lN (dy (g))) F d_M_known_111 7 1 rfl rfl (by omega) (by decide) rfl ?_
                      refine V.lcmp_ne (tgt := 173) F d_M_known_112 d_M_known_113 (by decide) (fun c112 => ?_) (fun c112 => ?_)
                      · skip
                        have k112 := li_eq c112
                        refine V.iconst F d_M_known_173 (v := nI (0)) (by decide) ?_
                        refine V.istore (lv2 := [(10, .int (nI (0))), (9, .int (nI (i))), (8, .int (nI (g))), (0, .ref (mo 0)), (1, .int (nI (d))), (2, .int (t)), (3, .int (kd)), (4, .long (y)), (6, .long (on))]) F d_M_known_174 (by decide) rfl ?_
                        refine V.iload F d_M_known_176 0 rfl ?_
                        refine V.if_eqN (a := 0) (tgt := 186) F d_M_known_178 (by decide) (by omega) (fun c178 => ?_) (fun c178 => ?_)
                        · skip
                          refine V.iload F d_M_known_186 2 rfl ?_
                          refine V.istore (lv2 := [(8, .int (nI (g))), (10, .int (nI (0))), (9, .int (nI (i))), (0, .ref (mo 0)), (1, .int (nI (d))), (2, .int (t)), (3, .int (kd)), (4, .long (y)), (6, .long (on))]) F d_M_known_188 (by decide) rfl ?_
                          refine V.iincN (k := 1) (lv2 := [(9, .int (nI (i + 1))), (8, .int (nI (g))), (10, .int (nI (0))), (0, .ref (mo 0)), (1, .int (nI (d))), (2, .int (t)), (3, .int (kd)), (4, .long (y)), (6, .long (on))]) F d_M_known_190 2 rfl (by decide) (by decide) rfl ?_
                          refine V.goto (tgt := 18) F d_M_known_193 (by decide) ?_
                          refine V.lvs [0, 1, 3, 4, 5, 6, 7, 8] rfl ?_
                          exact ih18 (i + 1) (some g) (by omega) (by omega) (best_keep (CA := fun k => nI (thg k) = t ∧ nI (knd k) = kd ∧ ¬ y < lN (dy k) ∧ lkB (fun k => kn d k && decide (¬ on < lN (tim k))) rep k nf = true) (lt := ltB dy tim num) hb (by unfold ltB; rw [if_pos k112, decide_eq_false k94]))
                        · skip
                          exact absurd c178 (by decide)
                      · skip
                        have k112 := (lN_eq (by omega) (by omega)).mp c112
                        refine V.aload_n F d_M_known_116 rfl 2 rfl ?_
                        refine V.get F ck_M d_M_known_117 9 (by decide) lk_M_35 0 rfl rfl ?_
                        refine V.iload F d_M_known_120 0 rfl ?_
                        refine V.lald (v := lN (tim (i))) F d_M_known_122 9 1 rfl rfl (by omega) (by decide) rfl ?_
                        refine V.aload_n F d_M_known_123 rfl 2 rfl ?_
                        refine V.get F ck_M d_M_known_124 9 (by decide) lk_M_35 0 rfl rfl ?_
                        refine V.iload F d_M_known_127 1 rfl ?_
                        refine V.lald (v := lN (tim (g))) F d_M_known_129 9 1 rfl rfl (by omega) (by decide) rfl ?_
                        refine V.lcmp_gt (tgt := 169) F d_M_known_130 d_M_known_131 (by decide) (fun c130 => ?_) (fun c130 => ?_)
                        · skip
                          have k130 := (lN_lt (by omega) (by omega)).mp c130
                          refine V.iconst F d_M_known_169 (v := nI (1)) (by decide) ?_
                          refine V.goto (tgt := 174) F d_M_known_170 (by decide) ?_
                          refine V.istore (lv2 := [(10, .int (nI (1))), (9, .int (nI (i))), (8, .int (nI (g))), (0, .ref (mo 0)), (1, .int (nI (d))), (2, .int (t)), (3, .int (kd)), (4, .long (y)), (6, .long (on))]) F d_M_known_174 (by decide) rfl ?_
                          refine V.iload F d_M_known_176 0 rfl ?_
                          refine V.if_eqN (a := 1) (tgt := 186) F d_M_known_178 (by decide) (by omega) (fun c178 => ?_) (fun c178 => ?_)
                          · skip
                            exact absurd c178 (by decide)
                          · skip
                            refine V.iload F d_M_known_181 1 rfl ?_
                            refine V.goto (tgt := 188) F d_M_known_183 (by decide) ?_
                            refine V.istore (lv2 := [(8, .int (nI (i))), (10, .int (nI (1))), (9, .int (nI (i))), (0, .ref (mo 0)), (1, .int (nI (d))), (2, .int (t)), (3, .int (kd)), (4, .long (y)), (6, .long (on))]) F d_M_known_188 (by decide) rfl ?_
                            refine V.iincN (k := 1) (lv2 := [(9, .int (nI (i + 1))), (8, .int (nI (i))), (10, .int (nI (1))), (0, .ref (mo 0)), (1, .int (nI (d))), (2, .int (t)), (3, .int (kd)), (4, .long (y)), (6, .long (on))]) F d_M_known_190 2 rfl (by decide) (by decide) rfl ?_
                            refine V.goto (tgt := 18) F d_M_known_193 (by decide) ?_
                            refine V.lvs [0, 1, 3, 4, 5, 6, 7, 8] rfl ?_
                            exact ih18 (i + 1) (some i) (by omega) (by omega) (best_up (CA := fun k => nI (thg k) = t ∧ nI (knd k) = kd ∧ ¬ y < lN (dy k) ∧ lkB (fun k => kn d k && decide (¬ on < lN (tim k))) rep k nf = true) (lt := ltB dy tim num) ltB_irr ltB_tr hb (by unfold ltB; rw [if_neg (fun q => q k112), if_pos (by omega), decide_eq_true k130]) ⟨c35, c46, c58, c71⟩)
                        · skip
                          have k130 := li_lt (by omega) (by omega) c130
                          refine V.aload_n F d_M_known_134 rfl 2 rfl ?_
                          refine V.get F ck_M d_M_known_135 9 (by decide) lk_M_35 0 rfl rfl ?_
                          refine V.iload F d_M_known_138 0 rfl ?_
                          refine V.lald (v := lN (tim (i))) F d_M_known_140 9 1 rfl rfl (by omega) (by decide) rfl ?_
                          refine V.aload_n F d_M_known_141 rfl 2 rfl ?_
                          refine V.get F ck_M d_M_known_142 9 (by decide) lk_M_35 0 rfl rfl ?_
                          refine V.iload F d_M_known_145 1 rfl ?_
                          refine V.lald (v := lN (tim (g))) F d_M_known_147 9 1 rfl rfl (by omega) (by decide) rfl ?_
                          refine V.lcmp_ne (tgt := 173) F d_M_known_148 d_M_known_149 (by decide) (fun c148 => ?_) (fun c148 => ?_)
                          · skip
                            have k148 := li_eq c148
                            refine V.iconst F d_M_known_173 (v := nI (0)) (by decide) ?_
                            refine V.istore (lv2 := [(10, .int (nI (0))), (9, .int (nI (i))), (8, .int (nI (g))), (0, .ref (mo 0)), (1, .int (nI (d))), (2, .int (t)), (3, .int (kd)), (4, .long (y)), (6, .long (on))]) F d_M_known_174 (by decide) rfl ?_
                            refine V.iload F d_M_known_176 0 rfl ?_
                            refine V.if_eqN (a := 0) (tgt := 186) F d_M_known_178 (by decide) (by omega) (fun c178 => ?_) (fun c178 => ?_)
                            · skip
                              refine V.iload F d_M_known_186 2 rfl ?_
                              refine V.istore (lv2 := [(8, .int (nI (g))), (10, .int (nI (0))), (9, .int (nI (i))), (0, .ref (mo 0)), (1, .int (nI (d))), (2, .int (t)), (3, .int (kd)), (4, .long (y)), (6, .long (on))]) F d_M_known_188 (by decide) rfl ?_
                              refine V.iincN (k := 1) (lv2 := [(9, .int (nI (i + 1))), (8, .int (nI (g))), (10, .int (nI (0))), (0, .ref (mo 0)), (1, .int (nI (d))), (2, .int (t)), (3, .int (kd)), (4, .long (y)), (6, .long (on))]) F d_M_known_190 2 rfl (by decide) (by decide) rfl ?_
                              refine V.goto (tgt := 18) F d_M_known_193 (by decide) ?_
                              refine V.lvs [0, 1, 3, 4, 5, 6, 7, 8] rfl ?_
                              exact ih18 (i + 1) (some g) (by omega) (by omega) (best_keep (CA := fun k => nI (thg k) = t ∧ nI (knd k) = kd ∧ ¬ y < lN (dy k) ∧ lkB (fun k => kn d k && decide (¬ on < lN (tim k))) rep k nf = true) (lt := ltB dy tim num) hb (by unfold ltB; rw [if_neg (fun q => q k112), if_pos k148, decide_eq_false k130]))
                            · skip
                              exact absurd c178 (by decide)
                          · skip
                            have k148 := (lN_eq (by omega) (by omega)).mp c148
                            refine V.aload_n F d_M_known_152 rfl 2 rfl ?_
                            refine V.get F ck_M d_M_known_153 4 (by decide) lk_M_20 0 rfl rfl ?_
                            refine V.iload F d_M_known_156 0 rfl ?_
                            refine V.iald (v := nI (num (i))) F d_M_known_158 4 0 rfl rfl (by omega) (by decide) rfl ?_
                            refine V.aload_n F d_M_known_159 rfl 2 rfl ?_
                            refine V.get F ck_M d_M_known_160 4 (by decide) lk_M_20 0 rfl rfl ?_
                            refine V.iload F d_M_known_163 1 rfl ?_
                            refine V.iald (v := nI (num (g))) F d_M_known_165 4 0 rfl rfl (by omega) (by decide) rfl ?_
                            refine V.icmp_leN (tgt := 173) F d_M_known_166 (by decide) (by omega) (by omega) (fun c166 => ?_) (fun c166 => ?_)
                            · skip
                              refine V.iconst F d_M_known_173 (v := nI (0)) (by decide) ?_
                              refine V.istore (lv2 := [(10, .int (nI (0))), (9, .int (nI (i))), (8, .int (nI (g))), (0, .ref (mo 0)), (1, .int (nI (d))), (2, .int (t)), (3, .int (kd)), (4, .long (y)), (6, .long (on))]) F d_M_known_174 (by decide) rfl ?_
                              refine V.iload F d_M_known_176 0 rfl ?_
                              refine V.if_eqN (a := 0) (tgt := 186) F d_M_known_178 (by decide) (by omega) (fun c178 => ?_) (fun c178 => ?_)
                              · skip
                                refine V.iload F d_M_known_186 2 rfl ?_
                                refine V.istore (lv2 := [(8, .int (nI (g))), (10, .int (nI (0))), (9, .int (nI (i))), (0, .ref (mo 0)), (1, .int (nI (d))), (2, .int (t)), (3, .int (kd)), (4, .long (y)), (6, .long (on))]) F d_M_known_188 (by decide) rfl ?_
                                refine V.iincN (k := 1) (lv2 := [(9, .int (nI (i + 1))), (8, .int (nI (g))), (10, .int (nI (0))), (0, .ref (mo 0)), (1, .int (nI (d))), (2, .int (t)), (3, .int (kd)), (4, .long (y)), (6, .long (on))]) F d_M_known_190 2 rfl (by decide) (by decide) rfl ?_
                                refine V.goto (tgt := 18) F d_M_known_193 (by decide) ?_
                                refine V.lvs [0, 1, 3, 4, 5, 6, 7, 8] rfl ?_
                                exact ih18 (i + 1) (some g) (by omega) (by omega) (best_keep (CA := fun k => nI (thg k) = t ∧ nI (knd k) = kd ∧ ¬ y < lN (dy k) ∧ lkB (fun k => kn d k && decide (¬ on < lN (tim k))) rep k nf = true) (lt := ltB dy tim num) hb (by unfold ltB; rw [if_neg (fun q => q k112), if_neg (fun q => q k148), decide_eq_false (by omega)]))
                              · skip
                                exact absurd c178 (by decide)
                            · skip
                              refine V.iconst F d_M_known_169 (v := nI (1)) (by decide) ?_
                              refine V.goto (tgt := 174) F d_M_known_170 (by decide) ?_
                              refine V.istore (lv2 := [(10, .int (nI (1))), (9, .int (nI (i))), (8, .int (nI (g))), (0, .ref (mo 0)), (1, .int (nI (d))), (2, .int (t)), (3, .int (kd)), (4, .long (y)), (6, .long (on))]) F d_M_known_174 (by decide) rfl ?_
                              refine V.iload F d_M_known_176 0 rfl ?_
                              refine V.if_eqN (a := 1) (tgt := 186) F d_M_known_178 (by decide) (by omega) (fun c178 => ?_) (fun c178 => ?_)
                              · skip
                                exact absurd c178 (by decide)
                              · skip
                                refine V.iload F d_M_known_181 1 rfl ?_
                                refine V.goto (tgt := 188) F d_M_known_183 (by decide) ?_
                                refine V.istore (lv2 := [(8, .int (nI (i))), (10, .int (nI (1))), (9, .int (nI (i))), (0, .ref (mo 0)), (1, .int (nI (d))), (2, .int (t)), (3, .int (kd)), (4, .long (y)), (6, .long (on))]) F d_M_known_188 (by decide) rfl ?_
                                refine V.iincN (k := 1) (lv2 := [(9, .int (nI (i + 1))), (8, .int (nI (i))), (10, .int (nI (1))), (0, .ref (mo 0)), (1, .int (nI (d))), (2, .int (t)), (3, .int (kd)), (4, .long (y)), (6, .long (on))]) F d_M_known_190 2 rfl (by decide) (by decide) rfl ?_
                                refine V.goto (tgt := 18) F d_M_known_193 (by decide) ?_
                                refine V.lvs [0, 1, 3, 4, 5, 6, 7, 8] rfl ?_
                                exact ih18 (i + 1) (some i) (by omega) (by omega) (best_up (CA := fun k => nI (thg k) = t ∧ nI (knd k) = kd ∧ ¬ y < lN (dy k) ∧ lkB (fun k => kn d k && decide (¬ on < lN (tim k))) rep k nf = true) (lt := ltB dy tim num) ltB_irr ltB_tr hb (by unfold ltB; rw [if_neg (fun q => q k112), if_neg (fun q => q k148), decide_eq_true c166]) ⟨c35, c46, c58, c71⟩)
    exact L18 _ (0) (none) (Nat.lt_succ_self _) (by omega) (⟨fun g q => (by cases q), fun _ k hk => absurd hk (by omega)⟩)
  · skip
    exact absurd c5 (by decide)

set_option maxHeartbeats 4000000 in
set_option maxRecDepth 100000 in
theorem m_cfNoD (l : Launch) (D : va_G) {ct : Nat → ClassId} {mo : Nat → Nat} {nd : Nat} {nb : Nat} {nf : Nat} {bdk : Nat → Nat} {num : Nat → Nat} {thg : Nat → Nat} {knd : Nat → Nat} {dy : Nat → Nat} {val : Nat → Int64} {tim : Nat → Nat} {rep : Nat → Nat → Bool} {kn : Nat → Nat → Bool} {clk : Nat → Nat} {tol : Nat → Nat} {opn : Nat → Option Nat} {bof : Nat → Option Nat} {std : Nat → Bool} {xd : Int64} (x0 k x : Int32) (hx : x0 < 0 ∨ nI nd ≤ x0) : CI l y_M_conflict b_M_conflict 7 (some .int) (rmK 2 0 0) D (tyL ct) (MW ct mo nd nb nf bdk num thg knd dy val tim rep kn clk tol opn bof std xd) [.ref (mo 0), .int (x0), .int (k), .int (x)] 0 0 (fun r u => r = -1 ∧ u = MW ct mo nd nb nf bdk num thg knd dy val tim rep kn clk tol opn bof std xd) := by
  refine CI.start (by decide) (Nat.le_of_ble_eq_true rfl) ?_
  intro p e s m below meth c F hr hnm
  show V p l e (rmK 2 0 0) s m [.ref (mo 0), .int (x0), .int (k), .int (x)].toArray below meth c D (va_A (MW ct mo nd nb nf bdk num thg knd dy val tim rep kn clk tol opn bof std xd) s.heap.size) 7 0 0 (EI D below (MW ct mo nd nb nf bdk num thg knd dy val tim rep kn clk tol opn bof std xd) [.ref (mo 0), .int (x0), .int (k), .int (x)].toArray s 0 0 (fun r u => r = -1 ∧ u = MW ct mo nd nb nf bdk num thg knd dy val tim rep kn clk tol opn bof std xd)) (MW ct mo nd nb nf bdk num thg knd dy val tim rep kn clk tol opn bof std xd) [(0, .ref (mo 0)), (1, .int (x0)), (2, .int (k)), (3, .int (x))] 0 []
  refine V.aload_n F d_M_conflict_0 rfl 0 rfl ?_
  refine V.iload_n F d_M_conflict_1 rfl 1 rfl ?_
  refine V.callVI0 (As := [.int (x0)]) (rest := []) F (m_isDeskNo l D x0 hx) d_M_conflict_2 sv_M_62 im_y_M_isDesk sl_y_M_isDesk 0 rfl rfl rfl rfl rfl (Nat.le_of_ble_eq_true rfl) ⟨rfl, rfl, (Nat.le_of_ble_eq_true rfl), (Nat.le_of_ble_eq_true rfl)⟩ ⟨(Nat.le_of_ble_eq_true rfl), (Nat.le_of_ble_eq_true rfl)⟩ (fun r9 u9 h9 => ?_)
  obtain ⟨rfl, rfl⟩ := h9
  refine V.if_eqB (b := false) (tgt := 16) F d_M_conflict_5 (by decide) (fun c5 => ?_) (fun c5 => ?_)
  · skip
    refine V.iconst F d_M_conflict_16 (v := -1) (by decide) ?_
    exact V.iret F hr d_M_conflict_17 (⟨rfl, rfl⟩)
  · skip
    exact absurd c5 (by decide)

set_option maxHeartbeats 4000000 in
set_option maxRecDepth 100000 in
theorem m_cfNeg (l : Launch) (D : va_G) {ct : Nat → ClassId} {mo : Nat → Nat} {nd : Nat} {nb : Nat} {nf : Nat} {bdk : Nat → Nat} {num : Nat → Nat} {thg : Nat → Nat} {knd : Nat → Nat} {dy : Nat → Nat} {val : Nat → Int64} {tim : Nat → Nat} {rep : Nat → Nat → Bool} {kn : Nat → Nat → Bool} {clk : Nat → Nat} {tol : Nat → Nat} {opn : Nat → Option Nat} {bof : Nat → Option Nat} {std : Nat → Bool} {xd : Int64} (hnd : nd ≤ 8) (d : Nat) (hd0 : d < nd) (k x : Int32) (hx : k < 0 ∨ x < 0) : CI l y_M_conflict b_M_conflict 7 (some .int) (rmK 2 0 0) D (tyL ct) (MW ct mo nd nb nf bdk num thg knd dy val tim rep kn clk tol opn bof std xd) [.ref (mo 0), .int (nI (d)), .int (k), .int (x)] 0 0 (fun r u => r = -1 ∧ u = MW ct mo nd nb nf bdk num thg knd dy val tim rep kn clk tol opn bof std xd) := by
  refine CI.start (by decide) (Nat.le_of_ble_eq_true rfl) ?_
  intro p e s m below meth c F hr hnm
  show V p l e (rmK 2 0 0) s m [.ref (mo 0), .int (nI (d)), .int (k), .int (x)].toArray below meth c D (va_A (MW ct mo nd nb nf bdk num thg knd dy val tim rep kn clk tol opn bof std xd) s.heap.size) 7 0 0 (EI D below (MW ct mo nd nb nf bdk num thg knd dy val tim rep kn clk tol opn bof std xd) [.ref (mo 0), .int (nI (d)), .int (k), .int (x)].toArray s 0 0 (fun r u => r = -1 ∧ u = MW ct mo nd nb nf bdk num thg knd dy val tim rep kn clk tol opn bof std xd)) (MW ct mo nd nb nf bdk num thg knd dy val tim rep kn clk tol opn bof std xd) [(0, .ref (mo 0)), (1, .int (nI (d))), (2, .int (k)), (3, .int (x))] 0 []
  refine V.aload_n F d_M_conflict_0 rfl 0 rfl ?_
  refine V.iload_n F d_M_conflict_1 rfl 1 rfl ?_
  refine V.callVI0 (As := [.int (nI (d))]) (rest := []) F (m_isDesk l D hnd d hd0) d_M_conflict_2 sv_M_62 im_y_M_isDesk sl_y_M_isDesk 0 rfl rfl rfl rfl rfl (Nat.le_of_ble_eq_true rfl) ⟨rfl, rfl, (Nat.le_of_ble_eq_true rfl), (Nat.le_of_ble_eq_true rfl)⟩ ⟨(Nat.le_of_ble_eq_true rfl), (Nat.le_of_ble_eq_true rfl)⟩ (fun r9 u9 h9 => ?_)
  obtain ⟨rfl, rfl⟩ := h9
  refine V.if_eqB (b := true) (tgt := 16) F d_M_conflict_5 (by decide) (fun c5 => ?_) (fun c5 => ?_)
  · skip
    exact absurd c5 (by decide)
  · skip
    refine V.iload_n F d_M_conflict_8 rfl 2 rfl ?_
    refine V.if_lt (x := k) (tgt := 16) F d_M_conflict_9 (by decide) (fun c9 => ?_) (fun c9 => ?_)
    · skip
      refine V.iconst F d_M_conflict_16 (v := -1) (by decide) ?_
      exact V.iret F hr d_M_conflict_17 (⟨rfl, rfl⟩)
    · skip
      refine V.iload_n F d_M_conflict_12 rfl 3 rfl ?_
      refine V.if_ge (x := x) (tgt := 18) F d_M_conflict_13 (by decide) (fun c13 => ?_) (fun c13 => ?_)
      · skip
        exact absurd hx (fun q => q.elim c9 (i32_ge c13))
      · skip
        refine V.iconst F d_M_conflict_16 (v := -1) (by decide) ?_
        exact V.iret F hr d_M_conflict_17 (⟨rfl, rfl⟩)

set_option maxHeartbeats 4000000 in
set_option maxRecDepth 100000 in
theorem m_cf0 (l : Launch) (D : va_G) {ct : Nat → ClassId} {mo : Nat → Nat} {nd : Nat} {nb : Nat} {nf : Nat} {bdk : Nat → Nat} {num : Nat → Nat} {thg : Nat → Nat} {knd : Nat → Nat} {dy : Nat → Nat} {val : Nat → Int64} {tim : Nat → Nat} {rep : Nat → Nat → Bool} {kn : Nat → Nat → Bool} {clk : Nat → Nat} {tol : Nat → Nat} {opn : Nat → Option Nat} {bof : Nat → Option Nat} {std : Nat → Bool} {xd : Int64} (hnf : nf ≤ 300) (hnd : nd ≤ 8) (d : Nat) (hd0 : d < nd) (spt : Nat → Nat) (hsp : SpR spt thg knd dy nf) (hnum : ∀ k, k < nf → num k < 2 ^ 31) (k : Int32) (hk : ¬ k < 0) : CI l y_M_conflict b_M_conflict 7 (some .int) (rmK 2 0 0) D (tyL ct) (MW ct mo nd nb nf bdk num thg knd dy val tim rep kn clk tol opn bof std xd) [.ref (mo 0), .int (nI (d)), .int (k), .int (nI (0))] 0 0 (fun r u => ∃ P : Nat → Bool, (∀ f, f < nf → P f = lkB (kn d) rep f nf) ∧ ((∃ f, f < nf ∧ fcB spt val P nf f = true ∧ k = nI (cnt (fun g => decide (spt g < spt f) && fcB spt val P nf g) nf) ∧ r = nI (thg f)) ∨ ((∀ f, f < nf → fcB spt val P nf f = true → ¬ k = nI (cnt (fun g => decide (spt g < spt f) && fcB spt val P nf g) nf)) ∧ r = -1)) ∧ u = MW ct mo nd nb nf bdk num thg knd dy val tim rep kn clk tol opn bof P xd) := by
  refine CI.start (by decide) (Nat.le_of_ble_eq_true rfl) ?_
  intro p e s m below meth c F hr hnm
  show V p l e (rmK 2 0 0) s m [.ref (mo 0), .int (nI (d)), .int (k), .int (nI (0))].toArray below meth c D (va_A (MW ct mo nd nb nf bdk num thg knd dy val tim rep kn clk tol opn bof std xd) s.heap.size) 7 0 0 (EI D below (MW ct mo nd nb nf bdk num thg knd dy val tim rep kn clk tol opn bof std xd) [.ref (mo 0), .int (nI (d)), .int (k), .int (nI (0))].toArray s 0 0 (fun r u => ∃ P : Nat → Bool, (∀ f, f < nf → P f = lkB (kn d) rep f nf) ∧ ((∃ f, f < nf ∧ fcB spt val P nf f = true ∧ k = nI (cnt (fun g => decide (spt g < spt f) && fcB spt val P nf g) nf) ∧ r = nI (thg f)) ∨ ((∀ f, f < nf → fcB spt val P nf f = true → ¬ k = nI (cnt (fun g => decide (spt g < spt f) && fcB spt val P nf g) nf)) ∧ r = -1)) ∧ u = MW ct mo nd nb nf bdk num thg knd dy val tim rep kn clk tol opn bof P xd)) (MW ct mo nd nb nf bdk num thg knd dy val tim rep kn clk tol opn bof std xd) [(0, .ref (mo 0)), (1, .int (nI (d))), (2, .int (k)), (3, .int (nI (0)))] 0 []
  refine V.aload_n F d_M_conflict_0 rfl 0 rfl ?_
  refine V.iload_n F d_M_conflict_1 rfl 1 rfl ?_
  refine V.callVI0 (As := [.int (nI (d))]) (rest := []) F (m_isDesk l D hnd d hd0) d_M_conflict_2 sv_M_62 im_y_M_isDesk sl_y_M_isDesk 0 rfl rfl rfl rfl rfl (Nat.le_of_ble_eq_true rfl) ⟨rfl, rfl, (Nat.le_of_ble_eq_true rfl), (Nat.le_of_ble_eq_true rfl)⟩ ⟨(Nat.le_of_ble_eq_true rfl), (Nat.le_of_ble_eq_true rfl)⟩ (fun r9 u9 h9 => ?_)
  obtain ⟨rfl, rfl⟩ := h9
  refine V.if_eqB (b := true) (tgt := 16) F d_M_conflict_5 (by decide) (fun c5 => ?_) (fun c5 => ?_)
  · skip
    exact absurd c5 (by decide)
  · skip
    refine V.iload_n F d_M_conflict_8 rfl 2 rfl ?_
    refine V.if_lt (x := k) (tgt := 16) F d_M_conflict_9 (by decide) (fun c9 => ?_) (fun c9 => ?_)
    · skip
      exact absurd c9 hk
    · skip
      refine V.iload_n F d_M_conflict_12 rfl 3 rfl ?_
      refine V.if_ge (x := nI (0)) (tgt := 18) F d_M_conflict_13 (by decide) (fun c13 => ?_) (fun c13 => ?_)
      · skip
        refine V.aload_n F d_M_conflict_18 rfl 0 rfl ?_
        refine V.iload_n F d_M_conflict_19 rfl 1 rfl ?_
        refine V.callVV0 (As := [.int (nI (d))]) (rest := []) F (m_look l D hnf hnd d hd0) d_M_conflict_20 sv_M_80 im_y_M_look sl_y_M_look 0 rfl rfl rfl rfl rfl (Nat.le_of_ble_eq_true rfl) ⟨rfl, rfl, (Nat.le_of_ble_eq_true rfl), (Nat.le_of_ble_eq_true rfl)⟩ ⟨(Nat.le_of_ble_eq_true rfl), (Nat.le_of_ble_eq_true rfl)⟩ (fun u9 h9 => ?_)
        obtain ⟨P, hP, rfl⟩ := h9
        refine V.iconst F d_M_conflict_23 (v := nI (0)) (by decide) ?_
        refine V.istore (lv2 := [(4, .int (nI (0))), (0, .ref (mo 0)), (1, .int (nI (d))), (2, .int (k)), (3, .int (nI (0)))]) F d_M_conflict_24 (by decide) rfl ?_
        have L26 : ∀ (n9 : Nat) (i : Nat), nf - i < n9 → (i ≤ nf) → (∀ f, f < i → fcB spt val P nf f = true → ¬ k = nI (cnt (fun g => decide (spt g < spt f) && fcB spt val P nf g) nf)) → V p l e (rmK 2 0 0) s m [.ref (mo 0), .int (nI (d)), .int (k), .int (nI (0))].toArray below meth c D (va_A (MW ct mo nd nb nf bdk num thg knd dy val tim rep kn clk tol opn bof std xd) s.heap.size) 7 0 0 (EI D below (MW ct mo nd nb nf bdk num thg knd dy val tim rep kn clk tol opn bof std xd) [.ref (mo 0), .int (nI (d)), .int (k), .int (nI (0))].toArray s 0 0 (fun r u => ∃ P : Nat → Bool, (∀ f, f < nf → P f = lkB (kn d) rep f nf) ∧ ((∃ f, f < nf ∧ fcB spt val P nf f = true ∧ k = nI (cnt (fun g => decide (spt g < spt f) && fcB spt val P nf g) nf) ∧ r = nI (thg f)) ∨ ((∀ f, f < nf → fcB spt val P nf f = true → ¬ k = nI (cnt (fun g => decide (spt g < spt f) && fcB spt val P nf g) nf)) ∧ r = -1)) ∧ u = MW ct mo nd nb nf bdk num thg knd dy val tim rep kn clk tol opn bof P xd)) (MW ct mo nd nb nf bdk num thg knd dy val tim rep kn clk tol opn bof P xd) [(4, .int (nI (i))), (0, .ref (mo 0)), (1, .int (nI (d))), (2, .int (k)), (3, .int (nI (0)))] 26 [] := by
          intro n9
          induction n9 with
          | zero => intro i h9 hi hin; exact absurd h9 (Nat.not_lt_zero _)
          | succ n9 ih26 =>
            intro i h9 hi hin
            refine V.iload F d_M_conflict_26 0 rfl ?_
            refine V.aload_n F d_M_conflict_28 rfl 1 rfl ?_
            refine V.get F ck_M d_M_conflict_29 13 (by decide) lk_M_59 0 rfl rfl ?_
            refine V.icmp_geN (tgt := 205) F d_M_conflict_32 (by decide) (by omega) (by omega) (fun c32 => ?_) (fun c32 => ?_)
            · skip
              refine V.iconst F d_M_conflict_205 (v := -1) (by decide) ?_
              exact V.iret F hr d_M_conflict_206 (⟨P, hP, Or.inr ⟨fun f hf => hin f (by omega), rfl⟩, rfl⟩)
            · skip
              refine V.aload_n F d_M_conflict_35 rfl 1 rfl ?_
              refine V.iload F d_M_conflict_36 0 rfl ?_
              refine V.callVI0 (As := [.int (nI (i))]) (rest := []) F (m_isFC l D hnf spt hsp i (by omega)) d_M_conflict_38 sv_M_88 im_y_M_isFirstOfConflict sl_y_M_isFirstOfConflict 0 rfl rfl rfl rfl rfl (Nat.le_of_ble_eq_true rfl) ⟨rfl, rfl, (Nat.le_of_ble_eq_true rfl), (Nat.le_of_ble_eq_true rfl)⟩ ⟨(Nat.le_of_ble_eq_true rfl), (Nat.le_of_ble_eq_true rfl)⟩ (fun r9 u9 h9 => ?_)
              obtain ⟨rfl, rfl⟩ := h9
              refine V.if_eqB (b := fcB spt val P nf i) (tgt := 199) F d_M_conflict_41 (by decide) (fun c41 => ?_) (fun c41 => ?_)
              · skip
                refine V.iincN (k := 1) (lv2 := [(4, .int (nI (i + 1))), (0, .ref (mo 0)), (1, .int (nI (d))), (2, .int (k)), (3, .int (nI (0)))]) F d_M_conflict_199 0 rfl (by decide) (by decide) rfl ?_
                refine V.goto (tgt := 26) F d_M_conflict_202 (by decide) ?_
                exact ih26 (i + 1) (by omega) (by omega) (ord_stepX (A := fun f => fcB spt val P nf f) hin (by rw [c41]; simp))
              · skip
                refine V.iconst F d_M_conflict_44 (v := nI (0)) (by decide) ?_
                refine V.istore (lv2 := [(5, .int (nI (0))), (4, .int (nI (i))), (0, .ref (mo 0)), (1, .int (nI (d))), (2, .int (k)), (3, .int (nI (0)))]) F d_M_conflict_45 (by decide) rfl ?_
                refine V.iconst F d_M_conflict_47 (v := nI (0)) (by decide) ?_
                refine V.istore (lv2 := [(6, .int (nI (0))), (5, .int (nI (0))), (4, .int (nI (i))), (0, .ref (mo 0)), (1, .int (nI (d))), (2, .int (k)), (3, .int (nI (0)))]) F d_M_conflict_48 (by decide) rfl ?_
                have L50 : ∀ (n9 : Nat) (j : Nat) (q : Nat), nf - j < n9 → (j ≤ nf) → (q = cnt (fun g => decide (spt g < spt i) && fcB spt val P nf g) j) → V p l e (rmK 2 0 0) s m [.ref (mo 0), .int (nI (d)), .int (k), .int (nI (0))].toArray below meth c D (va_A (MW ct mo nd nb nf bdk num thg knd dy val tim rep kn clk tol opn bof std xd) s.heap.size) 7 0 0 (EI D below (MW ct mo nd nb nf bdk num thg knd dy val tim rep kn clk tol opn bof std xd) [.ref (mo 0), .int (nI (d)), .int (k), .int (nI (0))].toArray s 0 0 (fun r u => ∃ P : Nat → Bool, (∀ f, f < nf → P f = lkB (kn d) rep f nf) ∧ ((∃ f, f < nf ∧ fcB spt val P nf f = true ∧ k = nI (cnt (fun g => decide (spt g < spt f) && fcB spt val P nf g) nf) ∧ r = nI (thg f)) ∨ ((∀ f, f < nf → fcB spt val P nf f = true → ¬ k = nI (cnt (fun g => decide (spt g < spt f) && fcB spt val P nf g) nf)) ∧ r = -1)) ∧ u = MW ct mo nd nb nf bdk num thg knd dy val tim rep kn clk tol opn bof P xd)) (MW ct mo nd nb nf bdk num thg knd dy val tim rep kn clk tol opn bof P xd) [(6, .int (nI (j))), (5, .int (nI (q))), (4, .int (nI (i))), (0, .ref (mo 0)), (1, .int (nI (d))), (2, .int (k)), (3, .int (nI (0)))] 50 [] := by
                  intro n9
                  induction n9 with
                  | zero => intro j q h9 hj hq; exact absurd h9 (Nat.not_lt_zero _)
                  | succ n9 ih50 =>
                    intro j q h9 hj hq
                    refine V.iload F d_M_conflict_50 0 rfl ?_
                    refine V.aload_n F d_M_conflict_52 rfl 3 rfl ?_
                    refine V.get F ck_M d_M_conflict_53 13 (by decide) lk_M_59 0 rfl rfl ?_
                    refine V.icmp_geN (tgt := 95) F d_M_conflict_56 (by decide) (by omega) (by omega) (fun c56 => ?_) (fun c56 => ?_)
                    · skip
                      have e7 : j = nf := by omega
                      rw [e7] at hq
                      subst hq
                      refine V.iload F d_M_conflict_95 1 rfl ?_
                      refine V.iload_n F d_M_conflict_97 rfl 5 rfl ?_
                      refine V.icmp_ne (x := nI (cnt (fun g => decide (spt g < spt i) && fcB spt val P nf g) nf)) (y := k) (tgt := 199) F d_M_conflict_98 (by decide) (fun c98 => ?_) (fun c98 => ?_)
                      · skip
                        refine V.iincN (k := 1) (lv2 := [(4, .int (nI (i + 1))), (6, .int (nI (j))), (5, .int (nI (cnt (fun g => decide (spt g < spt i) && fcB spt val P nf g) nf))), (0, .ref (mo 0)), (1, .int (nI (d))), (2, .int (k)), (3, .int (nI (0)))]) F d_M_conflict_199 2 rfl (by decide) (by decide) rfl ?_
                        refine V.goto (tgt := 26) F d_M_conflict_202 (by decide) ?_
                        refine V.lvs [0, 3, 4, 5, 6] rfl ?_
                        exact ih26 (i + 1) (by omega) (by omega) (ord_stepY (A := fun f => fcB spt val P nf f) hin (fun q => c98 q.symm))
                      · skip
                        refine V.iload_n F d_M_conflict_101 rfl 6 rfl ?_
                        refine V.iconst F d_M_conflict_102 (v := nI (3)) (by decide) ?_
                        refine V.icmp_leN (tgt := 118) F d_M_conflict_103 (by decide) (by omega) (by omega) (fun c103 => ?_) (fun c103 => ?_)
                        · skip
                          refine V.iconst F d_M_conflict_118 (v := -1) (by decide) ?_
                          refine V.istore (lv2 := [(6, .int (-1)), (5, .int (nI (cnt (fun g => decide (spt g < spt i) && fcB spt val P nf g) nf))), (4, .int (nI (i))), (0, .ref (mo 0)), (1, .int (nI (d))), (2, .int (k)), (3, .int (nI (0)))]) F d_M_conflict_119 (by decide) rfl ?_
                          refine V.iload_n F d_M_conflict_121 rfl 6 rfl ?_
                          refine V.if_neN (a := 0) (tgt := 135) F d_M_conflict_122 (by decide) (by omega) (fun c122 => ?_) (fun c122 => ?_)
                          · skip
                            exact absurd c122 (by decide)
                          · skip
                            refine V.aload_n F d_M_conflict_125 rfl 3 rfl ?_
                            refine V.get F ck_M d_M_conflict_126 5 (by decide) lk_M_23 0 rfl rfl ?_
                            refine V.iload F d_M_conflict_129 2 rfl ?_
                            refine V.iald (v := nI (thg (i))) F d_M_conflict_131 5 0 rfl rfl (by omega) (by decide) rfl ?_
                            refine V.goto (tgt := 198) F d_M_conflict_132 (by decide) ?_
                            exact V.iret F hr d_M_conflict_198 (⟨P, hP, Or.inl ⟨i, by omega, c41, c98.symm, rfl⟩, rfl⟩)
                        · skip
                          exact absurd c103 (by decide)
                    · skip
                      refine V.iload F d_M_conflict_59 1 rfl ?_
                      refine V.aload_n F d_M_conflict_61 rfl 3 rfl ?_
                      refine V.iload F d_M_conflict_62 0 rfl ?_
                      refine V.iload F d_M_conflict_64 2 rfl ?_
                      refine V.callVI0 (As := [.int (nI (j)), .int (nI (i))]) (rest := [.int (nI (q))]) F (m_isBefore l D hnf spt hsp j i (by omega) (by omega)) d_M_conflict_66 sv_M_94 im_y_M_isBefore sl_y_M_isBefore 0 rfl rfl rfl rfl rfl (Nat.le_of_ble_eq_true rfl) ⟨rfl, rfl, (Nat.le_of_ble_eq_true rfl), (Nat.le_of_ble_eq_true rfl)⟩ ⟨(Nat.le_of_ble_eq_true rfl), (Nat.le_of_ble_eq_true rfl)⟩ (fun r9 u9 h9 => ?_)
                      obtain ⟨rfl, rfl⟩ := h9
                      refine V.if_eqB (b := decide (spt j < spt i)) (tgt := 85) F d_M_conflict_69 (by decide) (fun c69 => ?_) (fun c69 => ?_)
                      · skip
                        refine V.iconst F d_M_conflict_85 (v := nI (0)) (by decide) ?_
                        refine V.iaddN F d_M_conflict_86 ?_
                        refine V.istore (lv2 := [(5, .int (nI ((q) + (0)))), (6, .int (nI (j))), (4, .int (nI (i))), (0, .ref (mo 0)), (1, .int (nI (d))), (2, .int (k)), (3, .int (nI (0)))]) F d_M_conflict_87 (by decide) rfl ?_
                        refine V.iincN (k := 1) (lv2 := [(6, .int (nI (j + 1))), (5, .int (nI ((q) + (0)))), (4, .int (nI (i))), (0, .ref (mo 0)), (1, .int (nI (d))), (2, .int (k)), (3, .int (nI (0)))]) F d_M_conflict_89 1 rfl (by decide) (by decide) rfl ?_
                        refine V.goto (tgt := 50) F d_M_conflict_92 (by decide) ?_
                        exact ih50 (j + 1) (q) (by omega) (by omega) (by rw [hq, cnt, if_neg (by show ¬ (decide (spt j < spt i) && fcB spt val P nf j) = true; rw [c69]; simp)]; rfl)
                      · skip
                        refine V.aload_n F d_M_conflict_72 rfl 3 rfl ?_
                        refine V.iload F d_M_conflict_73 0 rfl ?_
                        refine V.callVI0 (As := [.int (nI (j))]) (rest := [.int (nI (q))]) F (m_isFC l D hnf spt hsp j (by omega)) d_M_conflict_75 sv_M_88 im_y_M_isFirstOfConflict sl_y_M_isFirstOfConflict 0 rfl rfl rfl rfl rfl (Nat.le_of_ble_eq_true rfl) ⟨rfl, rfl, (Nat.le_of_ble_eq_true rfl), (Nat.le_of_ble_eq_true rfl)⟩ ⟨(Nat.le_of_ble_eq_true rfl), (Nat.le_of_ble_eq_true rfl)⟩ (fun r9 u9 h9 => ?_)
                        obtain ⟨rfl, rfl⟩ := h9
                        refine V.if_eqB (b := fcB spt val P nf j) (tgt := 85) F d_M_conflict_78 (by decide) (fun c78 => ?_) (fun c78 => ?_)
                        · skip
                          refine V.iconst F d_M_conflict_85 (v := nI (0)) (by decide) ?_
                          refine V.iaddN F d_M_conflict_86 ?_
                          refine V.istore (lv2 := [(5, .int (nI ((q) + (0)))), (6, .int (nI (j))), (4, .int (nI (i))), (0, .ref (mo 0)), (1, .int (nI (d))), (2, .int (k)), (3, .int (nI (0)))]) F d_M_conflict_87 (by decide) rfl ?_
                          refine V.iincN (k := 1) (lv2 := [(6, .int (nI (j + 1))), (5, .int (nI ((q) + (0)))), (4, .int (nI (i))), (0, .ref (mo 0)), (1, .int (nI (d))), (2, .int (k)), (3, .int (nI (0)))]) F d_M_conflict_89 1 rfl (by decide) (by decide) rfl ?_
                          refine V.goto (tgt := 50) F d_M_conflict_92 (by decide) ?_
                          exact ih50 (j + 1) (q) (by omega) (by omega) (by rw [hq, cnt, if_neg (by show ¬ (decide (spt j < spt i) && fcB spt val P nf j) = true; rw [c78]; simp)]; rfl)
                        · skip
                          refine V.iconst F d_M_conflict_81 (v := nI (1)) (by decide) ?_
                          refine V.goto (tgt := 86) F d_M_conflict_82 (by decide) ?_
                          refine V.iaddN F d_M_conflict_86 ?_
                          refine V.istore (lv2 := [(5, .int (nI ((q) + (1)))), (6, .int (nI (j))), (4, .int (nI (i))), (0, .ref (mo 0)), (1, .int (nI (d))), (2, .int (k)), (3, .int (nI (0)))]) F d_M_conflict_87 (by decide) rfl ?_
                          refine V.iincN (k := 1) (lv2 := [(6, .int (nI (j + 1))), (5, .int (nI ((q) + (1)))), (4, .int (nI (i))), (0, .ref (mo 0)), (1, .int (nI (d))), (2, .int (k)), (3, .int (nI (0)))]) F d_M_conflict_89 1 rfl (by decide) (by decide) rfl ?_
                          refine V.goto (tgt := 50) F d_M_conflict_92 (by decide) ?_
                          exact ih50 (j + 1) (q + 1) (by omega) (by omega) (by rw [hq, cnt, if_pos (by show (decide (spt j < spt i) && fcB spt val P nf j) = true; rw [c69, c78]; rfl)])
                exact L50 _ (0) (0) (Nat.lt_succ_self _) (by omega) (rfl)
        exact L26 _ (0) (Nat.lt_succ_self _) (by omega) (fun f hf => absurd hf (by omega))
      · skip
        exact absurd (nI_pos' (by omega)) c13

set_option maxHeartbeats 4000000 in
set_option maxRecDepth 100000 in
theorem m_cf1 (l : Launch) (D : va_G) {ct : Nat → ClassId} {mo : Nat → Nat} {nd : Nat} {nb : Nat} {nf : Nat} {bdk : Nat → Nat} {num : Nat → Nat} {thg : Nat → Nat} {knd : Nat → Nat} {dy : Nat → Nat} {val : Nat → Int64} {tim : Nat → Nat} {rep : Nat → Nat → Bool} {kn : Nat → Nat → Bool} {clk : Nat → Nat} {tol : Nat → Nat} {opn : Nat → Option Nat} {bof : Nat → Option Nat} {std : Nat → Bool} {xd : Int64} (hnf : nf ≤ 300) (hnd : nd ≤ 8) (d : Nat) (hd0 : d < nd) (spt : Nat → Nat) (hsp : SpR spt thg knd dy nf) (hnum : ∀ k, k < nf → num k < 2 ^ 31) (k : Int32) (hk : ¬ k < 0) : CI l y_M_conflict b_M_conflict 7 (some .int) (rmK 2 0 0) D (tyL ct) (MW ct mo nd nb nf bdk num thg knd dy val tim rep kn clk tol opn bof std xd) [.ref (mo 0), .int (nI (d)), .int (k), .int (nI (1))] 0 0 (fun r u => ∃ P : Nat → Bool, (∀ f, f < nf → P f = lkB (kn d) rep f nf) ∧ ((∃ f, f < nf ∧ fcB spt val P nf f = true ∧ k = nI (cnt (fun g => decide (spt g < spt f) && fcB spt val P nf g) nf) ∧ r = nI (knd f)) ∨ ((∀ f, f < nf → fcB spt val P nf f = true → ¬ k = nI (cnt (fun g => decide (spt g < spt f) && fcB spt val P nf g) nf)) ∧ r = -1)) ∧ u = MW ct mo nd nb nf bdk num thg knd dy val tim rep kn clk tol opn bof P xd) := by
  refine CI.start (by decide) (Nat.le_of_ble_eq_true rfl) ?_
  intro p e s m below meth c F hr hnm
  show V p l e (rmK 2 0 0) s m [.ref (mo 0), .int (nI (d)), .int (k), .int (nI (1))].toArray below meth c D (va_A (MW ct mo nd nb nf bdk num thg knd dy val tim rep kn clk tol opn bof std xd) s.heap.size) 7 0 0 (EI D below (MW ct mo nd nb nf bdk num thg knd dy val tim rep kn clk tol opn bof std xd) [.ref (mo 0), .int (nI (d)), .int (k), .int (nI (1))].toArray s 0 0 (fun r u => ∃ P : Nat → Bool, (∀ f, f < nf → P f = lkB (kn d) rep f nf) ∧ ((∃ f, f < nf ∧ fcB spt val P nf f = true ∧ k = nI (cnt (fun g => decide (spt g < spt f) && fcB spt val P nf g) nf) ∧ r = nI (knd f)) ∨ ((∀ f, f < nf → fcB spt val P nf f = true → ¬ k = nI (cnt (fun g => decide (spt g < spt f) && fcB spt val P nf g) nf)) ∧ r = -1)) ∧ u = MW ct mo nd nb nf bdk num thg knd dy val tim rep kn clk tol opn bof P xd)) (MW ct mo nd nb nf bdk num thg knd dy val tim rep kn clk tol opn bof std xd) [(0, .ref (mo 0)), (1, .int (nI (d))), (2, .int (k)), (3, .int (nI (1)))] 0 []
  refine V.aload_n F d_M_conflict_0 rfl 0 rfl ?_
  refine V.iload_n F d_M_conflict_1 rfl 1 rfl ?_
  refine V.callVI0 (As := [.int (nI (d))]) (rest := []) F (m_isDesk l D hnd d hd0) d_M_conflict_2 sv_M_62 im_y_M_isDesk sl_y_M_isDesk 0 rfl rfl rfl rfl rfl (Nat.le_of_ble_eq_true rfl) ⟨rfl, rfl, (Nat.le_of_ble_eq_true rfl), (Nat.le_of_ble_eq_true rfl)⟩ ⟨(Nat.le_of_ble_eq_true rfl), (Nat.le_of_ble_eq_true rfl)⟩ (fun r9 u9 h9 => ?_)
  obtain ⟨rfl, rfl⟩ := h9
  refine V.if_eqB (b := true) (tgt := 16) F d_M_conflict_5 (by decide) (fun c5 => ?_) (fun c5 => ?_)
  · skip
    exact absurd c5 (by decide)
  · skip
    refine V.iload_n F d_M_conflict_8 rfl 2 rfl ?_
    refine V.if_lt (x := k) (tgt := 16) F d_M_conflict_9 (by decide) (fun c9 => ?_) (fun c9 => ?_)
    · skip
      exact absurd c9 hk
    · skip
      refine V.iload_n F d_M_conflict_12 rfl 3 rfl ?_
      refine V.if_ge (x := nI (1)) (tgt := 18) F d_M_conflict_13 (by decide) (fun c13 => ?_) (fun c13 => ?_)
      · skip
        refine V.aload_n F d_M_conflict_18 rfl 0 rfl ?_
        refine V.iload_n F d_M_conflict_19 rfl 1 rfl ?_
        refine V.callVV0 (As := [.int (nI (d))]) (rest := []) F (m_look l D hnf hnd d hd0) d_M_conflict_20 sv_M_80 im_y_M_look sl_y_M_look 0 rfl rfl rfl rfl rfl (Nat.le_of_ble_eq_true rfl) ⟨rfl, rfl, (Nat.le_of_ble_eq_true rfl), (Nat.le_of_ble_eq_true rfl)⟩ ⟨(Nat.le_of_ble_eq_true rfl), (Nat.le_of_ble_eq_true rfl)⟩ (fun u9 h9 => ?_)
        obtain ⟨P, hP, rfl⟩ := h9
        refine V.iconst F d_M_conflict_23 (v := nI (0)) (by decide) ?_
        refine V.istore (lv2 := [(4, .int (nI (0))), (0, .ref (mo 0)), (1, .int (nI (d))), (2, .int (k)), (3, .int (nI (1)))]) F d_M_conflict_24 (by decide) rfl ?_
        have L26 : ∀ (n9 : Nat) (i : Nat), nf - i < n9 → (i ≤ nf) → (∀ f, f < i → fcB spt val P nf f = true → ¬ k = nI (cnt (fun g => decide (spt g < spt f) && fcB spt val P nf g) nf)) → V p l e (rmK 2 0 0) s m [.ref (mo 0), .int (nI (d)), .int (k), .int (nI (1))].toArray below meth c D (va_A (MW ct mo nd nb nf bdk num thg knd dy val tim rep kn clk tol opn bof std xd) s.heap.size) 7 0 0 (EI D below (MW ct mo nd nb nf bdk num thg knd dy val tim rep kn clk tol opn bof std xd) [.ref (mo 0), .int (nI (d)), .int (k), .int (nI (1))].toArray s 0 0 (fun r u => ∃ P : Nat → Bool, (∀ f, f < nf → P f = lkB (kn d) rep f nf) ∧ ((∃ f, f < nf ∧ fcB spt val P nf f = true ∧ k = nI (cnt (fun g => decide (spt g < spt f) && fcB spt val P nf g) nf) ∧ r = nI (knd f)) ∨ ((∀ f, f < nf → fcB spt val P nf f = true → ¬ k = nI (cnt (fun g => decide (spt g < spt f) && fcB spt val P nf g) nf)) ∧ r = -1)) ∧ u = MW ct mo nd nb nf bdk num thg knd dy val tim rep kn clk tol opn bof P xd)) (MW ct mo nd nb nf bdk num thg knd dy val tim rep kn clk tol opn bof P xd) [(4, .int (nI (i))), (0, .ref (mo 0)), (1, .int (nI (d))), (2, .int (k)), (3, .int (nI (1)))] 26 [] := by
          intro n9
          induction n9 with
          | zero => intro i h9 hi hin; exact absurd h9 (Nat.not_lt_zero _)
          | succ n9 ih26 =>
            intro i h9 hi hin
            refine V.iload F d_M_conflict_26 0 rfl ?_
            refine V.aload_n F d_M_conflict_28 rfl 1 rfl ?_
            refine V.get F ck_M d_M_conflict_29 13 (by decide) lk_M_59 0 rfl rfl ?_
            refine V.icmp_geN (tgt := 205) F d_M_conflict_32 (by decide) (by omega) (by omega) (fun c32 => ?_) (fun c32 => ?_)
            · skip
              refine V.iconst F d_M_conflict_205 (v := -1) (by decide) ?_
              exact V.iret F hr d_M_conflict_206 (⟨P, hP, Or.inr ⟨fun f hf => hin f (by omega), rfl⟩, rfl⟩)
            · skip
              refine V.aload_n F d_M_conflict_35 rfl 1 rfl ?_
              refine V.iload F d_M_conflict_36 0 rfl ?_
              refine V.callVI0 (As := [.int (nI (i))]) (rest := []) F (m_isFC l D hnf spt hsp i (by omega)) d_M_conflict_38 sv_M_88 im_y_M_isFirstOfConflict sl_y_M_isFirstOfConflict 0 rfl rfl rfl rfl rfl (Nat.le_of_ble_eq_true rfl) ⟨rfl, rfl, (Nat.le_of_ble_eq_true rfl), (Nat.le_of_ble_eq_true rfl)⟩ ⟨(Nat.le_of_ble_eq_true rfl), (Nat.le_of_ble_eq_true rfl)⟩ (fun r9 u9 h9 => ?_)
              obtain ⟨rfl, rfl⟩ := h9
              refine V.if_eqB (b := fcB spt val P nf i) (tgt := 199) F d_M_conflict_41 (by decide) (fun c41 => ?_) (fun c41 => ?_)
              · skip
                refine V.iincN (k := 1) (lv2 := [(4, .int (nI (i + 1))), (0, .ref (mo 0)), (1, .int (nI (d))), (2, .int (k)), (3, .int (nI (1)))]) F d_M_conflict_199 0 rfl (by decide) (by decide) rfl ?_
                refine V.goto (tgt := 26) F d_M_conflict_202 (by decide) ?_
                exact ih26 (i + 1) (by omega) (by omega) (ord_stepX (A := fun f => fcB spt val P nf f) hin (by rw [c41]; simp))
              · skip
                refine V.iconst F d_M_conflict_44 (v := nI (0)) (by decide) ?_
                refine V.istore (lv2 := [(5, .int (nI (0))), (4, .int (nI (i))), (0, .ref (mo 0)), (1, .int (nI (d))), (2, .int (k)), (3, .int (nI (1)))]) F d_M_conflict_45 (by decide) rfl ?_
                refine V.iconst F d_M_conflict_47 (v := nI (0)) (by decide) ?_
                refine V.istore (lv2 := [(6, .int (nI (0))), (5, .int (nI (0))), (4, .int (nI (i))), (0, .ref (mo 0)), (1, .int (nI (d))), (2, .int (k)), (3, .int (nI (1)))]) F d_M_conflict_48 (by decide) rfl ?_
                have L50 : ∀ (n9 : Nat) (j : Nat) (q : Nat), nf - j < n9 → (j ≤ nf) → (q = cnt (fun g => decide (spt g < spt i) && fcB spt val P nf g) j) → V p l e (rmK 2 0 0) s m [.ref (mo 0), .int (nI (d)), .int (k), .int (nI (1))].toArray below meth c D (va_A (MW ct mo nd nb nf bdk num thg knd dy val tim rep kn clk tol opn bof std xd) s.heap.size) 7 0 0 (EI D below (MW ct mo nd nb nf bdk num thg knd dy val tim rep kn clk tol opn bof std xd) [.ref (mo 0), .int (nI (d)), .int (k), .int (nI (1))].toArray s 0 0 (fun r u => ∃ P : Nat → Bool, (∀ f, f < nf → P f = lkB (kn d) rep f nf) ∧ ((∃ f, f < nf ∧ fcB spt val P nf f = true ∧ k = nI (cnt (fun g => decide (spt g < spt f) && fcB spt val P nf g) nf) ∧ r = nI (knd f)) ∨ ((∀ f, f < nf → fcB spt val P nf f = true → ¬ k = nI (cnt (fun g => decide (spt g < spt f) && fcB spt val P nf g) nf)) ∧ r = -1)) ∧ u = MW ct mo nd nb nf bdk num thg knd dy val tim rep kn clk tol opn bof P xd)) (MW ct mo nd nb nf bdk num thg knd dy val tim rep kn clk tol opn bof P xd) [(6, .int (nI (j))), (5, .int (nI (q))), (4, .int (nI (i))), (0, .ref (mo 0)), (1, .int (nI (d))), (2, .int (k)), (3, .int (nI (1)))] 50 [] := by
                  intro n9
                  induction n9 with
                  | zero => intro j q h9 hj hq; exact absurd h9 (Nat.not_lt_zero _)
                  | succ n9 ih50 =>
                    intro j q h9 hj hq
                    refine V.iload F d_M_conflict_50 0 rfl ?_
                    refine V.aload_n F d_M_conflict_52 rfl 3 rfl ?_
                    refine V.get F ck_M d_M_conflict_53 13 (by decide) lk_M_59 0 rfl rfl ?_
                    refine V.icmp_geN (tgt := 95) F d_M_conflict_56 (by decide) (by omega) (by omega) (fun c56 => ?_) (fun c56 => ?_)
                    · skip
                      have e7 : j = nf := by omega
                      rw [e7] at hq
                      subst hq
                      refine V.iload F d_M_conflict_95 1 rfl ?_
                      refine V.iload_n F d_M_conflict_97 rfl 5 rfl ?_
                      refine V.icmp_ne (x := nI (cnt (fun g => decide (spt g < spt i) && fcB spt val P nf g) nf)) (y := k) (tgt := 199) F d_M_conflict_98 (by decide) (fun c98 => ?_) (fun c98 => ?_)
                      · skip
                        refine V.iincN (k := 1) (lv2 := [(4, .int (nI (i + 1))), (6, .int (nI (j))), (5, .int (nI (cnt (fun g => decide (spt g < spt i) && fcB spt val P nf g) nf))), (0, .ref (mo 0)), (1, .int (nI (d))), (2, .int (k)), (3, .int (nI (1)))]) F d_M_conflict_199 2 rfl (by decide) (by decide) rfl ?_
                        refine V.goto (tgt := 26) F d_M_conflict_202 (by decide) ?_
                        refine V.lvs [0, 3, 4, 5, 6] rfl ?_
                        exact ih26 (i + 1) (by omega) (by omega) (ord_stepY (A := fun f => fcB spt val P nf f) hin (fun q => c98 q.symm))
                      · skip
                        refine V.iload_n F d_M_conflict_101 rfl 6 rfl ?_
                        refine V.iconst F d_M_conflict_102 (v := nI (3)) (by decide) ?_
                        refine V.icmp_leN (tgt := 118) F d_M_conflict_103 (by decide) (by omega) (by omega) (fun c103 => ?_) (fun c103 => ?_)
                        · skip
                          refine V.iconst F d_M_conflict_118 (v := -1) (by decide) ?_
                          refine V.istore (lv2 := [(6, .int (-1)), (5, .int (nI (cnt (fun g => decide (spt g < spt i) && fcB spt val P nf g) nf))), (4, .int (nI (i))), (0, .ref (mo 0)), (1, .int (nI (d))), (2, .int (k)), (3, .int (nI (1)))]) F d_M_conflict_119 (by decide) rfl ?_
                          refine V.iload_n F d_M_conflict_121 rfl 6 rfl ?_
                          refine V.if_neN (a := 1) (tgt := 135) F d_M_conflict_122 (by decide) (by omega) (fun c122 => ?_) (fun c122 => ?_)
                          · skip
                            refine V.iload_n F d_M_conflict_135 rfl 6 rfl ?_
                            refine V.iconst F d_M_conflict_136 (v := nI (1)) (by decide) ?_
                            refine V.icmp_neN (tgt := 150) F d_M_conflict_137 (by decide) (by omega) (by omega) (fun c137 => ?_) (fun c137 => ?_)
                            · skip
                              exact absurd c137 (by decide)
                            · skip
                              refine V.aload_n F d_M_conflict_140 rfl 3 rfl ?_
                              refine V.get F ck_M d_M_conflict_141 6 (by decide) lk_M_26 0 rfl rfl ?_
                              refine V.iload F d_M_conflict_144 2 rfl ?_
                              refine V.iald (v := nI (knd (i))) F d_M_conflict_146 6 0 rfl rfl (by omega) (by decide) rfl ?_
                              refine V.goto (tgt := 198) F d_M_conflict_147 (by decide) ?_
                              exact V.iret F hr d_M_conflict_198 (⟨P, hP, Or.inl ⟨i, by omega, c41, c98.symm, rfl⟩, rfl⟩)
                          · skip
                            exact absurd c122 (by decide)
                        · skip
                          exact absurd c103 (by decide)
                    · skip
                      refine V.iload F d_M_conflict_59 1 rfl ?_
                      refine V.aload_n F d_M_conflict_61 rfl 3 rfl ?_
                      refine V.iload F d_M_conflict_62 0 rfl ?_
                      refine V.iload F d_M_conflict_64 2 rfl ?_
                      refine V.callVI0 (As := [.int (nI (j)), .int (nI (i))]) (rest := [.int (nI (q))]) F (m_isBefore l D hnf spt hsp j i (by omega) (by omega)) d_M_conflict_66 sv_M_94 im_y_M_isBefore sl_y_M_isBefore 0 rfl rfl rfl rfl rfl (Nat.le_of_ble_eq_true rfl) ⟨rfl, rfl, (Nat.le_of_ble_eq_true rfl), (Nat.le_of_ble_eq_true rfl)⟩ ⟨(Nat.le_of_ble_eq_true rfl), (Nat.le_of_ble_eq_true rfl)⟩ (fun r9 u9 h9 => ?_)
                      obtain ⟨rfl, rfl⟩ := h9
                      refine V.if_eqB (b := decide (spt j < spt i)) (tgt := 85) F d_M_conflict_69 (by decide) (fun c69 => ?_) (fun c69 => ?_)
                      · skip
                        refine V.iconst F d_M_conflict_85 (v := nI (0)) (by decide) ?_
                        refine V.iaddN F d_M_conflict_86 ?_
                        refine V.istore (lv2 := [(5, .int (nI ((q) + (0)))), (6, .int (nI (j))), (4, .int (nI (i))), (0, .ref (mo 0)), (1, .int (nI (d))), (2, .int (k)), (3, .int (nI (1)))]) F d_M_conflict_87 (by decide) rfl ?_
                        refine V.iincN (k := 1) (lv2 := [(6, .int (nI (j + 1))), (5, .int (nI ((q) + (0)))), (4, .int (nI (i))), (0, .ref (mo 0)), (1, .int (nI (d))), (2, .int (k)), (3, .int (nI (1)))]) F d_M_conflict_89 1 rfl (by decide) (by decide) rfl ?_
                        refine V.goto (tgt := 50) F d_M_conflict_92 (by decide) ?_
                        exact ih50 (j + 1) (q) (by omega) (by omega) (by rw [hq, cnt, if_neg (by show ¬ (decide (spt j < spt i) && fcB spt val P nf j) = true; rw [c69]; simp)]; rfl)
                      · skip
                        refine V.aload_n F d_M_conflict_72 rfl 3 rfl ?_
                        refine V.iload F d_M_conflict_73 0 rfl ?_
                        refine V.callVI0 (As := [.int (nI (j))]) (rest := [.int (nI (q))]) F (m_isFC l D hnf spt hsp j (by omega)) d_M_conflict_75 sv_M_88 im_y_M_isFirstOfConflict sl_y_M_isFirstOfConflict 0 rfl rfl rfl rfl rfl (Nat.le_of_ble_eq_true rfl) ⟨rfl, rfl, (Nat.le_of_ble_eq_true rfl), (Nat.le_of_ble_eq_true rfl)⟩ ⟨(Nat.le_of_ble_eq_true rfl), (Nat.le_of_ble_eq_true rfl)⟩ (fun r9 u9 h9 => ?_)
                        obtain ⟨rfl, rfl⟩ := h9
                        refine V.if_eqB (b := fcB spt val P nf j) (tgt := 85) F d_M_conflict_78 (by decide) (fun c78 => ?_) (fun c78 => ?_)
                        · skip
                          refine V.iconst F d_M_conflict_85 (v := nI (0)) (by decide) ?_
                          refine V.iaddN F d_M_conflict_86 ?_
                          refine V.istore (lv2 := [(5, .int (nI ((q) + (0)))), (6, .int (nI (j))), (4, .int (nI (i))), (0, .ref (mo 0)), (1, .int (nI (d))), (2, .int (k)), (3, .int (nI (1)))]) F d_M_conflict_87 (by decide) rfl ?_
                          refine V.iincN (k := 1) (lv2 := [(6, .int (nI (j + 1))), (5, .int (nI ((q) + (0)))), (4, .int (nI (i))), (0, .ref (mo 0)), (1, .int (nI (d))), (2, .int (k)), (3, .int (nI (1)))]) F d_M_conflict_89 1 rfl (by decide) (by decide) rfl ?_
                          refine V.goto (tgt := 50) F d_M_conflict_92 (by decide) ?_
                          exact ih50 (j + 1) (q) (by omega) (by omega) (by rw [hq, cnt, if_neg (by show ¬ (decide (spt j < spt i) && fcB spt val P nf j) = true; rw [c78]; simp)]; rfl)
                        · skip
                          refine V.iconst F d_M_conflict_81 (v := nI (1)) (by decide) ?_
                          refine V.goto (tgt := 86) F d_M_conflict_82 (by decide) ?_
                          refine V.iaddN F d_M_conflict_86 ?_
                          refine V.istore (lv2 := [(5, .int (nI ((q) + (1)))), (6, .int (nI (j))), (4, .int (nI (i))), (0, .ref (mo 0)), (1, .int (nI (d))), (2, .int (k)), (3, .int (nI (1)))]) F d_M_conflict_87 (by decide) rfl ?_
                          refine V.iincN (k := 1) (lv2 := [(6, .int (nI (j + 1))), (5, .int (nI ((q) + (1)))), (4, .int (nI (i))), (0, .ref (mo 0)), (1, .int (nI (d))), (2, .int (k)), (3, .int (nI (1)))]) F d_M_conflict_89 1 rfl (by decide) (by decide) rfl ?_
                          refine V.goto (tgt := 50) F d_M_conflict_92 (by decide) ?_
                          exact ih50 (j + 1) (q + 1) (by omega) (by omega) (by rw [hq, cnt, if_pos (by show (decide (spt j < spt i) && fcB spt val P nf j) = true; rw [c69, c78]; rfl)])
                exact L50 _ (0) (0) (Nat.lt_succ_self _) (by omega) (rfl)
        exact L26 _ (0) (Nat.lt_succ_self _) (by omega) (fun f hf => absurd hf (by omega))
      · skip
        exact absurd (nI_pos' (by omega)) c13

set_option maxHeartbeats 4000000 in
set_option maxRecDepth 100000 in
theorem m_cf2 (l : Launch) (D : va_G) {ct : Nat → ClassId} {mo : Nat → Nat} {nd : Nat} {nb : Nat} {nf : Nat} {bdk : Nat → Nat} {num : Nat → Nat} {thg : Nat → Nat} {knd : Nat → Nat} {dy : Nat → Nat} {val : Nat → Int64} {tim : Nat → Nat} {rep : Nat → Nat → Bool} {kn : Nat → Nat → Bool} {clk : Nat → Nat} {tol : Nat → Nat} {opn : Nat → Option Nat} {bof : Nat → Option Nat} {std : Nat → Bool} {xd : Int64} (hnf : nf ≤ 300) (hnd : nd ≤ 8) (d : Nat) (hd0 : d < nd) (spt : Nat → Nat) (hsp : SpR spt thg knd dy nf) (hnum : ∀ k, k < nf → num k < 2 ^ 31) (k : Int32) (hk : ¬ k < 0) : CI l y_M_conflict b_M_conflict 7 (some .int) (rmK 2 0 0) D (tyL ct) (MW ct mo nd nb nf bdk num thg knd dy val tim rep kn clk tol opn bof std xd) [.ref (mo 0), .int (nI (d)), .int (k), .int (nI (2))] 0 0 (fun r u => ∃ P : Nat → Bool, (∀ f, f < nf → P f = lkB (kn d) rep f nf) ∧ ((∃ f, f < nf ∧ fcB spt val P nf f = true ∧ k = nI (cnt (fun g => decide (spt g < spt f) && fcB spt val P nf g) nf) ∧ r = nI (dy f)) ∨ ((∀ f, f < nf → fcB spt val P nf f = true → ¬ k = nI (cnt (fun g => decide (spt g < spt f) && fcB spt val P nf g) nf)) ∧ r = -1)) ∧ u = MW ct mo nd nb nf bdk num thg knd dy val tim rep kn clk tol opn bof P xd) := by
  refine CI.start (by decide) (Nat.le_of_ble_eq_true rfl) ?_
  intro p e s m below meth c F hr hnm
  show V p l e (rmK 2 0 0) s m [.ref (mo 0), .int (nI (d)), .int (k), .int (nI (2))].toArray below meth c D (va_A (MW ct mo nd nb nf bdk num thg knd dy val tim rep kn clk tol opn bof std xd) s.heap.size) 7 0 0 (EI D below (MW ct mo nd nb nf bdk num thg knd dy val tim rep kn clk tol opn bof std xd) [.ref (mo 0), .int (nI (d)), .int (k), .int (nI (2))].toArray s 0 0 (fun r u => ∃ P : Nat → Bool, (∀ f, f < nf → P f = lkB (kn d) rep f nf) ∧ ((∃ f, f < nf ∧ fcB spt val P nf f = true ∧ k = nI (cnt (fun g => decide (spt g < spt f) && fcB spt val P nf g) nf) ∧ r = nI (dy f)) ∨ ((∀ f, f < nf → fcB spt val P nf f = true → ¬ k = nI (cnt (fun g => decide (spt g < spt f) && fcB spt val P nf g) nf)) ∧ r = -1)) ∧ u = MW ct mo nd nb nf bdk num thg knd dy val tim rep kn clk tol opn bof P xd)) (MW ct mo nd nb nf bdk num thg knd dy val tim rep kn clk tol opn bof std xd) [(0, .ref (mo 0)), (1, .int (nI (d))), (2, .int (k)), (3, .int (nI (2)))] 0 []
  refine V.aload_n F d_M_conflict_0 rfl 0 rfl ?_
  refine V.iload_n F d_M_conflict_1 rfl 1 rfl ?_
  refine V.callVI0 (As := [.int (nI (d))]) (rest := []) F (m_isDesk l D hnd d hd0) d_M_conflict_2 sv_M_62 im_y_M_isDesk sl_y_M_isDesk 0 rfl rfl rfl rfl rfl (Nat.le_of_ble_eq_true rfl) ⟨rfl, rfl, (Nat.le_of_ble_eq_true rfl), (Nat.le_of_ble_eq_true rfl)⟩ ⟨(Nat.le_of_ble_eq_true rfl), (Nat.le_of_ble_eq_true rfl)⟩ (fun r9 u9 h9 => ?_)
  obtain ⟨rfl, rfl⟩ := h9
  refine V.if_eqB (b := true) (tgt := 16) F d_M_conflict_5 (by decide) (fun c5 => ?_) (fun c5 => ?_)
  · skip
    exact absurd c5 (by decide)
  · skip
    refine V.iload_n F d_M_conflict_8 rfl 2 rfl ?_
    refine V.if_lt (x := k) (tgt := 16) F d_M_conflict_9 (by decide) (fun c9 => ?_) (fun c9 => ?_)
    · skip
      exact absurd c9 hk
    · skip
      refine V.iload_n F d_M_conflict_12 rfl 3 rfl ?_
      refine V.if_ge (x := nI (2)) (tgt := 18) F d_M_conflict_13 (by decide) (fun c13 => ?_) (fun c13 => ?_)
      · skip
        refine V.aload_n F d_M_conflict_18 rfl 0 rfl ?_
        refine V.iload_n F d_M_conflict_19 rfl 1 rfl ?_
        refine V.callVV0 (As := [.int (nI (d))]) (rest := []) F (m_look l D hnf hnd d hd0) d_M_conflict_20 sv_M_80 im_y_M_look sl_y_M_look 0 rfl rfl rfl rfl rfl (Nat.le_of_ble_eq_true rfl) ⟨rfl, rfl, (Nat.le_of_ble_eq_true rfl), (Nat.le_of_ble_eq_true rfl)⟩ ⟨(Nat.le_of_ble_eq_true rfl), (Nat.le_of_ble_eq_true rfl)⟩ (fun u9 h9 => ?_)
        obtain ⟨P, hP, rfl⟩ := h9
        refine V.iconst F d_M_conflict_23 (v := nI (0)) (by decide) ?_
        refine V.istore (lv2 := [(4, .int (nI (0))), (0, .ref (mo 0)), (1, .int (nI (d))), (2, .int (k)), (3, .int (nI (2)))]) F d_M_conflict_24 (by decide) rfl ?_
        have L26 : ∀ (n9 : Nat) (i : Nat), nf - i < n9 → (i ≤ nf) → (∀ f, f < i → fcB spt val P nf f = true → ¬ k = nI (cnt (fun g => decide (spt g < spt f) && fcB spt val P nf g) nf)) → V p l e (rmK 2 0 0) s m [.ref (mo 0), .int (nI (d)), .int (k), .int (nI (2))].toArray below meth c D (va_A (MW ct mo nd nb nf bdk num thg knd dy val tim rep kn clk tol opn bof std xd) s.heap.size) 7 0 0 (EI D below (MW ct mo nd nb nf bdk num thg knd dy val tim rep kn clk tol opn bof std xd) [.ref (mo 0), .int (nI (d)), .int (k), .int (nI (2))].toArray s 0 0 (fun r u => ∃ P : Nat → Bool, (∀ f, f < nf → P f = lkB (kn d) rep f nf) ∧ ((∃ f, f < nf ∧ fcB spt val P nf f = true ∧ k = nI (cnt (fun g => decide (spt g < spt f) && fcB spt val P nf g) nf) ∧ r = nI (dy f)) ∨ ((∀ f, f < nf → fcB spt val P nf f = true → ¬ k = nI (cnt (fun g => decide (spt g < spt f) && fcB spt val P nf g) nf)) ∧ r = -1)) ∧ u = MW ct mo nd nb nf bdk num thg knd dy val tim rep kn clk tol opn bof P xd)) (MW ct mo nd nb nf bdk num thg knd dy val tim rep kn clk tol opn bof P xd) [(4, .int (nI (i))), (0, .ref (mo 0)), (1, .int (nI (d))), (2, .int (k)), (3, .int (nI (2)))] 26 [] := by
          intro n9
          induction n9 with
          | zero => intro i h9 hi hin; exact absurd h9 (Nat.not_lt_zero _)
          | succ n9 ih26 =>
            intro i h9 hi hin
            refine V.iload F d_M_conflict_26 0 rfl ?_
            refine V.aload_n F d_M_conflict_28 rfl 1 rfl ?_
            refine V.get F ck_M d_M_conflict_29 13 (by decide) lk_M_59 0 rfl rfl ?_
            refine V.icmp_geN (tgt := 205) F d_M_conflict_32 (by decide) (by omega) (by omega) (fun c32 => ?_) (fun c32 => ?_)
            · skip
              refine V.iconst F d_M_conflict_205 (v := -1) (by decide) ?_
              exact V.iret F hr d_M_conflict_206 (⟨P, hP, Or.inr ⟨fun f hf => hin f (by omega), rfl⟩, rfl⟩)
            · skip
              refine V.aload_n F d_M_conflict_35 rfl 1 rfl ?_
              refine V.iload F d_M_conflict_36 0 rfl ?_
              refine V.callVI0 (As := [.int (nI (i))]) (rest := []) F (m_isFC l D hnf spt hsp i (by omega)) d_M_conflict_38 sv_M_88 im_y_M_isFirstOfConflict sl_y_M_isFirstOfConflict 0 rfl rfl rfl rfl rfl (Nat.le_of_ble_eq_true rfl) ⟨rfl, rfl, (Nat.le_of_ble_eq_true rfl), (Nat.le_of_ble_eq_true rfl)⟩ ⟨(Nat.le_of_ble_eq_true rfl), (Nat.le_of_ble_eq_true rfl)⟩ (fun r9 u9 h9 => ?_)
              obtain ⟨rfl, rfl⟩ := h9
              refine V.if_eqB (b := fcB spt val P nf i) (tgt := 199) F d_M_conflict_41 (by decide) (fun c41 => ?_) (fun c41 => ?_)
              · skip
                refine V.iincN (k := 1) (lv2 := [(4, .int (nI (i + 1))), (0, .ref (mo 0)), (1, .int (nI (d))), (2, .int (k)), (3, .int (nI (2)))]) F d_M_conflict_199 0 rfl (by decide) (by decide) rfl ?_
                refine V.goto (tgt := 26) F d_M_conflict_202 (by decide) ?_
                exact ih26 (i + 1) (by omega) (by omega) (ord_stepX (A := fun f => fcB spt val P nf f) hin (by rw [c41]; simp))
              · skip
                refine V.iconst F d_M_conflict_44 (v := nI (0)) (by decide) ?_
                refine V.istore (lv2 := [(5, .int (nI (0))), (4, .int (nI (i))), (0, .ref (mo 0)), (1, .int (nI (d))), (2, .int (k)), (3, .int (nI (2)))]) F d_M_conflict_45 (by decide) rfl ?_
                refine V.iconst F d_M_conflict_47 (v := nI (0)) (by decide) ?_
                refine V.istore (lv2 := [(6, .int (nI (0))), (5, .int (nI (0))), (4, .int (nI (i))), (0, .ref (mo 0)), (1, .int (nI (d))), (2, .int (k)), (3, .int (nI (2)))]) F d_M_conflict_48 (by decide) rfl ?_
                have L50 : ∀ (n9 : Nat) (j : Nat) (q : Nat), nf - j < n9 → (j ≤ nf) → (q = cnt (fun g => decide (spt g < spt i) && fcB spt val P nf g) j) → V p l e (rmK 2 0 0) s m [.ref (mo 0), .int (nI (d)), .int (k), .int (nI (2))].toArray below meth c D (va_A (MW ct mo nd nb nf bdk num thg knd dy val tim rep kn clk tol opn bof std xd) s.heap.size) 7 0 0 (EI D below (MW ct mo nd nb nf bdk num thg knd dy val tim rep kn clk tol opn bof std xd) [.ref (mo 0), .int (nI (d)), .int (k), .int (nI (2))].toArray s 0 0 (fun r u => ∃ P : Nat → Bool, (∀ f, f < nf → P f = lkB (kn d) rep f nf) ∧ ((∃ f, f < nf ∧ fcB spt val P nf f = true ∧ k = nI (cnt (fun g => decide (spt g < spt f) && fcB spt val P nf g) nf) ∧ r = nI (dy f)) ∨ ((∀ f, f < nf → fcB spt val P nf f = true → ¬ k = nI (cnt (fun g => decide (spt g < spt f) && fcB spt val P nf g) nf)) ∧ r = -1)) ∧ u = MW ct mo nd nb nf bdk num thg knd dy val tim rep kn clk tol opn bof P xd)) (MW ct mo nd nb nf bdk num thg knd dy val tim rep kn clk tol opn bof P xd) [(6, .int (nI (j))), (5, .int (nI (q))), (4, .int (nI (i))), (0, .ref (mo 0)), (1, .int (nI (d))), (2, .int (k)), (3, .int (nI (2)))] 50 [] := by
                  intro n9
                  induction n9 with
                  | zero => intro j q h9 hj hq; exact absurd h9 (Nat.not_lt_zero _)
                  | succ n9 ih50 =>
                    intro j q h9 hj hq
                    refine V.iload F d_M_conflict_50 0 rfl ?_
                    refine V.aload_n F d_M_conflict_52 rfl 3 rfl ?_
                    refine V.get F ck_M d_M_conflict_53 13 (by decide) lk_M_59 0 rfl rfl ?_
                    refine V.icmp_geN (tgt := 95) F d_M_conflict_56 (by decide) (by omega) (by omega) (fun c56 => ?_) (fun c56 => ?_)
                    · skip
                      have e7 : j = nf := by omega
                      rw [e7] at hq
                      subst hq
                      refine V.iload F d_M_conflict_95 1 rfl ?_
                      refine V.iload_n F d_M_conflict_97 rfl 5 rfl ?_
                      refine V.icmp_ne (x := nI (cnt (fun g => decide (spt g < spt i) && fcB spt val P nf g) nf)) (y := k) (tgt := 199) F d_M_conflict_98 (by decide) (fun c98 => ?_) (fun c98 => ?_)
                      · skip
                        refine V.iincN (k := 1) (lv2 := [(4, .int (nI (i + 1))), (6, .int (nI (j))), (5, .int (nI (cnt (fun g => decide (spt g < spt i) && fcB spt val P nf g) nf))), (0, .ref (mo 0)), (1, .int (nI (d))), (2, .int (k)), (3, .int (nI (2)))]) F d_M_conflict_199 2 rfl (by decide) (by decide) rfl ?_
                        refine V.goto (tgt := 26) F d_M_conflict_202 (by decide) ?_
                        refine V.lvs [0, 3, 4, 5, 6] rfl ?_
                        exact ih26 (i + 1) (by omega) (by omega) (ord_stepY (A := fun f => fcB spt val P nf f) hin (fun q => c98 q.symm))
                      · skip
                        refine V.iload_n F d_M_conflict_101 rfl 6 rfl ?_
                        refine V.iconst F d_M_conflict_102 (v := nI (3)) (by decide) ?_
                        refine V.icmp_leN (tgt := 118) F d_M_conflict_103 (by decide) (by omega) (by omega) (fun c103 => ?_) (fun c103 => ?_)
                        · skip
                          refine V.iconst F d_M_conflict_118 (v := -1) (by decide) ?_
                          refine V.istore (lv2 := [(6, .int (-1)), (5, .int (nI (cnt (fun g => decide (spt g < spt i) && fcB spt val P nf g) nf))), (4, .int (nI (i))), (0, .ref (mo 0)), (1, .int (nI (d))), (2, .int (k)), (3, .int (nI (2)))]) F d_M_conflict_119 (by decide) rfl ?_
                          refine V.iload_n F d_M_conflict_121 rfl 6 rfl ?_
                          refine V.if_neN (a := 2) (tgt := 135) F d_M_conflict_122 (by decide) (by omega) (fun c122 => ?_) (fun c122 => ?_)
                          · skip
                            refine V.iload_n F d_M_conflict_135 rfl 6 rfl ?_
                            refine V.iconst F d_M_conflict_136 (v := nI (1)) (by decide) ?_
                            refine V.icmp_neN (tgt := 150) F d_M_conflict_137 (by decide) (by omega) (by omega) (fun c137 => ?_) (fun c137 => ?_)
                            · skip
                              refine V.iload_n F d_M_conflict_150 rfl 6 rfl ?_
                              refine V.iconst F d_M_conflict_151 (v := nI (2)) (by decide) ?_
                              refine V.icmp_neN (tgt := 166) F d_M_conflict_152 (by decide) (by omega) (by omega) (fun c152 => ?_) (fun c152 => ?_)
                              · skip
                                exact absurd c152 (by decide)
                              · skip
                                refine V.aload_n F d_M_conflict_155 rfl 3 rfl ?_
                                refine V.get F ck_M d_M_conflict_156 7 (by decide) lk_M_29 0 rfl rfl ?_
                                refine V.iload F d_M_conflict_159 2 rfl ?_
                                refine V.lald (v := lN (dy (i))) F d_M_conflict_161 7 1 rfl rfl (by omega) (by decide) rfl ?_
                                refine V.l2i F d_M_conflict_162 (lN_i _) ?_
                                refine V.goto (tgt := 198) F d_M_conflict_163 (by decide) ?_
                                exact V.iret F hr d_M_conflict_198 (⟨P, hP, Or.inl ⟨i, by omega, c41, c98.symm, rfl⟩, rfl⟩)
                            · skip
                              exact absurd c137 (by decide)
                          · skip
                            exact absurd c122 (by decide)
                        · skip
                          exact absurd c103 (by decide)
                    · skip
                      refine V.iload F d_M_conflict_59 1 rfl ?_
                      refine V.aload_n F d_M_conflict_61 rfl 3 rfl ?_
                      refine V.iload F d_M_conflict_62 0 rfl ?_
                      refine V.iload F d_M_conflict_64 2 rfl ?_
                      refine V.callVI0 (As := [.int (nI (j)), .int (nI (i))]) (rest := [.int (nI (q))]) F (m_isBefore l D hnf spt hsp j i (by omega) (by omega)) d_M_conflict_66 sv_M_94 im_y_M_isBefore sl_y_M_isBefore 0 rfl rfl rfl rfl rfl (Nat.le_of_ble_eq_true rfl) ⟨rfl, rfl, (Nat.le_of_ble_eq_true rfl), (Nat.le_of_ble_eq_true rfl)⟩ ⟨(Nat.le_of_ble_eq_true rfl), (Nat.le_of_ble_eq_true rfl)⟩ (fun r9 u9 h9 => ?_)
                      obtain ⟨rfl, rfl⟩ := h9
                      refine V.if_eqB (b := decide (spt j < spt i)) (tgt := 85) F d_M_conflict_69 (by decide) (fun c69 => ?_) (fun c69 => ?_)
                      · skip
                        refine V.iconst F d_M_conflict_85 (v := nI (0)) (by decide) ?_
                        refine V.iaddN F d_M_conflict_86 ?_
                        refine V.istore (lv2 := [(5, .int (nI ((q) + (0)))), (6, .int (nI (j))), (4, .int (nI (i))), (0, .ref (mo 0)), (1, .int (nI (d))), (2, .int (k)), (3, .int (nI (2)))]) F d_M_conflict_87 (by decide) rfl ?_
                        refine V.iincN (k := 1) (lv2 := [(6, .int (nI (j + 1))), (5, .int (nI ((q) + (0)))), (4, .int (nI (i))), (0, .ref (mo 0)), (1, .int (nI (d))), (2, .int (k)), (3, .int (nI (2)))]) F d_M_conflict_89 1 rfl (by decide) (by decide) rfl ?_
                        refine V.goto (tgt := 50) F d_M_conflict_92 (by decide) ?_
                        exact ih50 (j + 1) (q) (by omega) (by omega) (by rw [hq, cnt, if_neg (by show ¬ (decide (spt j < spt i) && fcB spt val P nf j) = true; rw [c69]; simp)]; rfl)
                      · skip
                        refine V.aload_n F d_M_conflict_72 rfl 3 rfl ?_
                        refine V.iload F d_M_conflict_73 0 rfl ?_
                        refine V.callVI0 (As := [.int (nI (j))]) (rest := [.int (nI (q))]) F (m_isFC l D hnf spt hsp j (by omega)) d_M_conflict_75 sv_M_88 im_y_M_isFirstOfConflict sl_y_M_isFirstOfConflict 0 rfl rfl rfl rfl rfl (Nat.le_of_ble_eq_true rfl) ⟨rfl, rfl, (Nat.le_of_ble_eq_true rfl), (Nat.le_of_ble_eq_true rfl)⟩ ⟨(Nat.le_of_ble_eq_true rfl), (Nat.le_of_ble_eq_true rfl)⟩ (fun r9 u9 h9 => ?_)
                        obtain ⟨rfl, rfl⟩ := h9
                        refine V.if_eqB (b := fcB spt val P nf j) (tgt := 85) F d_M_conflict_78 (by decide) (fun c78 => ?_) (fun c78 => ?_)
                        · skip
                          refine V.iconst F d_M_conflict_85 (v := nI (0)) (by decide) ?_
                          refine V.iaddN F d_M_conflict_86 ?_
                          refine V.istore (lv2 := [(5, .int (nI ((q) + (0)))), (6, .int (nI (j))), (4, .int (nI (i))), (0, .ref (mo 0)), (1, .int (nI (d))), (2, .int (k)), (3, .int (nI (2)))]) F d_M_conflict_87 (by decide) rfl ?_
                          refine V.iincN (k := 1) (lv2 := [(6, .int (nI (j + 1))), (5, .int (nI ((q) + (0)))), (4, .int (nI (i))), (0, .ref (mo 0)), (1, .int (nI (d))), (2, .int (k)), (3, .int (nI (2)))]) F d_M_conflict_89 1 rfl (by decide) (by decide) rfl ?_
                          refine V.goto (tgt := 50) F d_M_conflict_92 (by decide) ?_
                          exact ih50 (j + 1) (q) (by omega) (by omega) (by rw [hq, cnt, if_neg (by show ¬ (decide (spt j < spt i) && fcB spt val P nf j) = true; rw [c78]; simp)]; rfl)
                        · skip
                          refine V.iconst F d_M_conflict_81 (v := nI (1)) (by decide) ?_
                          refine V.goto (tgt := 86) F d_M_conflict_82 (by decide) ?_
                          refine V.iaddN F d_M_conflict_86 ?_
                          refine V.istore (lv2 := [(5, .int (nI ((q) + (1)))), (6, .int (nI (j))), (4, .int (nI (i))), (0, .ref (mo 0)), (1, .int (nI (d))), (2, .int (k)), (3, .int (nI (2)))]) F d_M_conflict_87 (by decide) rfl ?_
                          refine V.iincN (k := 1) (lv2 := [(6, .int (nI (j + 1))), (5, .int (nI ((q) + (1)))), (4, .int (nI (i))), (0, .ref (mo 0)), (1, .int (nI (d))), (2, .int (k)), (3, .int (nI (2)))]) F d_M_conflict_89 1 rfl (by decide) (by decide) rfl ?_
                          refine V.goto (tgt := 50) F d_M_conflict_92 (by decide) ?_
                          exact ih50 (j + 1) (q + 1) (by omega) (by omega) (by rw [hq, cnt, if_pos (by show (decide (spt j < spt i) && fcB spt val P nf j) = true; rw [c69, c78]; rfl)])
                exact L50 _ (0) (0) (Nat.lt_succ_self _) (by omega) (rfl)
        exact L26 _ (0) (Nat.lt_succ_self _) (by omega) (fun f hf => absurd hf (by omega))
      · skip
        exact absurd (nI_pos' (by omega)) c13

set_option maxHeartbeats 4000000 in
set_option maxRecDepth 100000 in
theorem m_cf3 (l : Launch) (D : va_G) {ct : Nat → ClassId} {mo : Nat → Nat} {nd : Nat} {nb : Nat} {nf : Nat} {bdk : Nat → Nat} {num : Nat → Nat} {thg : Nat → Nat} {knd : Nat → Nat} {dy : Nat → Nat} {val : Nat → Int64} {tim : Nat → Nat} {rep : Nat → Nat → Bool} {kn : Nat → Nat → Bool} {clk : Nat → Nat} {tol : Nat → Nat} {opn : Nat → Option Nat} {bof : Nat → Option Nat} {std : Nat → Bool} {xd : Int64} (hnf : nf ≤ 300) (hnd : nd ≤ 8) (d : Nat) (hd0 : d < nd) (spt : Nat → Nat) (hsp : SpR spt thg knd dy nf) (hnum : ∀ k, k < nf → num k < 2 ^ 31) (k : Int32) (hk : ¬ k < 0) : CI l y_M_conflict b_M_conflict 7 (some .int) (rmK 2 0 0) D (tyL ct) (MW ct mo nd nb nf bdk num thg knd dy val tim rep kn clk tol opn bof std xd) [.ref (mo 0), .int (nI (d)), .int (k), .int (nI (3))] 0 0 (fun r u => ∃ P : Nat → Bool, (∀ f, f < nf → P f = lkB (kn d) rep f nf) ∧ ((∃ f, f < nf ∧ fcB spt val P nf f = true ∧ k = nI (cnt (fun g => decide (spt g < spt f) && fcB spt val P nf g) nf) ∧ r = nI (cnt (fun g => decide (spt f = spt g) && P g) nf)) ∨ ((∀ f, f < nf → fcB spt val P nf f = true → ¬ k = nI (cnt (fun g => decide (spt g < spt f) && fcB spt val P nf g) nf)) ∧ r = -1)) ∧ u = MW ct mo nd nb nf bdk num thg knd dy val tim rep kn clk tol opn bof P xd) := by
  refine CI.start (by decide) (Nat.le_of_ble_eq_true rfl) ?_
  intro p e s m below meth c F hr hnm
  show V p l e (rmK 2 0 0) s m [.ref (mo 0), .int (nI (d)), .int (k), .int (nI (3))].toArray below meth c D (va_A (MW ct mo nd nb nf bdk num thg knd dy val tim rep kn clk tol opn bof std xd) s.heap.size) 7 0 0 (EI D below (MW ct mo nd nb nf bdk num thg knd dy val tim rep kn clk tol opn bof std xd) [.ref (mo 0), .int (nI (d)), .int (k), .int (nI (3))].toArray s 0 0 (fun r u => ∃ P : Nat → Bool, (∀ f, f < nf → P f = lkB (kn d) rep f nf) ∧ ((∃ f, f < nf ∧ fcB spt val P nf f = true ∧ k = nI (cnt (fun g => decide (spt g < spt f) && fcB spt val P nf g) nf) ∧ r = nI (cnt (fun g => decide (spt f = spt g) && P g) nf)) ∨ ((∀ f, f < nf → fcB spt val P nf f = true → ¬ k = nI (cnt (fun g => decide (spt g < spt f) && fcB spt val P nf g) nf)) ∧ r = -1)) ∧ u = MW ct mo nd nb nf bdk num thg knd dy val tim rep kn clk tol opn bof P xd)) (MW ct mo nd nb nf bdk num thg knd dy val tim rep kn clk tol opn bof std xd) [(0, .ref (mo 0)), (1, .int (nI (d))), (2, .int (k)), (3, .int (nI (3)))] 0 []
  refine V.aload_n F d_M_conflict_0 rfl 0 rfl ?_
  refine V.iload_n F d_M_conflict_1 rfl 1 rfl ?_
  refine V.callVI0 (As := [.int (nI (d))]) (rest := []) F (m_isDesk l D hnd d hd0) d_M_conflict_2 sv_M_62 im_y_M_isDesk sl_y_M_isDesk 0 rfl rfl rfl rfl rfl (Nat.le_of_ble_eq_true rfl) ⟨rfl, rfl, (Nat.le_of_ble_eq_true rfl), (Nat.le_of_ble_eq_true rfl)⟩ ⟨(Nat.le_of_ble_eq_true rfl), (Nat.le_of_ble_eq_true rfl)⟩ (fun r9 u9 h9 => ?_)
  obtain ⟨rfl, rfl⟩ := h9
  refine V.if_eqB (b := true) (tgt := 16) F d_M_conflict_5 (by decide) (fun c5 => ?_) (fun c5 => ?_)
  · skip
    exact absurd c5 (by decide)
  · skip
    refine V.iload_n F d_M_conflict_8 rfl 2 rfl ?_
    refine V.if_lt (x := k) (tgt := 16) F d_M_conflict_9 (by decide) (fun c9 => ?_) (fun c9 => ?_)
    · skip
      exact absurd c9 hk
    · skip
      refine V.iload_n F d_M_conflict_12 rfl 3 rfl ?_
      refine V.if_ge (x := nI (3)) (tgt := 18) F d_M_conflict_13 (by decide) (fun c13 => ?_) (fun c13 => ?_)
      · skip
        refine V.aload_n F d_M_conflict_18 rfl 0 rfl ?_
        refine V.iload_n F d_M_conflict_19 rfl 1 rfl ?_
        refine V.callVV0 (As := [.int (nI (d))]) (rest := []) F (m_look l D hnf hnd d hd0) d_M_conflict_20 sv_M_80 im_y_M_look sl_y_M_look 0 rfl rfl rfl rfl rfl (Nat.le_of_ble_eq_true rfl) ⟨rfl, rfl, (Nat.le_of_ble_eq_true rfl), (Nat.le_of_ble_eq_true rfl)⟩ ⟨(Nat.le_of_ble_eq_true rfl), (Nat.le_of_ble_eq_true rfl)⟩ (fun u9 h9 => ?_)
        obtain ⟨P, hP, rfl⟩ := h9
        refine V.iconst F d_M_conflict_23 (v := nI (0)) (by decide) ?_
        refine V.istore (lv2 := [(4, .int (nI (0))), (0, .ref (mo 0)), (1, .int (nI (d))), (2, .int (k)), (3, .int (nI (3)))]) F d_M_conflict_24 (by decide) rfl ?_
        have L26 : ∀ (n9 : Nat) (i : Nat), nf - i < n9 → (i ≤ nf) → (∀ f, f < i → fcB spt val P nf f = true → ¬ k = nI (cnt (fun g => decide (spt g < spt f) && fcB spt val P nf g) nf)) → V p l e (rmK 2 0 0) s m [.ref (mo 0), .int (nI (d)), .int (k), .int (nI (3))].toArray below meth c D (va_A (MW ct mo nd nb nf bdk num thg knd dy val tim rep kn clk tol opn bof std xd) s.heap.size) 7 0 0 (EI D below (MW ct mo nd nb nf bdk num thg knd dy val tim rep kn clk tol opn bof std xd) [.ref (mo 0), .int (nI (d)), .int (k), .int (nI (3))].toArray s 0 0 (fun r u => ∃ P : Nat → Bool, (∀ f, f < nf → P f = lkB (kn d) rep f nf) ∧ ((∃ f, f < nf ∧ fcB spt val P nf f = true ∧ k = nI (cnt (fun g => decide (spt g < spt f) && fcB spt val P nf g) nf) ∧ r = nI (cnt (fun g => decide (spt f = spt g) && P g) nf)) ∨ ((∀ f, f < nf → fcB spt val P nf f = true → ¬ k = nI (cnt (fun g => decide (spt g < spt f) && fcB spt val P nf g) nf)) ∧ r = -1)) ∧ u = MW ct mo nd nb nf bdk num thg knd dy val tim rep kn clk tol opn bof P xd)) (MW ct mo nd nb nf bdk num thg knd dy val tim rep kn clk tol opn bof P xd) [(4, .int (nI (i))), (0, .ref (mo 0)), (1, .int (nI (d))), (2, .int (k)), (3, .int (nI (3)))] 26 [] := by
          intro n9
          induction n9 with
          | zero => intro i h9 hi hin; exact absurd h9 (Nat.not_lt_zero _)
          | succ n9 ih26 =>
            intro i h9 hi hin
            refine V.iload F d_M_conflict_26 0 rfl ?_
            refine V.aload_n F d_M_conflict_28 rfl 1 rfl ?_
            refine V.get F ck_M d_M_conflict_29 13 (by decide) lk_M_59 0 rfl rfl ?_
            refine V.icmp_geN (tgt := 205) F d_M_conflict_32 (by decide) (by omega) (by omega) (fun c32 => ?_) (fun c32 => ?_)
            · skip
              refine V.iconst F d_M_conflict_205 (v := -1) (by decide) ?_
              exact V.iret F hr d_M_conflict_206 (⟨P, hP, Or.inr ⟨fun f hf => hin f (by omega), rfl⟩, rfl⟩)
            · skip
              refine V.aload_n F d_M_conflict_35 rfl 1 rfl ?_
              refine V.iload F d_M_conflict_36 0 rfl ?_
              refine V.callVI0 (As := [.int (nI (i))]) (rest := []) F (m_isFC l D hnf spt hsp i (by omega)) d_M_conflict_38 sv_M_88 im_y_M_isFirstOfConflict sl_y_M_isFirstOfConflict 0 rfl rfl rfl rfl rfl (Nat.le_of_ble_eq_true rfl) ⟨rfl, rfl, (Nat.le_of_ble_eq_true rfl), (Nat.le_of_ble_eq_true rfl)⟩ ⟨(Nat.le_of_ble_eq_true rfl), (Nat.le_of_ble_eq_true rfl)⟩ (fun r9 u9 h9 => ?_)
              obtain ⟨rfl, rfl⟩ := h9
              refine V.if_eqB (b := fcB spt val P nf i) (tgt := 199) F d_M_conflict_41 (by decide) (fun c41 => ?_) (fun c41 => ?_)
              · skip
                refine V.iincN (k := 1) (lv2 := [(4, .int (nI (i + 1))), (0, .ref (mo 0)), (1, .int (nI (d))), (2, .int (k)), (3, .int (nI (3)))]) F d_M_conflict_199 0 rfl (by decide) (by decide) rfl ?_
                refine V.goto (tgt := 26) F d_M_conflict_202 (by decide) ?_
                exact ih26 (i + 1) (by omega) (by omega) (ord_stepX (A := fun f => fcB spt val P nf f) hin (by rw [c41]; simp))
              · skip
                refine V.iconst F d_M_conflict_44 (v := nI (0)) (by decide) ?_
                refine V.istore (lv2 := [(5, .int (nI (0))), (4, .int (nI (i))), (0, .ref (mo 0)), (1, .int (nI (d))), (2, .int (k)), (3, .int (nI (3)))]) F d_M_conflict_45 (by decide) rfl ?_
                refine V.iconst F d_M_conflict_47 (v := nI (0)) (by decide) ?_
                refine V.istore (lv2 := [(6, .int (nI (0))), (5, .int (nI (0))), (4, .int (nI (i))), (0, .ref (mo 0)), (1, .int (nI (d))), (2, .int (k)), (3, .int (nI (3)))]) F d_M_conflict_48 (by decide) rfl ?_
                have L50 : ∀ (n9 : Nat) (j : Nat) (q : Nat), nf - j < n9 → (j ≤ nf) → (q = cnt (fun g => decide (spt g < spt i) && fcB spt val P nf g) j) → V p l e (rmK 2 0 0) s m [.ref (mo 0), .int (nI (d)), .int (k), .int (nI (3))].toArray below meth c D (va_A (MW ct mo nd nb nf bdk num thg knd dy val tim rep kn clk tol opn bof std xd) s.heap.size) 7 0 0 (EI D below (MW ct mo nd nb nf bdk num thg knd dy val tim rep kn clk tol opn bof std xd) [.ref (mo 0), .int (nI (d)), .int (k), .int (nI (3))].toArray s 0 0 (fun r u => ∃ P : Nat → Bool, (∀ f, f < nf → P f = lkB (kn d) rep f nf) ∧ ((∃ f, f < nf ∧ fcB spt val P nf f = true ∧ k = nI (cnt (fun g => decide (spt g < spt f) && fcB spt val P nf g) nf) ∧ r = nI (cnt (fun g => decide (spt f = spt g) && P g) nf)) ∨ ((∀ f, f < nf → fcB spt val P nf f = true → ¬ k = nI (cnt (fun g => decide (spt g < spt f) && fcB spt val P nf g) nf)) ∧ r = -1)) ∧ u = MW ct mo nd nb nf bdk num thg knd dy val tim rep kn clk tol opn bof P xd)) (MW ct mo nd nb nf bdk num thg knd dy val tim rep kn clk tol opn bof P xd) [(6, .int (nI (j))), (5, .int (nI (q))), (4, .int (nI (i))), (0, .ref (mo 0)), (1, .int (nI (d))), (2, .int (k)), (3, .int (nI (3)))] 50 [] := by
                  intro n9
                  induction n9 with
                  | zero => intro j q h9 hj hq; exact absurd h9 (Nat.not_lt_zero _)
                  | succ n9 ih50 =>
                    intro j q h9 hj hq
                    refine V.iload F d_M_conflict_50 0 rfl ?_
                    refine V.aload_n F d_M_conflict_52 rfl 3 rfl ?_
                    refine V.get F ck_M d_M_conflict_53 13 (by decide) lk_M_59 0 rfl rfl ?_
                    refine V.icmp_geN (tgt := 95) F d_M_conflict_56 (by decide) (by omega) (by omega) (fun c56 => ?_) (fun c56 => ?_)
                    · skip
                      have e7 : j = nf := by omega
                      rw [e7] at hq
                      subst hq
                      refine V.iload F d_M_conflict_95 1 rfl ?_
                      refine V.iload_n F d_M_conflict_97 rfl 5 rfl ?_
                      refine V.icmp_ne (x := nI (cnt (fun g => decide (spt g < spt i) && fcB spt val P nf g) nf)) (y := k) (tgt := 199) F d_M_conflict_98 (by decide) (fun c98 => ?_) (fun c98 => ?_)
                      · skip
                        refine V.iincN (k := 1) (lv2 := [(4, .int (nI (i + 1))), (6, .int (nI (j))), (5, .int (nI (cnt (fun g => decide (spt g < spt i) && fcB spt val P nf g) nf))), (0, .ref (mo 0)), (1, .int (nI (d))), (2, .int (k)), (3, .int (nI (3)))]) F d_M_conflict_199 2 rfl (by decide) (by decide) rfl ?_
                        refine V.goto (tgt := 26) F d_M_conflict_202 (by decide) ?_
                        refine V.lvs [0, 3, 4, 5, 6] rfl ?_
                        exact ih26 (i + 1) (by omega) (by omega) (ord_stepY (A := fun f => fcB spt val P nf f) hin (fun q => c98 q.symm))
                      · skip
                        refine V.iload_n F d_M_conflict_101 rfl 6 rfl ?_
                        refine V.iconst F d_M_conflict_102 (v := nI (3)) (by decide) ?_
                        refine V.icmp_leN (tgt := 118) F d_M_conflict_103 (by decide) (by omega) (by omega) (fun c103 => ?_) (fun c103 => ?_)
                        · skip
                          refine V.iconst F d_M_conflict_118 (v := -1) (by decide) ?_
                          refine V.istore (lv2 := [(6, .int (-1)), (5, .int (nI (cnt (fun g => decide (spt g < spt i) && fcB spt val P nf g) nf))), (4, .int (nI (i))), (0, .ref (mo 0)), (1, .int (nI (d))), (2, .int (k)), (3, .int (nI (3)))]) F d_M_conflict_119 (by decide) rfl ?_
                          refine V.iload_n F d_M_conflict_121 rfl 6 rfl ?_
                          refine V.if_neN (a := 3) (tgt := 135) F d_M_conflict_122 (by decide) (by omega) (fun c122 => ?_) (fun c122 => ?_)
                          · skip
                            refine V.iload_n F d_M_conflict_135 rfl 6 rfl ?_
                            refine V.iconst F d_M_conflict_136 (v := nI (1)) (by decide) ?_
                            refine V.icmp_neN (tgt := 150) F d_M_conflict_137 (by decide) (by omega) (by omega) (fun c137 => ?_) (fun c137 => ?_)
                            · skip
                              refine V.iload_n F d_M_conflict_150 rfl 6 rfl ?_
                              refine V.iconst F d_M_conflict_151 (v := nI (2)) (by decide) ?_
                              refine V.icmp_neN (tgt := 166) F d_M_conflict_152 (by decide) (by omega) (by omega) (fun c152 => ?_) (fun c152 => ?_)
                              · skip
                                refine V.iload_n F d_M_conflict_166 rfl 6 rfl ?_
                                refine V.iconst F d_M_conflict_167 (v := nI (3)) (by decide) ?_
                                refine V.icmp_neN (tgt := 181) F d_M_conflict_168 (by decide) (by omega) (by omega) (fun c168 => ?_) (fun c168 => ?_)
                                · skip
                                  exact absurd c168 (by decide)
                                · skip
                                  refine V.aload_n F d_M_conflict_171 rfl 3 rfl ?_
                                  refine V.iload F d_M_conflict_172 2 rfl ?_
                                  refine V.iconst F d_M_conflict_174 (v := -1) (by decide) ?_
                                  refine V.callVI0 (As := [.int (nI (i)), .int (-1)]) (rest := []) F (m_standing l D hnf spt hsp hnum i (by omega) (-1)) d_M_conflict_175 sv_M_97 im_y_M_standing sl_y_M_standing 0 rfl rfl rfl rfl rfl (Nat.le_of_ble_eq_true rfl) ⟨rfl, rfl, (Nat.le_of_ble_eq_true rfl), (Nat.le_of_ble_eq_true rfl)⟩ ⟨(Nat.le_of_ble_eq_true rfl), (Nat.le_of_ble_eq_true rfl)⟩ (fun r9 u9 h9 => ?_)
                                  obtain ⟨h9, rfl⟩ := h9
                                  have e9 := h9.1 rfl
                                  subst e9
                                  refine V.goto (tgt := 198) F d_M_conflict_178 (by decide) ?_
                                  exact V.iret F hr d_M_conflict_198 (⟨P, hP, Or.inl ⟨i, by omega, c41, c98.symm, rfl⟩, rfl⟩)
                              · skip
                                exact absurd c152 (by decide)
                            · skip
                              exact absurd c137 (by decide)
                          · skip
                            exact absurd c122 (by decide)
                        · skip
                          exact absurd c103 (by decide)
                    · skip
                      refine V.iload F d_M_conflict_59 1 rfl ?_
                      refine V.aload_n F d_M_conflict_61 rfl 3 rfl ?_
                      refine V.iload F d_M_conflict_62 0 rfl ?_
                      refine V.iload F d_M_conflict_64 2 rfl ?_
                      refine V.callVI0 (As := [.int (nI (j)), .int (nI (i))]) (rest := [.int (nI (q))]) F (m_isBefore l D hnf spt hsp j i (by omega) (by omega)) d_M_conflict_66 sv_M_94 im_y_M_isBefore sl_y_M_isBefore 0 rfl rfl rfl rfl rfl (Nat.le_of_ble_eq_true rfl) ⟨rfl, rfl, (Nat.le_of_ble_eq_true rfl), (Nat.le_of_ble_eq_true rfl)⟩ ⟨(Nat.le_of_ble_eq_true rfl), (Nat.le_of_ble_eq_true rfl)⟩ (fun r9 u9 h9 => ?_)
                      obtain ⟨rfl, rfl⟩ := h9
                      refine V.if_eqB (b := decide (spt j < spt i)) (tgt := 85) F d_M_conflict_69 (by decide) (fun c69 => ?_) (fun c69 => ?_)
                      · skip
                        refine V.iconst F d_M_conflict_85 (v := nI (0)) (by decide) ?_
                        refine V.iaddN F d_M_conflict_86 ?_
                        refine V.istore (lv2 := [(5, .int (nI ((q) + (0)))), (6, .int (nI (j))), (4, .int (nI (i))), (0, .ref (mo 0)), (1, .int (nI (d))), (2, .int (k)), (3, .int (nI (3)))]) F d_M_conflict_87 (by decide) rfl ?_
                        refine V.iincN (k := 1) (lv2 := [(6, .int (nI (j + 1))), (5, .int (nI ((q) + (0)))), (4, .int (nI (i))), (0, .ref (mo 0)), (1, .int (nI (d))), (2, .int (k)), (3, .int (nI (3)))]) F d_M_conflict_89 1 rfl (by decide) (by decide) rfl ?_
                        refine V.goto (tgt := 50) F d_M_conflict_92 (by decide) ?_
                        exact ih50 (j + 1) (q) (by omega) (by omega) (by rw [hq, cnt, if_neg (by show ¬ (decide (spt j < spt i) && fcB spt val P nf j) = true; rw [c69]; simp)]; rfl)
                      · skip
                        refine V.aload_n F d_M_conflict_72 rfl 3 rfl ?_
                        refine V.iload F d_M_conflict_73 0 rfl ?_
                        refine V.callVI0 (As := [.int (nI (j))]) (rest := [.int (nI (q))]) F (m_isFC l D hnf spt hsp j (by omega)) d_M_conflict_75 sv_M_88 im_y_M_isFirstOfConflict sl_y_M_isFirstOfConflict 0 rfl rfl rfl rfl rfl (Nat.le_of_ble_eq_true rfl) ⟨rfl, rfl, (Nat.le_of_ble_eq_true rfl), (Nat.le_of_ble_eq_true rfl)⟩ ⟨(Nat.le_of_ble_eq_true rfl), (Nat.le_of_ble_eq_true rfl)⟩ (fun r9 u9 h9 => ?_)
                        obtain ⟨rfl, rfl⟩ := h9
                        refine V.if_eqB (b := fcB spt val P nf j) (tgt := 85) F d_M_conflict_78 (by decide) (fun c78 => ?_) (fun c78 => ?_)
                        · skip
                          refine V.iconst F d_M_conflict_85 (v := nI (0)) (by decide) ?_
                          refine V.iaddN F d_M_conflict_86 ?_
                          refine V.istore (lv2 := [(5, .int (nI ((q) + (0)))), (6, .int (nI (j))), (4, .int (nI (i))), (0, .ref (mo 0)), (1, .int (nI (d))), (2, .int (k)), (3, .int (nI (3)))]) F d_M_conflict_87 (by decide) rfl ?_
                          refine V.iincN (k := 1) (lv2 := [(6, .int (nI (j + 1))), (5, .int (nI ((q) + (0)))), (4, .int (nI (i))), (0, .ref (mo 0)), (1, .int (nI (d))), (2, .int (k)), (3, .int (nI (3)))]) F d_M_conflict_89 1 rfl (by decide) (by decide) rfl ?_
                          refine V.goto (tgt := 50) F d_M_conflict_92 (by decide) ?_
                          exact ih50 (j + 1) (q) (by omega) (by omega) (by rw [hq, cnt, if_neg (by show ¬ (decide (spt j < spt i) && fcB spt val P nf j) = true; rw [c78]; simp)]; rfl)
                        · skip
                          refine V.iconst F d_M_conflict_81 (v := nI (1)) (by decide) ?_
                          refine V.goto (tgt := 86) F d_M_conflict_82 (by decide) ?_
                          refine V.iaddN F d_M_conflict_86 ?_
                          refine V.istore (lv2 := [(5, .int (nI ((q) + (1)))), (6, .int (nI (j))), (4, .int (nI (i))), (0, .ref (mo 0)), (1, .int (nI (d))), (2, .int (k)), (3, .int (nI (3)))]) F d_M_conflict_87 (by decide) rfl ?_
                          refine V.iincN (k := 1) (lv2 := [(6, .int (nI (j + 1))), (5, .int (nI ((q) + (1)))), (4, .int (nI (i))), (0, .ref (mo 0)), (1, .int (nI (d))), (2, .int (k)), (3, .int (nI (3)))]) F d_M_conflict_89 1 rfl (by decide) (by decide) rfl ?_
                          refine V.goto (tgt := 50) F d_M_conflict_92 (by decide) ?_
                          exact ih50 (j + 1) (q + 1) (by omega) (by omega) (by rw [hq, cnt, if_pos (by show (decide (spt j < spt i) && fcB spt val P nf j) = true; rw [c69, c78]; rfl)])
                exact L50 _ (0) (0) (Nat.lt_succ_self _) (by omega) (rfl)
        exact L26 _ (0) (Nat.lt_succ_self _) (by omega) (fun f hf => absurd hf (by omega))
      · skip
        exact absurd (nI_pos' (by omega)) c13

set_option maxHeartbeats 4000000 in
set_option maxRecDepth 100000 in
theorem m_cf4 (l : Launch) (D : va_G) {ct : Nat → ClassId} {mo : Nat → Nat} {nd : Nat} {nb : Nat} {nf : Nat} {bdk : Nat → Nat} {num : Nat → Nat} {thg : Nat → Nat} {knd : Nat → Nat} {dy : Nat → Nat} {val : Nat → Int64} {tim : Nat → Nat} {rep : Nat → Nat → Bool} {kn : Nat → Nat → Bool} {clk : Nat → Nat} {tol : Nat → Nat} {opn : Nat → Option Nat} {bof : Nat → Option Nat} {std : Nat → Bool} {xd : Int64} (hnf : nf ≤ 300) (hnd : nd ≤ 8) (d : Nat) (hd0 : d < nd) (spt : Nat → Nat) (hsp : SpR spt thg knd dy nf) (hnum : ∀ k, k < nf → num k < 2 ^ 31) (k : Int32) (hk : ¬ k < 0) (ww : Nat) (hww : ww + 4 < 2 ^ 31) : CI l y_M_conflict b_M_conflict 7 (some .int) (rmK 2 0 0) D (tyL ct) (MW ct mo nd nb nf bdk num thg knd dy val tim rep kn clk tol opn bof std xd) [.ref (mo 0), .int (nI (d)), .int (k), .int (nI (ww + 4))] 0 0 (fun r u => ∃ P : Nat → Bool, (∀ f, f < nf → P f = lkB (kn d) rep f nf) ∧ ((∃ f, f < nf ∧ fcB spt val P nf f = true ∧ k = nI (cnt (fun g => decide (spt g < spt f) && fcB spt val P nf g) nf) ∧ ∃ b : Option Nat, ((∀ g, b = some g → g < nf ∧ (fun g => decide (spt f = spt g) && P g) g = true ∧ nI ww = nI (cnt (fun h => decide (spt f = spt h) && (decide (num h < num g) && P h)) nf)) ∧ (b = none → ∀ g, g < nf → (fun g => decide (spt f = spt g) && P g) g = true → ¬ nI ww = nI (cnt (fun h => decide (spt f = spt h) && (decide (num h < num g) && P h)) nf))) ∧ r = (match b with | none => -1 | some g => nI (num g))) ∨ ((∀ f, f < nf → fcB spt val P nf f = true → ¬ k = nI (cnt (fun g => decide (spt g < spt f) && fcB spt val P nf g) nf)) ∧ r = -1)) ∧ u = MW ct mo nd nb nf bdk num thg knd dy val tim rep kn clk tol opn bof P xd) := by
  refine CI.start (by decide) (Nat.le_of_ble_eq_true rfl) ?_
  intro p e s m below meth c F hr hnm
  show V p l e (rmK 2 0 0) s m [.ref (mo 0), .int (nI (d)), .int (k), .int (nI (ww + 4))].toArray below meth c D (va_A (MW ct mo nd nb nf bdk num thg knd dy val tim rep kn clk tol opn bof std xd) s.heap.size) 7 0 0 (EI D below (MW ct mo nd nb nf bdk num thg knd dy val tim rep kn clk tol opn bof std xd) [.ref (mo 0), .int (nI (d)), .int (k), .int (nI (ww + 4))].toArray s 0 0 (fun r u => ∃ P : Nat → Bool, (∀ f, f < nf → P f = lkB (kn d) rep f nf) ∧ ((∃ f, f < nf ∧ fcB spt val P nf f = true ∧ k = nI (cnt (fun g => decide (spt g < spt f) && fcB spt val P nf g) nf) ∧ ∃ b : Option Nat, ((∀ g, b = some g → g < nf ∧ (fun g => decide (spt f = spt g) && P g) g = true ∧ nI ww = nI (cnt (fun h => decide (spt f = spt h) && (decide (num h < num g) && P h)) nf)) ∧ (b = none → ∀ g, g < nf → (fun g => decide (spt f = spt g) && P g) g = true → ¬ nI ww = nI (cnt (fun h => decide (spt f = spt h) && (decide (num h < num g) && P h)) nf))) ∧ r = (match b with | none => -1 | some g => nI (num g))) ∨ ((∀ f, f < nf → fcB spt val P nf f = true → ¬ k = nI (cnt (fun g => decide (spt g < spt f) && fcB spt val P nf g) nf)) ∧ r = -1)) ∧ u = MW ct mo nd nb nf bdk num thg knd dy val tim rep kn clk tol opn bof P xd)) (MW ct mo nd nb nf bdk num thg knd dy val tim rep kn clk tol opn bof std xd) [(0, .ref (mo 0)), (1, .int (nI (d))), (2, .int (k)), (3, .int (nI (ww + 4)))] 0 []
  refine V.aload_n F d_M_conflict_0 rfl 0 rfl ?_
  refine V.iload_n F d_M_conflict_1 rfl 1 rfl ?_
  refine V.callVI0 (As := [.int (nI (d))]) (rest := []) F (m_isDesk l D hnd d hd0) d_M_conflict_2 sv_M_62 im_y_M_isDesk sl_y_M_isDesk 0 rfl rfl rfl rfl rfl (Nat.le_of_ble_eq_true rfl) ⟨rfl, rfl, (Nat.le_of_ble_eq_true rfl), (Nat.le_of_ble_eq_true rfl)⟩ ⟨(Nat.le_of_ble_eq_true rfl), (Nat.le_of_ble_eq_true rfl)⟩ (fun r9 u9 h9 => ?_)
  obtain ⟨rfl, rfl⟩ := h9
  refine V.if_eqB (b := true) (tgt := 16) F d_M_conflict_5 (by decide) (fun c5 => ?_) (fun c5 => ?_)
  · skip
    exact absurd c5 (by decide)
  · skip
    refine V.iload_n F d_M_conflict_8 rfl 2 rfl ?_
    refine V.if_lt (x := k) (tgt := 16) F d_M_conflict_9 (by decide) (fun c9 => ?_) (fun c9 => ?_)
    · skip
      exact absurd c9 hk
    · skip
      refine V.iload_n F d_M_conflict_12 rfl 3 rfl ?_
      refine V.if_ge (x := nI (ww + 4)) (tgt := 18) F d_M_conflict_13 (by decide) (fun c13 => ?_) (fun c13 => ?_)
      · skip
        refine V.aload_n F d_M_conflict_18 rfl 0 rfl ?_
        refine V.iload_n F d_M_conflict_19 rfl 1 rfl ?_
        refine V.callVV0 (As := [.int (nI (d))]) (rest := []) F (m_look l D hnf hnd d hd0) d_M_conflict_20 sv_M_80 im_y_M_look sl_y_M_look 0 rfl rfl rfl rfl rfl (Nat.le_of_ble_eq_true rfl) ⟨rfl, rfl, (Nat.le_of_ble_eq_true rfl), (Nat.le_of_ble_eq_true rfl)⟩ ⟨(Nat.le_of_ble_eq_true rfl), (Nat.le_of_ble_eq_true rfl)⟩ (fun u9 h9 => ?_)
        obtain ⟨P, hP, rfl⟩ := h9
        refine V.iconst F d_M_conflict_23 (v := nI (0)) (by decide) ?_
        refine V.istore (lv2 := [(4, .int (nI (0))), (0, .ref (mo 0)), (1, .int (nI (d))), (2, .int (k)), (3, .int (nI (ww + 4)))]) F d_M_conflict_24 (by decide) rfl ?_
        have L26 : ∀ (n9 : Nat) (i : Nat), nf - i < n9 → (i ≤ nf) → (∀ f, f < i → fcB spt val P nf f = true → ¬ k = nI (cnt (fun g => decide (spt g < spt f) && fcB spt val P nf g) nf)) → V p l e (rmK 2 0 0) s m [.ref (mo 0), .int (nI (d)), .int (k), .int (nI (ww + 4))].toArray below meth c D (va_A (MW ct mo nd nb nf bdk num thg knd dy val tim rep kn clk tol opn bof std xd) s.heap.size) 7 0 0 (EI D below (MW ct mo nd nb nf bdk num thg knd dy val tim rep kn clk tol opn bof std xd) [.ref (mo 0), .int (nI (d)), .int (k), .int (nI (ww + 4))].toArray s 0 0 (fun r u => ∃ P : Nat → Bool, (∀ f, f < nf → P f = lkB (kn d) rep f nf) ∧ ((∃ f, f < nf ∧ fcB spt val P nf f = true ∧ k = nI (cnt (fun g => decide (spt g < spt f) && fcB spt val P nf g) nf) ∧ ∃ b : Option Nat, ((∀ g, b = some g → g < nf ∧ (fun g => decide (spt f = spt g) && P g) g = true ∧ nI ww = nI (cnt (fun h => decide (spt f = spt h) && (decide (num h < num g) && P h)) nf)) ∧ (b = none → ∀ g, g < nf → (fun g => decide (spt f = spt g) && P g) g = true → ¬ nI ww = nI (cnt (fun h => decide (spt f = spt h) && (decide (num h < num g) && P h)) nf))) ∧ r = (match b with | none => -1 | some g => nI (num g))) ∨ ((∀ f, f < nf → fcB spt val P nf f = true → ¬ k = nI (cnt (fun g => decide (spt g < spt f) && fcB spt val P nf g) nf)) ∧ r = -1)) ∧ u = MW ct mo nd nb nf bdk num thg knd dy val tim rep kn clk tol opn bof P xd)) (MW ct mo nd nb nf bdk num thg knd dy val tim rep kn clk tol opn bof P xd) [(4, .int (nI (i))), (0, .ref (mo 0)), (1, .int (nI (d))), (2, .int (k)), (3, .int (nI (ww + 4)))] 26 [] := by
          intro n9
          induction n9 with
          | zero => intro i h9 hi hin; exact absurd h9 (Nat.not_lt_zero _)
          | succ n9 ih26 =>
            intro i h9 hi hin
            refine V.iload F d_M_conflict_26 0 rfl ?_
            refine V.aload_n F d_M_conflict_28 rfl 1 rfl ?_
            refine V.get F ck_M d_M_conflict_29 13 (by decide) lk_M_59 0 rfl rfl ?_
            refine V.icmp_geN (tgt := 205) F d_M_conflict_32 (by decide) (by omega) (by omega) (fun c32 => ?_) (fun c32 => ?_)
            · skip
              refine V.iconst F d_M_conflict_205 (v := -1) (by decide) ?_
              exact V.iret F hr d_M_conflict_206 (⟨P, hP, Or.inr ⟨fun f hf => hin f (by omega), rfl⟩, rfl⟩)
            · skip
              refine V.aload_n F d_M_conflict_35 rfl 1 rfl ?_
              refine V.iload F d_M_conflict_36 0 rfl ?_
              refine V.callVI0 (As := [.int (nI (i))]) (rest := []) F (m_isFC l D hnf spt hsp i (by omega)) d_M_conflict_38 sv_M_88 im_y_M_isFirstOfConflict sl_y_M_isFirstOfConflict 0 rfl rfl rfl rfl rfl (Nat.le_of_ble_eq_true rfl) ⟨rfl, rfl, (Nat.le_of_ble_eq_true rfl), (Nat.le_of_ble_eq_true rfl)⟩ ⟨(Nat.le_of_ble_eq_true rfl), (Nat.le_of_ble_eq_true rfl)⟩ (fun r9 u9 h9 => ?_)
              obtain ⟨rfl, rfl⟩ := h9
              refine V.if_eqB (b := fcB spt val P nf i) (tgt := 199) F d_M_conflict_41 (by decide) (fun c41 => ?_) (fun c41 => ?_)
              · skip
                refine V.iincN (k := 1) (lv2 := [(4, .int (nI (i + 1))), (0, .ref (mo 0)), (1, .int (nI (d))), (2, .int (k)), (3, .int (nI (ww + 4)))]) F d_M_conflict_199 0 rfl (by decide) (by decide) rfl ?_
                refine V.goto (tgt := 26) F d_M_conflict_202 (by decide) ?_
                exact ih26 (i + 1) (by omega) (by omega) (ord_stepX (A := fun f => fcB spt val P nf f) hin (by rw [c41]; simp))
              · skip
                refine V.iconst F d_M_conflict_44 (v := nI (0)) (by decide) ?_
                refine V.istore (lv2 := [(5, .int (nI (0))), (4, .int (nI (i))), (0, .ref (mo 0)), (1, .int (nI (d))), (2, .int (k)), (3, .int (nI (ww + 4)))]) F d_M_conflict_45 (by decide) rfl ?_
                refine V.iconst F d_M_conflict_47 (v := nI (0)) (by decide) ?_
                refine V.istore (lv2 := [(6, .int (nI (0))), (5, .int (nI (0))), (4, .int (nI (i))), (0, .ref (mo 0)), (1, .int (nI (d))), (2, .int (k)), (3, .int (nI (ww + 4)))]) F d_M_conflict_48 (by decide) rfl ?_
                have L50 : ∀ (n9 : Nat) (j : Nat) (q : Nat), nf - j < n9 → (j ≤ nf) → (q = cnt (fun g => decide (spt g < spt i) && fcB spt val P nf g) j) → V p l e (rmK 2 0 0) s m [.ref (mo 0), .int (nI (d)), .int (k), .int (nI (ww + 4))].toArray below meth c D (va_A (MW ct mo nd nb nf bdk num thg knd dy val tim rep kn clk tol opn bof std xd) s.heap.size) 7 0 0 (EI D below (MW ct mo nd nb nf bdk num thg knd dy val tim rep kn clk tol opn bof std xd) [.ref (mo 0), .int (nI (d)), .int (k), .int (nI (ww + 4))].toArray s 0 0 (fun r u => ∃ P : Nat → Bool, (∀ f, f < nf → P f = lkB (kn d) rep f nf) ∧ ((∃ f, f < nf ∧ fcB spt val P nf f = true ∧ k = nI (cnt (fun g => decide (spt g < spt f) && fcB spt val P nf g) nf) ∧ ∃ b : Option Nat, ((∀ g, b = some g → g < nf ∧ (fun g => decide (spt f = spt g) && P g) g = true ∧ nI ww = nI (cnt (fun h => decide (spt f = spt h) && (decide (num h < num g) && P h)) nf)) ∧ (b = none → ∀ g, g < nf → (fun g => decide (spt f = spt g) && P g) g = true → ¬ nI ww = nI (cnt (fun h => decide (spt f = spt h) && (decide (num h < num g) && P h)) nf))) ∧ r = (match b with | none => -1 | some g => nI (num g))) ∨ ((∀ f, f < nf → fcB spt val P nf f = true → ¬ k = nI (cnt (fun g => decide (spt g < spt f) && fcB spt val P nf g) nf)) ∧ r = -1)) ∧ u = MW ct mo nd nb nf bdk num thg knd dy val tim rep kn clk tol opn bof P xd)) (MW ct mo nd nb nf bdk num thg knd dy val tim rep kn clk tol opn bof P xd) [(6, .int (nI (j))), (5, .int (nI (q))), (4, .int (nI (i))), (0, .ref (mo 0)), (1, .int (nI (d))), (2, .int (k)), (3, .int (nI (ww + 4)))] 50 [] := by
                  intro n9
                  induction n9 with
                  | zero => intro j q h9 hj hq; exact absurd h9 (Nat.not_lt_zero _)
                  | succ n9 ih50 =>
                    intro j q h9 hj hq
                    refine V.iload F d_M_conflict_50 0 rfl ?_
                    refine V.aload_n F d_M_conflict_52 rfl 3 rfl ?_
                    refine V.get F ck_M d_M_conflict_53 13 (by decide) lk_M_59 0 rfl rfl ?_
                    refine V.icmp_geN (tgt := 95) F d_M_conflict_56 (by decide) (by omega) (by omega) (fun c56 => ?_) (fun c56 => ?_)
                    · skip
                      have e7 : j = nf := by omega
                      rw [e7] at hq
                      subst hq
                      refine V.iload F d_M_conflict_95 1 rfl ?_
                      refine V.iload_n F d_M_conflict_97 rfl 5 rfl ?_
                      refine V.icmp_ne (x := nI (cnt (fun g => decide (spt g < spt i) && fcB spt val P nf g) nf)) (y := k) (tgt := 199) F d_M_conflict_98 (by decide) (fun c98 => ?_) (fun c98 => ?_)
                      · skip
                        refine V.iincN (k := 1) (lv2 := [(4, .int (nI (i + 1))), (6, .int (nI (j))), (5, .int (nI (cnt (fun g => decide (spt g < spt i) && fcB spt val P nf g) nf))), (0, .ref (mo 0)), (1, .int (nI (d))), (2, .int (k)), (3, .int (nI (ww + 4)))]) F d_M_conflict_199 2 rfl (by decide) (by decide) rfl ?_
                        refine V.goto (tgt := 26) F d_M_conflict_202 (by decide) ?_
                        refine V.lvs [0, 3, 4, 5, 6] rfl ?_
                        exact ih26 (i + 1) (by omega) (by omega) (ord_stepY (A := fun f => fcB spt val P nf f) hin (fun q => c98 q.symm))
                      · skip
                        refine V.iload_n F d_M_conflict_101 rfl 6 rfl ?_
                        refine V.iconst F d_M_conflict_102 (v := nI (3)) (by decide) ?_
                        refine V.icmp_leN (tgt := 118) F d_M_conflict_103 (by decide) (by omega) (by omega) (fun c103 => ?_) (fun c103 => ?_)
                        · skip
                          exact absurd c103 (by omega)
                        · skip
                          refine V.aload_n F d_M_conflict_106 rfl 3 rfl ?_
                          refine V.iload F d_M_conflict_107 2 rfl ?_
                          refine V.iload_n F d_M_conflict_109 rfl 6 rfl ?_
                          refine V.iconst F d_M_conflict_110 (v := nI (4)) (by decide) ?_
                          refine V.isubN F d_M_conflict_111 (by omega) ?_
                          refine V.callVI0 (As := [.int (nI (i)), .int (nI ((ww + 4) - (4)))]) (rest := []) F (m_standing l D hnf spt hsp hnum i (by omega) (nI ww)) d_M_conflict_112 sv_M_97 im_y_M_standing sl_y_M_standing 0 rfl rfl rfl rfl rfl (Nat.le_of_ble_eq_true rfl) ⟨rfl, rfl, (Nat.le_of_ble_eq_true rfl), (Nat.le_of_ble_eq_true rfl)⟩ ⟨(Nat.le_of_ble_eq_true rfl), (Nat.le_of_ble_eq_true rfl)⟩ (fun r9 u9 h9 => ?_)
                          obtain ⟨h9, rfl⟩ := h9
                          obtain ⟨b, rfl, hb⟩ := h9.2 (nI_nm1 (by omega))
                          refine V.goto (tgt := 119) F d_M_conflict_115 (by decide) ?_
                          refine V.istore (lv2 := [(6, .int (oI b)), (5, .int (nI (cnt (fun g => decide (spt g < spt i) && fcB spt val P nf g) nf))), (4, .int (nI (i))), (0, .ref (mo 0)), (1, .int (nI (d))), (2, .int (k)), (3, .int (nI (ww + 4)))]) F d_M_conflict_119 (by decide) rfl ?_
                          refine V.iload_n F d_M_conflict_121 rfl 6 rfl ?_
                          refine V.if_neN (a := ww + 4) (tgt := 135) F d_M_conflict_122 (by decide) (by omega) (fun c122 => ?_) (fun c122 => ?_)
                          · skip
                            refine V.iload_n F d_M_conflict_135 rfl 6 rfl ?_
                            refine V.iconst F d_M_conflict_136 (v := nI (1)) (by decide) ?_
                            refine V.icmp_neN (tgt := 150) F d_M_conflict_137 (by decide) (by omega) (by omega) (fun c137 => ?_) (fun c137 => ?_)
                            · skip
                              refine V.iload_n F d_M_conflict_150 rfl 6 rfl ?_
                              refine V.iconst F d_M_conflict_151 (v := nI (2)) (by decide) ?_
                              refine V.icmp_neN (tgt := 166) F d_M_conflict_152 (by decide) (by omega) (by omega) (fun c152 => ?_) (fun c152 => ?_)
                              · skip
                                refine V.iload_n F d_M_conflict_166 rfl 6 rfl ?_
                                refine V.iconst F d_M_conflict_167 (v := nI (3)) (by decide) ?_
                                refine V.icmp_neN (tgt := 181) F d_M_conflict_168 (by decide) (by omega) (by omega) (fun c168 => ?_) (fun c168 => ?_)
                                · skip
                                  refine V.iload F d_M_conflict_181 0 rfl ?_
                                  refine V.iconst F d_M_conflict_183 (v := -1) (by decide) ?_
                                  refine V.icmp_ne (x := oI b) (y := -1) (tgt := 191) F d_M_conflict_184 (by decide) (fun c184 => ?_) (fun c184 => ?_)
                                  · skip
                                    obtain ⟨g, rfl⟩ := oI_some c184
                                    have hg9 := (hb.1 g rfl).1
                                    refine V.aload_n F d_M_conflict_191 rfl 3 rfl ?_
                                    refine V.get F ck_M d_M_conflict_192 4 (by decide) lk_M_20 0 rfl rfl ?_
                                    refine V.iload F d_M_conflict_195 0 rfl ?_
                                    refine V.iald (v := nI (num (g))) F d_M_conflict_197 4 0 rfl rfl (by omega) (by decide) rfl ?_
                                    exact V.iret F hr d_M_conflict_198 (⟨P, hP, Or.inl ⟨i, by omega, c41, c98.symm, some g, hb, rfl⟩, rfl⟩)
                                  · skip
                                    have hbn := oI_none (fun g e9 => by have := (hb.1 g e9).1; omega) c184
                                    refine V.iconst F d_M_conflict_187 (v := -1) (by decide) ?_
                                    refine V.goto (tgt := 198) F d_M_conflict_188 (by decide) ?_
                                    exact V.iret F hr d_M_conflict_198 (⟨P, hP, Or.inl ⟨i, by omega, c41, c98.symm, none, by rw [hbn] at hb; exact hb, rfl⟩, rfl⟩)
                                · skip
                                  exact absurd c168 (by omega)
                              · skip
                                exact absurd c152 (by omega)
                            · skip
                              exact absurd c137 (by omega)
                          · skip
                            exact absurd c122 (by omega)
                    · skip
                      refine V.iload F d_M_conflict_59 1 rfl ?_
                      refine V.aload_n F d_M_conflict_61 rfl 3 rfl ?_
                      refine V.iload F d_M_conflict_62 0 rfl ?_
                      refine V.iload F d_M_conflict_64 2 rfl ?_
                      refine V.callVI0 (As := [.int (nI (j)), .int (nI (i))]) (rest := [.int (nI (q))]) F (m_isBefore l D hnf spt hsp j i (by omega) (by omega)) d_M_conflict_66 sv_M_94 im_y_M_isBefore sl_y_M_isBefore 0 rfl rfl rfl rfl rfl (Nat.le_of_ble_eq_true rfl) ⟨rfl, rfl, (Nat.le_of_ble_eq_true rfl), (Nat.le_of_ble_eq_true rfl)⟩ ⟨(Nat.le_of_ble_eq_true rfl), (Nat.le_of_ble_eq_true rfl)⟩ (fun r9 u9 h9 => ?_)
                      obtain ⟨rfl, rfl⟩ := h9
                      refine V.if_eqB (b := decide (spt j < spt i)) (tgt := 85) F d_M_conflict_69 (by decide) (fun c69 => ?_) (fun c69 => ?_)
                      · skip
                        refine V.iconst F d_M_conflict_85 (v := nI (0)) (by decide) ?_
                        refine V.iaddN F d_M_conflict_86 ?_
                        refine V.istore (lv2 := [(5, .int (nI ((q) + (0)))), (6, .int (nI (j))), (4, .int (nI (i))), (0, .ref (mo 0)), (1, .int (nI (d))), (2, .int (k)), (3, .int (nI (ww + 4)))]) F d_M_conflict_87 (by decide) rfl ?_
                        refine V.iincN (k := 1) (lv2 := [(6, .int (nI (j + 1))), (5, .int (nI ((q) + (0)))), (4, .int (nI (i))), (0, .ref (mo 0)), (1, .int (nI (d))), (2, .int (k)), (3, .int (nI (ww + 4)))]) F d_M_conflict_89 1 rfl (by decide) (by decide) rfl ?_
                        refine V.goto (tgt := 50) F d_M_conflict_92 (by decide) ?_
                        exact ih50 (j + 1) (q) (by omega) (by omega) (by rw [hq, cnt, if_neg (by show ¬ (decide (spt j < spt i) && fcB spt val P nf j) = true; rw [c69]; simp)]; rfl)
                      · skip
                        refine V.aload_n F d_M_conflict_72 rfl 3 rfl ?_
                        refine V.iload F d_M_conflict_73 0 rfl ?_
                        refine V.callVI0 (As := [.int (nI (j))]) (rest := [.int (nI (q))]) F (m_isFC l D hnf spt hsp j (by omega)) d_M_conflict_75 sv_M_88 im_y_M_isFirstOfConflict sl_y_M_isFirstOfConflict 0 rfl rfl rfl rfl rfl (Nat.le_of_ble_eq_true rfl) ⟨rfl, rfl, (Nat.le_of_ble_eq_true rfl), (Nat.le_of_ble_eq_true rfl)⟩ ⟨(Nat.le_of_ble_eq_true rfl), (Nat.le_of_ble_eq_true rfl)⟩ (fun r9 u9 h9 => ?_)
                        obtain ⟨rfl, rfl⟩ := h9
                        refine V.if_eqB (b := fcB spt val P nf j) (tgt := 85) F d_M_conflict_78 (by decide) (fun c78 => ?_) (fun c78 => ?_)
                        · skip
                          refine V.iconst F d_M_conflict_85 (v := nI (0)) (by decide) ?_
                          refine V.iaddN F d_M_conflict_86 ?_
                          refine V.istore (lv2 := [(5, .int (nI ((q) + (0)))), (6, .int (nI (j))), (4, .int (nI (i))), (0, .ref (mo 0)), (1, .int (nI (d))), (2, .int (k)), (3, .int (nI (ww + 4)))]) F d_M_conflict_87 (by decide) rfl ?_
                          refine V.iincN (k := 1) (lv2 := [(6, .int (nI (j + 1))), (5, .int (nI ((q) + (0)))), (4, .int (nI (i))), (0, .ref (mo 0)), (1, .int (nI (d))), (2, .int (k)), (3, .int (nI (ww + 4)))]) F d_M_conflict_89 1 rfl (by decide) (by decide) rfl ?_
                          refine V.goto (tgt := 50) F d_M_conflict_92 (by decide) ?_
                          exact ih50 (j + 1) (q) (by omega) (by omega) (by rw [hq, cnt, if_neg (by show ¬ (decide (spt j < spt i) && fcB spt val P nf j) = true; rw [c78]; simp)]; rfl)
                        · skip
                          refine V.iconst F d_M_conflict_81 (v := nI (1)) (by decide) ?_
                          refine V.goto (tgt := 86) F d_M_conflict_82 (by decide) ?_
                          refine V.iaddN F d_M_conflict_86 ?_
                          refine V.istore (lv2 := [(5, .int (nI ((q) + (1)))), (6, .int (nI (j))), (4, .int (nI (i))), (0, .ref (mo 0)), (1, .int (nI (d))), (2, .int (k)), (3, .int (nI (ww + 4)))]) F d_M_conflict_87 (by decide) rfl ?_
                          refine V.iincN (k := 1) (lv2 := [(6, .int (nI (j + 1))), (5, .int (nI ((q) + (1)))), (4, .int (nI (i))), (0, .ref (mo 0)), (1, .int (nI (d))), (2, .int (k)), (3, .int (nI (ww + 4)))]) F d_M_conflict_89 1 rfl (by decide) (by decide) rfl ?_
                          refine V.goto (tgt := 50) F d_M_conflict_92 (by decide) ?_
                          exact ih50 (j + 1) (q + 1) (by omega) (by omega) (by rw [hq, cnt, if_pos (by show (decide (spt j < spt i) && fcB spt val P nf j) = true; rw [c69, c78]; rfl)])
                exact L50 _ (0) (0) (Nat.lt_succ_self _) (by omega) (rfl)
        exact L26 _ (0) (Nat.lt_succ_self _) (by omega) (fun f hf => absurd hf (by omega))
      · skip
        exact absurd (nI_pos' (by omega)) c13

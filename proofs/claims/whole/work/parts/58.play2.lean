set_option maxHeartbeats 4000000 in
set_option maxRecDepth 100000 in
theorem m_playNo (l : Launch) (D : va_G) {ct : Nat → ClassId} {mo : Nat → Nat} {nd : Nat} {nb : Nat} {nf : Nat} {bdk : Nat → Nat} {num : Nat → Nat} {thg : Nat → Nat} {knd : Nat → Nat} {dy : Nat → Nat} {val : Nat → Int64} {tim : Nat → Nat} {rep : Nat → Nat → Bool} {kn : Nat → Nat → Bool} {clk : Nat → Nat} {tol : Nat → Nat} {opn : Nat → Option Nat} {bof : Nat → Option Nat} {std : Nat → Bool} {xd : Int64} (x : Int64) (n : Int32) (hnd : nd ≤ 8) (hz : nd = 0 ∨ n < 0 ∨ ¬ n ≤ nI 200) : CI l y_M_play b_M_play 11 (some .int) (rmK 4 0 0) D (tyL ct) (MW ct mo nd nb nf bdk num thg knd dy val tim rep kn clk tol opn bof std xd) [.ref (mo 0), .long (x), .int (n)] 0 0 (fun r u => r = -1 ∧ u = MW ct mo nd nb nf bdk num thg knd dy val tim rep kn clk tol opn bof std xd) := by
  refine CI.start (by decide) (Nat.le_of_ble_eq_true rfl) ?_
  intro p e s m below meth c F hr hnm
  show V p l e (rmK 4 0 0) s m [.ref (mo 0), .long (x), .int (n)].toArray below meth c D (va_A (MW ct mo nd nb nf bdk num thg knd dy val tim rep kn clk tol opn bof std xd) s.heap.size) 11 0 0 (EI D below (MW ct mo nd nb nf bdk num thg knd dy val tim rep kn clk tol opn bof std xd) [.ref (mo 0), .long (x), .int (n)].toArray s 0 0 (fun r u => r = -1 ∧ u = MW ct mo nd nb nf bdk num thg knd dy val tim rep kn clk tol opn bof std xd)) (MW ct mo nd nb nf bdk num thg knd dy val tim rep kn clk tol opn bof std xd) [(0, .ref (mo 0)), (1, .long (x)), (3, .int (n))] 0 []
  refine V.aload_n F d_M_play_0 rfl 0 rfl ?_
  refine V.get F ck_M d_M_play_1 0 (by decide) lk_M_55 0 rfl rfl ?_
  refine V.if_eqN (a := nd) (tgt := 18) F d_M_play_4 (by decide) (by omega) (fun c4 => ?_) (fun c4 => ?_)
  · skip
    refine V.iconst F d_M_play_18 (v := -1) (by decide) ?_
    exact V.iret F hr d_M_play_19 (⟨rfl, rfl⟩)
  · skip
    refine V.iload_n F d_M_play_7 rfl 2 rfl ?_
    refine V.if_lt (x := n) (tgt := 18) F d_M_play_8 (by decide) (fun c8 => ?_) (fun c8 => ?_)
    · skip
      refine V.iconst F d_M_play_18 (v := -1) (by decide) ?_
      exact V.iret F hr d_M_play_19 (⟨rfl, rfl⟩)
    · skip
      refine V.iload_n F d_M_play_11 rfl 2 rfl ?_
      refine V.sipush F d_M_play_12 (v := nI (200)) (by decide) ?_
      refine V.icmp_le (x := n) (y := nI (200)) (tgt := 20) F d_M_play_15 (by decide) (fun c15 => ?_) (fun c15 => ?_)
      · skip
        exact absurd hz (fun q => q.elim c4 (fun q => q.elim c8 (fun q => q c15)))
      · skip
        refine V.iconst F d_M_play_18 (v := -1) (by decide) ?_
        exact V.iret F hr d_M_play_19 (⟨rfl, rfl⟩)

set_option maxHeartbeats 4000000 in
set_option maxRecDepth 100000 in
theorem m_play (l : Launch) (D : va_G) {ct : Nat → ClassId} {mo : Nat → Nat} {nd : Nat} {nb : Nat} {nf0 : Nat} {bdk : Nat → Nat} {num0 : Nat → Nat} {thg0 : Nat → Nat} {knd0 : Nat → Nat} {dy0 : Nat → Nat} {val0 : Nat → Int64} {tim0 : Nat → Nat} {rep : Nat → Nat → Bool} {kn0 : Nat → Nat → Bool} {clk0 : Nat → Nat} {tol0 : Nat → Nat} {opn : Nat → Option Nat} {bof0 : Nat → Option Nat} {std0 : Nat → Bool} {xd0 : Int64} {spt0 : Nat → Nat} {pe0 : Nat → Nat → Bool} (x0 : Int64) (tn : Nat) (ht : tn < 201) (hI0 : Inv nd nb nf0 bdk num0 spt0 tim0 rep kn0 pe0 clk0 tol0 opn thg0 knd0 dy0 bof0) (h0 : 0 < nd) : CI l y_M_play b_M_play 11 (some .int) (rmK 4 0 0) D (tyL ct) (MW ct mo nd nb nf0 bdk num0 thg0 knd0 dy0 val0 tim0 rep kn0 clk0 tol0 opn bof0 std0 xd0) [.ref (mo 0), .long (x0), .int (nI (tn))] 0 0 (fun r u => ∃ (nf : Nat) (num : Nat → Nat) (spt : Nat → Nat) (val : Nat → Int64) (tim : Nat → Nat) (kn : Nat → Nat → Bool) (pe : Nat → Nat → Bool) (clk : Nat → Nat) (tol : Nat → Nat) (thg : Nat → Nat) (knd : Nat → Nat) (dy : Nat → Nat) (bof : Nat → Option Nat) (std : Nat → Bool) (x : Int64), ((nf, num, spt, val, tim, kn, pe, clk, tol, thg, knd, dy, bof), x) = itA nd opn (nf0, num0, spt0, val0, tim0, kn0, pe0, clk0, tol0, thg0, knd0, dy0, bof0) x0 tn ∧ r = nI (sm (fun d => cnt (kn d) nf) nd) ∧ u = MW ct mo nd nb nf bdk num thg knd dy val tim rep kn clk tol opn bof std x) := by
  refine CI.start (by decide) (Nat.le_of_ble_eq_true rfl) ?_
  intro p e s m below meth c F hr hnm
  show V p l e (rmK 4 0 0) s m [.ref (mo 0), .long (x0), .int (nI (tn))].toArray below meth c D (va_A (MW ct mo nd nb nf0 bdk num0 thg0 knd0 dy0 val0 tim0 rep kn0 clk0 tol0 opn bof0 std0 xd0) s.heap.size) 11 0 0 (EI D below (MW ct mo nd nb nf0 bdk num0 thg0 knd0 dy0 val0 tim0 rep kn0 clk0 tol0 opn bof0 std0 xd0) [.ref (mo 0), .long (x0), .int (nI (tn))].toArray s 0 0 (fun r u => ∃ (nf : Nat) (num : Nat → Nat) (spt : Nat → Nat) (val : Nat → Int64) (tim : Nat → Nat) (kn : Nat → Nat → Bool) (pe : Nat → Nat → Bool) (clk : Nat → Nat) (tol : Nat → Nat) (thg : Nat → Nat) (knd : Nat → Nat) (dy : Nat → Nat) (bof : Nat → Option Nat) (std : Nat → Bool) (x : Int64), ((nf, num, spt, val, tim, kn, pe, clk, tol, thg, knd, dy, bof), x) = itA nd opn (nf0, num0, spt0, val0, tim0, kn0, pe0, clk0, tol0, thg0, knd0, dy0, bof0) x0 tn ∧ r = nI (sm (fun d => cnt (kn d) nf) nd) ∧ u = MW ct mo nd nb nf bdk num thg knd dy val tim rep kn clk tol opn bof std x)) (MW ct mo nd nb nf0 bdk num0 thg0 knd0 dy0 val0 tim0 rep kn0 clk0 tol0 opn bof0 std0 xd0) [(0, .ref (mo 0)), (1, .long (x0)), (3, .int (nI (tn)))] 0 []
  have hnd := hI0.1.1
  refine V.aload_n F d_M_play_0 rfl 0 rfl ?_
  refine V.get F ck_M d_M_play_1 0 (by decide) lk_M_55 0 rfl rfl ?_
  refine V.if_eqN (a := nd) (tgt := 18) F d_M_play_4 (by decide) (by omega) (fun c4 => ?_) (fun c4 => ?_)
  · skip
    exact absurd c4 (by omega)
  · skip
    refine V.iload_n F d_M_play_7 rfl 2 rfl ?_
    refine V.if_lt (x := nI (tn)) (tgt := 18) F d_M_play_8 (by decide) (fun c8 => ?_) (fun c8 => ?_)
    · skip
      exact absurd c8 (nI_pos (by omega))
    · skip
      refine V.iload_n F d_M_play_11 rfl 2 rfl ?_
      refine V.sipush F d_M_play_12 (v := nI (200)) (by decide) ?_
      refine V.icmp_leN (tgt := 20) F d_M_play_15 (by decide) (by omega) (by omega) (fun c15 => ?_) (fun c15 => ?_)
      · skip
        refine V.aload_n F d_M_play_20 rfl 0 rfl ?_
        refine V.lload_n F d_M_play_21 rfl 1 rfl ?_
        refine V.put (ws2 := MW ct mo nd nb nf0 bdk num0 thg0 knd0 dy0 val0 tim0 rep kn0 clk0 tol0 opn bof0 std0 x0) F ck_M d_M_play_22 17 (by decide) lk_M_111 0 rfl rfl rfl rfl (Nat.le_of_ble_eq_true rfl) mw_set_xd ?_
        refine V.iconst F d_M_play_25 (v := nI (0)) (by decide) ?_
        refine V.istore (lv2 := [(4, .int (nI (0))), (0, .ref (mo 0)), (1, .long (x0)), (3, .int (nI (tn)))]) F d_M_play_26 (by decide) rfl ?_
        have L28 : ∀ (n9 : Nat) (i : Nat) (nf : Nat) (num : Nat → Nat) (spt : Nat → Nat) (val : Nat → Int64) (tim : Nat → Nat) (kn : Nat → Nat → Bool) (pe : Nat → Nat → Bool) (clk : Nat → Nat) (tol : Nat → Nat) (thg : Nat → Nat) (knd : Nat → Nat) (dy : Nat → Nat) (bof : Nat → Option Nat) (std : Nat → Bool) (x : Int64), tn - i < n9 → (i ≤ tn) → (((nf, num, spt, val, tim, kn, pe, clk, tol, thg, knd, dy, bof), x) = itA nd opn (nf0, num0, spt0, val0, tim0, kn0, pe0, clk0, tol0, thg0, knd0, dy0, bof0) x0 i) → (Inv nd nb nf bdk num spt tim rep kn pe clk tol opn thg knd dy bof) → V p l e (rmK 4 0 0) s m [.ref (mo 0), .long (x0), .int (nI (tn))].toArray below meth c D (va_A (MW ct mo nd nb nf0 bdk num0 thg0 knd0 dy0 val0 tim0 rep kn0 clk0 tol0 opn bof0 std0 xd0) s.heap.size) 11 0 0 (EI D below (MW ct mo nd nb nf0 bdk num0 thg0 knd0 dy0 val0 tim0 rep kn0 clk0 tol0 opn bof0 std0 xd0) [.ref (mo 0), .long (x0), .int (nI (tn))].toArray s 0 0 (fun r u => ∃ (nf : Nat) (num : Nat → Nat) (spt : Nat → Nat) (val : Nat → Int64) (tim : Nat → Nat) (kn : Nat → Nat → Bool) (pe : Nat → Nat → Bool) (clk : Nat → Nat) (tol : Nat → Nat) (thg : Nat → Nat) (knd : Nat → Nat) (dy : Nat → Nat) (bof : Nat → Option Nat) (std : Nat → Bool) (x : Int64), ((nf, num, spt, val, tim, kn, pe, clk, tol, thg, knd, dy, bof), x) = itA nd opn (nf0, num0, spt0, val0, tim0, kn0, pe0, clk0, tol0, thg0, knd0, dy0, bof0) x0 tn ∧ r = nI (sm (fun d => cnt (kn d) nf) nd) ∧ u = MW ct mo nd nb nf bdk num thg knd dy val tim rep kn clk tol opn bof std x)) (MW ct mo nd nb nf bdk num thg knd dy val tim rep kn clk tol opn bof std x) [(4, .int (nI (i))), (0, .ref (mo 0)), (1, .long (x0)), (3, .int (nI (tn)))] 28 [] := by
          intro n9
          induction n9 with
          | zero => intro i nf num spt val tim kn pe clk tol thg knd dy bof std x h9 hi he hI; exact absurd h9 (Nat.not_lt_zero _)
          | succ n9 ih28 =>
            intro i nf num spt val tim kn pe clk tol thg knd dy bof std x h9 hi he hI
            have hnf := hI.1.2.2.1
            have hd1 := rnd_lt (drw x) h0
            have hd2 := rnd_lt (drw (drw (drw x))) h0
            have k2 := rnd_lt (drw (drw x)) (b := 4) (by decide)
            have k3 := rnd_lt (drw (drw (drw x))) (b := 4) (by decide)
            have k4 := rnd_lt (drw (drw (drw (drw x)))) (b := 2) (by decide)
            have k5 := rnd_lt (drw (drw (drw (drw (drw x))))) (b := 3) (by decide)
            have k6 := rnd_lt (drw (drw (drw (drw (drw (drw x)))))) (b := 5) (by decide)
            refine V.iload F d_M_play_28 0 rfl ?_
            refine V.iload_n F d_M_play_30 rfl 3 rfl ?_
            refine V.icmp_geN (tgt := 120) F d_M_play_31 (by decide) (by omega) (by omega) (fun c31 => ?_) (fun c31 => ?_)
            · skip
              have e8 : i = tn := by omega
              rw [e8] at he
              refine V.iconst F d_M_play_120 (v := nI (0)) (by decide) ?_
              refine V.istore (lv2 := [(4, .int (nI (0))), (0, .ref (mo 0)), (1, .long (x0)), (3, .int (nI (tn)))]) F d_M_play_121 (by decide) rfl ?_
              refine V.iconst F d_M_play_123 (v := nI (0)) (by decide) ?_
              refine V.istore (lv2 := [(5, .int (nI (0))), (4, .int (nI (0))), (0, .ref (mo 0)), (1, .long (x0)), (3, .int (nI (tn)))]) F d_M_play_124 (by decide) rfl ?_
              have L126 : ∀ (n9 : Nat) (i : Nat), nd - i < n9 → (i ≤ nd) → V p l e (rmK 4 0 0) s m [.ref (mo 0), .long (x0), .int (nI (tn))].toArray below meth c D (va_A (MW ct mo nd nb nf0 bdk num0 thg0 knd0 dy0 val0 tim0 rep kn0 clk0 tol0 opn bof0 std0 xd0) s.heap.size) 11 0 0 (EI D below (MW ct mo nd nb nf0 bdk num0 thg0 knd0 dy0 val0 tim0 rep kn0 clk0 tol0 opn bof0 std0 xd0) [.ref (mo 0), .long (x0), .int (nI (tn))].toArray s 0 0 (fun r u => ∃ (nf : Nat) (num : Nat → Nat) (spt : Nat → Nat) (val : Nat → Int64) (tim : Nat → Nat) (kn : Nat → Nat → Bool) (pe : Nat → Nat → Bool) (clk : Nat → Nat) (tol : Nat → Nat) (thg : Nat → Nat) (knd : Nat → Nat) (dy : Nat → Nat) (bof : Nat → Option Nat) (std : Nat → Bool) (x : Int64), ((nf, num, spt, val, tim, kn, pe, clk, tol, thg, knd, dy, bof), x) = itA nd opn (nf0, num0, spt0, val0, tim0, kn0, pe0, clk0, tol0, thg0, knd0, dy0, bof0) x0 tn ∧ r = nI (sm (fun d => cnt (kn d) nf) nd) ∧ u = MW ct mo nd nb nf bdk num thg knd dy val tim rep kn clk tol opn bof std x)) (MW ct mo nd nb nf bdk num thg knd dy val tim rep kn clk tol opn bof std x) [(5, .int (nI (i))), (4, .int (nI (sm (fun d => cnt (kn d) nf) i))), (0, .ref (mo 0)), (1, .long (x0)), (3, .int (nI (tn)))] 126 [] := by
                intro n9
                induction n9 with
                | zero => intro i h9 hi2; exact absurd h9 (Nat.not_lt_zero _)
                | succ n9 ih126 =>
                  intro i h9 hi2
                  refine V.iload F d_M_play_126 0 rfl ?_
                  refine V.aload_n F d_M_play_128 rfl 2 rfl ?_
                  refine V.get F ck_M d_M_play_129 0 (by decide) lk_M_55 0 rfl rfl ?_
                  refine V.icmp_geN (tgt := 152) F d_M_play_132 (by decide) (by omega) (by omega) (fun c132 => ?_) (fun c132 => ?_)
                  · skip
                    refine V.iload F d_M_play_152 1 rfl ?_
                    exact V.iret F hr d_M_play_154 (⟨nf, num, spt, val, tim, kn, pe, clk, tol, thg, knd, dy, bof, std, x, he, by rw [show i = nd by omega], rfl⟩)
                  · skip
                    refine V.iload F d_M_play_135 1 rfl ?_
                    refine V.aload_n F d_M_play_137 rfl 2 rfl ?_
                    refine V.iload F d_M_play_138 0 rfl ?_
                    refine V.callVI0 (As := [.int (nI (i))]) (rest := [.int (nI (sm (fun d => cnt (kn d) nf) i))]) F (m_counts l D hnf hnd i c132) d_M_play_140 sv_M_128 im_y_M_counts sl_y_M_counts 0 rfl rfl rfl rfl rfl (Nat.le_of_ble_eq_true rfl) ⟨rfl, rfl, (Nat.le_of_ble_eq_true rfl), (Nat.le_of_ble_eq_true rfl)⟩ ⟨(Nat.le_of_ble_eq_true rfl), (Nat.le_of_ble_eq_true rfl)⟩ (fun r9 u9 h9 => ?_)
                    obtain ⟨rfl, rfl⟩ := h9
                    refine V.iaddN F d_M_play_143 ?_
                    refine V.istore (lv2 := [(4, .int (nI ((sm (fun d => cnt (kn d) nf) i) + (cnt (kn i) nf)))), (5, .int (nI (i))), (0, .ref (mo 0)), (1, .long (x0)), (3, .int (nI (tn)))]) F d_M_play_144 (by decide) rfl ?_
                    refine V.iincN (k := 1) (lv2 := [(5, .int (nI (i + 1))), (4, .int (nI ((sm (fun d => cnt (kn d) nf) i) + (cnt (kn i) nf)))), (0, .ref (mo 0)), (1, .long (x0)), (3, .int (nI (tn)))]) F d_M_play_146 1 rfl (by decide) (by decide) rfl ?_
                    refine V.goto (tgt := 126) F d_M_play_149 (by decide) ?_
                    exact ih126 (i + 1) (by omega) (by omega)
              exact L126 _ (0) (Nat.lt_succ_self _) (by omega)
            · skip
              refine V.aload_n F d_M_play_34 rfl 1 rfl ?_
              refine V.aload_n F d_M_play_35 rfl 1 rfl ?_
              refine V.get F ck_M d_M_play_36 0 (by decide) lk_M_55 0 rfl rfl ?_
              refine V.callVI0 (As := [.int (nI (nd))]) (rest := []) F (m_draw l D (nd) h0 (by omega)) d_M_play_39 sv_M_119 im_y_M_draw sl_y_M_draw 0 rfl rfl rfl rfl rfl (Nat.le_of_ble_eq_true rfl) ⟨rfl, rfl, (Nat.le_of_ble_eq_true rfl), (Nat.le_of_ble_eq_true rfl)⟩ ⟨(Nat.le_of_ble_eq_true rfl), (Nat.le_of_ble_eq_true rfl)⟩ (fun r9 u9 h9 => ?_)
              obtain ⟨rfl, rfl⟩ := h9
              refine V.istore (lv2 := [(5, .int (nI (rnd (drw x) nd))), (4, .int (nI (i))), (0, .ref (mo 0)), (1, .long (x0)), (3, .int (nI (tn)))]) F d_M_play_42 (by decide) rfl ?_
              refine V.aload_n F d_M_play_44 rfl 2 rfl ?_
              refine V.iconst F d_M_play_45 (v := nI (4)) (by decide) ?_
              refine V.callVI0 (As := [.int (nI (4))]) (rest := []) F (m_draw l D (4) (by decide) (by decide)) d_M_play_46 sv_M_119 im_y_M_draw sl_y_M_draw 0 rfl rfl rfl rfl rfl (Nat.le_of_ble_eq_true rfl) ⟨rfl, rfl, (Nat.le_of_ble_eq_true rfl), (Nat.le_of_ble_eq_true rfl)⟩ ⟨(Nat.le_of_ble_eq_true rfl), (Nat.le_of_ble_eq_true rfl)⟩ (fun r9 u9 h9 => ?_)
              obtain ⟨rfl, rfl⟩ := h9
              refine V.iconst F d_M_play_49 (v := nI (3)) (by decide) ?_
              refine V.icmp_geN (tgt := 98) F d_M_play_50 (by decide) (by omega) (by omega) (fun c50 => ?_) (fun c50 => ?_)
              · skip
                refine V.aload_n F d_M_play_98 rfl 2 rfl ?_
                refine V.iload F d_M_play_99 0 rfl ?_
                refine V.aload_n F d_M_play_101 rfl 2 rfl ?_
                refine V.aload_n F d_M_play_102 rfl 2 rfl ?_
                refine V.get F ck_M d_M_play_103 0 (by decide) lk_M_55 0 rfl rfl ?_
                refine V.callVI0 (As := [.int (nI (nd))]) (rest := [.int (nI (rnd (drw x) nd)), .ref (mo 0)]) F (m_draw l D (nd) h0 (by omega)) d_M_play_106 sv_M_119 im_y_M_draw sl_y_M_draw 0 rfl rfl rfl rfl rfl (Nat.le_of_ble_eq_true rfl) ⟨rfl, rfl, (Nat.le_of_ble_eq_true rfl), (Nat.le_of_ble_eq_true rfl)⟩ ⟨(Nat.le_of_ble_eq_true rfl), (Nat.le_of_ble_eq_true rfl)⟩ (fun r9 u9 h9 => ?_)
                obtain ⟨rfl, rfl⟩ := h9
                by_cases he2 : rnd (drw (drw (drw x))) nd = rnd (drw x) nd
                · skip
                  rw [he2]
                  refine V.callVI0 (As := [.int (nI (rnd (drw x) nd)), .int (nI (rnd (drw x) nd))]) (rest := []) F (m_joinSame l D hnd (rnd (drw x) nd) hd1) d_M_play_109 sv_M_125 im_y_M_join sl_y_M_join 0 rfl rfl rfl rfl rfl (Nat.le_of_ble_eq_true rfl) ⟨rfl, rfl, (Nat.le_of_ble_eq_true rfl), (Nat.le_of_ble_eq_true rfl)⟩ ⟨(Nat.le_of_ble_eq_true rfl), (Nat.le_of_ble_eq_true rfl)⟩ (fun r9 u9 h9 => ?_)
                  obtain ⟨rfl, rfl⟩ := h9
                  refine V.istore (lv2 := [(6, .int (-1)), (5, .int (nI (rnd (drw x) nd))), (4, .int (nI (i))), (0, .ref (mo 0)), (1, .long (x0)), (3, .int (nI (tn)))]) F d_M_play_112 (by decide) rfl ?_
                  refine V.iincN (k := 1) (lv2 := [(4, .int (nI (i + 1))), (6, .int (-1)), (5, .int (nI (rnd (drw x) nd))), (0, .ref (mo 0)), (1, .long (x0)), (3, .int (nI (tn)))]) F d_M_play_114 2 rfl (by decide) (by decide) rfl ?_
                  refine V.goto (tgt := 28) F d_M_play_117 (by decide) ?_
                  refine V.lvs [0, 3, 4, 5] rfl ?_
                  exact ih28 (i + 1) (nf) (num) (spt) (val) (tim) (kn) (pe) (clk) (tol) (thg) (knd) (dy) (bof) (std) (drw (drw (drw x))) (by omega) (by omega) (it_succ he (tn_same c50 he2)) (hI)
                · skip
                  refine V.callVI0 (As := [.int (nI (rnd (drw x) nd)), .int (nI (rnd (drw (drw (drw x))) nd))]) (rest := []) F (m_join l D hnf hnd (rnd (drw x) nd) hd1 spt hI.1.2.2.2 (rnd (drw (drw (drw x))) nd) hd2 he2 (hI.tolB _ hd1).2 (hI.tolB _ hd2).2) d_M_play_109 sv_M_125 im_y_M_join sl_y_M_join 0 rfl rfl rfl rfl rfl (Nat.le_of_ble_eq_true rfl) ⟨rfl, rfl, (Nat.le_of_ble_eq_true rfl), (Nat.le_of_ble_eq_true rfl)⟩ ⟨(Nat.le_of_ble_eq_true rfl), (Nat.le_of_ble_eq_true rfl)⟩ (fun r9 u9 h9 => ?_)
                  obtain ⟨P9, hP9, rfl, rfl⟩ := h9
                  refine V.istore (lv2 := [(6, .int (nI (cnt (fun f => fcB spt val P9 nf f) nf))), (5, .int (nI (rnd (drw x) nd))), (4, .int (nI (i))), (0, .ref (mo 0)), (1, .long (x0)), (3, .int (nI (tn)))]) F d_M_play_112 (by decide) rfl ?_
                  refine V.iincN (k := 1) (lv2 := [(4, .int (nI (i + 1))), (6, .int (nI (cnt (fun f => fcB spt val P9 nf f) nf))), (5, .int (nI (rnd (drw x) nd))), (0, .ref (mo 0)), (1, .long (x0)), (3, .int (nI (tn)))]) F d_M_play_114 2 rfl (by decide) (by decide) rfl ?_
                  refine V.goto (tgt := 28) F d_M_play_117 (by decide) ?_
                  refine V.lvs [0, 3, 4, 5] rfl ?_
                  exact ih28 (i + 1) (nf) (num) (spt) (val) (tim) (jn kn (rnd (drw x) nd) (rnd (drw (drw (drw x))) nd) nf) (pe) (va_up clk (rnd (drw x) nd) (max (clk (rnd (drw x) nd)) (clk (rnd (drw (drw (drw x))) nd)))) (tol) (thg) (knd) (dy) (bof) (P9) (drw (drw (drw x))) (by omega) (by omega) (it_succ he (tn_join c50 rfl rfl he2)) (inv_join hI hd1 hd2)
              · skip
                refine V.aload_n F d_M_play_53 rfl 2 rfl ?_
                refine V.iconst F d_M_play_54 (v := nI (4)) (by decide) ?_
                refine V.callVI0 (As := [.int (nI (4))]) (rest := []) F (m_draw l D (4) (by decide) (by decide)) d_M_play_55 sv_M_119 im_y_M_draw sl_y_M_draw 0 rfl rfl rfl rfl rfl (Nat.le_of_ble_eq_true rfl) ⟨rfl, rfl, (Nat.le_of_ble_eq_true rfl), (Nat.le_of_ble_eq_true rfl)⟩ ⟨(Nat.le_of_ble_eq_true rfl), (Nat.le_of_ble_eq_true rfl)⟩ (fun r9 u9 h9 => ?_)
                obtain ⟨rfl, rfl⟩ := h9
                refine V.istore (lv2 := [(6, .int (nI (rnd (drw (drw (drw x))) 4))), (5, .int (nI (rnd (drw x) nd))), (4, .int (nI (i))), (0, .ref (mo 0)), (1, .long (x0)), (3, .int (nI (tn)))]) F d_M_play_58 (by decide) rfl ?_
                refine V.aload_n F d_M_play_60 rfl 3 rfl ?_
                refine V.iconst F d_M_play_61 (v := nI (2)) (by decide) ?_
                refine V.callVI0 (As := [.int (nI (2))]) (rest := []) F (m_draw l D (2) (by decide) (by decide)) d_M_play_62 sv_M_119 im_y_M_draw sl_y_M_draw 0 rfl rfl rfl rfl rfl (Nat.le_of_ble_eq_true rfl) ⟨rfl, rfl, (Nat.le_of_ble_eq_true rfl), (Nat.le_of_ble_eq_true rfl)⟩ ⟨(Nat.le_of_ble_eq_true rfl), (Nat.le_of_ble_eq_true rfl)⟩ (fun r9 u9 h9 => ?_)
                obtain ⟨rfl, rfl⟩ := h9
                refine V.istore (lv2 := [(7, .int (nI (rnd (drw (drw (drw (drw x)))) 2))), (6, .int (nI (rnd (drw (drw (drw x))) 4))), (5, .int (nI (rnd (drw x) nd))), (4, .int (nI (i))), (0, .ref (mo 0)), (1, .long (x0)), (3, .int (nI (tn)))]) F d_M_play_65 (by decide) rfl ?_
                refine V.aload_n F d_M_play_67 rfl 4 rfl ?_
                refine V.iconst F d_M_play_68 (v := nI (3)) (by decide) ?_
                refine V.callVI0 (As := [.int (nI (3))]) (rest := []) F (m_draw l D (3) (by decide) (by decide)) d_M_play_69 sv_M_119 im_y_M_draw sl_y_M_draw 0 rfl rfl rfl rfl rfl (Nat.le_of_ble_eq_true rfl) ⟨rfl, rfl, (Nat.le_of_ble_eq_true rfl), (Nat.le_of_ble_eq_true rfl)⟩ ⟨(Nat.le_of_ble_eq_true rfl), (Nat.le_of_ble_eq_true rfl)⟩ (fun r9 u9 h9 => ?_)
                obtain ⟨rfl, rfl⟩ := h9
                refine V.i2l F d_M_play_72 (nI_l (by omega)) ?_
                refine V.lstore (lv2 := [(8, .long (lN (rnd (drw (drw (drw (drw (drw x))))) 3))), (7, .int (nI (rnd (drw (drw (drw (drw x)))) 2))), (6, .int (nI (rnd (drw (drw (drw x))) 4))), (5, .int (nI (rnd (drw x) nd))), (4, .int (nI (i))), (0, .ref (mo 0)), (1, .long (x0)), (3, .int (nI (tn)))]) F d_M_play_73 (by decide) rfl ?_
                refine V.aload_n F d_M_play_75 rfl 5 rfl ?_
                refine V.iload F d_M_play_76 3 rfl ?_
                refine V.iload F d_M_play_78 2 rfl ?_
                refine V.iload F d_M_play_80 1 rfl ?_
                refine V.lload F d_M_play_82 0 rfl ?_
                refine V.aload_n F d_M_play_84 rfl 5 rfl ?_
                refine V.iconst F d_M_play_85 (v := nI (5)) (by decide) ?_
                refine V.callVI0 (As := [.int (nI (5))]) (rest := [.long (lN (rnd (drw (drw (drw (drw (drw x))))) 3)), .int (nI (rnd (drw (drw (drw (drw x)))) 2)), .int (nI (rnd (drw (drw (drw x))) 4)), .int (nI (rnd (drw x) nd)), .ref (mo 0)]) F (m_draw l D (5) (by decide) (by decide)) d_M_play_86 sv_M_119 im_y_M_draw sl_y_M_draw 0 rfl rfl rfl rfl rfl (Nat.le_of_ble_eq_true rfl) ⟨rfl, rfl, (Nat.le_of_ble_eq_true rfl), (Nat.le_of_ble_eq_true rfl)⟩ ⟨(Nat.le_of_ble_eq_true rfl), (Nat.le_of_ble_eq_true rfl)⟩ (fun r9 u9 h9 => ?_)
                obtain ⟨rfl, rfl⟩ := h9
                refine V.i2l F d_M_play_89 (nI_l (by omega)) ?_
                by_cases hlt : nf < 300
                · skip
                  refine V.callVI0 (As := [.int (nI (rnd (drw x) nd)), .int (nI (rnd (drw (drw (drw x))) 4)), .int (nI (rnd (drw (drw (drw (drw x)))) 2)), .long (lN (rnd (drw (drw (drw (drw (drw x))))) 3)), .long (lN (rnd (drw (drw (drw (drw (drw (drw x)))))) 5))]) (rest := []) F (m_tell l D hlt hnd (rnd (drw x) nd) hd1 (rnd (drw (drw (drw x))) 4) (rnd (drw (drw (drw (drw x)))) 2) (rnd (drw (drw (drw (drw (drw x))))) 3) (lN (rnd (drw (drw (drw (drw (drw (drw x)))))) 5)) (by omega) (by omega) (by omega) (hI.opnB _ hd1)) d_M_play_90 sv_M_122 im_y_M_tell sl_y_M_tell 0 rfl rfl rfl rfl rfl (Nat.le_of_ble_eq_true rfl) ⟨rfl, rfl, (Nat.le_of_ble_eq_true rfl), (Nat.le_of_ble_eq_true rfl)⟩ ⟨(Nat.le_of_ble_eq_true rfl), (Nat.le_of_ble_eq_true rfl)⟩ (fun r9 u9 h9 => ?_)
                  obtain ⟨rfl, rfl⟩ := h9
                  rw [← knH_up2 hI.2.2.2.2.1]
                  refine V.istore (lv2 := [(10, .int (nI (8 * tol (rnd (drw x) nd) + (rnd (drw x) nd)))), (8, .long (lN (rnd (drw (drw (drw (drw (drw x))))) 3))), (7, .int (nI (rnd (drw (drw (drw (drw x)))) 2))), (6, .int (nI (rnd (drw (drw (drw x))) 4))), (5, .int (nI (rnd (drw x) nd))), (4, .int (nI (i))), (0, .ref (mo 0)), (1, .long (x0)), (3, .int (nI (tn)))]) F d_M_play_93 (by decide) rfl ?_
                  refine V.goto (tgt := 114) F d_M_play_95 (by decide) ?_
                  refine V.iincN (k := 1) (lv2 := [(4, .int (nI (i + 1))), (10, .int (nI (8 * tol (rnd (drw x) nd) + (rnd (drw x) nd)))), (8, .long (lN (rnd (drw (drw (drw (drw (drw x))))) 3))), (7, .int (nI (rnd (drw (drw (drw (drw x)))) 2))), (6, .int (nI (rnd (drw (drw (drw x))) 4))), (5, .int (nI (rnd (drw x) nd))), (0, .ref (mo 0)), (1, .long (x0)), (3, .int (nI (tn)))]) F d_M_play_114 5 rfl (by decide) (by decide) rfl ?_
                  refine V.goto (tgt := 28) F d_M_play_117 (by decide) ?_
                  refine V.lvs [0, 6, 7, 8] rfl ?_
                  exact ih28 (i + 1) (nf + 1) (va_up num nf (8 * tol (rnd (drw x) nd) + (rnd (drw x) nd))) (va_up spt nf (((rnd (drw (drw (drw x))) 4) * 10 + (rnd (drw (drw (drw (drw x)))) 2)) * 100001 + (rnd (drw (drw (drw (drw (drw x))))) 3))) (va_up val nf (lN (rnd (drw (drw (drw (drw (drw (drw x)))))) 5))) (va_up tim nf (clk (rnd (drw x) nd) + 1)) (knH opn kn (rnd (drw x) nd) nf) (peH opn pe (rnd (drw x) nd) nf) (va_up clk (rnd (drw x) nd) (clk (rnd (drw x) nd) + 1)) (va_up tol (rnd (drw x) nd) (tol (rnd (drw x) nd) + 1)) (va_up thg nf (rnd (drw (drw (drw x))) 4)) (va_up knd nf (rnd (drw (drw (drw (drw x)))) 2)) (va_up dy nf (rnd (drw (drw (drw (drw (drw x))))) 3)) (va_up bof nf (opn (rnd (drw x) nd))) (std) (drw (drw (drw (drw (drw (drw x)))))) (by omega) (by omega) (it_succ he (tn_tell c50 hlt rfl rfl rfl rfl rfl)) (inv_tell hI hd1 hlt rfl (by omega) (by omega) (by omega) (fun o n q => by have := hI.2.2.2.2.2.2.2.2.2.2.1 o n q; omega))
                · skip
                  have hn3 : nf = 300 := by omega
                  refine V.callVI0 (As := [.int (nI (rnd (drw x) nd)), .int (nI (rnd (drw (drw (drw x))) 4)), .int (nI (rnd (drw (drw (drw (drw x)))) 2)), .long (lN (rnd (drw (drw (drw (drw (drw x))))) 3)), .long (lN (rnd (drw (drw (drw (drw (drw (drw x)))))) 5))]) (rest := []) F (m_tellFull l D hnd (rnd (drw x) nd) hd1 (rnd (drw (drw (drw x))) 4) (rnd (drw (drw (drw (drw x)))) 2) (rnd (drw (drw (drw (drw (drw x))))) 3) (lN (rnd (drw (drw (drw (drw (drw (drw x)))))) 5)) (by omega) (by omega) (by omega) hn3) d_M_play_90 sv_M_122 im_y_M_tell sl_y_M_tell 0 rfl rfl rfl rfl rfl (Nat.le_of_ble_eq_true rfl) ⟨rfl, rfl, (Nat.le_of_ble_eq_true rfl), (Nat.le_of_ble_eq_true rfl)⟩ ⟨(Nat.le_of_ble_eq_true rfl), (Nat.le_of_ble_eq_true rfl)⟩ (fun r9 u9 h9 => ?_)
                  obtain ⟨rfl, rfl⟩ := h9
                  refine V.istore (lv2 := [(10, .int (-2)), (8, .long (lN (rnd (drw (drw (drw (drw (drw x))))) 3))), (7, .int (nI (rnd (drw (drw (drw (drw x)))) 2))), (6, .int (nI (rnd (drw (drw (drw x))) 4))), (5, .int (nI (rnd (drw x) nd))), (4, .int (nI (i))), (0, .ref (mo 0)), (1, .long (x0)), (3, .int (nI (tn)))]) F d_M_play_93 (by decide) rfl ?_
                  refine V.goto (tgt := 114) F d_M_play_95 (by decide) ?_
                  refine V.iincN (k := 1) (lv2 := [(4, .int (nI (i + 1))), (10, .int (-2)), (8, .long (lN (rnd (drw (drw (drw (drw (drw x))))) 3))), (7, .int (nI (rnd (drw (drw (drw (drw x)))) 2))), (6, .int (nI (rnd (drw (drw (drw x))) 4))), (5, .int (nI (rnd (drw x) nd))), (0, .ref (mo 0)), (1, .long (x0)), (3, .int (nI (tn)))]) F d_M_play_114 5 rfl (by decide) (by decide) rfl ?_
                  refine V.goto (tgt := 28) F d_M_play_117 (by decide) ?_
                  refine V.lvs [0, 6, 7, 8] rfl ?_
                  exact ih28 (i + 1) (nf) (num) (spt) (val) (tim) (kn) (pe) (clk) (tol) (thg) (knd) (dy) (bof) (std) (drw (drw (drw (drw (drw (drw x)))))) (by omega) (by omega) (it_succ he (tn_full c50 hn3)) (hI)
        exact L28 _ (0) (nf0) (num0) (spt0) (val0) (tim0) (kn0) (pe0) (clk0) (tol0) (thg0) (knd0) (dy0) (bof0) (std0) (x0) (Nat.lt_succ_self _) (by omega) (rfl) (hI0)
      · skip
        exact absurd c15 (by omega)

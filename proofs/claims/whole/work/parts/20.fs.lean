theorem bI_f : nI 0 = bI false := by decide
theorem bI_t : nI 1 = bI true := by decide
theorem nar_0 : narrow .boolean (.int (nI 0)) = .int (nI 0) := rfl
theorem nar_1 : narrow .boolean (.int (nI 1)) = .int (nI 1) := rfl
theorem nar_b (b : Bool) : narrow .boolean (.int (bI b)) = .int (bI b) := by cases b <;> rfl
theorem wd_bitT {S : Nat → Bool} {n : Nat} (h : ¬ (wd S (n / 64) &&& ((1 : Int64) <<< ((nI (n % 64)).toInt64 &&& 63))) = 0) : S n = true := by
  cases hs : S n with
  | true => rfl
  | false => exact absurd ((wd_bit S n).mpr hs) h
abbrev tyL (ct : Nat → ClassId) : List (ClassId × FieldType) := [(ct 0, .int), (ct 1, .long), (ct 2, .object R_K), (ct 3, .boolean)]
abbrev rmK (k mc ms : Nat) : Room := { frames := k, cells := mc, slots := ms, locals := 40 * k }
section FSS
variable {ct : Nat → ClassId} {ad : Nat → Nat} {da : Nat → Nat → Nat} {nd : Nat} {nb : Nat} {nf : Nat} {bdk : Nat → Nat} {num : Nat → Nat} {spt : Nat → Nat} {val : Nat → Int64} {tim : Nat → Nat} {rep : Nat → Nat → Bool} {byN : Nat → Nat} {byS : Nat → Nat} {pk : Nat → Bool} {kn : Nat → Nat → Bool} {pe : Nat → Nat → Bool} {clk : Nat → Nat} {tol : Nat → Nat} {opn : Nat → Option Nat}
theorem cw_intoS (q : Option (Nat × Bool)) : CW ct ad da nd nb nf bdk num spt val tim rep byN byS pk kn pe clk tol opn = CW ct ad da nd nb nf bdk num spt val tim rep byN byS (fsPk q (fsS pk kn pe q) pk) (fsKn q (fsS pk kn pe q) kn) (fsPe q (fsS pk kn pe q) pe) clk tol opn := by
  rw [fsPk0, fsKn0, fsPe0]
theorem cw_fwS {q : Option (Nat × Bool)} {S : Nat → Bool} (h : fsOk nd q) : (CW ct ad da nd nb nf bdk num spt val tim rep byN byS (fsPk q (S) pk) (fsKn q (S) kn) (fsPe q (S) pe) clk tol opn)[fsX q]? = some (fsW ad da q, aL ct 5 (wd S)) := by
  have e := cw_fw (ct := ct) (ad := ad) (da := da) (nb := nb) (nf := nf) (bdk := bdk) (num := num) (spt := spt) (val := val) (tim := tim) (rep := rep) (byN := byN) (byS := byS) (pk := fsPk q S pk) (kn := fsKn q S kn) (pe := fsPe q S pe) (clk := clk) (tol := tol) (opn := opn) h
  rw [fsS_up] at e
  exact e
theorem cw_fwN {q r : Option (Nat × Bool)} {S : Nat → Bool} (h : fsOk nd r) (hn : r ≠ q) : (CW ct ad da nd nb nf bdk num spt val tim rep byN byS (fsPk q (S) pk) (fsKn q (S) kn) (fsPe q (S) pe) clk tol opn)[fsX r]? = some (fsW ad da r, aL ct 5 (wd (fsS pk kn pe r))) := by
  have e := cw_fw (ct := ct) (ad := ad) (da := da) (nb := nb) (nf := nf) (bdk := bdk) (num := num) (spt := spt) (val := val) (tim := tim) (rep := rep) (byN := byN) (byS := byS) (pk := fsPk q S pk) (kn := fsKn q S kn) (pe := fsPe q S pe) (clk := clk) (tol := tol) (opn := opn) h
  rw [fsS_ne hn] at e
  exact e
theorem cw_setS {q : Option (Nat × Bool)} {S S2 : Nat → Bool} {i : Nat} {x : Int64} (h : fsOk nd q) (hx : vp_updL (wd S) i x = wd S2) : (CW ct ad da nd nb nf bdk num spt val tim rep byN byS (fsPk q (S) pk) (fsKn q (S) kn) (fsPe q (S) pe) clk tol opn).set (fsX q) (fsW ad da q, .inl (ct 1, 5, .inr (.inl (vp_updL (wd S) i x)))) = CW ct ad da nd nb nf bdk num spt val tim rep byN byS (fsPk q (S2) pk) (fsKn q (S2) kn) (fsPe q (S2) pe) clk tol opn := by
  rw [hx]
  have e := cw_set_fw (ct := ct) (ad := ad) (da := da) (nb := nb) (nf := nf) (bdk := bdk) (num := num) (spt := spt) (val := val) (tim := tim) (rep := rep) (byN := byN) (byS := byS) (pk := fsPk q S pk) (kn := fsKn q S kn) (pe := fsPe q S pe) (clk := clk) (tol := tol) (opn := opn) (S := S2) h
  rw [fsPk2, fsKn2, fsPe2] at e
  exact e
theorem cw_setQ {q : Option (Nat × Bool)} {S2 : Nat → Bool} {i : Nat} {x : Int64} (h : fsOk nd q) (hx : vp_updL (wd (fsS pk kn pe q)) i x = wd S2) : (CW ct ad da nd nb nf bdk num spt val tim rep byN byS pk kn pe clk tol opn).set (fsX q) (fsW ad da q, .inl (ct 1, 5, .inr (.inl (vp_updL (wd (fsS pk kn pe q)) i x)))) = CW ct ad da nd nb nf bdk num spt val tim rep byN byS (fsPk q (S2) pk) (fsKn q (S2) kn) (fsPe q (S2) pe) clk tol opn := by
  rw [hx]
  exact cw_set_fw h
end FSS
theorem wd_clr (S : Nat → Bool) (i : Nat) : wd (fun k => decide (i + 1 ≤ k / 64) && S k) i = 0 := by
  refine i64_ext fun b hb => ?_
  rw [wd_get _ _ hb, show decide (i + 1 ≤ (64 * i + b) / 64) = false from decide_eq_false (by omega)]
  simp
theorem same_step {S T : Nat → Bool} {i : Nat} (h : ∀ b, b < 64 → S (64 * i + b) = T (64 * i + b)) (h0 : ∀ k, k < 64 * i → S k = T k) (k : Nat) (hk : k < 64 * (i + 1)) : S k = T k := by
  by_cases hlt : k < 64 * i
  · exact h0 k hlt
  · have := h (k - 64 * i) (by omega)
    rw [show 64 * i + (k - 64 * i) = k by omega] at this
    exact this
theorem size_step (S : Nat → Bool) (i : Nat) : cnt S (64 * i) + cnt (fun b => (wd S i).toBitVec.getLsbD b) 64 = cnt S (64 * (i + 1)) := by
  rw [show 64 * (i + 1) = 64 * i + 64 by omega, cnt_add]
  congr 1
  exact cnt_congr fun b hb => wd_get S i hb
def sameB (S T : Nat → Bool) : Nat → Bool
  | 0 => true
  | n + 1 => sameB S T n && (S n == T n)
theorem sameB_iff (S T : Nat → Bool) : ∀ n, sameB S T n = true ↔ ∀ k, k < n → S k = T k
  | 0 => ⟨fun _ k hk => absurd hk (Nat.not_lt_zero k), fun _ => rfl⟩
  | n + 1 => by
    rw [sameB, Bool.and_eq_true, sameB_iff S T n]
    constructor
    · intro h k hk
      by_cases e : k = n
      · subst e; exact eq_of_beq h.2
      · exact h.1 k (by omega)
    · intro h
      exact ⟨fun k hk => h k (by omega), by rw [h n (by omega)]; exact beq_self_eq_true _⟩
theorem sameB_f {S T : Nat → Bool} {n : Nat} (h : ¬ ∀ k, k < n → S k = T k) : sameB S T n = false := by
  cases e : sameB S T n with
  | false => rfl
  | true => exact absurd ((sameB_iff S T n).mp e) h
set_option maxHeartbeats 4000000 in
set_option maxRecDepth 100000 in
theorem c_bitCount (l : Launch) (D : va_G) (ws : va_W) {ct : Nat → ClassId} (x : Int64) : CI l y_J_bitCount b_J_bitCount 2 (some .int) (rmK 0 0 0) D (tyL ct) (ws) [.long (x)] 0 0 (fun r u => r = nI (cnt (fun b => x.toBitVec.getLsbD b) 64) ∧ u = ws) := by
  refine CI.start (by decide) (Nat.le_of_ble_eq_true rfl) ?_
  intro p e s m below meth c F hr hnm
  show V p l e (rmK 0 0 0) s m [.long (x)].toArray below meth c D (va_A (ws) s.heap.size) 2 0 0 (EI D below (ws) [.long (x)].toArray s 0 0 (fun r u => r = nI (cnt (fun b => x.toBitVec.getLsbD b) 64) ∧ u = ws)) (ws) [(0, .long (x))] 0 []
  refine V.lload_n F d_J_bitCount_0 rfl 0 rfl ?_
  refine V.lload_n F d_J_bitCount_1 rfl 0 rfl ?_
  refine V.iconst F d_J_bitCount_2 (v := nI (1)) (by decide) ?_
  refine V.lushr F d_J_bitCount_3 (v := (((x).toUInt64 >>> ((nI (1)).toInt64.toUInt64 &&& Int64.toUInt64 63)).toInt64)) rfl ?_
  refine V.ldc2 F d_J_bitCount_4 (v := 6148914691236517205) lk_J_314 ?_
  refine V.land F d_J_bitCount_7 (v := ((((x).toUInt64 >>> ((nI (1)).toInt64.toUInt64 &&& Int64.toUInt64 63)).toInt64)) &&& (6148914691236517205)) rfl ?_
  obtain ⟨i1, e_i1⟩ : ∃ y9 : Int64, y9 = (x) - (((((x).toUInt64 >>> ((nI (1)).toInt64.toUInt64 &&& Int64.toUInt64 63)).toInt64)) &&& (6148914691236517205)) := ⟨_, rfl⟩
  refine V.lsub F d_J_bitCount_8 (v := i1) e_i1.symm ?_
  refine V.lstore_n (lv2 := [(0, .long (i1))]) F d_J_bitCount_9 rfl (by decide) rfl ?_
  refine V.lload_n F d_J_bitCount_10 rfl 0 rfl ?_
  refine V.ldc2 F d_J_bitCount_11 (v := 3689348814741910323) lk_J_316 ?_
  refine V.land F d_J_bitCount_14 (v := (i1) &&& (3689348814741910323)) rfl ?_
  refine V.lload_n F d_J_bitCount_15 rfl 0 rfl ?_
  refine V.iconst F d_J_bitCount_16 (v := nI (2)) (by decide) ?_
  refine V.lushr F d_J_bitCount_17 (v := (((i1).toUInt64 >>> ((nI (2)).toInt64.toUInt64 &&& Int64.toUInt64 63)).toInt64)) rfl ?_
  refine V.ldc2 F d_J_bitCount_18 (v := 3689348814741910323) lk_J_316 ?_
  refine V.land F d_J_bitCount_21 (v := ((((i1).toUInt64 >>> ((nI (2)).toInt64.toUInt64 &&& Int64.toUInt64 63)).toInt64)) &&& (3689348814741910323)) rfl ?_
  obtain ⟨i2, e_i2⟩ : ∃ y9 : Int64, y9 = ((i1) &&& (3689348814741910323)) + (((((i1).toUInt64 >>> ((nI (2)).toInt64.toUInt64 &&& Int64.toUInt64 63)).toInt64)) &&& (3689348814741910323)) := ⟨_, rfl⟩
  refine V.ladd F d_J_bitCount_22 (v := i2) e_i2.symm ?_
  refine V.lstore_n (lv2 := [(0, .long (i2))]) F d_J_bitCount_23 rfl (by decide) rfl ?_
  refine V.lload_n F d_J_bitCount_24 rfl 0 rfl ?_
  refine V.lload_n F d_J_bitCount_25 rfl 0 rfl ?_
  refine V.iconst F d_J_bitCount_26 (v := nI (4)) (by decide) ?_
  refine V.lushr F d_J_bitCount_27 (v := (((i2).toUInt64 >>> ((nI (4)).toInt64.toUInt64 &&& Int64.toUInt64 63)).toInt64)) rfl ?_
  refine V.ladd F d_J_bitCount_28 (v := (i2) + ((((i2).toUInt64 >>> ((nI (4)).toInt64.toUInt64 &&& Int64.toUInt64 63)).toInt64))) rfl ?_
  refine V.ldc2 F d_J_bitCount_29 (v := 1085102592571150095) lk_J_318 ?_
  obtain ⟨i3, e_i3⟩ : ∃ y9 : Int64, y9 = ((i2) + ((((i2).toUInt64 >>> ((nI (4)).toInt64.toUInt64 &&& Int64.toUInt64 63)).toInt64))) &&& (1085102592571150095) := ⟨_, rfl⟩
  refine V.land F d_J_bitCount_32 (v := i3) e_i3.symm ?_
  refine V.lstore_n (lv2 := [(0, .long (i3))]) F d_J_bitCount_33 rfl (by decide) rfl ?_
  refine V.lload_n F d_J_bitCount_34 rfl 0 rfl ?_
  refine V.lload_n F d_J_bitCount_35 rfl 0 rfl ?_
  refine V.bipush F d_J_bitCount_36 (v := nI (8)) (by decide) ?_
  refine V.lushr F d_J_bitCount_38 (v := (((i3).toUInt64 >>> ((nI (8)).toInt64.toUInt64 &&& Int64.toUInt64 63)).toInt64)) rfl ?_
  obtain ⟨i4, e_i4⟩ : ∃ y9 : Int64, y9 = (i3) + ((((i3).toUInt64 >>> ((nI (8)).toInt64.toUInt64 &&& Int64.toUInt64 63)).toInt64)) := ⟨_, rfl⟩
  refine V.ladd F d_J_bitCount_39 (v := i4) e_i4.symm ?_
  refine V.lstore_n (lv2 := [(0, .long (i4))]) F d_J_bitCount_40 rfl (by decide) rfl ?_
  refine V.lload_n F d_J_bitCount_41 rfl 0 rfl ?_
  refine V.lload_n F d_J_bitCount_42 rfl 0 rfl ?_
  refine V.bipush F d_J_bitCount_43 (v := nI (16)) (by decide) ?_
  refine V.lushr F d_J_bitCount_45 (v := (((i4).toUInt64 >>> ((nI (16)).toInt64.toUInt64 &&& Int64.toUInt64 63)).toInt64)) rfl ?_
  obtain ⟨i5, e_i5⟩ : ∃ y9 : Int64, y9 = (i4) + ((((i4).toUInt64 >>> ((nI (16)).toInt64.toUInt64 &&& Int64.toUInt64 63)).toInt64)) := ⟨_, rfl⟩
  refine V.ladd F d_J_bitCount_46 (v := i5) e_i5.symm ?_
  refine V.lstore_n (lv2 := [(0, .long (i5))]) F d_J_bitCount_47 rfl (by decide) rfl ?_
  refine V.lload_n F d_J_bitCount_48 rfl 0 rfl ?_
  refine V.lload_n F d_J_bitCount_49 rfl 0 rfl ?_
  refine V.bipush F d_J_bitCount_50 (v := nI (32)) (by decide) ?_
  refine V.lushr F d_J_bitCount_52 (v := (((i5).toUInt64 >>> ((nI (32)).toInt64.toUInt64 &&& Int64.toUInt64 63)).toInt64)) rfl ?_
  obtain ⟨i6, e_i6⟩ : ∃ y9 : Int64, y9 = (i5) + ((((i5).toUInt64 >>> ((nI (32)).toInt64.toUInt64 &&& Int64.toUInt64 63)).toInt64)) := ⟨_, rfl⟩
  refine V.ladd F d_J_bitCount_53 (v := i6) e_i6.symm ?_
  refine V.lstore_n (lv2 := [(0, .long (i6))]) F d_J_bitCount_54 rfl (by decide) rfl ?_
  refine V.lload_n F d_J_bitCount_55 rfl 0 rfl ?_
  refine V.l2i F d_J_bitCount_56 (v := (i6).toInt32) rfl ?_
  refine V.bipush F d_J_bitCount_57 (v := nI (127)) (by decide) ?_
  refine V.iand F d_J_bitCount_59 (v := ((i6).toInt32) &&& (nI (127))) rfl ?_
  exact V.iret F hr d_J_bitCount_60 (⟨bc_eq e_i1 e_i2 e_i3 e_i4 e_i5 e_i6, rfl⟩)

set_option maxHeartbeats 4000000 in
set_option maxRecDepth 100000 in
theorem c_isPlace (l : Launch) (D : va_G) (ws : va_W) (ct : Nat → ClassId) (n : Nat) (hn : n < 300) : CI l y_S_isPlace b_S_isPlace 1 (some .boolean) (rmK 0 0 0) D (tyL ct) (ws) [.int (nI (n))] 0 0 (fun r u => r = bI true ∧ u = ws) := by
  refine CI.start (by decide) (Nat.le_of_ble_eq_true rfl) ?_
  intro p e s m below meth c F hr hnm
  show V p l e (rmK 0 0 0) s m [.int (nI (n))].toArray below meth c D (va_A (ws) s.heap.size) 1 0 0 (EI D below (ws) [.int (nI (n))].toArray s 0 0 (fun r u => r = bI true ∧ u = ws)) (ws) [(0, .int (nI (n)))] 0 []
  refine V.iload_n F d_S_isPlace_0 rfl 0 rfl ?_
  refine V.if_lt (x := nI (n)) (tgt := 15) F d_S_isPlace_1 (by decide) (fun c1 => ?_) (fun c1 => ?_)
  · skip
    exact absurd c1 (nI_pos (by omega))
  · skip
    refine V.iload_n F d_S_isPlace_4 rfl 0 rfl ?_
    refine V.sipush F d_S_isPlace_5 (v := nI (300)) (by decide) ?_
    refine V.icmp_geN (tgt := 15) F d_S_isPlace_8 (by decide) (by omega) (by omega) (fun c8 => ?_) (fun c8 => ?_)
    · skip
      exact absurd c8 (by omega)
    · skip
      refine V.iconst F d_S_isPlace_11 (v := nI (1)) (by decide) ?_
      refine V.goto (tgt := 16) F d_S_isPlace_12 (by decide) ?_
      exact V.zret F hr (nar_1) d_S_isPlace_16 (⟨bI_t, rfl⟩)

set_option maxHeartbeats 4000000 in
set_option maxRecDepth 100000 in
theorem c_has (l : Launch) (D : va_G) {ct : Nat → ClassId} {ad : Nat → Nat} {da : Nat → Nat → Nat} {nd : Nat} {nb : Nat} {nf : Nat} {bdk : Nat → Nat} {num : Nat → Nat} {spt : Nat → Nat} {val : Nat → Int64} {tim : Nat → Nat} {rep : Nat → Nat → Bool} {byN : Nat → Nat} {byS : Nat → Nat} {pk : Nat → Bool} {kn : Nat → Nat → Bool} {pe : Nat → Nat → Bool} {clk : Nat → Nat} {tol : Nat → Nat} {opn : Nat → Option Nat} (q : Option (Nat × Bool)) (hq : fsOk nd q) (n : Nat) (hn : n < 300) : CI l y_S_has b_S_has 2 (some .boolean) (rmK 1 0 0) D (tyL ct) (CW ct ad da nd nb nf bdk num spt val tim rep byN byS pk kn pe clk tol opn) [.ref (fsO ad da (q)), .int (nI (n))] 0 0 (fun r u => r = bI (fsS pk kn pe q n) ∧ u = CW ct ad da nd nb nf bdk num spt val tim rep byN byS pk kn pe clk tol opn) := by
  refine CI.start (by decide) (Nat.le_of_ble_eq_true rfl) ?_
  intro p e s m below meth c F hr hnm
  show V p l e (rmK 1 0 0) s m [.ref (fsO ad da (q)), .int (nI (n))].toArray below meth c D (va_A (CW ct ad da nd nb nf bdk num spt val tim rep byN byS pk kn pe clk tol opn) s.heap.size) 2 0 0 (EI D below (CW ct ad da nd nb nf bdk num spt val tim rep byN byS pk kn pe clk tol opn) [.ref (fsO ad da (q)), .int (nI (n))].toArray s 0 0 (fun r u => r = bI (fsS pk kn pe q n) ∧ u = CW ct ad da nd nb nf bdk num spt val tim rep byN byS pk kn pe clk tol opn)) (CW ct ad da nd nb nf bdk num spt val tim rep byN byS pk kn pe clk tol opn) [(0, .ref (fsO ad da (q))), (1, .int (nI (n)))] 0 []
  refine V.iload_n F d_S_has_0 rfl 1 rfl ?_
  refine V.callSI0 (As := [.int (nI (n))]) (rest := []) F (c_isPlace l D _ ct n hn) d_S_has_1 sv_S_15 st_y_S_isPlace rfl rfl (Nat.le_of_ble_eq_true rfl) ⟨rfl, rfl, (Nat.le_of_ble_eq_true rfl), (Nat.le_of_ble_eq_true rfl)⟩ ⟨(Nat.le_of_ble_eq_true rfl), (Nat.le_of_ble_eq_true rfl)⟩ (fun r9 u9 h9 => ?_)
  obtain ⟨rfl, rfl⟩ := h9
  refine V.if_eqB (b := true) (tgt := 32) F d_S_has_4 (by decide) (fun c4 => ?_) (fun c4 => ?_)
  · skip
    exact absurd c4 (by decide)
  · skip
    refine V.aload_n F d_S_has_7 rfl 0 rfl ?_
    refine V.get F ck_S d_S_has_8 0 (by decide) lk_S_11 (fsP (q)) (cw_fs hq) rfl ?_
    refine V.iload_n F d_S_has_11 rfl 1 rfl ?_
    refine V.bipush F d_S_has_12 (v := nI (64)) (by decide) ?_
    refine V.idivN F d_S_has_14 (by omega) (by decide) (by decide) ?_
    refine V.lald (v := wd (fsS pk kn pe (q)) ((n) / (64))) F d_S_has_15 (fsX (q)) 1 (cw_fw hq) rfl (by omega) (by decide) rfl ?_
    refine V.lconst F d_S_has_16 (v := 1) (by decide) ?_
    refine V.iload_n F d_S_has_17 rfl 1 rfl ?_
    refine V.bipush F d_S_has_18 (v := nI (64)) (by decide) ?_
    refine V.iremN F d_S_has_20 (by omega) (by decide) (by decide) ?_
    refine V.lshl F d_S_has_21 (v := (1) <<< ((nI ((n) % (64))).toInt64 &&& 63)) rfl ?_
    refine V.land F d_S_has_22 (v := (wd (fsS pk kn pe (q)) ((n) / (64))) &&& ((1) <<< ((nI ((n) % (64))).toInt64 &&& 63))) rfl ?_
    refine V.lconst F d_S_has_23 (v := 0) (by decide) ?_
    refine V.lcmp_eq (tgt := 32) F d_S_has_24 d_S_has_25 (by decide) (fun c24 => ?_) (fun c24 => ?_)
    · skip
      refine V.iconst F d_S_has_32 (v := nI (0)) (by decide) ?_
      exact V.zret F hr (nar_0) d_S_has_33 (⟨by rw [(wd_bit _ _).mp c24]; exact bI_f, rfl⟩)
    · skip
      refine V.iconst F d_S_has_28 (v := nI (1)) (by decide) ?_
      refine V.goto (tgt := 33) F d_S_has_29 (by decide) ?_
      exact V.zret F hr (nar_1) d_S_has_33 (⟨by rw [wd_bitT c24]; exact bI_t, rfl⟩)

set_option maxHeartbeats 4000000 in
set_option maxRecDepth 100000 in
theorem c_add (l : Launch) (D : va_G) {ct : Nat → ClassId} {ad : Nat → Nat} {da : Nat → Nat → Nat} {nd : Nat} {nb : Nat} {nf : Nat} {bdk : Nat → Nat} {num : Nat → Nat} {spt : Nat → Nat} {val : Nat → Int64} {tim : Nat → Nat} {rep : Nat → Nat → Bool} {byN : Nat → Nat} {byS : Nat → Nat} {pk : Nat → Bool} {kn : Nat → Nat → Bool} {pe : Nat → Nat → Bool} {clk : Nat → Nat} {tol : Nat → Nat} {opn : Nat → Option Nat} (q : Option (Nat × Bool)) (hq : fsOk nd q) (n : Nat) (hn : n < 300) : CV l y_S_add b_S_add 2 none (rmK 1 0 0) D (tyL ct) (CW ct ad da nd nb nf bdk num spt val tim rep byN byS pk kn pe clk tol opn) [.ref (fsO ad da (q)), .int (nI (n))] 0 0 (fun u => u = CW ct ad da nd nb nf bdk num spt val tim rep byN byS (fsPk q (fun k => fsS pk kn pe q k || decide (k = n)) pk) (fsKn q (fun k => fsS pk kn pe q k || decide (k = n)) kn) (fsPe q (fun k => fsS pk kn pe q k || decide (k = n)) pe) clk tol opn) := by
  refine CV.start (by decide) (Nat.le_of_ble_eq_true rfl) ?_
  intro p e s m below meth c F hr hnm
  show V p l e (rmK 1 0 0) s m [.ref (fsO ad da (q)), .int (nI (n))].toArray below meth c D (va_A (CW ct ad da nd nb nf bdk num spt val tim rep byN byS pk kn pe clk tol opn) s.heap.size) 2 0 0 (EV D below (CW ct ad da nd nb nf bdk num spt val tim rep byN byS pk kn pe clk tol opn) [.ref (fsO ad da (q)), .int (nI (n))].toArray s 0 0 (fun u => u = CW ct ad da nd nb nf bdk num spt val tim rep byN byS (fsPk q (fun k => fsS pk kn pe q k || decide (k = n)) pk) (fsKn q (fun k => fsS pk kn pe q k || decide (k = n)) kn) (fsPe q (fun k => fsS pk kn pe q k || decide (k = n)) pe) clk tol opn)) (CW ct ad da nd nb nf bdk num spt val tim rep byN byS pk kn pe clk tol opn) [(0, .ref (fsO ad da (q))), (1, .int (nI (n)))] 0 []
  refine V.iload_n F d_S_add_0 rfl 1 rfl ?_
  refine V.callSI0 (As := [.int (nI (n))]) (rest := []) F (c_isPlace l D _ ct n hn) d_S_add_1 sv_S_15 st_y_S_isPlace rfl rfl (Nat.le_of_ble_eq_true rfl) ⟨rfl, rfl, (Nat.le_of_ble_eq_true rfl), (Nat.le_of_ble_eq_true rfl)⟩ ⟨(Nat.le_of_ble_eq_true rfl), (Nat.le_of_ble_eq_true rfl)⟩ (fun r9 u9 h9 => ?_)
  obtain ⟨rfl, rfl⟩ := h9
  refine V.if_eqB (b := true) (tgt := 25) F d_S_add_4 (by decide) (fun c4 => ?_) (fun c4 => ?_)
  · skip
    exact absurd c4 (by decide)
  · skip
    refine V.aload_n F d_S_add_7 rfl 0 rfl ?_
    refine V.get F ck_S d_S_add_8 0 (by decide) lk_S_11 (fsP (q)) (cw_fs hq) rfl ?_
    refine V.iload_n F d_S_add_11 rfl 1 rfl ?_
    refine V.bipush F d_S_add_12 (v := nI (64)) (by decide) ?_
    refine V.idivN F d_S_add_14 (by omega) (by decide) (by decide) ?_
    refine V.dup2_11 F d_S_add_15 rfl rfl ?_
    refine V.lald (v := wd (fsS pk kn pe (q)) ((n) / (64))) F d_S_add_16 (fsX (q)) 1 (cw_fw hq) rfl (by omega) (by decide) rfl ?_
    refine V.lconst F d_S_add_17 (v := 1) (by decide) ?_
    refine V.iload_n F d_S_add_18 rfl 1 rfl ?_
    refine V.bipush F d_S_add_19 (v := nI (64)) (by decide) ?_
    refine V.iremN F d_S_add_21 (by omega) (by decide) (by decide) ?_
    refine V.lshl F d_S_add_22 (v := (1) <<< ((nI ((n) % (64))).toInt64 &&& 63)) rfl ?_
    refine V.lor F d_S_add_23 (v := (wd (fsS pk kn pe (q)) ((n) / (64))) ||| ((1) <<< ((nI ((n) % (64))).toInt64 &&& 63))) rfl ?_
    refine V.last (ws2 := CW ct ad da nd nb nf bdk num spt val tim rep byN byS (fsPk q (fun k => fsS pk kn pe q k || decide (k = n)) pk) (fsKn q (fun k => fsS pk kn pe q k || decide (k = n)) kn) (fsPe q (fun k => fsS pk kn pe q k || decide (k = n)) pe) clk tol opn) F d_S_add_24 (fsX (q)) 1 (cw_fw hq) rfl (by omega) (by decide) (cw_setQ hq (wd_upd (wd_or1 _ _) (fun k hk => by rw [show decide (k = n) = false from decide_eq_false (fun e => hk (by rw [e]))]; simp))) ?_
    exact V.vret F hr d_S_add_25 (rfl)

set_option maxHeartbeats 4000000 in
set_option maxRecDepth 100000 in
theorem c_clear (l : Launch) (D : va_G) {ct : Nat → ClassId} {ad : Nat → Nat} {da : Nat → Nat → Nat} {nd : Nat} {nb : Nat} {nf : Nat} {bdk : Nat → Nat} {num : Nat → Nat} {spt : Nat → Nat} {val : Nat → Int64} {tim : Nat → Nat} {rep : Nat → Nat → Bool} {byN : Nat → Nat} {byS : Nat → Nat} {pk : Nat → Bool} {kn : Nat → Nat → Bool} {pe : Nat → Nat → Bool} {clk : Nat → Nat} {tol : Nat → Nat} {opn : Nat → Option Nat} (q : Option (Nat × Bool)) (hq : fsOk nd q) : CV l y_S_clear b_S_clear 2 none (rmK 0 0 0) D (tyL ct) (CW ct ad da nd nb nf bdk num spt val tim rep byN byS pk kn pe clk tol opn) [.ref (fsO ad da (q))] 0 0 (fun u => u = CW ct ad da nd nb nf bdk num spt val tim rep byN byS (fsPk q (fun k => decide (5 ≤ k / 64) && fsS pk kn pe q k) pk) (fsKn q (fun k => decide (5 ≤ k / 64) && fsS pk kn pe q k) kn) (fsPe q (fun k => decide (5 ≤ k / 64) && fsS pk kn pe q k) pe) clk tol opn) := by
  refine CV.start (by decide) (Nat.le_of_ble_eq_true rfl) ?_
  intro p e s m below meth c F hr hnm
  show V p l e (rmK 0 0 0) s m [.ref (fsO ad da (q))].toArray below meth c D (va_A (CW ct ad da nd nb nf bdk num spt val tim rep byN byS pk kn pe clk tol opn) s.heap.size) 2 0 0 (EV D below (CW ct ad da nd nb nf bdk num spt val tim rep byN byS pk kn pe clk tol opn) [.ref (fsO ad da (q))].toArray s 0 0 (fun u => u = CW ct ad da nd nb nf bdk num spt val tim rep byN byS (fsPk q (fun k => decide (5 ≤ k / 64) && fsS pk kn pe q k) pk) (fsKn q (fun k => decide (5 ≤ k / 64) && fsS pk kn pe q k) kn) (fsPe q (fun k => decide (5 ≤ k / 64) && fsS pk kn pe q k) pe) clk tol opn)) (CW ct ad da nd nb nf bdk num spt val tim rep byN byS pk kn pe clk tol opn) [(0, .ref (fsO ad da (q)))] 0 []
  refine V.ws_eq (ws2 := CW ct ad da nd nb nf bdk num spt val tim rep byN byS (fsPk q (fun k => decide (0 ≤ k / 64) && fsS pk kn pe q k) pk) (fsKn q (fun k => decide (0 ≤ k / 64) && fsS pk kn pe q k) kn) (fsPe q (fun k => decide (0 ≤ k / 64) && fsS pk kn pe q k) pe) clk tol opn) (by simpa using cw_intoS q) ?_
  refine V.iconst F d_S_clear_0 (v := nI (0)) (by decide) ?_
  refine V.istore_n (lv2 := [(1, .int (nI (0))), (0, .ref (fsO ad da (q)))]) F d_S_clear_1 rfl (by decide) rfl ?_
  have L2 : ∀ (n9 : Nat) (i : Nat), 5 - i < n9 → (i ≤ 5) → V p l e (rmK 0 0 0) s m [.ref (fsO ad da (q))].toArray below meth c D (va_A (CW ct ad da nd nb nf bdk num spt val tim rep byN byS pk kn pe clk tol opn) s.heap.size) 2 0 0 (EV D below (CW ct ad da nd nb nf bdk num spt val tim rep byN byS pk kn pe clk tol opn) [.ref (fsO ad da (q))].toArray s 0 0 (fun u => u = CW ct ad da nd nb nf bdk num spt val tim rep byN byS (fsPk q (fun k => decide (5 ≤ k / 64) && fsS pk kn pe q k) pk) (fsKn q (fun k => decide (5 ≤ k / 64) && fsS pk kn pe q k) kn) (fsPe q (fun k => decide (5 ≤ k / 64) && fsS pk kn pe q k) pe) clk tol opn)) (CW ct ad da nd nb nf bdk num spt val tim rep byN byS (fsPk q (fun k => decide (i ≤ k / 64) && fsS pk kn pe q k) pk) (fsKn q (fun k => decide (i ≤ k / 64) && fsS pk kn pe q k) kn) (fsPe q (fun k => decide (i ≤ k / 64) && fsS pk kn pe q k) pe) clk tol opn) [(1, .int (nI (i))), (0, .ref (fsO ad da (q)))] 2 [] := by
    intro n9
    induction n9 with
    | zero => intro i h9 hi5; exact absurd h9 (Nat.not_lt_zero _)
    | succ n9 ih2 =>
      intro i h9 hi5
      refine V.iload_n F d_S_clear_2 rfl 0 rfl ?_
      refine V.iconst F d_S_clear_3 (v := nI (5)) (by decide) ?_
      refine V.icmp_geN (tgt := 20) F d_S_clear_4 (by decide) (by omega) (by omega) (fun c4 => ?_) (fun c4 => ?_)
      · skip
        exact V.vret F hr d_S_clear_20 (by rw [show i = 5 by omega])
      · skip
        refine V.aload_n F d_S_clear_7 rfl 1 rfl ?_
        refine V.get F ck_S d_S_clear_8 0 (by decide) lk_S_11 (fsP (q)) (cw_fs hq) rfl ?_
        refine V.iload_n F d_S_clear_11 rfl 0 rfl ?_
        refine V.lconst F d_S_clear_12 (v := 0) (by decide) ?_
        refine V.last (ws2 := CW ct ad da nd nb nf bdk num spt val tim rep byN byS (fsPk q (fun k => decide (i + 1 ≤ k / 64) && fsS pk kn pe q k) pk) (fsKn q (fun k => decide (i + 1 ≤ k / 64) && fsS pk kn pe q k) kn) (fsPe q (fun k => decide (i + 1 ≤ k / 64) && fsS pk kn pe q k) pe) clk tol opn) F d_S_clear_13 (fsX q) 1 (cw_fwS hq) rfl (by omega) (by decide) (cw_setS hq (wd_upd (S2 := fun k => decide (i + 1 ≤ k / 64) && fsS pk kn pe q k) ((wd_clr _ i).symm) (fun k hk => by rw [show decide (i + 1 ≤ k / 64) = decide (i ≤ k / 64) from by rw [decide_eq_decide]; omega]))) ?_
        refine V.iincN (k := 1) (lv2 := [(1, .int (nI (i + 1))), (0, .ref (fsO ad da (q)))]) F d_S_clear_14 0 rfl (by decide) (by decide) rfl ?_
        refine V.goto (tgt := 2) F d_S_clear_17 (by decide) ?_
        exact ih2 (i + 1) (by omega) (by omega)
  exact L2 _ (0) (Nat.lt_succ_self _) (by omega)

set_option maxHeartbeats 4000000 in
set_option maxRecDepth 100000 in
theorem c_addAll (l : Launch) (D : va_G) {ct : Nat → ClassId} {ad : Nat → Nat} {da : Nat → Nat → Nat} {nd : Nat} {nb : Nat} {nf : Nat} {bdk : Nat → Nat} {num : Nat → Nat} {spt : Nat → Nat} {val : Nat → Int64} {tim : Nat → Nat} {rep : Nat → Nat → Bool} {byN : Nat → Nat} {byS : Nat → Nat} {pk : Nat → Bool} {kn : Nat → Nat → Bool} {pe : Nat → Nat → Bool} {clk : Nat → Nat} {tol : Nat → Nat} {opn : Nat → Option Nat} (q : Option (Nat × Bool)) (hq : fsOk nd q) (r : Option (Nat × Bool)) (hr0 : fsOk nd r) (hne : r ≠ q) : CV l y_S_addAll b_S_addAll 3 none (rmK 0 0 0) D (tyL ct) (CW ct ad da nd nb nf bdk num spt val tim rep byN byS pk kn pe clk tol opn) [.ref (fsO ad da (q)), .ref (fsO ad da (r))] 0 0 (fun u => u = CW ct ad da nd nb nf bdk num spt val tim rep byN byS (fsPk q (fun k => fsS pk kn pe q k || (decide (k / 64 < 5) && fsS pk kn pe r k)) pk) (fsKn q (fun k => fsS pk kn pe q k || (decide (k / 64 < 5) && fsS pk kn pe r k)) kn) (fsPe q (fun k => fsS pk kn pe q k || (decide (k / 64 < 5) && fsS pk kn pe r k)) pe) clk tol opn) := by
  refine CV.start (by decide) (Nat.le_of_ble_eq_true rfl) ?_
  intro p e s m below meth c F hr hnm
  show V p l e (rmK 0 0 0) s m [.ref (fsO ad da (q)), .ref (fsO ad da (r))].toArray below meth c D (va_A (CW ct ad da nd nb nf bdk num spt val tim rep byN byS pk kn pe clk tol opn) s.heap.size) 3 0 0 (EV D below (CW ct ad da nd nb nf bdk num spt val tim rep byN byS pk kn pe clk tol opn) [.ref (fsO ad da (q)), .ref (fsO ad da (r))].toArray s 0 0 (fun u => u = CW ct ad da nd nb nf bdk num spt val tim rep byN byS (fsPk q (fun k => fsS pk kn pe q k || (decide (k / 64 < 5) && fsS pk kn pe r k)) pk) (fsKn q (fun k => fsS pk kn pe q k || (decide (k / 64 < 5) && fsS pk kn pe r k)) kn) (fsPe q (fun k => fsS pk kn pe q k || (decide (k / 64 < 5) && fsS pk kn pe r k)) pe) clk tol opn)) (CW ct ad da nd nb nf bdk num spt val tim rep byN byS pk kn pe clk tol opn) [(0, .ref (fsO ad da (q))), (1, .ref (fsO ad da (r)))] 0 []
  refine V.ws_eq (ws2 := CW ct ad da nd nb nf bdk num spt val tim rep byN byS (fsPk q (fun k => fsS pk kn pe q k || (decide (k / 64 < 0) && fsS pk kn pe r k)) pk) (fsKn q (fun k => fsS pk kn pe q k || (decide (k / 64 < 0) && fsS pk kn pe r k)) kn) (fsPe q (fun k => fsS pk kn pe q k || (decide (k / 64 < 0) && fsS pk kn pe r k)) pe) clk tol opn) (by simpa using cw_intoS q) ?_
  refine V.iconst F d_S_addAll_0 (v := nI (0)) (by decide) ?_
  refine V.istore_n (lv2 := [(2, .int (nI (0))), (0, .ref (fsO ad da (q))), (1, .ref (fsO ad da (r)))]) F d_S_addAll_1 rfl (by decide) rfl ?_
  have L2 : ∀ (n9 : Nat) (i : Nat), 5 - i < n9 → (i ≤ 5) → V p l e (rmK 0 0 0) s m [.ref (fsO ad da (q)), .ref (fsO ad da (r))].toArray below meth c D (va_A (CW ct ad da nd nb nf bdk num spt val tim rep byN byS pk kn pe clk tol opn) s.heap.size) 3 0 0 (EV D below (CW ct ad da nd nb nf bdk num spt val tim rep byN byS pk kn pe clk tol opn) [.ref (fsO ad da (q)), .ref (fsO ad da (r))].toArray s 0 0 (fun u => u = CW ct ad da nd nb nf bdk num spt val tim rep byN byS (fsPk q (fun k => fsS pk kn pe q k || (decide (k / 64 < 5) && fsS pk kn pe r k)) pk) (fsKn q (fun k => fsS pk kn pe q k || (decide (k / 64 < 5) && fsS pk kn pe r k)) kn) (fsPe q (fun k => fsS pk kn pe q k || (decide (k / 64 < 5) && fsS pk kn pe r k)) pe) clk tol opn)) (CW ct ad da nd nb nf bdk num spt val tim rep byN byS (fsPk q (fun k => fsS pk kn pe q k || (decide (k / 64 < i) && fsS pk kn pe r k)) pk) (fsKn q (fun k => fsS pk kn pe q k || (decide (k / 64 < i) && fsS pk kn pe r k)) kn) (fsPe q (fun k => fsS pk kn pe q k || (decide (k / 64 < i) && fsS pk kn pe r k)) pe) clk tol opn) [(2, .int (nI (i))), (0, .ref (fsO ad da (q))), (1, .ref (fsO ad da (r)))] 2 [] := by
    intro n9
    induction n9 with
    | zero => intro i h9 hi5; exact absurd h9 (Nat.not_lt_zero _)
    | succ n9 ih2 =>
      intro i h9 hi5
      refine V.iload_n F d_S_addAll_2 rfl 0 rfl ?_
      refine V.iconst F d_S_addAll_3 (v := nI (5)) (by decide) ?_
      refine V.icmp_geN (tgt := 28) F d_S_addAll_4 (by decide) (by omega) (by omega) (fun c4 => ?_) (fun c4 => ?_)
      · skip
        exact V.vret F hr d_S_addAll_28 (by rw [show i = 5 by omega])
      · skip
        refine V.aload_n F d_S_addAll_7 rfl 1 rfl ?_
        refine V.get F ck_S d_S_addAll_8 0 (by decide) lk_S_11 (fsP (q)) (cw_fs hq) rfl ?_
        refine V.iload_n F d_S_addAll_11 rfl 0 rfl ?_
        refine V.dup2_11 F d_S_addAll_12 rfl rfl ?_
        refine V.lald (v := wd (fun k => fsS pk kn pe q k || (decide (k / 64 < i) && fsS pk kn pe r k)) (i)) F d_S_addAll_13 (fsX q) 1 (cw_fwS hq) rfl (by omega) (by decide) rfl ?_
        refine V.aload_n F d_S_addAll_14 rfl 2 rfl ?_
        refine V.get F ck_S d_S_addAll_15 0 (by decide) lk_S_11 (fsP (r)) (cw_fs hr0) rfl ?_
        refine V.iload_n F d_S_addAll_18 rfl 0 rfl ?_
        refine V.lald (v := wd (fsS pk kn pe (r)) (i)) F d_S_addAll_19 (fsX (r)) 1 (cw_fwN hr0 hne) rfl (by omega) (by decide) rfl ?_
        refine V.lor F d_S_addAll_20 (v := (wd (fun k => fsS pk kn pe q k || (decide (k / 64 < i) && fsS pk kn pe r k)) (i)) ||| (wd (fsS pk kn pe (r)) (i))) rfl ?_
        refine V.last (ws2 := CW ct ad da nd nb nf bdk num spt val tim rep byN byS (fsPk q (fun k => fsS pk kn pe q k || (decide (k / 64 < i + 1) && fsS pk kn pe r k)) pk) (fsKn q (fun k => fsS pk kn pe q k || (decide (k / 64 < i + 1) && fsS pk kn pe r k)) kn) (fsPe q (fun k => fsS pk kn pe q k || (decide (k / 64 < i + 1) && fsS pk kn pe r k)) pe) clk tol opn) F d_S_addAll_21 (fsX q) 1 (cw_fwS hq) rfl (by omega) (by decide) (cw_setS hq (wd_upd (S2 := fun k => fsS pk kn pe q k || (decide (k / 64 < i + 1) && fsS pk kn pe r k)) ((wd_or _ _ _).trans (wd_eq fun b hb => by rw [show (64 * i + b) / 64 = i by omega]; simp)) (fun k hk => by rw [show decide (k / 64 < i + 1) = decide (k / 64 < i) from by rw [decide_eq_decide]; omega]))) ?_
        refine V.iincN (k := 1) (lv2 := [(2, .int (nI (i + 1))), (0, .ref (fsO ad da (q))), (1, .ref (fsO ad da (r)))]) F d_S_addAll_22 0 rfl (by decide) (by decide) rfl ?_
        refine V.goto (tgt := 2) F d_S_addAll_25 (by decide) ?_
        exact ih2 (i + 1) (by omega) (by omega)
  exact L2 _ (0) (Nat.lt_succ_self _) (by omega)

set_option maxHeartbeats 4000000 in
set_option maxRecDepth 100000 in
theorem c_isSameAs (l : Launch) (D : va_G) {ct : Nat → ClassId} {ad : Nat → Nat} {da : Nat → Nat → Nat} {nd : Nat} {nb : Nat} {nf : Nat} {bdk : Nat → Nat} {num : Nat → Nat} {spt : Nat → Nat} {val : Nat → Int64} {tim : Nat → Nat} {rep : Nat → Nat → Bool} {byN : Nat → Nat} {byS : Nat → Nat} {pk : Nat → Bool} {kn : Nat → Nat → Bool} {pe : Nat → Nat → Bool} {clk : Nat → Nat} {tol : Nat → Nat} {opn : Nat → Option Nat} (q : Option (Nat × Bool)) (hq : fsOk nd q) (r : Option (Nat × Bool)) (hr0 : fsOk nd r) : CI l y_S_isSameAs b_S_isSameAs 3 (some .boolean) (rmK 0 0 0) D (tyL ct) (CW ct ad da nd nb nf bdk num spt val tim rep byN byS pk kn pe clk tol opn) [.ref (fsO ad da (q)), .ref (fsO ad da (r))] 0 0 (fun x u => x = bI (sameB (fsS pk kn pe q) (fsS pk kn pe r) 320) ∧ u = CW ct ad da nd nb nf bdk num spt val tim rep byN byS pk kn pe clk tol opn) := by
  refine CI.start (by decide) (Nat.le_of_ble_eq_true rfl) ?_
  intro p e s m below meth c F hr hnm
  show V p l e (rmK 0 0 0) s m [.ref (fsO ad da (q)), .ref (fsO ad da (r))].toArray below meth c D (va_A (CW ct ad da nd nb nf bdk num spt val tim rep byN byS pk kn pe clk tol opn) s.heap.size) 3 0 0 (EI D below (CW ct ad da nd nb nf bdk num spt val tim rep byN byS pk kn pe clk tol opn) [.ref (fsO ad da (q)), .ref (fsO ad da (r))].toArray s 0 0 (fun x u => x = bI (sameB (fsS pk kn pe q) (fsS pk kn pe r) 320) ∧ u = CW ct ad da nd nb nf bdk num spt val tim rep byN byS pk kn pe clk tol opn)) (CW ct ad da nd nb nf bdk num spt val tim rep byN byS pk kn pe clk tol opn) [(0, .ref (fsO ad da (q))), (1, .ref (fsO ad da (r)))] 0 []
  refine V.iconst F d_S_isSameAs_0 (v := nI (0)) (by decide) ?_
  refine V.istore_n (lv2 := [(2, .int (nI (0))), (0, .ref (fsO ad da (q))), (1, .ref (fsO ad da (r)))]) F d_S_isSameAs_1 rfl (by decide) rfl ?_
  have L2 : ∀ (n9 : Nat) (i : Nat), 5 - i < n9 → (i ≤ 5) → (∀ k, k < 64 * i → fsS pk kn pe q k = fsS pk kn pe r k) → V p l e (rmK 0 0 0) s m [.ref (fsO ad da (q)), .ref (fsO ad da (r))].toArray below meth c D (va_A (CW ct ad da nd nb nf bdk num spt val tim rep byN byS pk kn pe clk tol opn) s.heap.size) 3 0 0 (EI D below (CW ct ad da nd nb nf bdk num spt val tim rep byN byS pk kn pe clk tol opn) [.ref (fsO ad da (q)), .ref (fsO ad da (r))].toArray s 0 0 (fun x u => x = bI (sameB (fsS pk kn pe q) (fsS pk kn pe r) 320) ∧ u = CW ct ad da nd nb nf bdk num spt val tim rep byN byS pk kn pe clk tol opn)) (CW ct ad da nd nb nf bdk num spt val tim rep byN byS pk kn pe clk tol opn) [(2, .int (nI (i))), (0, .ref (fsO ad da (q))), (1, .ref (fsO ad da (r)))] 2 [] := by
    intro n9
    induction n9 with
    | zero => intro i h9 hi5 hin; exact absurd h9 (Nat.not_lt_zero _)
    | succ n9 ih2 =>
      intro i h9 hi5 hin
      refine V.iload_n F d_S_isSameAs_2 rfl 0 rfl ?_
      refine V.iconst F d_S_isSameAs_3 (v := nI (5)) (by decide) ?_
      refine V.icmp_geN (tgt := 31) F d_S_isSameAs_4 (by decide) (by omega) (by omega) (fun c4 => ?_) (fun c4 => ?_)
      · skip
        refine V.iconst F d_S_isSameAs_31 (v := nI (1)) (by decide) ?_
        exact V.zret F hr (nar_1) d_S_isSameAs_32 (⟨by rw [(sameB_iff _ _ _).mpr (fun k hk => hin k (by omega))]; exact bI_t, rfl⟩)
      · skip
        refine V.aload_n F d_S_isSameAs_7 rfl 1 rfl ?_
        refine V.get F ck_S d_S_isSameAs_8 0 (by decide) lk_S_11 (fsP (q)) (cw_fs hq) rfl ?_
        refine V.iload_n F d_S_isSameAs_11 rfl 0 rfl ?_
        refine V.lald (v := wd (fsS pk kn pe (q)) (i)) F d_S_isSameAs_12 (fsX (q)) 1 (cw_fw hq) rfl (by omega) (by decide) rfl ?_
        refine V.aload_n F d_S_isSameAs_13 rfl 2 rfl ?_
        refine V.get F ck_S d_S_isSameAs_14 0 (by decide) lk_S_11 (fsP (r)) (cw_fs hr0) rfl ?_
        refine V.iload_n F d_S_isSameAs_17 rfl 0 rfl ?_
        refine V.lald (v := wd (fsS pk kn pe (r)) (i)) F d_S_isSameAs_18 (fsX (r)) 1 (cw_fw hr0) rfl (by omega) (by decide) rfl ?_
        refine V.lcmp_eq (tgt := 25) F d_S_isSameAs_19 d_S_isSameAs_20 (by decide) (fun c19 => ?_) (fun c19 => ?_)
        · skip
          refine V.iincN (k := 1) (lv2 := [(2, .int (nI (i + 1))), (0, .ref (fsO ad da (q))), (1, .ref (fsO ad da (r)))]) F d_S_isSameAs_25 0 rfl (by decide) (by decide) rfl ?_
          refine V.goto (tgt := 2) F d_S_isSameAs_28 (by decide) ?_
          exact ih2 (i + 1) (by omega) (by omega) (fun k hk => same_step (wd_eq_iff.mp c19) hin k hk)
        · skip
          refine V.iconst F d_S_isSameAs_23 (v := nI (0)) (by decide) ?_
          exact V.zret F hr (nar_0) d_S_isSameAs_24 (⟨by rw [sameB_f (fun hz => c19 (wd_eq fun b hb => hz _ (by omega)))]; exact bI_f, rfl⟩)
  exact L2 _ (0) (Nat.lt_succ_self _) (by omega) (fun k hk => absurd hk (by omega))

set_option maxHeartbeats 4000000 in
set_option maxRecDepth 100000 in
theorem c_size (l : Launch) (D : va_G) {ct : Nat → ClassId} {ad : Nat → Nat} {da : Nat → Nat → Nat} {nd : Nat} {nb : Nat} {nf : Nat} {bdk : Nat → Nat} {num : Nat → Nat} {spt : Nat → Nat} {val : Nat → Int64} {tim : Nat → Nat} {rep : Nat → Nat → Bool} {byN : Nat → Nat} {byS : Nat → Nat} {pk : Nat → Bool} {kn : Nat → Nat → Bool} {pe : Nat → Nat → Bool} {clk : Nat → Nat} {tol : Nat → Nat} {opn : Nat → Option Nat} (q : Option (Nat × Bool)) (hq : fsOk nd q) : CI l y_S_size b_S_size 3 (some .int) (rmK 1 0 0) D (tyL ct) (CW ct ad da nd nb nf bdk num spt val tim rep byN byS pk kn pe clk tol opn) [.ref (fsO ad da (q))] 0 0 (fun x u => x = nI (cnt (fsS pk kn pe q) 320) ∧ u = CW ct ad da nd nb nf bdk num spt val tim rep byN byS pk kn pe clk tol opn) := by
  refine CI.start (by decide) (Nat.le_of_ble_eq_true rfl) ?_
  intro p e s m below meth c F hr hnm
  show V p l e (rmK 1 0 0) s m [.ref (fsO ad da (q))].toArray below meth c D (va_A (CW ct ad da nd nb nf bdk num spt val tim rep byN byS pk kn pe clk tol opn) s.heap.size) 3 0 0 (EI D below (CW ct ad da nd nb nf bdk num spt val tim rep byN byS pk kn pe clk tol opn) [.ref (fsO ad da (q))].toArray s 0 0 (fun x u => x = nI (cnt (fsS pk kn pe q) 320) ∧ u = CW ct ad da nd nb nf bdk num spt val tim rep byN byS pk kn pe clk tol opn)) (CW ct ad da nd nb nf bdk num spt val tim rep byN byS pk kn pe clk tol opn) [(0, .ref (fsO ad da (q)))] 0 []
  refine V.iconst F d_S_size_0 (v := nI (0)) (by decide) ?_
  refine V.istore_n (lv2 := [(1, .int (nI (0))), (0, .ref (fsO ad da (q)))]) F d_S_size_1 rfl (by decide) rfl ?_
  refine V.iconst F d_S_size_2 (v := nI (0)) (by decide) ?_
  refine V.istore_n (lv2 := [(2, .int (nI (0))), (1, .int (nI (0))), (0, .ref (fsO ad da (q)))]) F d_S_size_3 rfl (by decide) rfl ?_
  have L4 : ∀ (n9 : Nat) (i : Nat) (z : Nat), 5 - i < n9 → (i ≤ 5) → (z = cnt (fsS pk kn pe q) (64 * i)) → V p l e (rmK 1 0 0) s m [.ref (fsO ad da (q))].toArray below meth c D (va_A (CW ct ad da nd nb nf bdk num spt val tim rep byN byS pk kn pe clk tol opn) s.heap.size) 3 0 0 (EI D below (CW ct ad da nd nb nf bdk num spt val tim rep byN byS pk kn pe clk tol opn) [.ref (fsO ad da (q))].toArray s 0 0 (fun x u => x = nI (cnt (fsS pk kn pe q) 320) ∧ u = CW ct ad da nd nb nf bdk num spt val tim rep byN byS pk kn pe clk tol opn)) (CW ct ad da nd nb nf bdk num spt val tim rep byN byS pk kn pe clk tol opn) [(2, .int (nI (i))), (1, .int (nI (z))), (0, .ref (fsO ad da (q)))] 4 [] := by
    intro n9
    induction n9 with
    | zero => intro i z h9 hi5 hz; exact absurd h9 (Nat.not_lt_zero _)
    | succ n9 ih4 =>
      intro i z h9 hi5 hz
      refine V.iload_n F d_S_size_4 rfl 0 rfl ?_
      refine V.iconst F d_S_size_5 (v := nI (5)) (by decide) ?_
      refine V.icmp_geN (tgt := 27) F d_S_size_6 (by decide) (by omega) (by omega) (fun c6 => ?_) (fun c6 => ?_)
      · skip
        refine V.iload_n F d_S_size_27 rfl 1 rfl ?_
        exact V.iret F hr d_S_size_28 (⟨by rw [hz, show i = 5 by omega], rfl⟩)
      · skip
        refine V.iload_n F d_S_size_9 rfl 1 rfl ?_
        refine V.aload_n F d_S_size_10 rfl 2 rfl ?_
        refine V.get F ck_S d_S_size_11 0 (by decide) lk_S_11 (fsP (q)) (cw_fs hq) rfl ?_
        refine V.iload_n F d_S_size_14 rfl 0 rfl ?_
        refine V.lald (v := wd (fsS pk kn pe (q)) (i)) F d_S_size_15 (fsX (q)) 1 (cw_fw hq) rfl (by omega) (by decide) rfl ?_
        refine V.callSI0 (As := [.long (wd (fsS pk kn pe (q)) (i))]) (rest := [.int (nI (z))]) F (c_bitCount l D _ _) d_S_size_16 sv_S_19 st_y_J_bitCount rfl rfl (Nat.le_of_ble_eq_true rfl) ⟨rfl, rfl, (Nat.le_of_ble_eq_true rfl), (Nat.le_of_ble_eq_true rfl)⟩ ⟨(Nat.le_of_ble_eq_true rfl), (Nat.le_of_ble_eq_true rfl)⟩ (fun r9 u9 h9 => ?_)
        obtain ⟨rfl, rfl⟩ := h9
        refine V.iaddN F d_S_size_19 ?_
        refine V.istore_n (lv2 := [(1, .int (nI ((z) + (cnt (fun b => (wd (fsS pk kn pe (q)) (i)).toBitVec.getLsbD b) 64)))), (2, .int (nI (i))), (0, .ref (fsO ad da (q)))]) F d_S_size_20 rfl (by decide) rfl ?_
        refine V.iincN (k := 1) (lv2 := [(2, .int (nI (i + 1))), (1, .int (nI ((z) + (cnt (fun b => (wd (fsS pk kn pe (q)) (i)).toBitVec.getLsbD b) 64)))), (0, .ref (fsO ad da (q)))]) F d_S_size_21 1 rfl (by decide) (by decide) rfl ?_
        refine V.goto (tgt := 4) F d_S_size_24 (by decide) ?_
        exact ih4 (i + 1) (z + cnt (fun b => (wd (fsS pk kn pe q) i).toBitVec.getLsbD b) 64) (by omega) (by omega) (by rw [hz]; exact size_step _ i)
  exact L4 _ (0) (0) (Nat.lt_succ_self _) (by omega) (rfl)

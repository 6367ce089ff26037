def R_law : String := "ToldFactsLaw"
def lw_P (b : Addr) (xs : List Int32) (args : Array Value) (s : State) : Prop := args = #[.ref b] ∧ s.IntsAt b xs ∧ xs.length ≤ 4096 ∧ (Jvm.Cond.and given_1 narrow_1).before args s = true
def lw_Q (_ : Array Value) (s : State) (o : Outcome) (t : State) : Prop := o = .returned (some (.int 1)) ∧ Framed s o t [] 600000 7302250
def lw_Z (below : List Frame) (a : Array Value) (s : State) : State → Prop := fun t => ∃ o, t.status = .running ∧ Ended t below o ∧ lw_Q a s o t
theorem lw_ret {p : Program} {l : Launch} {e : Env} {s : State} {m : MethodId} {below : List Frame} {meth : Method} {c : Code} {b : Nat} (hx : p.tables.exec = Jvm.exec) (hb : c.code = code) (hr : meth.sig.returnType = ret) (hlocks : meth.locks = false) {pc : Nat} {H : Heap} {ls : Array Slot} (hdg : decode code pc = .ok (.ireturn, 1)) : W p l e room_1 s m #[Value.ref b] below meth c H [] 600000 7302250 (lw_Z below #[Value.ref b] s) (F0 m pc ls [.int 1]) := by
  intro T hT X
  obtain ⟨fs, hret, hrun, hended, hW, hframe⟩ := X.leave (v := some (.int 1)) (hlocks := hlocks) (fun h => by rw [hr] at h; cases h)
  have hmeth' : T.vm.method? m = some meth := X.method'
  refine ⟨T.setFrames fs, ?_, .returned (some (.int 1)), hrun, hended, rfl, ⟨_, rfl⟩, hW, hframe⟩
  jvm_step X.here [X.here.top, hx, hb, hdg, hmeth', hr, ret, narrow_b1]
  (try refine ⟨rfl, ?_⟩); (try refine ⟨rfl, ?_⟩)
  first | (intro acts; rw [hret _ acts rfl rfl rfl]) | rw [hret _ _ rfl rfl rfl]
  exact Steps.refl _
def lw_At (p : Program) (s : State) (m : MethodId) (meth : Method) (c : Code) (b L : Nat) (xs : Nat → Int32) : Prop :=
  p.tables.exec = Jvm.exec ∧ c.code = code ∧ meth.sig.returnType = ret ∧ c.maxLocals = 4 ∧ s.vm.findClass R_law = some m.cls ∧ (∀ w ∈ lw_tbl, w.before #[Value.ref b] s = true) ∧ va_X b L xs s s.heap ∧ b < s.heap.size ∧ meth.locks = false ∧ (Jvm.Cond.and given_1 narrow_1).before #[Value.ref b] s = true
theorem lw_ok4 {s : State} {ty : FieldType} {b : Nat} (h : (Cond.arrayClass ty).before #[Value.ref b] s = true) (hp : ∀ cA, va_RA s cA ty = (s.vm.findClass ("[" ++ ty.toString) = some cA)) (hn : ∀ k, ty ≠ .array k) : ∃ cA, ArrOfT s cA ty ∧ va_RA s cA ty := by
  obtain ⟨cA, kA, comp, h1, h2, h3⟩ := Cond.arrayClass_spec h
  exact ⟨cA, fun n z => ⟨fun k h => (by cases h), kA, h2, comp, h3⟩, by rw [hp]; exact h1⟩
theorem lw_K {s : State} {b : Nat} (hts : ∀ w ∈ lw_tbl, w.before #[Value.ref b] s = true) : ∃ (D : va_G) (ct : Nat → ClassId), Kx D (tyL ct) s := by
  obtain ⟨c0, iS0, hK0⟩ := u_known (C := R_T) (T := F_T) (N := 6) (n := 6) hts (fun w hw => TB_in w (ws_T w hw)) (hts _ (TB_in _ ins_T))
  obtain ⟨c1, iS1, hK1⟩ := u_known (C := R_S) (T := F_S) (N := 1) (n := 1) hts (fun w hw => TB_in w (ws_S w hw)) (hts _ (TB_in _ ins_S))
  obtain ⟨c2, iS2, hK2⟩ := u_known (C := R_A) (T := F_A) (N := 8) (n := 8) hts (fun w hw => TB_in w (ws_A w hw)) (hts _ (TB_in _ ins_A))
  obtain ⟨c3, iS3, hK3⟩ := u_known (C := R_K) (T := F_K) (N := 6) (n := 6) hts (fun w hw => TB_in w (ws_K w hw)) (hts _ (TB_in _ ins_K))
  obtain ⟨c4, iS4, hK4⟩ := u_known (C := R_W) (T := F_W) (N := 1) (n := 1) hts (fun w hw => TB_in w (ws_W w hw)) (hts _ (TB_in _ ins_W))
  obtain ⟨c5, iS5, hK5⟩ := u_known (C := R_M) (T := F_M) (N := 18) (n := 18) hts (fun w hw => TB_in w (ws_M w hw)) (hts _ (TB_in _ ins_M))
  obtain ⟨a0, p0, q0⟩ := lw_ok4 (hts _ (TB_in _ arr_int)) (fun _ => rfl) (fun _ h => by cases h)
  obtain ⟨a1, p1, q1⟩ := lw_ok4 (hts _ (TB_in _ arr_long)) (fun _ => rfl) (fun _ h => by cases h)
  obtain ⟨a3, p3, q3⟩ := lw_ok4 (hts _ (TB_in _ arr_boolean)) (fun _ => rfl) (fun _ h => by cases h)
  have hAO := hts _ arr_desk
  obtain ⟨comp, a2, kA, f1, f2, f3, f4, f5⟩ := Cond.arrayOver_spec hAO
  refine ⟨(fun k => if k = 0 then c0 else if k = 1 then c1 else if k = 2 then c2 else if k = 3 then c3 else if k = 4 then c4 else c5, fun k => if k = 0 then iS0 else if k = 1 then iS1 else if k = 2 then iS2 else if k = 3 then iS3 else if k = 4 then iS4 else iS5), fun k => if k = 0 then a0 else if k = 1 then a1 else if k = 2 then a2 else a3, ⟨?_, ?_⟩, fun w hw => va_Nw.of (NW_on w hw) (hts w (NW_in w hw)), va_AO.of hAO⟩
  · intro k q hq
    match k, hq with
    | 0, hq => cases hq; exact hK0
    | 1, hq => cases hq; exact hK1
    | 2, hq => cases hq; exact hK2
    | 3, hq => cases hq; exact hK3
    | 4, hq => cases hq; exact hK4
    | 5, hq => cases hq; exact hK5
    | k + 6, hq => cases hq
  · intro k q hq
    match k, hq with
    | 0, hq => cases hq; exact ⟨p0, q0⟩
    | 1, hq => cases hq; exact ⟨p1, q1⟩
    | 2, hq => cases hq; exact ⟨fun N z => ⟨(fun k h => by cases h), kA, f3, comp, f4⟩, kA, comp, f3, f4, f1, f5⟩
    | 3, hq => cases hq; exact ⟨p3, q3⟩
    | k + 4, hq => cases hq
theorem cw_0 {ct : Nat → ClassId} {ad : Nat → Nat} : CW ct ad (fun _ _ => 0) 0 0 0 (fun _ => 0) (fun _ => 0) (fun _ => 0) (fun _ => 0) (fun _ => 0) (fun _ _ => false) (fun _ => 0) (fun _ => 0) (fun _ => false) (fun _ _ => false) (fun _ _ => false) (fun _ => 0) (fun _ => 0) (fun _ => some 0) = [(ad 0, .inr (0, [.ref (ad 1), .ref (ad 2), .ref (ad 3), .ref (ad 11), .int 0, .int 0])), (ad 1, .inl (ct 2, 8, .inr (.inr (.inr (.inr (fun _ => none)))))), (ad 2, .inl (ct 0, 40, .inl (fun _ => 0))), (ad 3, .inr (2, [.ref (ad 4), .ref (ad 5), .ref (ad 6), .ref (ad 7), .ref (ad 8), .ref (ad 9), .ref (ad 10), .int 0])), (ad 4, .inl (ct 0, 300, .inl (fun _ => 0))), (ad 5, .inl (ct 0, 300, .inl (fun _ => 0))), (ad 6, .inl (ct 1, 300, .inr (.inl (fun _ => 0)))), (ad 7, .inl (ct 0, 300, .inl (fun _ => 0))), (ad 8, .inl (ct 1, 1500, .inr (.inl (fun _ => 0)))), (ad 9, .inl (ct 0, 300, .inl (fun _ => 0))), (ad 10, .inl (ct 0, 300, .inl (fun _ => 0))), (ad 11, .inr (1, [.ref (ad 12)])), (ad 12, .inl (ct 1, 5, .inr (.inl (fun _ => 0))))] := by
  have e3 : rpW (fun _ _ => false) = fun _ => (0 : Int64) := funext fun j => wd_0 _
  have e4 : dkA (fun _ _ => 0) 0 = fun _ => none := funext fun j => if_neg (Nat.not_lt_zero j)
  have e5 : (wd fun _ => false) = fun _ => (0 : Int64) := funext fun w => wd_0 w
  unfold CW
  rw [e3, e4, e5]
  simp only [aI, aL, nF, nI_0, fl, List.append_nil]
  rfl
theorem mw_0 {ct : Nat → ClassId} {mo : Nat → Nat} : MW ct mo 0 0 0 (fun _ => 0) (fun _ => 0) (fun _ => 0) (fun _ => 0) (fun _ => 0) (fun _ => 0) (fun _ => 0) (fun _ _ => false) (fun _ _ => false) (fun _ => 0) (fun _ => 0) (fun _ => some 0) (fun _ => some 0) (fun _ => false) 0 = [(mo 0, .inr (5, [.int 0, .ref (mo 1), .ref (mo 2), .ref (mo 3), .ref (mo 4), .ref (mo 5), .ref (mo 6), .ref (mo 7), .ref (mo 8), .ref (mo 9), .ref (mo 10), .ref (mo 11), .ref (mo 12), .int 0, .ref (mo 13), .int 0, .ref (mo 14), .long 0])), (mo 1, .inl (ct 1, 8, .inr (.inl (fun _ => 0)))), (mo 2, .inl (ct 0, 8, .inl (fun _ => 0))), (mo 3, .inl (ct 0, 8, .inl (fun _ => 0))), (mo 4, .inl (ct 0, 300, .inl (fun _ => 0))), (mo 5, .inl (ct 0, 300, .inl (fun _ => 0))), (mo 6, .inl (ct 0, 300, .inl (fun _ => 0))), (mo 7, .inl (ct 1, 300, .inr (.inl (fun _ => 0)))), (mo 8, .inl (ct 1, 300, .inr (.inl (fun _ => 0)))), (mo 9, .inl (ct 1, 300, .inr (.inl (fun _ => 0)))), (mo 10, .inl (ct 0, 300, .inl (fun _ => 0))), (mo 11, .inl (ct 3, 90000, .inl (fun _ => 0))), (mo 12, .inl (ct 3, 2400, .inl (fun _ => 0))), (mo 13, .inl (ct 0, 40, .inl (fun _ => 0))), (mo 14, .inl (ct 3, 300, .inl (fun _ => 0)))] := by
  have l0 : lN 0 = 0 := by decide +kernel
  have b0 : bI false = 0 := rfl
  unfold MW
  simp only [aI, aL, aM, aO, aB, aR, aK, nF, oI, nI_0, l0, b0]
  rfl
theorem ap_r {X Y : va_W} {v : Nat × va_E} (h : Y[0]? = some v) : (X ++ Y)[X.length]? = some v := by
  rw [List.getElem?_append_right (Nat.le_refl _), Nat.sub_self, h]
theorem rel_T {ct : Nat → ClassId} {ad mo : Nat → Nat} {u1 u2 : va_W} (h : Rel ct ad mo u1 u2) : ∃ fs, u1[0]? = some (ad 0, .inr (0, fs)) := by
  obtain ⟨da, nd, nb, nf, bdk, num, spt, val, tim, rep, byN, byS, pk, kn, pe, clk, tol, opn, thg, knd, dy, bof, std, xd, hI, hO, rfl, rfl⟩ := h
  exact ⟨_, rfl⟩
theorem rel_M {ct : Nat → ClassId} {ad mo : Nat → Nat} {u1 u2 : va_W} (h : Rel ct ad mo u1 u2) : ∃ fs, u2[0]? = some (mo 0, .inr (5, fs)) := by
  obtain ⟨da, nd, nb, nf, bdk, num, spt, val, tim, rep, byN, byS, pk, kn, pe, clk, tol, opn, thg, knd, dy, bof, std, xd, hI, hO, rfl, rfl⟩ := h
  exact ⟨_, rfl⟩
theorem V.lwret {p : Program} {l : Launch} {e : Env} {s : State} {m : MethodId} {below : List Frame} {meth : Method} {c : Code} {D : va_G} {ct : Nat → ClassId} {b : Nat} {cells slots pc : Nat} {ws : va_W} {lv : List (Nat × Value)} (F : Fx p m meth c code 4 s #[Value.ref b] R_L D (tyL ct) (fun q : Nat => s.heap.size ≤ q)) (hr : meth.sig.returnType = ret) (h1 : cells ≤ 600000) (h2 : slots ≤ 7302250) (hd : decode code pc = .ok (.ireturn, 1)) : V p l e room_1 s m #[Value.ref b] below meth c D (fun q : Nat => s.heap.size ≤ q) 4 cells slots (lw_Z below #[Value.ref b] s) ws lv pc [.int 1] := fun H locs ls hP hD hS hl => W.widen h1 h2 (va_forget (fun q hq => hS.2.2 q hq) (lw_ret F.1.1 F.1.2.1 hr F.2.2.2 hd))

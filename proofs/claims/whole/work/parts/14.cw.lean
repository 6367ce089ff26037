def oI (o : Option Nat) : Int32 := match o with
  | none => -1
  | some b => nI b
abbrev aI (ct : Nat → ClassId) (n : Nat) (g : Nat → Nat) : va_E := .inl (ct 0, n, .inl (nF g))
abbrev aL (ct : Nat → ClassId) (n : Nat) (f : Nat → Int64) : va_E := .inl (ct 1, n, .inr (.inl f))
def dkA (da : Nat → Nat → Nat) (nd : Nat) : Nat → Option Nat := fun j => if j < nd then some (da j 0) else none
def rpW (rep : Nat → Nat → Bool) : Nat → Int64 := fun j => wd (rep (j / 5)) (j % 5)
def fl (f : Nat → va_W) : Nat → va_W
  | 0 => []
  | n + 1 => fl f n ++ f n
theorem fl_len {f : Nat → va_W} (h : ∀ i, (f i).length = 5) : ∀ n, (fl f n).length = 5 * n
  | 0 => rfl
  | n + 1 => by rw [fl, List.length_append, fl_len h n, h n]; omega
theorem fl_get {f : Nat → va_W} (h : ∀ i, (f i).length = 5) : ∀ (n i j : Nat), i < n → j < 5 → (fl f n)[5 * i + j]? = (f i)[j]?
  | 0, i, j, hi, _ => absurd hi (Nat.not_lt_zero _)
  | n + 1, i, j, hi, hj => by
    rw [fl]
    by_cases hin : i < n
    · rw [List.getElem?_append_left (by rw [fl_len h n]; omega)]
      exact fl_get h n i j hin hj
    · have e : i = n := by omega
      subst e
      rw [List.getElem?_append_right (by rw [fl_len h i]; omega), fl_len h i, Nat.add_sub_cancel_left]
theorem fl_congr {f g : Nat → va_W} : ∀ {n : Nat}, (∀ i, i < n → f i = g i) → fl f n = fl g n
  | 0, _ => rfl
  | n + 1, H => by rw [fl, fl, fl_congr (fun i hi => H i (by omega)), H n (by omega)]
theorem fl_set {f g : Nat → va_W} (h : ∀ i, (f i).length = 5) {i j : Nat} {x : Nat × va_E} (hj : j < 5) (hg : ∀ k, k ≠ i → g k = f k) (hi : g i = (f i).set j x) : ∀ n, i < n → (fl f n).set (5 * i + j) x = fl g n
  | 0, hn => absurd hn (Nat.not_lt_zero _)
  | n + 1, hn => by
    rw [fl, fl]
    by_cases hin : i < n
    · rw [List.set_append_left _ _ (by rw [fl_len h n]; omega), fl_set h hj hg hi n hin, hg n (by omega)]
    · have e : i = n := by omega
      subst e
      rw [List.set_append_right _ _ (by rw [fl_len h i]; omega), fl_len h i, Nat.add_sub_cancel_left, hi, fl_congr (f := f) (g := g) (fun k hk => (hg k (by omega)).symm)]
abbrev dkC (ct : Nat → ClassId) (da : Nat → Nat → Nat) (kn : Nat → Nat → Bool) (pe : Nat → Nat → Bool) (clk : Nat → Nat) (tol : Nat → Nat) (opn : Nat → Option Nat) (i : Nat) : va_W := [(da i 0, .inr (3, [.int (nI i), .ref (da i 1), .ref (da i 3), .int (nI (clk i)), .int (nI (tol i)), .int (oI (opn i))])), (da i 1, .inr (1, [.ref (da i 2)])), (da i 2, aL ct 5 (wd (kn i))), (da i 3, .inr (1, [.ref (da i 4)])), (da i 4, aL ct 5 (wd (pe i)))]
def CW (ct : Nat → ClassId) (ad : Nat → Nat) (da : Nat → Nat → Nat) (nd : Nat) (nb : Nat) (nf : Nat) (bdk : Nat → Nat) (num : Nat → Nat) (spt : Nat → Nat) (val : Nat → Int64) (tim : Nat → Nat) (rep : Nat → Nat → Bool) (byN : Nat → Nat) (byS : Nat → Nat) (pk : Nat → Bool) (kn : Nat → Nat → Bool) (pe : Nat → Nat → Bool) (clk : Nat → Nat) (tol : Nat → Nat) (opn : Nat → Option Nat) : va_W := [(ad 0, .inr (0, [.ref (ad 1), .ref (ad 2), .ref (ad 3), .ref (ad 11), .int (nI nd), .int (nI nb)])), (ad 1, .inl (ct 2, 8, .inr (.inr (.inr (.inr (dkA da nd)))))), (ad 2, aI ct 40 bdk), (ad 3, .inr (2, [.ref (ad 4), .ref (ad 5), .ref (ad 6), .ref (ad 7), .ref (ad 8), .ref (ad 9), .ref (ad 10), .int (nI nf)])), (ad 4, aI ct 300 num), (ad 5, aI ct 300 spt), (ad 6, aL ct 300 val), (ad 7, aI ct 300 tim), (ad 8, aL ct 1500 (rpW rep)), (ad 9, aI ct 300 byN), (ad 10, aI ct 300 byS), (ad 11, .inr (1, [.ref (ad 12)])), (ad 12, aL ct 5 (wd pk))] ++ fl (dkC ct da kn pe clk tol opn) nd
section CWS
variable {ct : Nat → ClassId} {ad : Nat → Nat} {da : Nat → Nat → Nat} {nd : Nat} {nb : Nat} {nf : Nat} {bdk : Nat → Nat} {num : Nat → Nat} {spt : Nat → Nat} {val : Nat → Int64} {tim : Nat → Nat} {rep : Nat → Nat → Bool} {byN : Nat → Nat} {byS : Nat → Nat} {pk : Nat → Bool} {kn : Nat → Nat → Bool} {pe : Nat → Nat → Bool} {clk : Nat → Nat} {tol : Nat → Nat} {opn : Nat → Option Nat}
theorem cw_d0 {i : Nat} (h : i < nd) : (CW ct ad da nd nb nf bdk num spt val tim rep byN byS pk kn pe clk tol opn)[13 + (5 * i + 0)]? = some (da i 0, .inr (3, [.int (nI i), .ref (da i 1), .ref (da i 3), .int (nI (clk i)), .int (nI (tol i)), .int (oI (opn i))])) := by
  unfold CW
  rw [List.getElem?_append_right (by show 13 ≤ _; omega)]
  show (fl _ nd)[13 + (5 * i + 0) - 13]? = _
  rw [Nat.add_sub_cancel_left]
  exact fl_get (fun _ => rfl) nd i 0 h (by decide)
theorem cw_d1 {i : Nat} (h : i < nd) : (CW ct ad da nd nb nf bdk num spt val tim rep byN byS pk kn pe clk tol opn)[13 + (5 * i + 1)]? = some (da i 1, .inr (1, [.ref (da i 2)])) := by
  unfold CW
  rw [List.getElem?_append_right (by show 13 ≤ _; omega)]
  show (fl _ nd)[13 + (5 * i + 1) - 13]? = _
  rw [Nat.add_sub_cancel_left]
  exact fl_get (fun _ => rfl) nd i 1 h (by decide)
theorem cw_d2 {i : Nat} (h : i < nd) : (CW ct ad da nd nb nf bdk num spt val tim rep byN byS pk kn pe clk tol opn)[13 + (5 * i + 2)]? = some (da i 2, aL ct 5 (wd (kn i))) := by
  unfold CW
  rw [List.getElem?_append_right (by show 13 ≤ _; omega)]
  show (fl _ nd)[13 + (5 * i + 2) - 13]? = _
  rw [Nat.add_sub_cancel_left]
  exact fl_get (fun _ => rfl) nd i 2 h (by decide)
theorem cw_d3 {i : Nat} (h : i < nd) : (CW ct ad da nd nb nf bdk num spt val tim rep byN byS pk kn pe clk tol opn)[13 + (5 * i + 3)]? = some (da i 3, .inr (1, [.ref (da i 4)])) := by
  unfold CW
  rw [List.getElem?_append_right (by show 13 ≤ _; omega)]
  show (fl _ nd)[13 + (5 * i + 3) - 13]? = _
  rw [Nat.add_sub_cancel_left]
  exact fl_get (fun _ => rfl) nd i 3 h (by decide)
theorem cw_d4 {i : Nat} (h : i < nd) : (CW ct ad da nd nb nf bdk num spt val tim rep byN byS pk kn pe clk tol opn)[13 + (5 * i + 4)]? = some (da i 4, aL ct 5 (wd (pe i))) := by
  unfold CW
  rw [List.getElem?_append_right (by show 13 ≤ _; omega)]
  show (fl _ nd)[13 + (5 * i + 4) - 13]? = _
  rw [Nat.add_sub_cancel_left]
  exact fl_get (fun _ => rfl) nd i 4 h (by decide)
theorem cw_set_clk {i : Nat} {x : Nat} (h : i < nd) : (CW ct ad da nd nb nf bdk num spt val tim rep byN byS pk kn pe clk tol opn).set (13 + (5 * i + 0)) (da i 0, .inr (3, [.int (nI i), .ref (da i 1), .ref (da i 3), .int (nI x), .int (nI (tol i)), .int (oI (opn i))])) = CW ct ad da nd nb nf bdk num spt val tim rep byN byS pk kn pe (va_up clk i x) tol opn := by
  unfold CW
  rw [List.set_append_right _ _ (by show 13 ≤ _; omega)]
  show _ ++ (fl _ nd).set (13 + (5 * i + 0) - 13) _ = _
  rw [Nat.add_sub_cancel_left, fl_set (fun _ => rfl) (by decide : 0 < 5) (g := dkC ct da kn pe (va_up clk i x) tol opn) (fun k hk => by simp only [dkC, va_up_ne _ _ hk]) (by first | (simp only [dkC, va_up_self]; done) | (simp only [dkC, va_up_self]; rfl)) nd h]
theorem cw_set_tol {i : Nat} {x : Nat} (h : i < nd) : (CW ct ad da nd nb nf bdk num spt val tim rep byN byS pk kn pe clk tol opn).set (13 + (5 * i + 0)) (da i 0, .inr (3, [.int (nI i), .ref (da i 1), .ref (da i 3), .int (nI (clk i)), .int (nI x), .int (oI (opn i))])) = CW ct ad da nd nb nf bdk num spt val tim rep byN byS pk kn pe clk (va_up tol i x) opn := by
  unfold CW
  rw [List.set_append_right _ _ (by show 13 ≤ _; omega)]
  show _ ++ (fl _ nd).set (13 + (5 * i + 0) - 13) _ = _
  rw [Nat.add_sub_cancel_left, fl_set (fun _ => rfl) (by decide : 0 < 5) (g := dkC ct da kn pe clk (va_up tol i x) opn) (fun k hk => by simp only [dkC, va_up_ne _ _ hk]) (by first | (simp only [dkC, va_up_self]; done) | (simp only [dkC, va_up_self]; rfl)) nd h]
theorem cw_set_opn {i : Nat} {x : Option Nat} (h : i < nd) : (CW ct ad da nd nb nf bdk num spt val tim rep byN byS pk kn pe clk tol opn).set (13 + (5 * i + 0)) (da i 0, .inr (3, [.int (nI i), .ref (da i 1), .ref (da i 3), .int (nI (clk i)), .int (nI (tol i)), .int (oI x)])) = CW ct ad da nd nb nf bdk num spt val tim rep byN byS pk kn pe clk tol (va_up opn i x) := by
  unfold CW
  rw [List.set_append_right _ _ (by show 13 ≤ _; omega)]
  show _ ++ (fl _ nd).set (13 + (5 * i + 0) - 13) _ = _
  rw [Nat.add_sub_cancel_left, fl_set (fun _ => rfl) (by decide : 0 < 5) (g := dkC ct da kn pe clk tol (va_up opn i x)) (fun k hk => by simp only [dkC, va_up_ne _ _ hk]) (by first | (simp only [dkC, va_up_self]; done) | (simp only [dkC, va_up_self]; rfl)) nd h]
theorem cw_set_kn {i : Nat} {x : Nat → Bool} (h : i < nd) : (CW ct ad da nd nb nf bdk num spt val tim rep byN byS pk kn pe clk tol opn).set (13 + (5 * i + 2)) (da i 2, aL ct 5 (wd x)) = CW ct ad da nd nb nf bdk num spt val tim rep byN byS pk (va_up kn i x) pe clk tol opn := by
  unfold CW
  rw [List.set_append_right _ _ (by show 13 ≤ _; omega)]
  show _ ++ (fl _ nd).set (13 + (5 * i + 2) - 13) _ = _
  rw [Nat.add_sub_cancel_left, fl_set (fun _ => rfl) (by decide : 2 < 5) (g := dkC ct da (va_up kn i x) pe clk tol opn) (fun k hk => by simp only [dkC, va_up_ne _ _ hk]) (by first | (simp only [dkC, va_up_self]; done) | (simp only [dkC, va_up_self]; rfl)) nd h]
theorem cw_set_pe {i : Nat} {x : Nat → Bool} (h : i < nd) : (CW ct ad da nd nb nf bdk num spt val tim rep byN byS pk kn pe clk tol opn).set (13 + (5 * i + 4)) (da i 4, aL ct 5 (wd x)) = CW ct ad da nd nb nf bdk num spt val tim rep byN byS pk kn (va_up pe i x) clk tol opn := by
  unfold CW
  rw [List.set_append_right _ _ (by show 13 ≤ _; omega)]
  show _ ++ (fl _ nd).set (13 + (5 * i + 4) - 13) _ = _
  rw [Nat.add_sub_cancel_left, fl_set (fun _ => rfl) (by decide : 4 < 5) (g := dkC ct da kn (va_up pe i x) clk tol opn) (fun k hk => by simp only [dkC, va_up_ne _ _ hk]) (by first | (simp only [dkC, va_up_self]; done) | (simp only [dkC, va_up_self]; rfl)) nd h]
theorem cw_set_nb {x : Nat} : (CW ct ad da nd nb nf bdk num spt val tim rep byN byS pk kn pe clk tol opn).set 0 (ad 0, .inr (0, [.ref (ad 1), .ref (ad 2), .ref (ad 3), .ref (ad 11), .int (nI nd), .int (nI x)])) = CW ct ad da nd x nf bdk num spt val tim rep byN byS pk kn pe clk tol opn := rfl
theorem cw_set_nf {x : Nat} : (CW ct ad da nd nb nf bdk num spt val tim rep byN byS pk kn pe clk tol opn).set 3 (ad 3, .inr (2, [.ref (ad 4), .ref (ad 5), .ref (ad 6), .ref (ad 7), .ref (ad 8), .ref (ad 9), .ref (ad 10), .int (nI x)])) = CW ct ad da nd nb x bdk num spt val tim rep byN byS pk kn pe clk tol opn := rfl
theorem cw_set_bdk {x : Nat → Nat} : (CW ct ad da nd nb nf bdk num spt val tim rep byN byS pk kn pe clk tol opn).set 2 (ad 2, aI ct 40 x) = CW ct ad da nd nb nf x num spt val tim rep byN byS pk kn pe clk tol opn := rfl
theorem cw_set_num {x : Nat → Nat} : (CW ct ad da nd nb nf bdk num spt val tim rep byN byS pk kn pe clk tol opn).set 4 (ad 4, aI ct 300 x) = CW ct ad da nd nb nf bdk x spt val tim rep byN byS pk kn pe clk tol opn := rfl
theorem cw_set_spt {x : Nat → Nat} : (CW ct ad da nd nb nf bdk num spt val tim rep byN byS pk kn pe clk tol opn).set 5 (ad 5, aI ct 300 x) = CW ct ad da nd nb nf bdk num x val tim rep byN byS pk kn pe clk tol opn := rfl
theorem cw_set_tim {x : Nat → Nat} : (CW ct ad da nd nb nf bdk num spt val tim rep byN byS pk kn pe clk tol opn).set 7 (ad 7, aI ct 300 x) = CW ct ad da nd nb nf bdk num spt val x rep byN byS pk kn pe clk tol opn := rfl
theorem cw_set_byN {x : Nat → Nat} : (CW ct ad da nd nb nf bdk num spt val tim rep byN byS pk kn pe clk tol opn).set 9 (ad 9, aI ct 300 x) = CW ct ad da nd nb nf bdk num spt val tim rep x byS pk kn pe clk tol opn := rfl
theorem cw_set_byS {x : Nat → Nat} : (CW ct ad da nd nb nf bdk num spt val tim rep byN byS pk kn pe clk tol opn).set 10 (ad 10, aI ct 300 x) = CW ct ad da nd nb nf bdk num spt val tim rep byN x pk kn pe clk tol opn := rfl
theorem cw_set_val {x : Nat → Int64} : (CW ct ad da nd nb nf bdk num spt val tim rep byN byS pk kn pe clk tol opn).set 6 (ad 6, aL ct 300 x) = CW ct ad da nd nb nf bdk num spt x tim rep byN byS pk kn pe clk tol opn := rfl
theorem cw_set_rep {x : Nat → Nat → Bool} : (CW ct ad da nd nb nf bdk num spt val tim rep byN byS pk kn pe clk tol opn).set 8 (ad 8, aL ct 1500 (rpW x)) = CW ct ad da nd nb nf bdk num spt val tim x byN byS pk kn pe clk tol opn := rfl
theorem cw_set_pk {x : Nat → Bool} : (CW ct ad da nd nb nf bdk num spt val tim rep byN byS pk kn pe clk tol opn).set 12 (ad 12, aL ct 5 (wd x)) = CW ct ad da nd nb nf bdk num spt val tim rep byN byS x kn pe clk tol opn := rfl
def fsP : Option (Nat × Bool) → Nat
  | none => 11
  | some (i, false) => 13 + (5 * i + 1)
  | some (i, true) => 13 + (5 * i + 3)
def fsX : Option (Nat × Bool) → Nat
  | none => 12
  | some (i, false) => 13 + (5 * i + 2)
  | some (i, true) => 13 + (5 * i + 4)
def fsO (ad : Nat → Nat) (da : Nat → Nat → Nat) : Option (Nat × Bool) → Nat
  | none => ad 11
  | some (i, false) => da i 1
  | some (i, true) => da i 3
def fsW (ad : Nat → Nat) (da : Nat → Nat → Nat) : Option (Nat × Bool) → Nat
  | none => ad 12
  | some (i, false) => da i 2
  | some (i, true) => da i 4
def fsS (pk : Nat → Bool) (kn pe : Nat → Nat → Bool) : Option (Nat × Bool) → Nat → Bool
  | none => pk
  | some (i, false) => kn i
  | some (i, true) => pe i
def fsOk (nd : Nat) : Option (Nat × Bool) → Prop
  | none => True
  | some (i, _) => i < nd
def fsPk (q : Option (Nat × Bool)) (S pk : Nat → Bool) : Nat → Bool := match q with
  | none => S
  | _ => pk
def fsKn (q : Option (Nat × Bool)) (S : Nat → Bool) (kn : Nat → Nat → Bool) : Nat → Nat → Bool := match q with
  | some (i, false) => va_up kn i S
  | _ => kn
def fsPe (q : Option (Nat × Bool)) (S : Nat → Bool) (pe : Nat → Nat → Bool) : Nat → Nat → Bool := match q with
  | some (i, true) => va_up pe i S
  | _ => pe
theorem cw_fs {q : Option (Nat × Bool)} (h : fsOk nd q) : (CW ct ad da nd nb nf bdk num spt val tim rep byN byS pk kn pe clk tol opn)[fsP q]? = some (fsO ad da q, .inr (1, [.ref (fsW ad da q)])) := by
  match q, h with
  | none, _ => rfl
  | some (i, false), h => exact cw_d1 h
  | some (i, true), h => exact cw_d3 h
theorem cw_fw {q : Option (Nat × Bool)} (h : fsOk nd q) : (CW ct ad da nd nb nf bdk num spt val tim rep byN byS pk kn pe clk tol opn)[fsX q]? = some (fsW ad da q, aL ct 5 (wd (fsS pk kn pe q))) := by
  match q, h with
  | none, _ => rfl
  | some (i, false), h => exact cw_d2 h
  | some (i, true), h => exact cw_d4 h
theorem cw_set_fw {q : Option (Nat × Bool)} {S : Nat → Bool} (h : fsOk nd q) : (CW ct ad da nd nb nf bdk num spt val tim rep byN byS pk kn pe clk tol opn).set (fsX q) (fsW ad da q, aL ct 5 (wd S)) = CW ct ad da nd nb nf bdk num spt val tim rep byN byS (fsPk q S pk) (fsKn q S kn) (fsPe q S pe) clk tol opn := by
  match q, h with
  | none, _ => rfl
  | some (i, false), h => exact cw_set_kn h
  | some (i, true), h => exact cw_set_pe h
end CWS
theorem fsS_up {q : Option (Nat × Bool)} {S pk : Nat → Bool} {kn pe : Nat → Nat → Bool} : fsS (fsPk q S pk) (fsKn q S kn) (fsPe q S pe) q = S := by
  match q with
  | none => rfl
  | some (i, false) => exact va_up_self kn i S
  | some (i, true) => exact va_up_self pe i S
theorem fsPk2 {q : Option (Nat × Bool)} {S S2 pk : Nat → Bool} : fsPk q S2 (fsPk q S pk) = fsPk q S2 pk := by
  match q with
  | none => rfl
  | some (i, false) => rfl
  | some (i, true) => rfl
theorem fsKn2 {q : Option (Nat × Bool)} {S S2 : Nat → Bool} {kn : Nat → Nat → Bool} : fsKn q S2 (fsKn q S kn) = fsKn q S2 kn := by
  match q with
  | none => rfl
  | some (i, false) => exact bx_uu kn i S S2
  | some (i, true) => rfl
theorem fsPe2 {q : Option (Nat × Bool)} {S S2 : Nat → Bool} {pe : Nat → Nat → Bool} : fsPe q S2 (fsPe q S pe) = fsPe q S2 pe := by
  match q with
  | none => rfl
  | some (i, false) => rfl
  | some (i, true) => exact bx_uu pe i S S2
theorem va_up_id {α : Type} (f : Nat → α) (k : Nat) : va_up f k (f k) = f := by
  funext j
  by_cases h : j = k
  · subst h; exact va_up_self f j (f j)
  · exact va_up_ne f _ h
theorem fsPk0 {q : Option (Nat × Bool)} {pk : Nat → Bool} {kn pe : Nat → Nat → Bool} : fsPk q (fsS pk kn pe q) pk = pk := by
  match q with
  | none => rfl
  | some (i, false) => rfl
  | some (i, true) => rfl
theorem fsKn0 {q : Option (Nat × Bool)} {pk : Nat → Bool} {kn pe : Nat → Nat → Bool} : fsKn q (fsS pk kn pe q) kn = kn := by
  match q with
  | none => rfl
  | some (i, false) => exact va_up_id kn i
  | some (i, true) => rfl
theorem fsPe0 {q : Option (Nat × Bool)} {pk : Nat → Bool} {kn pe : Nat → Nat → Bool} : fsPe q (fsS pk kn pe q) pe = pe := by
  match q with
  | none => rfl
  | some (i, false) => rfl
  | some (i, true) => exact va_up_id pe i
theorem fsS_ne {q r : Option (Nat × Bool)} {S pk : Nat → Bool} {kn pe : Nat → Nat → Bool} (h : r ≠ q) : fsS (fsPk q S pk) (fsKn q S kn) (fsPe q S pe) r = fsS pk kn pe r := by
  match q, r, h with
  | none, none, h => exact absurd rfl h
  | none, some (i, false), _ => rfl
  | none, some (i, true), _ => rfl
  | some (i, false), none, _ => rfl
  | some (i, true), none, _ => rfl
  | some (i, false), some (j, true), _ => rfl
  | some (i, true), some (j, false), _ => rfl
  | some (i, false), some (j, false), h => exact va_up_ne kn S (fun e => h (by rw [e]))
  | some (i, true), some (j, true), h => exact va_up_ne pe S (fun e => h (by rw [e]))

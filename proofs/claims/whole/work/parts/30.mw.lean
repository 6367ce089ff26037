abbrev aM (ct : Nat → ClassId) (n : Nat) (g : Nat → Nat) : va_E := .inl (ct 1, n, .inr (.inl (fun j => lN (g j))))
abbrev aO (ct : Nat → ClassId) (n : Nat) (g : Nat → Option Nat) : va_E := .inl (ct 0, n, .inl (fun j => oI (g j)))
abbrev aB (ct : Nat → ClassId) (n : Nat) (g : Nat → Bool) : va_E := .inl (ct 3, n, .inl (fun j => bI (g j)))
abbrev aR (ct : Nat → ClassId) (rep : Nat → Nat → Bool) : va_E := .inl (ct 3, 90000, .inl (fun j => bI (rep (j % 300) (j / 300))))
abbrev aK (ct : Nat → ClassId) (kn : Nat → Nat → Bool) : va_E := .inl (ct 3, 2400, .inl (fun j => bI (kn (j / 300) (j % 300))))
def MW (ct : Nat → ClassId) (mo : Nat → Nat) (nd : Nat) (nb : Nat) (nf : Nat) (bdk : Nat → Nat) (num : Nat → Nat) (thg : Nat → Nat) (knd : Nat → Nat) (dy : Nat → Nat) (val : Nat → Int64) (tim : Nat → Nat) (rep : Nat → Nat → Bool) (kn : Nat → Nat → Bool) (clk : Nat → Nat) (tol : Nat → Nat) (opn : Nat → Option Nat) (bof : Nat → Option Nat) (std : Nat → Bool) (xd : Int64) : va_W := [(mo 0, .inr (5, [.int (nI nd), .ref (mo 1), .ref (mo 2), .ref (mo 3), .ref (mo 4), .ref (mo 5), .ref (mo 6), .ref (mo 7), .ref (mo 8), .ref (mo 9), .ref (mo 10), .ref (mo 11), .ref (mo 12), .int (nI nf), .ref (mo 13), .int (nI nb), .ref (mo 14), .long xd])), (mo 1, aM ct 8 clk), (mo 2, aI ct 8 tol), (mo 3, aO ct 8 opn), (mo 4, aI ct 300 num), (mo 5, aI ct 300 thg), (mo 6, aI ct 300 knd), (mo 7, aM ct 300 dy), (mo 8, aL ct 300 val), (mo 9, aM ct 300 tim), (mo 10, aO ct 300 bof), (mo 11, aR ct rep), (mo 12, aK ct kn), (mo 13, aI ct 40 bdk), (mo 14, aB ct 300 std)]
section MWS
variable {ct : Nat → ClassId} {mo : Nat → Nat} {nd : Nat} {nb : Nat} {nf : Nat} {bdk : Nat → Nat} {num : Nat → Nat} {thg : Nat → Nat} {knd : Nat → Nat} {dy : Nat → Nat} {val : Nat → Int64} {tim : Nat → Nat} {rep : Nat → Nat → Bool} {kn : Nat → Nat → Bool} {clk : Nat → Nat} {tol : Nat → Nat} {opn : Nat → Option Nat} {bof : Nat → Option Nat} {std : Nat → Bool} {xd : Int64}
theorem mw_set_nd {y : Nat} : (MW ct mo nd nb nf bdk num thg knd dy val tim rep kn clk tol opn bof std xd).set 0 (mo 0, .inr (5, [.int (nI y), .ref (mo 1), .ref (mo 2), .ref (mo 3), .ref (mo 4), .ref (mo 5), .ref (mo 6), .ref (mo 7), .ref (mo 8), .ref (mo 9), .ref (mo 10), .ref (mo 11), .ref (mo 12), .int (nI nf), .ref (mo 13), .int (nI nb), .ref (mo 14), .long xd])) = MW ct mo y nb nf bdk num thg knd dy val tim rep kn clk tol opn bof std xd := rfl
theorem mw_set_nb {y : Nat} : (MW ct mo nd nb nf bdk num thg knd dy val tim rep kn clk tol opn bof std xd).set 0 (mo 0, .inr (5, [.int (nI nd), .ref (mo 1), .ref (mo 2), .ref (mo 3), .ref (mo 4), .ref (mo 5), .ref (mo 6), .ref (mo 7), .ref (mo 8), .ref (mo 9), .ref (mo 10), .ref (mo 11), .ref (mo 12), .int (nI nf), .ref (mo 13), .int (nI y), .ref (mo 14), .long xd])) = MW ct mo nd y nf bdk num thg knd dy val tim rep kn clk tol opn bof std xd := rfl
theorem mw_set_nf {y : Nat} : (MW ct mo nd nb nf bdk num thg knd dy val tim rep kn clk tol opn bof std xd).set 0 (mo 0, .inr (5, [.int (nI nd), .ref (mo 1), .ref (mo 2), .ref (mo 3), .ref (mo 4), .ref (mo 5), .ref (mo 6), .ref (mo 7), .ref (mo 8), .ref (mo 9), .ref (mo 10), .ref (mo 11), .ref (mo 12), .int (nI y), .ref (mo 13), .int (nI nb), .ref (mo 14), .long xd])) = MW ct mo nd nb y bdk num thg knd dy val tim rep kn clk tol opn bof std xd := rfl
theorem mw_set_xd {y : Int64} : (MW ct mo nd nb nf bdk num thg knd dy val tim rep kn clk tol opn bof std xd).set 0 (mo 0, .inr (5, [.int (nI nd), .ref (mo 1), .ref (mo 2), .ref (mo 3), .ref (mo 4), .ref (mo 5), .ref (mo 6), .ref (mo 7), .ref (mo 8), .ref (mo 9), .ref (mo 10), .ref (mo 11), .ref (mo 12), .int (nI nf), .ref (mo 13), .int (nI nb), .ref (mo 14), .long y])) = MW ct mo nd nb nf bdk num thg knd dy val tim rep kn clk tol opn bof std y := rfl
theorem mw_set_clk {y : Nat → Nat} : (MW ct mo nd nb nf bdk num thg knd dy val tim rep kn clk tol opn bof std xd).set 1 (mo 1, aM ct 8 y) = MW ct mo nd nb nf bdk num thg knd dy val tim rep kn y tol opn bof std xd := rfl
theorem mw_set_tol {y : Nat → Nat} : (MW ct mo nd nb nf bdk num thg knd dy val tim rep kn clk tol opn bof std xd).set 2 (mo 2, aI ct 8 y) = MW ct mo nd nb nf bdk num thg knd dy val tim rep kn clk y opn bof std xd := rfl
theorem mw_set_opn {y : Nat → Option Nat} : (MW ct mo nd nb nf bdk num thg knd dy val tim rep kn clk tol opn bof std xd).set 3 (mo 3, aO ct 8 y) = MW ct mo nd nb nf bdk num thg knd dy val tim rep kn clk tol y bof std xd := rfl
theorem mw_set_num {y : Nat → Nat} : (MW ct mo nd nb nf bdk num thg knd dy val tim rep kn clk tol opn bof std xd).set 4 (mo 4, aI ct 300 y) = MW ct mo nd nb nf bdk y thg knd dy val tim rep kn clk tol opn bof std xd := rfl
theorem mw_set_thg {y : Nat → Nat} : (MW ct mo nd nb nf bdk num thg knd dy val tim rep kn clk tol opn bof std xd).set 5 (mo 5, aI ct 300 y) = MW ct mo nd nb nf bdk num y knd dy val tim rep kn clk tol opn bof std xd := rfl
theorem mw_set_knd {y : Nat → Nat} : (MW ct mo nd nb nf bdk num thg knd dy val tim rep kn clk tol opn bof std xd).set 6 (mo 6, aI ct 300 y) = MW ct mo nd nb nf bdk num thg y dy val tim rep kn clk tol opn bof std xd := rfl
theorem mw_set_dy {y : Nat → Nat} : (MW ct mo nd nb nf bdk num thg knd dy val tim rep kn clk tol opn bof std xd).set 7 (mo 7, aM ct 300 y) = MW ct mo nd nb nf bdk num thg knd y val tim rep kn clk tol opn bof std xd := rfl
theorem mw_set_val {y : Nat → Int64} : (MW ct mo nd nb nf bdk num thg knd dy val tim rep kn clk tol opn bof std xd).set 8 (mo 8, aL ct 300 y) = MW ct mo nd nb nf bdk num thg knd dy y tim rep kn clk tol opn bof std xd := rfl
theorem mw_set_tim {y : Nat → Nat} : (MW ct mo nd nb nf bdk num thg knd dy val tim rep kn clk tol opn bof std xd).set 9 (mo 9, aM ct 300 y) = MW ct mo nd nb nf bdk num thg knd dy val y rep kn clk tol opn bof std xd := rfl
theorem mw_set_bof {y : Nat → Option Nat} : (MW ct mo nd nb nf bdk num thg knd dy val tim rep kn clk tol opn bof std xd).set 10 (mo 10, aO ct 300 y) = MW ct mo nd nb nf bdk num thg knd dy val tim rep kn clk tol opn y std xd := rfl
theorem mw_set_rep {y : Nat → Nat → Bool} : (MW ct mo nd nb nf bdk num thg knd dy val tim rep kn clk tol opn bof std xd).set 11 (mo 11, aR ct y) = MW ct mo nd nb nf bdk num thg knd dy val tim y kn clk tol opn bof std xd := rfl
theorem mw_set_kn {y : Nat → Nat → Bool} : (MW ct mo nd nb nf bdk num thg knd dy val tim rep kn clk tol opn bof std xd).set 12 (mo 12, aK ct y) = MW ct mo nd nb nf bdk num thg knd dy val tim rep y clk tol opn bof std xd := rfl
theorem mw_set_bdk {y : Nat → Nat} : (MW ct mo nd nb nf bdk num thg knd dy val tim rep kn clk tol opn bof std xd).set 13 (mo 13, aI ct 40 y) = MW ct mo nd nb nf y num thg knd dy val tim rep kn clk tol opn bof std xd := rfl
theorem mw_set_std {y : Nat → Bool} : (MW ct mo nd nb nf bdk num thg knd dy val tim rep kn clk tol opn bof std xd).set 14 (mo 14, aB ct 300 y) = MW ct mo nd nb nf bdk num thg knd dy val tim rep kn clk tol opn bof y xd := rfl
end MWS
theorem updL_lN (g : Nat → Nat) (i x : Nat) : vp_updL (fun j => lN (g j)) i (lN x) = fun j => lN (va_up g i x j) := by
  funext j
  by_cases h : j = i
  · subst h; rw [va_up_self]; simp [vp_updL]
  · rw [va_up_ne _ _ h]; simp [vp_updL, h]
theorem upd_oI (g : Nat → Option Nat) (i : Nat) (x : Option Nat) : upd (fun j => oI (g j)) i (oI x) = fun j => oI (va_up g i x j) := by
  funext j
  by_cases h : j = i
  · subst h; rw [va_up_self]; simp [upd]
  · rw [va_up_ne _ _ h]; simp [upd, h]
theorem upd_bI (g : Nat → Bool) (i : Nat) (x : Bool) : upd (fun j => bI (g j)) i (bI x) = fun j => bI (va_up g i x j) := by
  funext j
  by_cases h : j = i
  · subst h; rw [va_up_self]; simp [upd]
  · rw [va_up_ne _ _ h]; simp [upd, h]
def up2 (g : Nat → Nat → Bool) (a b : Nat) (x : Bool) : Nat → Nat → Bool := fun i j => if i = a ∧ j = b then x else g i j
theorem kn_at {kn : Nat → Nat → Bool} {d f : Nat} (h : f < 300) : (fun j => bI (kn (j / 300) (j % 300))) (d * 300 + f) = bI (kn d f) := by
  show bI (kn ((d * 300 + f) / 300) ((d * 300 + f) % 300)) = _
  rw [show (d * 300 + f) / 300 = d by omega, show (d * 300 + f) % 300 = f by omega]
theorem rp_at {rep : Nat → Nat → Bool} {g f : Nat} (h : f < 300) : (fun j => bI (rep (j % 300) (j / 300))) (g * 300 + f) = bI (rep f g) := by
  show bI (rep ((g * 300 + f) % 300) ((g * 300 + f) / 300)) = _
  rw [show (g * 300 + f) / 300 = g by omega, show (g * 300 + f) % 300 = f by omega]
theorem kn_up {kn : Nat → Nat → Bool} {d f : Nat} {x : Bool} (h : f < 300) : upd (fun j => bI (kn (j / 300) (j % 300))) (d * 300 + f) (bI x) = fun j => bI (up2 kn d f x (j / 300) (j % 300)) := by
  funext j
  unfold up2
  by_cases e : j = d * 300 + f
  · subst e
    rw [if_pos ⟨by omega, by omega⟩]
    simp [upd]
  · rw [if_neg (by omega)]
    simp [upd, e]
theorem rp_up {rep : Nat → Nat → Bool} {g f : Nat} {x : Bool} (h : f < 300) : upd (fun j => bI (rep (j % 300) (j / 300))) (g * 300 + f) (bI x) = fun j => bI (up2 rep f g x (j % 300) (j / 300)) := by
  funext j
  unfold up2
  by_cases e : j = g * 300 + f
  · subst e
    rw [if_pos ⟨by omega, by omega⟩]
    simp [upd]
  · rw [if_neg (by omega)]
    simp [upd, e]

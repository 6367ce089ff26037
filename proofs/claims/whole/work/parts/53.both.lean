def Rel (ct : Nat → ClassId) (ad mo : Nat → Nat) (u1 u2 : va_W) : Prop := ∃ (da : Nat → Nat → Nat) (nd : Nat) (nb : Nat) (nf : Nat) (bdk : Nat → Nat) (num : Nat → Nat) (spt : Nat → Nat) (val : Nat → Int64) (tim : Nat → Nat) (rep : Nat → Nat → Bool) (byN : Nat → Nat) (byS : Nat → Nat) (pk : Nat → Bool) (kn : Nat → Nat → Bool) (pe : Nat → Nat → Bool) (clk : Nat → Nat) (tol : Nat → Nat) (opn : Nat → Option Nat) (thg : Nat → Nat) (knd : Nat → Nat) (dy : Nat → Nat) (bof : Nat → Option Nat) (std : Nat → Bool) (xd : Int64), Inv nd nb nf bdk num spt tim rep kn pe clk tol opn thg knd dy bof ∧ Ord nf num spt byN byS ∧ u1 = CW ct ad da nd nb nf bdk num spt val tim rep byN byS pk kn pe clk tol opn ∧ u2 = MW ct mo nd nb nf bdk num thg knd dy val tim rep kn clk tol opn bof std xd
theorem Rel.mk {ct : Nat → ClassId} {ad : Nat → Nat} {mo : Nat → Nat} {da : Nat → Nat → Nat} {nd : Nat} {nb : Nat} {nf : Nat} {bdk : Nat → Nat} {num : Nat → Nat} {spt : Nat → Nat} {val : Nat → Int64} {tim : Nat → Nat} {rep : Nat → Nat → Bool} {byN : Nat → Nat} {byS : Nat → Nat} {pk : Nat → Bool} {kn : Nat → Nat → Bool} {pe : Nat → Nat → Bool} {clk : Nat → Nat} {tol : Nat → Nat} {opn : Nat → Option Nat} {thg : Nat → Nat} {knd : Nat → Nat} {dy : Nat → Nat} {bof : Nat → Option Nat} {std : Nat → Bool} {xd : Int64} (hI : Inv nd nb nf bdk num spt tim rep kn pe clk tol opn thg knd dy bof) (hO : Ord nf num spt byN byS) : Rel ct ad mo (CW ct ad da nd nb nf bdk num spt val tim rep byN byS pk kn pe clk tol opn) (MW ct mo nd nb nf bdk num thg knd dy val tim rep kn clk tol opn bof std xd) := ⟨da, nd, nb, nf, bdk, num, spt, val, tim, rep, byN, byS, pk, kn, pe, clk, tol, opn, thg, knd, dy, bof, std, xd, hI, hO, rfl, rfl⟩

def BoI (l : Launch) (D : va_G) (ct : Nat → ClassId) (ad mo : Nat → Nat) (u1 u2 : va_W) (y1 : MethodName) (b1 : ByteArray) (m1 : Nat) (r1 : Option FieldType) (k1 c1 s1 : Nat) (y2 : MethodName) (b2 : ByteArray) (m2 : Nat) (r2 : Option FieldType) (k2 c2 s2 : Nat) (As : List Value) : Prop := ∃ (p1 p2 : Int32 → va_W → Prop), CI l y1 b1 m1 r1 (rmK k1 c1 s1) D (tyL ct) u1 (.ref (ad 0) :: As) c1 s1 p1 ∧ CI l y2 b2 m2 r2 (rmK k2 c2 s2) D (tyL ct) u2 (.ref (mo 0) :: As) c2 s2 p2 ∧ ∀ a b v w, p1 a v → p2 b w → a = b ∧ Rel ct ad mo v w

def BoL (l : Launch) (D : va_G) (ct : Nat → ClassId) (ad mo : Nat → Nat) (u1 u2 : va_W) (y1 : MethodName) (b1 : ByteArray) (m1 : Nat) (r1 : Option FieldType) (k1 c1 s1 : Nat) (y2 : MethodName) (b2 : ByteArray) (m2 : Nat) (r2 : Option FieldType) (k2 c2 s2 : Nat) (As : List Value) : Prop := ∃ (p1 p2 : Int64 → va_W → Prop), CL l y1 b1 m1 r1 (rmK k1 c1 s1) D (tyL ct) u1 (.ref (ad 0) :: As) c1 s1 p1 ∧ CL l y2 b2 m2 r2 (rmK k2 c2 s2) D (tyL ct) u2 (.ref (mo 0) :: As) c2 s2 p2 ∧ ∀ a b v w, p1 a v → p2 b w → a = b ∧ Rel ct ad mo v w

section BO
variable {ct : Nat → ClassId} {ad : Nat → Nat} {mo : Nat → Nat} {da : Nat → Nat → Nat} {nd : Nat} {nb : Nat} {nf : Nat} {bdk : Nat → Nat} {num : Nat → Nat} {spt : Nat → Nat} {val : Nat → Int64} {tim : Nat → Nat} {rep : Nat → Nat → Bool} {byN : Nat → Nat} {byS : Nat → Nat} {pk : Nat → Bool} {kn : Nat → Nat → Bool} {pe : Nat → Nat → Bool} {clk : Nat → Nat} {tol : Nat → Nat} {opn : Nat → Option Nat} {thg : Nat → Nat} {knd : Nat → Nat} {dy : Nat → Nat} {bof : Nat → Option Nat} {std : Nat → Bool} {xd : Int64}
theorem Inv.numB (h : Inv nd nb nf bdk num spt tim rep kn pe clk tol opn thg knd dy bof) : ∀ k, k < nf → num k < 2 ^ 31 := fun k hk => by
  have h1 := h.2.1 k hk
  have h2 := (h.2.2.1 _ h1.1).1
  have h3 := h.1.2.2.1
  omega
theorem Inv.sptB (h : Inv nd nb nf bdk num spt tim rep kn pe clk tol opn thg knd dy bof) : ∀ k, k < nf → spt k < 2 ^ 31 := fun k hk => by
  obtain ⟨e, a, b, c⟩ := h.1.2.2.2 k hk
  omega
theorem Inv.timB (h : Inv nd nb nf bdk num spt tim rep kn pe clk tol opn thg knd dy bof) : ∀ k, k < nf → tim k < 2 ^ 31 := fun k hk => by
  have := h.2.2.2.1 k hk
  have := h.1.2.2.1
  omega
theorem Inv.tolB (h : Inv nd nb nf bdk num spt tim rep kn pe clk tol opn thg knd dy bof) : ∀ d, d < nd → tol d ≤ 300 ∧ clk d < 2 ^ 31 := fun d hd => by
  have := h.2.2.1 d hd
  have := h.1.2.2.1
  omega
theorem Inv.opnB (h : Inv nd nb nf bdk num spt tim rep kn pe clk tol opn thg knd dy bof) : ∀ d, d < nd → ∀ b, opn d = some b → b < 2 ^ 31 := fun d hd b hb => by
  have := (h.2.2.2.2.2.2.2.1 d hd b hb).1
  have := h.1.2.1
  omega
theorem Inv.bofB (h : Inv nd nb nf bdk num spt tim rep kn pe clk tol opn thg knd dy bof) : ∀ k, k < nf → ∀ b, bof k = some b → b < 2 ^ 31 := fun k hk b hb => by
  have := h.2.2.2.2.2.2.2.2.2.1 k hk b hb
  have := h.1.2.1
  omega
theorem Inv.fresh (h : Inv nd nb nf bdk num spt tim rep kn pe clk tol opn thg knd dy bof) {d : Nat} (_ : d < nd) : ∀ f, f < nf → num f ≠ 8 * tol d + d := fun f hf q => by
  obtain ⟨c1, c2⟩ := h.2.1 f hf
  have h1 := h.1.1
  rw [q, show (8 * tol d + d) % 8 = d by omega, show (8 * tol d + d) / 8 = tol d by omega] at c2
  omega
theorem rel_tell (hI : Inv nd nb nf bdk num spt tim rep kn pe clk tol opn thg knd dy bof) (hO : Ord nf num spt byN byS) {d sp t k y p1 p2 : Nat} {v : Int64} {Rp : Nat → Nat → Bool} {B1 B2 : Nat → Nat} {pk2 std2 : Nat → Bool} {xd2 : Int64} (hd : d < nd) (hlt : nf < 300) (hsp : sp = (t * 10 + k) * 100001 + y) (ht : t < 100) (hk : k < 10) (hy : y < 100001) (hR : ∀ o n, Rp o n = true → o < n ∧ n < nf + 1) (h1 : PiO nf p1 B1 byN (va_up num nf (8 * tol d + d))) (h2 : PiO nf p2 B2 byS (va_up spt nf sp)) : Rel ct ad mo (CW ct ad da nd nb (nf + 1) bdk (va_up num nf (8 * tol d + d)) (va_up spt nf sp) (va_up val nf v) (va_up tim nf (clk d + 1)) Rp B1 B2 pk2 (knH opn kn d nf) (peH opn pe d nf) (va_up clk d (clk d + 1)) (va_up tol d (tol d + 1)) opn) (MW ct mo nd nb (nf + 1) bdk (va_up num nf (8 * tol d + d)) (va_up thg nf t) (va_up knd nf k) (va_up dy nf y) (va_up val nf v) (va_up tim nf (clk d + 1)) Rp (up2 kn d nf (oB (opn d))) (va_up clk d (clk d + 1)) (va_up tol d (tol d + 1)) opn (va_up bof nf (opn d)) std2 xd2) := by
  rw [← knH_up2 hI.2.2.2.2.1 d]
  exact Rel.mk (inv_tell hI hd hlt hsp ht hk hy hR) (ord_tell hO (hI.fresh hd) h1 h2)
end BO
theorem bad_or (t k : Int32) (y : Int64) : (t < 0 ∨ nI 100 ≤ t ∨ k < 0 ∨ nI 10 ≤ k ∨ y < 0 ∨ 100000 < y) ∨ ∃ t1 k1 y1 : Nat, t1 < 100 ∧ k1 < 10 ∧ y1 < 100001 ∧ t = nI t1 ∧ k = nI k1 ∧ y = lN y1 := by
  rcases pk_ix t (n := 100) (by decide) with h | h | ⟨t1, h1, e1⟩
  · exact Or.inl (Or.inl h)
  · exact Or.inl (Or.inr (Or.inl h))
  rcases pk_ix k (n := 10) (by decide) with h | h | ⟨k1, h2, e2⟩
  · exact Or.inl (Or.inr (Or.inr (Or.inl h)))
  · exact Or.inl (Or.inr (Or.inr (Or.inr (Or.inl h))))
  by_cases hy : y < 0
  · exact Or.inl (Or.inr (Or.inr (Or.inr (Or.inr (Or.inl hy)))))
  obtain ⟨y1, h3, e3⟩ := pk_lOf hy
  by_cases hy2 : (100000 : Int64) < y
  · exact Or.inl (Or.inr (Or.inr (Or.inr (Or.inr (Or.inr hy2)))))
  refine Or.inr ⟨t1, k1, y1, h1, h2, ?_, e1, e2, e3⟩
  rw [e3] at hy2
  have : ¬ 100000 < y1 := fun q => hy2 ((pk_lLT (a := 100000) (by decide) h3).mpr q)
  omega
theorem tk_or (t k : Int32) : decide (¬ t < 0 ∧ ¬ nI 100 ≤ t ∧ ¬ k < 0 ∧ ¬ nI 10 ≤ k) = false ∨ ∃ t1 k1 : Nat, t1 < 100 ∧ k1 < 10 ∧ t = nI t1 ∧ k = nI k1 := by
  rcases pk_ix t (n := 100) (by decide) with h | h | ⟨t1, h1, e1⟩
  · exact Or.inl (decide_eq_false (fun q => q.1 h))
  · exact Or.inl (decide_eq_false (fun q => q.2.1 h))
  rcases pk_ix k (n := 10) (by decide) with h | h | ⟨k1, h2, e2⟩
  · exact Or.inl (decide_eq_false (fun q => q.2.2.1 h))
  · exact Or.inl (decide_eq_false (fun q => q.2.2.2 h))
  exact Or.inr ⟨t1, k1, h1, h2, e1, e2⟩
theorem dk_or (x : Int32) {nd : Nat} (h : nd ≤ 8) : (x < 0 ∨ nI nd ≤ x) ∨ ∃ d, d < nd ∧ x = nI d := by
  rcases pk_ix x (n := nd) (by omega) with q | q | q
  · exact Or.inl (Or.inl q)
  · exact Or.inl (Or.inr q)
  · exact Or.inr q

set_option maxHeartbeats 1000000 in
theorem both_desk (l : Launch) (D : va_G) {ct : Nat → ClassId} {ad mo : Nat → Nat} {u1 u2 : va_W} (h : Rel ct ad mo u1 u2)  : BoI l D ct ad mo u1 u2 y_T_desk b_T_desk 2 (some .int) 3 5 18 y_M_desk b_M_desk 1 (some .int) 0 0 0 [] := by
  obtain ⟨da, nd, nb, nf, bdk, num, spt, val, tim, rep, byN, byS, pk, kn, pe, clk, tol, opn, thg, knd, dy, bof, std, xd, hI, hO, rfl, rfl⟩ := h
  by_cases hd : nd < 8
  · obtain ⟨z1, z2, z3, z4⟩ := inv_zero hI (Nat.le_refl nd)
    refine ⟨_, _, c_desk l D hd z1 z2 z3 z4, m_desk l D hd, fun a b v w h1 h2 => ?_⟩
    obtain ⟨e1, q, a1, a2, a3, a4, e2⟩ := h1
    exact ⟨e1.trans h2.1.symm, by rw [e2, h2.2]; exact Rel.mk (inv_desk hI hd) hO⟩
  · have hd : nd = 8 := by have := hI.1.1; omega
    exact ⟨_, _, c_deskFull l D hd, m_deskFull l D hd, fun a b v w h1 h2 => ⟨h1.1.trans h2.1.symm, by rw [h1.2, h2.2]; exact Rel.mk hI hO⟩⟩

set_option maxHeartbeats 1000000 in
theorem both_tell (l : Launch) (D : va_G) {ct : Nat → ClassId} {ad mo : Nat → Nat} {u1 u2 : va_W} (h : Rel ct ad mo u1 u2) (x t k : Int32) (y v : Int64) : BoI l D ct ad mo u1 u2 y_T_tell b_T_tell 9 (some .int) 4 0 0 y_M_tell b_M_tell 8 (some .int) 1 0 0 [.int x, .int t, .int k, .long y, .long v] := by
  obtain ⟨da, nd, nb, nf, bdk, num, spt, val, tim, rep, byN, byS, pk, kn, pe, clk, tol, opn, thg, knd, dy, bof, std, xd, hI, hO, rfl, rfl⟩ := h
  have hnd := hI.1.1
  have hnf := hI.1.2.2.1
  rcases dk_or x hnd with hx | ⟨d, hd, rfl⟩
  · exact ⟨_, _, c_tellNo l D x t k y v hx, m_tellNo l D x t k y v hx, fun a b v w h1 h2 => ⟨h1.1.trans h2.1.symm, by rw [h1.2, h2.2]; exact Rel.mk hI hO⟩⟩
  rcases bad_or t k y with hz | ⟨t1, k1, y1, ht, hk, hy, rfl, rfl, rfl⟩
  · exact ⟨_, _, c_tellBad l D hnd d hd t k y v hz, m_tellBad l D hnd d hd t k y v hz, fun a b v w h1 h2 => ⟨h1.1.trans h2.1.symm, by rw [h1.2, h2.2]; exact Rel.mk hI hO⟩⟩
  by_cases hlt : nf < 300
  · refine ⟨_, _, c_tell l D hnd d hd t1 k1 y1 v ht hk hy hlt hO.1 hO.2.2.2.1 hI.numB hI.sptB (hI.tolB d hd).1 (hI.opnB d hd), m_tell l D hlt hnd d hd t1 k1 y1 v ht hk hy (hI.opnB d hd), fun a b u w h1 h2 => ?_⟩
    obtain ⟨e1, Rp, p1, p2, B1, B2, hR, hB1, hB2, e2⟩ := h1
    have eR : Rp = rep := by
      funext o9 n9
      rw [hR o9 n9]
      show (rep o9 n9 || (decide (o9 < nf) && ((decide (5 ≤ o9 / 64) && pk o9) && decide (n9 = nf)))) = rep o9 n9
      by_cases q : o9 < nf
      · rw [show (decide (5 ≤ o9 / 64) && pk o9) = false by rw [decide_eq_false (by omega)]; rfl, Bool.false_and, Bool.and_false, Bool.or_false]
      · rw [decide_eq_false q, Bool.false_and, Bool.or_false]
    subst eR
    refine ⟨e1.trans h2.1.symm, ?_⟩
    rw [e2, h2.2]
    exact rel_tell hI hO hd hlt rfl ht hk hy (fun o n q => by have := hI.2.2.2.2.2.2.2.2.2.2.1 o n q; omega) hB1 hB2
  · have hn : nf = 300 := by omega
    exact ⟨_, _, c_tellFull l D hnd d hd t1 k1 y1 v ht hk hy hn, m_tellFull l D hnd d hd t1 k1 y1 v ht hk hy hn, fun a b v w h1 h2 => ⟨h1.1.trans h2.1.symm, by rw [h1.2, h2.2]; exact Rel.mk hI hO⟩⟩

set_option maxHeartbeats 1000000 in
theorem both_correct (l : Launch) (D : va_G) {ct : Nat → ClassId} {ad mo : Nat → Nat} {u1 u2 : va_W} (h : Rel ct ad mo u1 u2) (x f : Int32) (v : Int64) : BoI l D ct ad mo u1 u2 y_T_correct b_T_correct 7 (some .int) 4 0 0 y_M_correct b_M_correct 7 (some .int) 1 0 0 [.int x, .int f, .long v] := by
  obtain ⟨da, nd, nb, nf, bdk, num, spt, val, tim, rep, byN, byS, pk, kn, pe, clk, tol, opn, thg, knd, dy, bof, std, xd, hI, hO, rfl, rfl⟩ := h
  have hnd := hI.1.1
  have hnf := hI.1.2.2.1
  rcases dk_or x hnd with hx | ⟨d, hd, rfl⟩
  · exact ⟨_, _, c_corNoD l D hnf x f v hx, m_corNoD l D x f v hx, fun a b v w h1 h2 => ⟨h1.1.trans h2.1.symm, by rw [h1.2, h2.2]; exact Rel.mk hI hO⟩⟩
  by_cases hex : ∃ g, g < nf ∧ nI (num g) = f
  · obtain ⟨g, ⟨hg, hgx⟩, hmin⟩ := pk_least (fun g => g < nf ∧ nI (num g) = f) hex
    have hgm : ∀ k, k < g → ¬ nI (num k) = f := fun k hk q => hmin k hk ⟨by omega, q⟩
    have hst := st_lk hI d g
    cases hs : stB (kn d) rep g with
    | false =>
      rw [hs] at hst
      refine ⟨_, _, c_corNS l D hnf hnd d hd f v g hg hgx hgm hs, m_corNS l D hnf hnd d hd f v g hg hgx hgm hst, fun a b v w h1 h2 => ?_⟩
      obtain ⟨e1, P, e2⟩ := h2
      exact ⟨h1.1.trans e1.symm, by rw [h1.2, e2]; exact Rel.mk hI hO⟩
    | true =>
      rw [hs] at hst
      by_cases hlt : nf < 300
      · refine ⟨_, _, c_cor l D hnd d hd f v g hg hgx hgm hs hlt hO.1 hO.2.2.2.1 hI.numB hI.sptB (hI.tolB d hd).1 (hI.opnB d hd), m_cor l D hlt hnd d hd f v g hg hgx hgm hst (hI.opnB d hd), fun a b u w h1 h2 => ?_⟩
        obtain ⟨e1, Rp, p1, p2, B1, B2, hR, hB1, hB2, e2⟩ := h1
        obtain ⟨e3, P, e4⟩ := h2
        have h0 : ∀ o9, rep o9 nf = false := fun o9 => bf (fun q => by have := hI.2.2.2.2.2.2.2.2.2.2.1 o9 nf q; omega)
        have eR : Rp = up2 rep g nf true := by
          funext o9 n9
          rw [hR o9 n9]
          show (rep o9 n9 || (decide (o9 < nf) && (((decide (5 ≤ o9 / 64) && pk o9) || decide (o9 = g)) && decide (n9 = nf)))) = _
          unfold up2
          by_cases q : o9 = g ∧ n9 = nf
          · rw [if_pos q, q.1, q.2, decide_eq_true hg, show decide (g = g) = true from decide_eq_true rfl, decide_eq_true rfl, Bool.or_true, Bool.true_and, Bool.true_and, Bool.or_true]
          · rw [if_neg q]
            by_cases q2 : o9 < nf
            · rw [show (decide (5 ≤ o9 / 64) && pk o9) = false by rw [decide_eq_false (by omega)]; rfl, Bool.false_or]
              by_cases q3 : o9 = g
              · rw [decide_eq_false (fun z => q ⟨q3, z⟩), Bool.and_false, Bool.and_false, Bool.or_false]
              · rw [decide_eq_false q3, Bool.false_and, Bool.and_false, Bool.or_false]
            · rw [decide_eq_false q2, Bool.false_and, Bool.or_false]
        subst eR
        refine ⟨e1.trans e3.symm, ?_⟩
        rw [e2, e4]
        obtain ⟨s1, s2, s3, s4⟩ := hI.1.2.2.2 g hg
        exact rel_tell hI hO hd hlt s1 s2 s3 s4 (fun o n q => by
          unfold up2 at q
          by_cases z : o = g ∧ n = nf
          · omega
          · rw [if_neg z] at q
            have := hI.2.2.2.2.2.2.2.2.2.2.1 o n q
            omega) hB1 hB2
      · have hn : nf = 300 := by omega
        refine ⟨_, _, c_corFull l D hnd d hd f v g hg hgx hgm hs hn, m_corFull l D hnd d hd f v g hg hgx hgm hst hn, fun a b v w h1 h2 => ?_⟩
        obtain ⟨e1, P, e2⟩ := h2
        exact ⟨h1.1.trans e1.symm, by rw [h1.2, e2]; exact Rel.mk hI hO⟩
  · have hnn : ∀ k, k < nf → ¬ nI (num k) = f := fun k hk q => hex ⟨k, hk, q⟩
    exact ⟨_, _, c_corNF l D hnf hnd d hd f v hnn, m_corNF l D hnf hnd d hd f v hnn, fun a b v w h1 h2 => ⟨h1.1.trans h2.1.symm, by rw [h1.2, h2.2]; exact Rel.mk hI hO⟩⟩

set_option maxHeartbeats 1000000 in
theorem both_join (l : Launch) (D : va_G) {ct : Nat → ClassId} {ad mo : Nat → Nat} {u1 u2 : va_W} (h : Rel ct ad mo u1 u2) (x y : Int32) : BoI l D ct ad mo u1 u2 y_T_join b_T_join 4 (some .int) 5 0 0 y_M_join b_M_join 4 (some .int) 3 0 0 [.int x, .int y] := by
  obtain ⟨da, nd, nb, nf, bdk, num, spt, val, tim, rep, byN, byS, pk, kn, pe, clk, tol, opn, thg, knd, dy, bof, std, xd, hI, hO, rfl, rfl⟩ := h
  have hnd := hI.1.1
  have hnf := hI.1.2.2.1
  rcases dk_or x hnd with hx | ⟨d, hd, rfl⟩
  · rcases dk_or y hnd with hy | ⟨d2, hd2, rfl⟩
    · exact ⟨_, _, c_joinNo1c l D x hx y hy, m_joinNo1 l D x y hx, fun a b v w h1 h2 => ⟨h1.1.trans h2.1.symm, by rw [h1.2, h2.2]; exact Rel.mk hI hO⟩⟩
    · exact ⟨_, _, c_joinNo1b l D x hx hnd d2 hd2, m_joinNo1 l D x (nI d2) hx, fun a b v w h1 h2 => ⟨h1.1.trans h2.1.symm, by rw [h1.2, h2.2]; exact Rel.mk hI hO⟩⟩
  rcases dk_or y hnd with hy | ⟨d2, hd2, rfl⟩
  · exact ⟨_, _, c_joinNo2 l D hnd d hd y hy, m_joinNo2 l D hnd d hd y hy, fun a b v w h1 h2 => ⟨h1.1.trans h2.1.symm, by rw [h1.2, h2.2]; exact Rel.mk hI hO⟩⟩
  by_cases e : d2 = d
  · subst e
    exact ⟨_, _, c_joinSame l D hnd d2 hd2, m_joinSame l D hnd d2 hd2, fun a b v w h1 h2 => ⟨h1.1.trans h2.1.symm, by rw [h1.2, h2.2]; exact Rel.mk hI hO⟩⟩
  refine ⟨_, _, c_join l D hnf hnd d hd hO.2.2.2.1 hI.sptB hO.2.2.2.2.2 hO.2.2.2.2.1 d2 hd2 e (hI.tolB d hd).2 (hI.tolB d2 hd2).2, m_join l D hnf hnd d hd spt hI.1.2.2.2 d2 hd2 e (hI.tolB d hd).2 (hI.tolB d2 hd2).2, fun a b v w h1 h2 => ?_⟩
  obtain ⟨P, hP, e1, e2⟩ := h2
  have hJ := jn_eq hI.2.2.2.2.1 hnf d d2
  have hI2 := inv_join hI hd hd2
  have eD : jn kn d d2 nf d = fun k => kn d k || (decide (k / 64 < 5) && kn d2 k) := by rw [← hJ, va_up_self]
  refine ⟨?_, by rw [h1.2, e2, hJ]; exact Rel.mk hI2 hO⟩
  rw [h1.1, e1, ← eD, tie_count hO hI.sptB]
  refine congrArg nI ?_
  refine cnt_ext (fun f hf => fcB_congr hf (fun g hg => ?_))
  rw [hP g hg, st_lk hI2 d g]

set_option maxHeartbeats 1000000 in
theorem both_equal (l : Launch) (D : va_G) {ct : Nat → ClassId} {ad mo : Nat → Nat} {u1 u2 : va_W} (h : Rel ct ad mo u1 u2) (x y : Int32) : BoI l D ct ad mo u1 u2 y_T_equal b_T_equal 5 (some .boolean) 4 0 0 y_M_equal b_M_equal 5 (some .boolean) 1 0 0 [.int x, .int y] := by
  obtain ⟨da, nd, nb, nf, bdk, num, spt, val, tim, rep, byN, byS, pk, kn, pe, clk, tol, opn, thg, knd, dy, bof, std, xd, hI, hO, rfl, rfl⟩ := h
  have hnd := hI.1.1
  have hnf := hI.1.2.2.1
  rcases dk_or x hnd with hx | ⟨d, hd, rfl⟩
  · rcases dk_or y hnd with hy | ⟨d2, hd2, rfl⟩
    · exact ⟨_, _, c_eqNo1c l D x hx y hy, m_equalNo1 l D x y hx, fun a b v w h1 h2 => ⟨h1.1.trans h2.1.symm, by rw [h1.2, h2.2]; exact Rel.mk hI hO⟩⟩
    · exact ⟨_, _, c_eqNo1b l D x hx hnd d2 hd2, m_equalNo1 l D x (nI d2) hx, fun a b v w h1 h2 => ⟨h1.1.trans h2.1.symm, by rw [h1.2, h2.2]; exact Rel.mk hI hO⟩⟩
  rcases dk_or y hnd with hy | ⟨d2, hd2, rfl⟩
  · exact ⟨_, _, c_eqNo2 l D hnd d hd y hy, m_equalNo2 l D hnd d hd y hy, fun a b v w h1 h2 => ⟨h1.1.trans h2.1.symm, by rw [h1.2, h2.2]; exact Rel.mk hI hO⟩⟩
  refine ⟨_, _, c_eq l D hnd d hd d2 hd2, m_equal l D hnf hnd d hd d2 hd2, fun a b v w h1 h2 => ⟨?_, by rw [h1.2, h2.2]; exact Rel.mk hI hO⟩⟩
  rw [h1.1, h2.1]
  refine congrArg bI ?_
  rw [Bool.eq_iff_iff, sameB_iff, sameB_iff]
  constructor
  · intro h k hk
    exact h k (by omega)
  · intro h k hk
    by_cases q : k < nf
    · exact h k q
    · rw [bf (fun z => q (hI.2.2.2.2.1 d k z).1), bf (fun z => q (hI.2.2.2.2.1 d2 k z).1)]

theorem cnt_kn {kn : Nat → Nat → Bool} {nd nf : Nat} (hk : ∀ d k, kn d k = true → k < nf ∧ d < nd) (hn : nf ≤ 300) (d : Nat) : cnt (kn d) 320 = cnt (kn d) nf := by
  rw [show 320 = nf + (320 - nf) by omega, cnt_add, cnt_none (p := fun i => kn d (nf + i)) (fun i _ => bf (fun q => by have := (hk d (nf + i) q).1; omega)), Nat.add_zero]
set_option maxHeartbeats 1000000 in
theorem both_counts (l : Launch) (D : va_G) {ct : Nat → ClassId} {ad mo : Nat → Nat} {u1 u2 : va_W} (h : Rel ct ad mo u1 u2) (x : Int32) : BoI l D ct ad mo u1 u2 y_T_counts b_T_counts 3 (some .int) 4 0 0 y_M_counts b_M_counts 4 (some .int) 1 0 0 [.int x] := by
  obtain ⟨da, nd, nb, nf, bdk, num, spt, val, tim, rep, byN, byS, pk, kn, pe, clk, tol, opn, thg, knd, dy, bof, std, xd, hI, hO, rfl, rfl⟩ := h
  have hnd := hI.1.1
  have hnf := hI.1.2.2.1
  rcases dk_or x hnd with hx | ⟨d, hd, rfl⟩
  · exact ⟨_, _, c_coNo l D x hx, m_countsNo l D x hx, fun a b v w h1 h2 => ⟨h1.1.trans h2.1.symm, by rw [h1.2, h2.2]; exact Rel.mk hI hO⟩⟩
  exact ⟨_, _, c_co l D hnd d hd, m_counts l D hnf hnd d hd, fun a b v w h1 h2 => ⟨by rw [h1.1, h2.1, cnt_kn hI.2.2.2.2.1 hnf], by rw [h1.2, h2.2]; exact Rel.mk hI hO⟩⟩

set_option maxHeartbeats 1000000 in
theorem both_batch (l : Launch) (D : va_G) {ct : Nat → ClassId} {ad mo : Nat → Nat} {u1 u2 : va_W} (h : Rel ct ad mo u1 u2) (x : Int32) : BoI l D ct ad mo u1 u2 y_T_batch b_T_batch 4 (some .int) 4 0 0 y_M_batch b_M_batch 2 (some .int) 1 0 0 [.int x] := by
  obtain ⟨da, nd, nb, nf, bdk, num, spt, val, tim, rep, byN, byS, pk, kn, pe, clk, tol, opn, thg, knd, dy, bof, std, xd, hI, hO, rfl, rfl⟩ := h
  have hnd := hI.1.1
  rcases dk_or x hnd with hx | ⟨d, hd, rfl⟩
  · exact ⟨_, _, c_baNo l D x hx, m_batchNo l D x hx, fun a b v w h1 h2 => ⟨h1.1.trans h2.1.symm, by rw [h1.2, h2.2]; exact Rel.mk hI hO⟩⟩
  cases ho : opn d with
  | some b0 => exact ⟨_, _, c_baOpen l D hnd d hd b0 ho (hI.opnB d hd b0 ho), m_batchOpen l D hnd d hd b0 ho (hI.opnB d hd b0 ho), fun a b v w h1 h2 => ⟨h1.1.trans h2.1.symm, by rw [h1.2, h2.2]; exact Rel.mk hI hO⟩⟩
  | none =>
    by_cases hb : nb < 40
    · exact ⟨_, _, c_ba l D hnd d hd ho hb, m_batch l D hnd d hd ho hb, fun a b v w h1 h2 => ⟨h1.1.trans h2.1.symm, by rw [h1.2, h2.2]; exact Rel.mk (inv_batch hI hd ho hb) hO⟩⟩
    · have hb : nb = 40 := by have := hI.1.2.1; omega
      exact ⟨_, _, c_baFull l D hnd d hd ho hb, m_batchFull l D hnd d hd ho hb, fun a b v w h1 h2 => ⟨h1.1.trans h2.1.symm, by rw [h1.2, h2.2]; exact Rel.mk hI hO⟩⟩

set_option maxHeartbeats 1000000 in
theorem both_endBatch (l : Launch) (D : va_G) {ct : Nat → ClassId} {ad mo : Nat → Nat} {u1 u2 : va_W} (h : Rel ct ad mo u1 u2) (x : Int32) : BoI l D ct ad mo u1 u2 y_T_endBatch b_T_endBatch 3 (some .boolean) 4 0 0 y_M_endBatch b_M_endBatch 4 (some .boolean) 0 0 0 [.int x] := by
  obtain ⟨da, nd, nb, nf, bdk, num, spt, val, tim, rep, byN, byS, pk, kn, pe, clk, tol, opn, thg, knd, dy, bof, std, xd, hI, hO, rfl, rfl⟩ := h
  have hnd := hI.1.1
  have hnf := hI.1.2.2.1
  have hnb := hI.1.2.1
  rcases pk_ix x (n := nb) (by omega) with hx | hx | ⟨b0, hb0, rfl⟩
  · exact ⟨_, _, c_enNo l D x (Or.inl hx), m_endNo l D x (Or.inl hx), fun a b v w h1 h2 => ⟨h1.1.trans h2.1.symm, by rw [h1.2, h2.2]; exact Rel.mk hI hO⟩⟩
  · exact ⟨_, _, c_enNo l D x (Or.inr hx), m_endNo l D x (Or.inr hx), fun a b v w h1 h2 => ⟨h1.1.trans h2.1.symm, by rw [h1.2, h2.2]; exact Rel.mk hI hO⟩⟩
  have hd := hI.2.2.2.2.2.2.2.2.1 b0 hb0
  by_cases ho : opn (bdk b0) = some b0
  · refine ⟨_, _, c_en l D b0 hb0 hnb (bdk b0) hd rfl hnd (hI.opnB _ hd) ho, m_end l D hnf b0 hb0 hnb hd hnd (hI.opnB _ hd) ho hI.bofB, fun a b v w h1 h2 => ⟨h1.1.trans h2.1.symm, ?_⟩⟩
    rw [h1.2, h2.2, en_eq hI hd ho]
    exact Rel.mk (inv_end hI hd ho) hO
  · exact ⟨_, _, c_enOld l D b0 hb0 hnb (bdk b0) hd rfl hnd (hI.opnB _ hd) ho, m_endOld l D b0 hb0 hnb hd hnd (hI.opnB _ hd) ho, fun a b v w h1 h2 => ⟨h1.1.trans h2.1.symm, by rw [h1.2, h2.2]; exact Rel.mk hI hO⟩⟩

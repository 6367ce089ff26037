theorem rng {t1 k1 s t k y : Nat} (ht : t1 < 100) (hk : k1 < 10) (h : s = (t * 10 + k) * 100001 + y) (h2 : t < 100) (h3 : k < 10) (h4 : y < 100001) : (nI t = nI t1 ∧ nI k = nI k1) ↔ ((t1 * 10 + k1) * 100001 + 0 ≤ s ∧ s ≤ (t1 * 10 + k1) * 100001 + 100000) := by
  rw [nI_eq (by omega) (by omega), nI_eq (by omega) (by omega)]
  constructor
  · rintro ⟨rfl, rfl⟩
    omega
  · intro q
    have : t * 10 + k = t1 * 10 + k1 := by omega
    omega
set_option maxHeartbeats 4000000 in
theorem both_settle (l : Launch) (D : va_G) {ct : Nat → ClassId} {ad mo : Nat → Nat} {u1 u2 : va_W} (h : Rel ct ad mo u1 u2) (x t kd n : Int32) : BoI l D ct ad mo u1 u2 y_T_settle b_T_settle 8 (some .int) 5 0 0 y_M_settle b_M_settle 11 (some .int) 2 1 300 [.int x, .int t, .int kd, .int n] := by
  obtain ⟨da, nd, nb, nf, bdk, num, spt, val, tim, rep, byN, byS, pk, kn, pe, clk, tol, opn, thg, knd, dy, bof, std, xd, hI, hO, rfl, rfl⟩ := h
  have hnd := hI.1.1
  have hnf := hI.1.2.2.1
  rcases dk_or x hnd with hx | ⟨d, hd, rfl⟩
  · exact ⟨_, _, c_seNo l D x t kd n hx, m_setNoD l D x t kd n hx, fun a b v w h1 h2 => ⟨h1.1.trans h2.1.symm, by rw [h1.2, h2.2]; exact Rel.mk hI hO⟩⟩
  rcases tk_or t kd with hz | ⟨t1, k1, ht, hk, rfl, rfl⟩
  · by_cases hn : n < 0
    · exact ⟨_, _, c_seBad l D hnd d hd t kd n hz, m_setNeg l D hnd d hd t kd n hn, fun a b v w h1 h2 => ⟨h1.1.trans h2.1.symm, by rw [h1.2, h2.2]; exact Rel.mk hI hO⟩⟩
    · refine ⟨_, _, c_seBad l D hnd d hd t kd n hz, m_set l D hnf hnd d hd spt hI.1.2.2.2 hI.numB t kd n hn (hI.opnB d hd), fun a b v w h1 h2 => ?_⟩
      obtain ⟨P, hP, h2⟩ := h2
      rcases h2 with ⟨b0, _, _, e1, e2⟩ | ⟨s, ⟨hs, _⟩, _⟩
      · exact ⟨h1.1.trans e1.symm, by rw [h1.2, e2]; exact Rel.mk hI hO⟩
      · obtain ⟨g1, ⟨g2, g3, _⟩, _⟩ := hs s rfl
        obtain ⟨s1, s2, s3, s4⟩ := hI.1.2.2.2 s g1
        rw [← g2, ← g3, tk_ok s2 s3] at hz
        cases hz
  obtain ⟨St, hSt⟩ : ∃ St, St = stB (kn d) rep := ⟨_, rfl⟩
  by_cases hex : ∃ a, a < nf ∧ (fun a => decide ((t1 * 10 + k1) * 100001 + 0 ≤ spt (byS a)) && (isF spt byS a && cfB spt val (stB (kn d) rep) nf (spt (byS a)))) a = true
  · obtain ⟨s0, ⟨hs0, hsG⟩, hmin⟩ := pk_least (fun a => a < nf ∧ (fun a => decide ((t1 * 10 + k1) * 100001 + 0 ≤ spt (byS a)) && (isF spt byS a && cfB spt val (stB (kn d) rep) nf (spt (byS a)))) a = true) hex
    have hsk : nI 0 = nI (cnt (fun a => decide ((t1 * 10 + k1) * 100001 + 0 ≤ spt (byS a)) && (isF spt byS a && cfB spt val (stB (kn d) rep) nf (spt (byS a)))) s0) := by rw [cnt_none (p := (fun a => decide ((t1 * 10 + k1) * 100001 + 0 ≤ spt (byS a)) && (isF spt byS a && cfB spt val (stB (kn d) rep) nf (spt (byS a))))) (fun i hi => bf (fun q => hmin i hi ⟨by omega, q⟩))]
    have hsG2 : (decide ((t1 * 10 + k1) * 100001 + 0 ≤ spt (byS s0)) && (isF spt byS s0 && cfB spt val (stB (kn d) rep) nf (spt (byS s0)))) = true := hsG
    rw [Bool.and_eq_true, Bool.and_eq_true] at hsG2
    have hlow := of_decide_eq_true hsG2.1
    have hcf := hsG2.2.2
    have hleast : ∀ f, f < nf → cfB spt val (stB (kn d) rep) nf (spt f) = true → (t1 * 10 + k1) * 100001 + 0 ≤ spt f → spt (byS s0) ≤ spt f := fun f hf hc hl => by
      obtain ⟨a, a1, a2, a3⟩ := isF_ex hO hf
      have hle : s0 ≤ a := Nat.le_of_not_lt (fun q => hmin a q ⟨a1, by show (decide ((t1 * 10 + k1) * 100001 + 0 ≤ spt (byS a)) && (isF spt byS a && cfB spt val (stB (kn d) rep) nf (spt (byS a)))) = true; rw [a3, a2, hc, decide_eq_true hl]; rfl⟩)
      have := hO.2.2.2.2.2 s0 a hle a1
      omega
    by_cases hhi : spt (byS s0) ≤ (t1 * 10 + k1) * 100001 + 100000
    · obtain ⟨f0, f1, f2, f3⟩ := cf_fc hcf
      have hspot : ∀ {P : Nat → Bool} {s : Nat}, (∀ f, f < nf → P f = stB (kn d) rep f) → ((∀ g, some s = some g → g < nf ∧ (nI (thg g) = nI t1 ∧ nI (knd g) = nI k1 ∧ fcB spt val P nf g = true) ∧ ∀ f, f < nf → (nI (thg f) = nI t1 ∧ nI (knd f) = nI k1 ∧ fcB spt val P nf f = true) → (fun k g => decide (dy k < dy g)) f g = false) ∧ (some s = none → ∀ f, f < nf → ¬ (nI (thg f) = nI t1 ∧ nI (knd f) = nI k1 ∧ fcB spt val P nf f = true))) → s < nf ∧ spt s = spt (byS s0) := fun {P s} hP hb => by
        obtain ⟨g1, ⟨g2, g3, g4⟩, g5⟩ := hb.1 s rfl
        rw [fcB_congr g1 hP] at g4
        obtain ⟨s1, s2, s3, s4⟩ := hI.1.2.2.2 s g1
        obtain ⟨r1, r2, r3, r4⟩ := hI.1.2.2.2 f0 f1
        have q1 := (rng ht hk s1 s2 s3 s4).mp ⟨g2, g3⟩
        have q2 := (rng ht hk r1 r2 r3 r4).mpr (by rw [f2]; exact ⟨hlow, hhi⟩)
        have q3 := of_decide_eq_false (g5 f0 f1 ⟨q2.1, q2.2, by rw [fcB_congr f1 hP]; exact f3⟩)
        have q4 := hleast s g1 (fc_cf g1 g4).2.1 q1.1
        have k1' := (nI_eq (by omega) (by omega)).mp g2
        have k2' := (nI_eq (by omega) (by omega)).mp g3
        have k3' := (nI_eq (by omega) (by omega)).mp q2.1
        have k4' := (nI_eq (by omega) (by omega)).mp q2.2
        refine ⟨g1, ?_⟩
        omega
      have hsome : ∀ {P : Nat → Bool} {b : Option Nat}, (∀ f, f < nf → P f = stB (kn d) rep f) → (b = none → ∀ f, f < nf → ¬ (nI (thg f) = nI t1 ∧ nI (knd f) = nI k1 ∧ fcB spt val P nf f = true)) → ¬ b = none := fun {P b} hP hb e => by
        obtain ⟨r1, r2, r3, r4⟩ := hI.1.2.2.2 f0 f1
        have q2 := (rng ht hk r1 r2 r3 r4).mpr (by rw [f2]; exact ⟨hlow, hhi⟩)
        exact hb e f0 f1 ⟨q2.1, q2.2, by rw [fcB_congr f1 hP]; exact f3⟩
      by_cases hn : n < 0
      · refine ⟨_, _, c_seNC l D hnf hnd d hd hO.2.2.2.1 hI.sptB hO.2.2.2.2.2 hO.2.2.2.2.1 hO.1 t1 k1 ht hk n s0 hs0 hsG hsk (spt (byS s0)) rfl hhi (fun m hm _ => nI_neg hn (by have := cnt_le (fun j => (fun k => decide (k < nf) && (decide (spt k = spt (byS s0)) && stB (kn d) rep k)) (byN j)) m; omega)), m_setNeg l D hnd d hd (nI t1) (nI k1) n hn, fun a b v w h1 h2 => ?_⟩
        obtain ⟨e1, P1, e2⟩ := h1
        exact ⟨e1.trans h2.1.symm, by rw [e2, h2.2]; exact Rel.mk hI hO⟩
      by_cases hg : ∃ g, g < nf ∧ (decide (spt g = spt (byS s0)) && stB (kn d) rep g) = true ∧ n = nI (rkN num (fun h => decide (spt h = spt (byS s0)) && stB (kn d) rep h) nf g)
      · obtain ⟨g, hg, hq, hx⟩ := hg
        obtain ⟨m, hm, rfl⟩ := hO.2.1 g hg
        have hmq := (qs_eq (spt := spt) (St := stB (kn d) rep) (sp := spt (byS s0)) hg).trans hq
        have hmx := hx.trans (congrArg nI (io_hy (spt := spt) (St := stB (kn d) rep) (sp := spt (byS s0)) hO hm).symm)
        by_cases hlt : nf < 300
        · refine ⟨_, _, c_se l D hnd d hd hO.2.2.2.1 hI.sptB hO.2.2.2.2.2 hO.2.2.2.2.1 hO.1 t1 k1 ht hk n s0 hs0 hsG hsk (spt (byS s0)) rfl hhi m hm hmq hmx hlt hI.numB (hI.tolB d hd).1 (hI.opnB d hd), m_set l D hnf hnd d hd spt hI.1.2.2.2 hI.numB (nI t1) (nI k1) n hn (hI.opnB d hd), fun a b v w h1 h2 => ?_⟩
          obtain ⟨e1, Q, Rp, p1, p2, B1, B2, hQ, hR, hB1, hB2, e2⟩ := h1
          obtain ⟨P, hP, h2⟩ := h2
          have hP : ∀ f, f < nf → P f = stB (kn d) rep f := fun f hf => (hP f hf).trans (st_lk hI d f)
          rcases h2 with ⟨b0, hb, hbn, _⟩ | ⟨s, hb, h2⟩
          · exact absurd hbn (hsome hP hb.2)
          obtain ⟨hs, hss⟩ := hspot hP hb
          rcases h2 with ⟨cb, hc, hcn, _⟩ | ⟨ch, hc, h2⟩
          · have := stm_yes hnf hI.2.2.2.2.2.2.2.2.2.2.2 hP hc hg (by rw [hss]; exact hq) (by rw [hss]; exact hx)
            rw [this] at hcn
            cases hcn
          have hch := stm_yes hnf hI.2.2.2.2.2.2.2.2.2.2.2 hP hc hg (by rw [hss]; exact hq) (by rw [hss]; exact hx)
          cases hch
          rcases h2 with ⟨h3, _⟩ | ⟨_, e3, Rr, hRr, e4⟩
          · omega
          refine ⟨e1.trans e3.symm, ?_⟩
          have h0 : ∀ o9, rep o9 nf = false := fun o9 => bf (fun q => by have := hI.2.2.2.2.2.2.2.2.2.2.1 o9 nf q; omega)
          have eR : Rr = Rp := by
            funext o9 n9
            rw [hR o9 n9, hRr o9 n9]
            by_cases q : n9 = nf ∧ o9 < nf
            · rw [if_pos q, q.1, h0, decide_eq_true q.2, decide_eq_true rfl, hQ o9 (by omega), hP o9 q.2, hss, Bool.false_or, Bool.true_and, Bool.and_true]
              exact (qs_eq q.2).symm
            · rw [if_neg q]
              by_cases q2 : n9 = nf
              · rw [decide_eq_false (fun z => q ⟨q2, z⟩), Bool.false_and, Bool.or_false]
              · rw [decide_eq_false q2, Bool.and_false, Bool.and_false, Bool.or_false]
          subst eR
          rw [e2, e4]
          obtain ⟨s1, s2, s3, s4⟩ := hI.1.2.2.2 s hs
          exact rel_tell hI hO hd hlt (hss.symm.trans s1) s2 s3 s4 (fun o n q => by
            rw [hR o n] at q
            rw [Bool.or_eq_true, Bool.and_eq_true, Bool.and_eq_true] at q
            rcases q with q | ⟨q1, q2, q3⟩
            · have := hI.2.2.2.2.2.2.2.2.2.2.1 o n q
              omega
            · have := of_decide_eq_true q1
              have := of_decide_eq_true q3
              omega) hB1 hB2
        · have hn3 : nf = 300 := by omega
          refine ⟨_, _, c_seFull l D hnd d hd hO.2.2.2.1 hI.sptB hO.2.2.2.2.2 hO.2.2.2.2.1 hO.1 t1 k1 ht hk n s0 hs0 hsG hsk (spt (byS s0)) rfl hhi m hm hmq hmx hn3, m_set l D hnf hnd d hd spt hI.1.2.2.2 hI.numB (nI t1) (nI k1) n hn (hI.opnB d hd), fun a b v w h1 h2 => ?_⟩
          obtain ⟨e1, P1, e2⟩ := h1
          obtain ⟨P, hP, h2⟩ := h2
          have hP : ∀ f, f < nf → P f = stB (kn d) rep f := fun f hf => (hP f hf).trans (st_lk hI d f)
          rcases h2 with ⟨b0, hb, hbn, _⟩ | ⟨s, hb, h2⟩
          · exact absurd hbn (hsome hP hb.2)
          obtain ⟨hs, hss⟩ := hspot hP hb
          rcases h2 with ⟨cb, hc, hcn, _⟩ | ⟨ch, hc, h2⟩
          · have := stm_yes hnf hI.2.2.2.2.2.2.2.2.2.2.2 hP hc hg (by rw [hss]; exact hq) (by rw [hss]; exact hx)
            rw [this] at hcn
            cases hcn
          rcases h2 with ⟨_, e3, e4⟩ | ⟨h3, _⟩
          · exact ⟨e1.trans e3.symm, by rw [e2, e4]; exact Rel.mk hI hO⟩
          · omega
      · refine ⟨_, _, c_seNC l D hnf hnd d hd hO.2.2.2.1 hI.sptB hO.2.2.2.2.2 hO.2.2.2.2.1 hO.1 t1 k1 ht hk n s0 hs0 hsG hsk (spt (byS s0)) rfl hhi (fun m hm hq q => hg ⟨byN m, hO.1 m hm, (qs_eq (hO.1 m hm)).symm.trans hq, q.trans (congrArg nI (io_hy hO hm))⟩), m_set l D hnf hnd d hd spt hI.1.2.2.2 hI.numB (nI t1) (nI k1) n hn (hI.opnB d hd), fun a b v w h1 h2 => ?_⟩
        obtain ⟨e1, P1, e2⟩ := h1
        obtain ⟨P, hP, h2⟩ := h2
        have hP : ∀ f, f < nf → P f = stB (kn d) rep f := fun f hf => (hP f hf).trans (st_lk hI d f)
        rcases h2 with ⟨b0, hb, hbn, _⟩ | ⟨s, hb, h2⟩
        · exact absurd hbn (hsome hP hb.2)
        obtain ⟨hs, hss⟩ := hspot hP hb
        rcases h2 with ⟨cb, hc, hcn, e3, e4⟩ | ⟨ch, hc, h2⟩
        · exact ⟨e1.trans e3.symm, by rw [e2, e4]; exact Rel.mk hI hO⟩
        · have := stm_no hP hc (fun g a1 a2 a3 => hg ⟨g, a1, by rw [← hss]; exact a2, by rw [← hss]; exact a3⟩)
          cases this
    · have hnone : ∀ {P : Nat → Bool} {f : Nat}, (∀ f, f < nf → P f = stB (kn d) rep f) → f < nf → (nI (thg f) = nI t1 ∧ nI (knd f) = nI k1 ∧ fcB spt val P nf f = true) → False := fun {P f} hP hf hc => by
        obtain ⟨s1, s2, s3, s4⟩ := hI.1.2.2.2 f hf
        have q1 := (rng ht hk s1 s2 s3 s4).mp ⟨hc.1, hc.2.1⟩
        have h4 := hc.2.2
        rw [fcB_congr hf hP] at h4
        have := hleast f hf (fc_cf hf h4).2.1 q1.1
        omega
      by_cases hn : n < 0
      · exact ⟨_, _, c_seHi l D hnf hnd d hd hO.2.2.2.1 hI.sptB hO.2.2.2.2.2 hO.2.2.2.2.1 t1 k1 ht hk n s0 hs0 hsG hsk (spt (byS s0)) rfl (by omega), m_setNeg l D hnd d hd (nI t1) (nI k1) n hn, fun a b v w h1 h2 => ⟨h1.1.trans h2.1.symm, by rw [h1.2, h2.2]; exact Rel.mk hI hO⟩⟩
      refine ⟨_, _, c_seHi l D hnf hnd d hd hO.2.2.2.1 hI.sptB hO.2.2.2.2.2 hO.2.2.2.2.1 t1 k1 ht hk n s0 hs0 hsG hsk (spt (byS s0)) rfl (by omega), m_set l D hnf hnd d hd spt hI.1.2.2.2 hI.numB (nI t1) (nI k1) n hn (hI.opnB d hd), fun a b v w h1 h2 => ?_⟩
      obtain ⟨P, hP, h2⟩ := h2
      have hP : ∀ f, f < nf → P f = stB (kn d) rep f := fun f hf => (hP f hf).trans (st_lk hI d f)
      rcases h2 with ⟨b0, hb, hbn, e3, e4⟩ | ⟨s, hb, h2⟩
      · exact ⟨h1.1.trans e3.symm, by rw [h1.2, e4]; exact Rel.mk hI hO⟩
      · obtain ⟨g1, g2, _⟩ := hb.1 s rfl
        exact (hnone hP g1 g2).elim
  · have hsn : ∀ m, m < nf → (fun a => decide ((t1 * 10 + k1) * 100001 + 0 ≤ spt (byS a)) && (isF spt byS a && cfB spt val (stB (kn d) rep) nf (spt (byS a)))) m = true → ¬ nI 0 = nI (cnt (fun a => decide ((t1 * 10 + k1) * 100001 + 0 ≤ spt (byS a)) && (isF spt byS a && cfB spt val (stB (kn d) rep) nf (spt (byS a)))) m) := fun m hm hG _ => hex ⟨m, hm, hG⟩
    have hnone : ∀ {P : Nat → Bool} {f : Nat}, (∀ f, f < nf → P f = stB (kn d) rep f) → f < nf → (nI (thg f) = nI t1 ∧ nI (knd f) = nI k1 ∧ fcB spt val P nf f = true) → False := fun {P f} hP hf hc => by
      obtain ⟨s1, s2, s3, s4⟩ := hI.1.2.2.2 f hf
      have q1 := (rng ht hk s1 s2 s3 s4).mp ⟨hc.1, hc.2.1⟩
      have h4 := hc.2.2
      rw [fcB_congr hf hP] at h4
      obtain ⟨a, a1, a2, a3⟩ := isF_ex hO hf
      exact hex ⟨a, a1, by show (decide ((t1 * 10 + k1) * 100001 + 0 ≤ spt (byS a)) && (isF spt byS a && cfB spt val (stB (kn d) rep) nf (spt (byS a)))) = true; rw [a3, a2, (fc_cf hf h4).2.1, decide_eq_true q1.1]; rfl⟩
    by_cases hn : n < 0
    · exact ⟨_, _, c_seNS l D hnf hnd d hd hO.2.2.2.1 hI.sptB hO.2.2.2.2.2 hO.2.2.2.2.1 t1 k1 ht hk n hsn, m_setNeg l D hnd d hd (nI t1) (nI k1) n hn, fun a b v w h1 h2 => ⟨h1.1.trans h2.1.symm, by rw [h1.2, h2.2]; exact Rel.mk hI hO⟩⟩
    refine ⟨_, _, c_seNS l D hnf hnd d hd hO.2.2.2.1 hI.sptB hO.2.2.2.2.2 hO.2.2.2.2.1 t1 k1 ht hk n hsn, m_set l D hnf hnd d hd spt hI.1.2.2.2 hI.numB (nI t1) (nI k1) n hn (hI.opnB d hd), fun a b v w h1 h2 => ?_⟩
    obtain ⟨P, hP, h2⟩ := h2
    have hP : ∀ f, f < nf → P f = stB (kn d) rep f := fun f hf => (hP f hf).trans (st_lk hI d f)
    rcases h2 with ⟨b0, hb, hbn, e3, e4⟩ | ⟨s, hb, h2⟩
    · exact ⟨h1.1.trans e3.symm, by rw [h1.2, e4]; exact Rel.mk hI hO⟩
    · obtain ⟨g1, g2, _⟩ := hb.1 s rfl
      exact (hnone hP g1 g2).elim

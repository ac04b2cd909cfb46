/-! PAIRS: films -/
section IvF2
variable {g g' : Mm} {z : Nz} {n : Nat} {Ls : List (List Cls)} {tb fc ic : Nat} {fr : Nat → Nat} {wf : Nat → Wr}
theorem Ivx.pz (h : Ivx g z n Ls tb fc ic fr wf) : PZ z fc fr wf := h.2.2.2.2.2.1
theorem Ivx.fc3 (h : Ivx g z n Ls tb fc ic fr wf) : fc ≤ 3 := h.2.2.2.2.2.1.2.2.2.2.2
theorem Ivx.fi (h : Ivx g z n Ls tb fc ic fr wf) : IFi g fc fr wf := h.2.2.2.2.1
/-- the films, as both hold them -/
theorem Ivx.fl (h : Ivx g z n Ls tb fc ic fr wf) : ∃ T : Nat → Nat × (Nat → Nat) × (Nat → Nat) × (Nat → Nat) × (Nat → Nat → Nat), ∀ f, f < fc →
    FmC g f (fr f) (T f).1 (T f).2.1 (T f).2.2.1 (T f).2.2.2.1 (T f).2.2.2.2 ∧ FmM g f (fr f) (T f).1 (T f).2.1 (T f).2.2.1 (T f).2.2.2.1 (T f).2.2.2.2 (wf f) ∧
    ∀ lw lo i, i < (T f).1 → (alOk g (101 + 2 * f) (fr f) lw lo (T f).2.1 (T f).2.2.1 (T f).2.2.2.1 (T f).2.2.2.2 (wv g (68 + 11 * f)) i ↔ alOkM g f (fr f) lw lo (T f).2.1 (T f).2.2.1 (T f).2.2.2.1 (T f).2.2.2.2 (wf f) i) := by
  have h3 := h.fc3
  have hm := h.m
  have n1 : z.n = g 144 := h.2.2.2.2.2.2
  have rc := h.1.1
  have rm := h.1.2.1
  obtain ⟨i1, i2, i3, i4⟩ := h.fi
  suffices key : ∀ f, ∃ t : Nat × (Nat → Nat) × (Nat → Nat) × (Nat → Nat) × (Nat → Nat → Nat), f < fc →
      FmC g f (fr f) t.1 t.2.1 t.2.2.1 t.2.2.2.1 t.2.2.2.2 ∧ FmM g f (fr f) t.1 t.2.1 t.2.2.1 t.2.2.2.1 t.2.2.2.2 (wf f) ∧
      ∀ lw lo i, i < t.1 → (alOk g (101 + 2 * f) (fr f) lw lo t.2.1 t.2.2.1 t.2.2.2.1 t.2.2.2.2 (wv g (68 + 11 * f)) i ↔ alOkM g f (fr f) lw lo t.2.1 t.2.2.1 t.2.2.2.1 t.2.2.2.2 (wf f) i) from
    ⟨fun f => (key f).choose, fun f => (key f).choose_spec⟩
  intro f
  by_cases hf : f < fc
  · obtain ⟨mn, na, nb, ny, nm, q1, q2, q3, q4, q5, q6, q7, q8⟩ := h.pz.2.2.2.1 f hf
    obtain ⟨v1, v2, v3, v4, v5⟩ := i3 f hf
    have hf3 : f < 3 := by omega
    refine ⟨(mn, na, nb, ny, nm), fun _ => ⟨⟨v1, (rc.2.2.2.2.2.2.2 f hf3).trans q1, q2, by omega, q4, q5, fun i hi => ?_, fun i hi => by rw [v2]; exact q7 i hi, fun c hc => by rw [v2]; exact v5 c hc⟩, ⟨v3, v4, (rm.2.2.2.2.2.2.2 f hf3).trans q1, q2, by omega, q4, q5, fun i hi => ?_, fun i hi => (q7 i hi).1, v5⟩, fun lw lo i hi => ?_⟩⟩
    · obtain ⟨x1, x2, x3, x4, x5⟩ := q6 i hi
      rw [← n1]
      exact ⟨x1, x2, x3, x4, x5 0 (by decide), x5 1 (by decide), x5 2 (by decide)⟩
    · have hi' : i < mn := hi
      obtain ⟨x1, x2, x3, x4, x5⟩ := q6 i hi
      refine ⟨x1, x2, (rm.2.2.1 _ 1 (by omega) (by decide)).trans x3, (rm.2.2.1 _ 2 (by omega) (by decide)).trans x4, fun k hk => ?_⟩
      rw [Nat.add_assoc, rm.2.2.1 _ (3 + k) (by omega) (by omega), ← Nat.add_assoc]
      exact x5 k hk
    · have hi' : i < mn := hi
      have e1 : g (101 + 2 * f + 1) i = g 213 (100 * f + i) := by rw [show 101 + 2 * f + 1 = 102 + 2 * f by omega]; exact i4 f hf3 i (by omega)
      have e2 : ∀ k, k < 3 → g 144 ((fr f + i) * 19 + 7 + k) = g 201 (20 * (fr f + i) + 7 + k) := fun k hk => by
        rw [Nat.add_assoc (20 * (fr f + i)), rm.2.2.1 _ (7 + k) (by omega) (by omega), ← n1, Nat.add_assoc]
      unfold alOk alOkM
      rw [v2, e1]
      exact or_congr Iff.rfl ⟨fun c k hk => by rw [← e2 k hk]; exact c k hk, fun c k hk => by rw [e2 k hk]; exact c k hk⟩
  · exact ⟨(0, fun _ => 0, fun _ => 0, fun _ => 0, fun _ _ => 0), fun c => absurd c hf⟩
/-- a gap is made in a film, on both sides -/
theorem Ivx.gp {f t : Nat} {v : Int32} (h : Ivx g z n Ls tb fc ic fr wf) (hf : f < 3) (ht : t < 100) : Iv (u2 (u2 (u2 (u2 g (102 + 2 * f) t 1) 219 0 v) 162 0 0) 213 (100 * f + t) 1) := by
  obtain ⟨g', hg⟩ : ∃ g', g' = u2 (u2 (u2 (u2 g (102 + 2 * f) t 1) 219 0 v) 162 0 0) 213 (100 * f + t) 1 := ⟨_, rfl⟩
  rw [← hg]
  have k : ∀ a, a ≠ 102 + 2 * f → a ≠ 219 → a ≠ 162 → a ≠ 213 → g' a = g a := fun a h1 h2 h3 h4 => by rw [hg, u2_ne a h4, u2_ne a h3, u2_ne a h2, u2_ne a h1]
  have k2 : ∀ j, j ≠ 0 → g' 162 j = g 162 j := fun j hj => by rw [hg, u2_ne 162 (by decide), u2_at, if_neg hj, u2_ne 162 (by decide), u2_ne 162 (by omega)]
  have kc : ∀ a, (a < 102 ∨ a = 103 ∨ a = 105 ∨ (106 < a ∧ a ≠ 219 ∧ a ≠ 162 ∧ a ≠ 213)) → g' a = g a := fun a ha => k a (by omega) (by omega) (by omega) (by omega)
  have eg : ∀ f1, f1 < 3 → ∀ t1, t1 < 100 → g' (102 + 2 * f1) t1 = g' 213 (100 * f1 + t1) := fun f1 hf1 t1 ht1 => by
    have i4 := h.fi.2.2.2 f1 hf1 t1 ht1
    by_cases e : f1 = f ∧ t1 = t
    · rw [e.1, e.2, hg, u2_self, u2_ne _ (by omega), u2_ne _ (by omega), u2_ne _ (by omega), u2_self]
    · have a1 : g' (102 + 2 * f1) t1 = g (102 + 2 * f1) t1 := by
        rw [hg, u2_ne _ (by omega), u2_ne _ (by omega), u2_ne _ (by omega)]
        unfold u2
        rw [if_neg (by omega)]
      have a2 : g' 213 (100 * f1 + t1) = g 213 (100 * f1 + t1) := by
        rw [hg, u2_at, if_neg (by omega), u2_ne 213 (by omega), u2_ne 213 (by omega), u2_ne 213 (by omega)]
      rw [a1, a2, i4]
  obtain ⟨⟨a1, a2, a3, a4, a5⟩, ⟨b1, b2⟩, c1, d1, f1, p1, n1⟩ := h
  have e1 : g' 1 = g 1 := kc 1 (by decide)
  refine ⟨z, n, Ls, tb, fc, ic, fr, wf, ⟨?_, a2.fr' (fun a ha => kc a (by omega)) (k2 37 (by decide)) (k2 46 (by decide)), by rw [k2 3 (by decide)]; exact a3, by rw [k2 27 (by decide)]; exact a4, a5⟩, ⟨b1.fr (by rw [e1]) (fun a x y => kc a (by omega)), b2.fr (k2 11 (by decide)) (fun a x y => kc a (by omega))⟩, c1.fr (by rw [e1]) (by rw [e1]) (k2 4 (by decide)) (k2 12 (by decide)) (kc 156 (by decide)) (kc 176 (by decide)), d1.fr (Nat.le_refl _) (by rw [e1]) (k2 54 (by decide)) (fun a x y => kc a (by omega)) (kc 218 (by decide)), ⟨by rw [e1]; exact f1.1, by rw [k2 45 (by decide)]; exact f1.2.1, fun f' hf' => ?_, eg⟩, p1, by rw [n1, kc 144 (by decide)]⟩
  · have ew : wv g' 2 = z.w := (wv_fr (fun a x y => kc a (by omega))).trans a1.1
    obtain ⟨r1, r2, r3, r4, r5, r6, r7, r8⟩ := a1
    exact ⟨ew, by rw [kc 143 (by decide)]; exact r2, fun i hi => by rw [kc 144 (by decide)]; exact r3 i hi, fun i hi => by rw [kc 147 (by decide)]; exact r4 i hi, fun i hi => by rw [kc 146 (by decide)]; exact r5 i hi, fun i hi => by rw [kc 145 (by decide)]; exact r6 i hi, by rw [e1]; exact r7, fun f hf => by rw [kc _ (by omega)]; exact r8 f hf⟩
  · have h3 := p1.2.2.2.2.2
    have ew : wv g' (68 + 11 * f') = wv g (68 + 11 * f') := wv_fr (fun a x y => kc a (by omega))
    obtain ⟨q1, q2, q3, q4, q5⟩ := f1.2.2.1 f' hf'
    rw [ew, kc 212 (by decide), kc 210 (by decide), kc (101 + 2 * f') (by omega)]
    exact ⟨q1, q2, q3, q4, q5⟩
end IvF2
section Pairs
variable {l : Launch} {E : Ey} {g : Mm} {Q : Option Value → Mm → Prop} {X : String → Mm → Prop}
theorem p_gap {f0 t0 : Int32} (hI : Iv g) (q : ∀ k' G, Nx l E 2 yX8_gap [.ref 162, .int f0, .int t0] k' G → Q (some (.int k')) G) : Ct l E lay NC 9 1 6 yL_gap [.ref 1, .int f0, .int t0, .ref 219] g Q X := by
  obtain ⟨z, n, Ls, tb, fc, ic, fr, wf, h⟩ := hI
  have h3 := h.fc3
  obtain ⟨T, hT⟩ := h.fl
  obtain ⟨i1, i2, i3, i4⟩ := h.fi
  obtain ⟨mn, emn⟩ : ∃ mn : Nat → Nat, mn = fun f => (T f).1 := ⟨_, rfl⟩
  have hc : ∀ f, f < fc → mn f ≤ 100 ∧ g (101 + 2 * f) 3 = nI (mn f) := fun f hf => by rw [emn]; exact ⟨(hT f hf).1.2.2.1, (hT f hf).1.2.1⟩
  have hr : ∀ f, f < fc → mn f ≤ 100 ∧ g 211 f = nI (mn f) := fun f hf => by rw [emn]; exact ⟨(hT f hf).1.2.2.1, (hT f hf).2.1.2.2.1⟩
  refine w_gap (c_gap (fc := fc) (mn := mn) h3 i1 hc (fun e => Or.inl ⟨rfl, q 1 g (fun Q' X' q' => m_gap h3 i2 hr (fun _ g' f t => q' g' _ (iv_z h f) t k1) (fun f hf ef => absurd e (nu hf (by omega) ef)) (fun f t hf ef => absurd e (nu hf (by omega) ef)) (fun f t hf ef => absurd e (nu hf (by omega) ef)))⟩) (fun f hf ef e2 => Or.inr ⟨rfl, q 2 g (fun Q' X' q' => m_gap h3 i2 hr (fun e => absurd e (nu hf (by omega) ef)) (fun f' hf' ef' _ g' f t => q' g' _ (iv_z h f) t k2) (fun f' t hf' ef' ht et => ?_) (fun f' t hf' ef' ht et => ?_))⟩) (fun f t hf ef ht et ne => ⟨_, rfl, q 0 _ (fun Q' X' q' => ?_)⟩) (fun f t hf ef ht et ez => ⟨_, rfl, q 0 _ (fun Q' X' q' => ?_)⟩))
  · rw [← ieq ef ef' (by omega) (by omega)] at ht
    exact absurd e2 (nu ht (by have := (hc f hf).1; omega) et)
  · rw [← ieq ef ef' (by omega) (by omega)] at ht
    exact absurd e2 (nu ht (by have := (hc f hf).1; omega) et)
  · have h2 := h.ask (FrQ2.o (v := 0))
    have l1 := (hc f hf).1
    refine m_gap h3 h2.fi.2.1 (mn := mn) (fun f hf => by rw [u2_ne 211 (by decide)]; exact hr f hf) (fun e => absurd e (nu hf (by omega) ef)) (fun f' hf' ef' e => ?_) (fun f' t' _ _ _ _ _ g' f t => q' g' _ (iv_z h2 f) t (fun _ => (o219 f).symm)) (fun f' t' hf' ef' ht' et' ez => ?_)
    · rw [← ieq ef ef' (by omega) (by omega)] at e
      exact absurd e (nu ht (by omega) et)
    · have e1 := ieq ef ef' (by omega) (by omega)
      subst e1
      have e2 := ieq et et' (by omega) (by omega)
      subst e2
      rw [u2_ne 213 (by decide), ← i4 f (by omega) t (by omega)] at ez
      exact absurd ez ne
  · have l1 := (hc f hf).1
    have hk : ∀ a, a ≠ 102 + 2 * f → a ≠ 219 → u2 (u2 g (102 + 2 * f) t 1) 219 0 1 a = g a := fun a h1 h2 => by rw [u2_ne a h2, u2_ne a h1]
    refine m_gap h3 (fc := fc) (by rw [hk 162 (by omega) (by decide)]; exact i2) (mn := mn) (fun f hf => by rw [hk 211 (by omega) (by decide)]; exact hr f hf) (fun e => absurd e (nu hf (by omega) ef)) (fun f' hf' ef' e => ?_) (fun f' t' hf' ef' ht' et' ne => ?_) (fun f' t' hf' ef' ht' et' _ => ?_)
    · rw [← ieq ef ef' (by omega) (by omega)] at e
      exact absurd e (nu ht (by omega) et)
    · have e1 := ieq ef ef' (by omega) (by omega)
      subst e1
      have e2 := ieq et et' (by omega) (by omega)
      subst e2
      rw [hk 213 (by omega) (by decide), ← i4 f (by omega) t (by omega)] at ne
      exact absurd ez ne
    · have e1 := ieq ef ef' (by omega) (by omega)
      subst e1
      have e2 := ieq et et' (by omega) (by omega)
      subst e2
      refine q' _ _ (h.gp (by omega) (by omega)) ?_ (fun _ => ?_)
      · rw [u2_ne 162 (by decide), u2_self]
      · rw [u2_ne 219 (by decide), u2_ne 219 (by decide), u2_self]
theorem cnt_eq {mn r r' : Nat} {P P' : Nat → Prop} (h1 : r ≤ mn) (h2 : ∀ j, j < r → P j) (h3 : r < mn → ¬ P r) (h1' : r' ≤ mn) (h2' : ∀ j, j < r' → P' j) (h3' : r' < mn → ¬ P' r') (e : ∀ j, j < mn → (P j ↔ P' j)) : r = r' := by
  rcases Nat.lt_trichotomy r r' with c | c | c
  · exact absurd ((e r (by omega)).mpr (h2' r c)) (h3 (by omega))
  · exact c
  · exact absurd ((e r' (by omega)).mp (h2 r' c)) (h3' (by omega))
theorem p_fits {f0 v : Int32} (hI : Iv g) (q : ∀ k' G, Nx l E 6 yX8_fits [.ref 162, .int f0, .int v] k' G → Q (some (.int k')) G) : Ct l E lay NC 9 1 6 yL_fits [.ref 1, .int f0, .int v, .ref 219] g Q X := by
  obtain ⟨z, n, Ls, tb, fc, ic, fr, wf, h⟩ := hI
  have h3 := h.fc3
  have hl := h.2.1.1.1
  obtain ⟨T, hT⟩ := h.fl
  obtain ⟨i1, i2, i3, i4⟩ := h.fi
  refine w_fits (c_fits h3 i1 h.2.1.1 (fun f hf => (hT f hf).1) (fun e => ⟨rfl, q 1 g (fun Q' X' q' => m_fits h.1.2.2.1 h.1.2.2.2.1 h3 i2 h.2.1.2 (fun f hf => (hT f hf).2.1) (fun _ g' f t => q' g' _ (iv_z h f) t k1) (fun f hf ef hv => absurd e (fun e => e.elim (nu hf (by omega) ef) (fun e => lw_out hl e hv))))⟩) (fun f hf ef hv G r hG hr => ⟨_, rfl, q 0 _ (fun Q' X' q' => ?_)⟩))
  have hG2 : FrQ2 g G := FrQ2.c (fun z z1 z2 _ _ => hG z z1 z2)
  have h2 := (h.ask hG2).ask (FrQ2.o (v := nI r))
  have hq : FrQ g (u2 G 219 0 (nI r)) := fun a ha => by rw [u2_ne a (by omega)]; exact hG a (by omega) (by omega)
  refine m_fits h2.1.2.2.1 h2.1.2.2.2.1 h3 h2.fi.2.1 h2.2.1.2 (fun f hf => (hT f hf).2.1.fq hq) (fun e => absurd e (fun e => e.elim (nu hf (by omega) ef) (fun e => e hv))) (fun f' hf' ef' _ g' r' fz t r1 r2 r3 => q' g' _ (iv_z h2 fz) t (fun _ => ?_))
  have e1 := ieq ef ef' (by omega) (by omega)
  subst e1
  rw [o219 fz]
  congr 1
  exact (cnt_eq hr.1 hr.2.1 hr.2.2 r1 r2 r3 (fun j hj => ((hT f hf).2.2 _ _ j hj).trans (alOkM_fr hq).symm)).symm
end Pairs
/-- a call that never throws: the reference's answers v -/
def Nu (l : Launch) (E : Ey) (d : Nat) (y : MethodName) (av : List Value) (v : Int32) (G : Mm) : Prop := ∀ (Q : Option Value → Mm → Prop) (X : String → Mm → Prop), (∀ g', Iv g' → Q (some (.int v)) g') → Ct l E lay NC d 0 0 y av G Q X
section Pairs
variable {l : Launch} {E : Ey} {g : Mm} {Q : Option Value → Mm → Prop} {X : String → Mm → Prop}
theorem p_read (hI : Iv g) (q : ∀ v G, Nu l E 6 yX8_read [.ref 162] v G → Q (some (.int v)) G) : Ct l E lay NC 8 0 0 yX7_read [.ref 1] g Q X := by
  obtain ⟨z, n, Ls, tb, fc, ic, fr, wf, h⟩ := hI
  have h3 := h.fc3
  obtain ⟨T, hT⟩ := h.fl
  obtain ⟨i1, i2, i3, i4⟩ := h.fi
  obtain ⟨F, hF⟩ : ∃ F : Nat → Bool, ∀ e, F e = true ↔ ∀ f, f < fc → ∀ j, j < (T f).1 → alOk g (101 + 2 * f) (fr f) (lwOf Ls (lwI e)) (-1) (T f).2.1 (T f).2.2.1 (T f).2.2.2.1 (T f).2.2.2.2 (wv g (68 + 11 * f)) j :=
    ⟨fun e => @decide (∀ f, f < fc → ∀ j, j < (T f).1 → alOk g (101 + 2 * f) (fr f) (lwOf Ls (lwI e)) (-1) (T f).2.1 (T f).2.2.1 (T f).2.2.2.1 (T f).2.2.2.2 (wv g (68 + 11 * f)) j) (Classical.propDecidable _), fun e => @decide_eq_true_iff _ (Classical.propDecidable _)⟩
  refine c_read h3 i1 h.2.1.1 (fun f hf => (hT f hf).1) (F := F) (fun e _ => hF e) (fun G hG => q _ G (fun Q' X' q' => ?_))
  have hG2 : FrQ2 g G := FrQ2.c (fun z z1 z2 _ _ => hG z z1 z2)
  have h2 := h.ask hG2
  have hq : FrQ g G := fun a ha => hG a (by omega) (by omega)
  refine m_read h2.1.2.2.1 h2.1.2.2.2.1 h3 h2.fi.2.1 h2.2.1.2 (fun f hf => (hT f hf).2.1.fq hq) (F := F) (fun e _ => ?_) (fun g' f t => q' g' (iv_z h2 f))
  rw [hF e]
  exact ⟨fun c f hf j hj => (alOkM_fr hq).mpr (((hT f hf).2.2 _ _ j hj).mp (c f hf j hj)), fun c f hf j hj => ((hT f hf).2.2 _ _ j hj).mpr ((alOkM_fr hq).mp (c f hf j hj))⟩
end Pairs

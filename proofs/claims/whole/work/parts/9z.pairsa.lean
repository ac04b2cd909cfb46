/-! PAIRS: laws, the tape, films, images, count -/
section IvL
variable {g g' : Mm} {z : Nz} {n : Nat} {Ls Ls' : List (List Cls)} {tb tb' fc ic ic' : Nat} {fr : Nat → Nat} {wf : Nat → Wr}
/-- the tape and the laws have changed -/
theorem Ivx.tape (h : Ivx g z n Ls tb fc ic fr wf) (k : ∀ a, a ≠ 1 → a ≠ 155 → a ≠ 156 → a ≠ 176 → a ≠ 162 → a ≠ 219 → (a < 107 ∨ 143 ≤ a) → (a < 177 ∨ 183 < a) → g' a = g a) (k1 : ∀ j, j ≠ 12 → j ≠ 13 → j ≠ 14 → g' 1 j = g 1 j) (k2 : ∀ j, (j = 3 ∨ j = 27 ∨ j = 37 ∨ j = 45 ∨ j = 46 ∨ j = 54) → g' 162 j = g 162 j) (it : IT g' tb') (lC : LawsC g' Ls') (lM : LawsM g' Ls') (hle : Ls.length ≤ Ls'.length) : Iv g' := by
  obtain ⟨⟨a1, a2, a3, a4, a5⟩, ⟨b1, b2⟩, c1, d1, f1, p1, n1⟩ := h
  have kk : ∀ a, ((1 < a ∧ a < 107) ∨ (142 < a ∧ a < 155) ∨ (162 < a ∧ a < 176) ∨ (183 < a ∧ a < 219)) → g' a = g a := fun a ha => k a (by omega) (by omega) (by omega) (by omega) (by omega) (by omega) (by omega) (by omega)
  obtain ⟨r1, r2, r3, r4, r5, r6, r7, r8⟩ := a1
  have ew : wv g' 2 = z.w := (wv_fr (fun a x y => kk a (by omega))).trans r1
  exact ⟨z, n, Ls', tb', fc, ic, fr, wf, ⟨⟨ew, by rw [kk 143 (by decide)]; exact r2, fun i hi => by rw [kk 144 (by decide)]; exact r3 i hi, fun i hi => by rw [kk 147 (by decide)]; exact r4 i hi, fun i hi => by rw [kk 146 (by decide)]; exact r5 i hi, fun i hi => by rw [kk 145 (by decide)]; exact r6 i hi, by rw [k1 16 (by decide) (by decide) (by decide)]; exact r7, fun f hf => by rw [kk _ (by omega)]; exact r8 f hf⟩, a2.fr' (fun a ha => kk a (by omega)) (k2 37 (by decide)) (k2 46 (by decide)), by rw [k2 3 (by decide)]; exact a3, by rw [k2 27 (by decide)]; exact a4, a5.mono hle⟩, ⟨lC, lM⟩, it, d1.fr hle (k1 17 (by decide) (by decide) (by decide)) (k2 54 (by decide)) (fun a x y => kk a (by omega)) (kk 218 (by decide)), f1.fr p1.2.2.2.2.2 (k1 15 (by decide) (by decide) (by decide)) (k2 45 (by decide)) (fun a x y => kk a (by omega)) (fun f hf => by rw [kk _ (by omega)]) (fun f hf => kk _ (by omega)) (fun a ha => kk a (by omega)), p1, by rw [n1, kk 144 (by decide)]⟩
/-- the images have changed -/
theorem Ivx.img (h : Ivx g z n Ls tb fc ic fr wf) (k : ∀ a, a ≠ 1 → a ≠ 162 → (a < 24 ∨ 67 < a) → a ≠ 218 → a ≠ 219 → g' a = g a) (k1 : ∀ j, j ≠ 17 → g' 1 j = g 1 j) (k2 : ∀ j, j ≠ 0 → j ≠ 54 → g' 162 j = g 162 j) (ii : II g' ic' Ls.length) : Ivx g' z n Ls tb fc ic' fr wf := by
  obtain ⟨⟨a1, a2, a3, a4, a5⟩, ⟨b1, b2⟩, c1, d1, f1, p1, n1⟩ := h
  have kk : ∀ a, ((1 < a ∧ a < 24) ∨ (67 < a ∧ a < 162) ∨ (162 < a ∧ a < 218)) → g' a = g a := fun a ha => k a (by omega) (by omega) (by omega) (by omega) (by omega)
  obtain ⟨r1, r2, r3, r4, r5, r6, r7, r8⟩ := a1
  have ew : wv g' 2 = z.w := (wv_fr (fun a x y => kk a (by omega))).trans r1
  exact ⟨⟨⟨ew, by rw [kk 143 (by decide)]; exact r2, fun i hi => by rw [kk 144 (by decide)]; exact r3 i hi, fun i hi => by rw [kk 147 (by decide)]; exact r4 i hi, fun i hi => by rw [kk 146 (by decide)]; exact r5 i hi, fun i hi => by rw [kk 145 (by decide)]; exact r6 i hi, by rw [k1 16 (by decide)]; exact r7, fun f hf => by rw [kk _ (by omega)]; exact r8 f hf⟩, a2.fr' (fun a ha => kk a (by omega)) (k2 37 (by decide) (by decide)) (k2 46 (by decide) (by decide)), by rw [k2 3 (by decide) (by decide)]; exact a3, by rw [k2 27 (by decide) (by decide)]; exact a4, a5⟩, ⟨b1.fr (k1 14 (by decide)) (fun a x y => kk a (by omega)), b2.fr (k2 11 (by decide) (by decide)) (fun a x y => kk a (by omega))⟩, c1.fr (k1 12 (by decide)) (k1 13 (by decide)) (k2 4 (by decide) (by decide)) (k2 12 (by decide) (by decide)) (kk 156 (by decide)) (kk 176 (by decide)), ii, f1.fr p1.2.2.2.2.2 (k1 15 (by decide)) (k2 45 (by decide) (by decide)) (fun a x y => kk a (by omega)) (fun f hf => by rw [kk _ (by omega)]) (fun f hf => kk _ (by omega)) (fun a ha => kk a (by omega)), p1, by rw [n1, kk 144 (by decide)]⟩
end IvL
section Pairs
variable {l : Launch} {E : Ey} {g : Mm} {Q : Option Value → Mm → Prop} {X : String → Mm → Prop}
theorem p_law {n0 : Int32} (hI : Iv g) (q : ∀ k' G, Nx l E 62 yX8_law [.ref 162, .int n0] k' G → Q (some (.int k')) G) : Ct l E lay NC 64 1 6 yL_law [.ref 1, .int n0, .ref 219] g Q X := by
  obtain ⟨z, n, Ls, tb, fc, ic, fr, wf, h⟩ := hI
  obtain ⟨t1, t2, t3, t4, t5⟩ := h.2.2.1
  have bad : ∀ m, m ≤ tb → n0 = nI m → ¬ (n0 < 0 ∨ nI tb < n0) := fun m hm em e => by
    subst em
    rcases e with e | e
    · exact absurd ((nI_ltI (a := m) (b := 0) (by omega) (by omega)).mp e) (by omega)
    · exact absurd ((nI_ltI (by omega) (by omega)).mp e) (by omega)
  have mk : ∀ {G : Mm} {v : Int32}, FrW g G → LawsM (u2 G 219 0 v) Ls ∧ u2 G 219 0 v 162 4 = nI tb ∧ u2 G 219 0 v 176 = g 156 := fun {G v} hG => by
    have k : ∀ a, (155 < a ∧ a ≠ 219) → u2 G 219 0 v a = g a := fun a ha => by rw [u2_ne a ha.2]; exact hG a (by omega) (by omega) (by omega)
    exact ⟨h.2.1.2.fr (by rw [k 162 (by decide)]) (fun a x y => k a (by omega)), by rw [k 162 (by decide)]; exact t3, by rw [k 176 (by decide)]; exact t4.symm⟩
  have fin : ∀ {G g' : Mm} {v : Int32} {Ls' : List (List Cls)}, FrW g G → (∀ j, j ≠ 12 → j ≠ 13 → j ≠ 14 → G 1 j = g 1 j) → FrWM (u2 G 219 0 v) g' → G 1 12 = 0 → g' 162 4 = 0 → G 1 13 = g' 162 12 → LawsC G Ls' → LawsM g' Ls' → Ls.length ≤ Ls'.length → Iv g' ∧ g' 219 0 = v := fun {G g' v Ls'} hG c1 f e12 e4 e13 lC lM hle => by
    have k : ∀ a, a ≠ 162 → a ≠ 219 → (a < 177 ∨ 183 < a) → g' a = G a := fun a h1 h2 h3 => by rw [f.1 a h1 h3, u2_ne a h2]
    have k1 : g' 1 = G 1 := k 1 (by decide) (by decide) (by decide)
    refine ⟨h.tape (tb' := 0) (fun a h1 h2 h3 h4 h5 h6 h7 h8 => (k a h5 h6 h8).trans (hG a h1 h2 h7)) (fun j x1 x2 x3 => by rw [k1]; exact c1 j x1 x2 x3) (fun j hj => by rw [f.2 j hj, u2_ne 162 (by decide), hG 162 (by decide) (by decide) (by decide)]) ⟨by omega, by rw [k1]; exact e12, e4, ?_, by rw [k1]; exact e13⟩ (lC.fr (by rw [k1]) (fun a x y => k a (by omega) (by omega) (by omega))) lM hle, ?_⟩
    · rw [k 156 (by decide) (by decide) (by decide), k 176 (by decide) (by decide) (by decide), hG 156 (by decide) (by decide) (by decide), hG 176 (by decide) (by decide) (by decide)]; exact t4
    · rw [f.1 219 (by decide) (by decide), u2_self]
  refine w_law (c_law h.2.1.1 t1 t2 (fun e => ⟨rfl, q 1 g (fun Q' X' q' => m_law h.2.1.2 t1 t3 (fun _ g' f t => q' g' _ (iv_z h f) t k1) (fun m hm em => absurd e (bad m hm em)) (fun m _ hm em => absurd e (bad m hm em)) (fun m _ hm em => absurd e (bad m hm em)))⟩) (fun m hm em e6 => ⟨_, rfl, q 0 _ (fun Q' X' q' => ?_)⟩) (fun m e hm em l6 el G hG g12 g13 g1 lC => ⟨_, rfl, q 0 _ (fun Q' X' q' => ?_)⟩) (fun m cl hm em l6 el G hG g12 g13 g14 g1 lC => ⟨_, rfl, q 0 _ (fun Q' X' q' => ?_)⟩))
  · have hG : FrW g (u2 (u2 g 1 12 0) 1 13 (-1)) := fun a h1 _ _ => by rw [u2_ne a h1, u2_ne a h1]
    obtain ⟨s1, s2, s3⟩ := mk (v := -1) hG
    refine m_law s1 t1 s2 (fun e => absurd e (bad m hm em)) (fun m' _ _ _ g' f1 f2 t e4 e12 => ?_) (fun _ _ _ _ l6' => absurd e6 (by omega)) (fun _ _ _ _ l6' => absurd e6 (by omega))
    obtain ⟨r1, r2⟩ := fin hG (fun j x1 x2 _ => by rw [u2_at, if_neg x2, u2_at, if_neg x1]) ⟨fun a ha _ => f1 a ha, fun j hj => f2 j (by omega) (by omega) (by omega)⟩ (by rw [u2_at, if_neg (by decide), u2_self]) e4 (by rw [u2_self, e12]) (h.2.1.1.fr (by rw [u2_at, if_neg (by decide), u2_at, if_neg (by decide)]) (fun a x y => by rw [u2_ne a (by omega), u2_ne a (by omega)])) (h.2.1.2.fr (by rw [f2 11 (by decide) (by decide) (by decide), u2_ne 162 (by decide), hG 162 (by decide) (by decide) (by decide)]) (fun a x y => by rw [f1 a (by omega), u2_ne a (by omega), hG a (by omega) (by omega) (by omega)])) (Nat.le_refl _)
    exact q' g' _ r1 t (fun _ => r2.symm)
  · obtain ⟨s1, s2, s3⟩ := mk (v := nI e.1 - 10) hG
    refine m_law s1 t1 s2 (fun e => absurd e (bad m hm em)) (fun _ _ _ l6' => absurd l6 (by omega)) (fun m' e' hm' em' _ el' g' f t e4 e12 lM => ?_) (fun m' cl' hm' em' _ el' => ?_)
    · rw [s3, ← ieq em em' (by omega) (by omega), el] at el'
      cases el'
      obtain ⟨r1, r2⟩ := fin hG (fun j x1 x2 _ => g1 j x1 x2) f g12 e4 (by rw [g13, e12]) lC lM (Nat.le_refl _)
      exact q' g' _ r1 t (fun _ => r2.symm)
    · rw [s3, ← ieq em em' (by omega) (by omega), el] at el'
      cases el'
  · obtain ⟨s1, s2, s3⟩ := mk (v := nI Ls.length) hG
    refine m_law s1 t1 s2 (fun e => absurd e (bad m hm em)) (fun _ _ _ l6' => absurd l6 (by omega)) (fun m' e' hm' em' _ el' => ?_) (fun m' cl' hm' em' _ el' g' f t e4 e12 lM => ?_)
    · rw [s3, ← ieq em em' (by omega) (by omega), el] at el'
      cases el'
    · rw [s3, ← ieq em em' (by omega) (by omega), el] at el'
      cases el'
      obtain ⟨r1, r2⟩ := fin hG g1 f g12 e4 (by rw [g13, e12]) lC lM (by simp)
      exact q' g' _ r1 t (fun _ => r2.symm)
theorem p_feed {a b c d e : Int32} (hI : Iv g) (q : ∀ v G, Nu l E 0 yX8_feed [.ref 162, .int a, .int b, .int c, .int d, .int e] v G → Q (some (.int v)) G) : Ct l E lay NC 1 0 0 yX7_feed [.ref 1, .int a, .int b, .int c, .int d, .int e] g Q X := by
  obtain ⟨z, n, Ls, tb, fc, ic, fr, wf, h⟩ := hI
  obtain ⟨t1, t2, t3, t4, t5⟩ := h.2.2.1
  refine c_feed t1 t2 (fun e0 => q _ _ (fun Q' X' q' => m_feed t1 t3 (fun _ g' f t => q' g' (iv_z h f)) (fun e1 => absurd e1 e0))) (fun e0 G c1 c2 c3 c4 c5 => q _ _ (fun Q' X' q' => ?_))
  refine m_feed t1 (by rw [c1 162 (by decide) (by decide)]; exact t3) (fun e1 => absurd e0 e1) (fun _ g' f1 f2 t f3 f4 f5 => q' g' ?_)
  have k : ∀ a, a ≠ 162 → a ≠ 176 → g' a = G a := f1
  have e1 : g' 1 = G 1 := k 1 (by decide) (by decide)
  have ea : ∀ a, a ≠ 1 → a ≠ 156 → a ≠ 162 → a ≠ 176 → g' a = g a := fun a h1 h2 h3 h4 => (k a h3 h4).trans (c1 a h1 h2)
  refine h.tape (tb' := tb + 20) (fun a h1 _ h3 h4 h5 _ _ _ => ea a h1 h3 h5 h4) (fun j x1 _ _ => by rw [e1]; exact c2 j x1) (fun j hj => by rw [f2 j (by omega) (by omega), c1 162 (by decide) (by decide)]) ⟨e0, by rw [e1]; exact c3, f3, ?_, ?_⟩ (h.2.1.1.fr (by rw [e1]; exact c2 14 (by decide)) (fun a x y => ea a (by omega) (by omega) (by omega) (by omega))) (h.2.1.2.fr (by rw [f2 11 (by decide) (by decide), c1 162 (by decide) (by decide)]) (fun a x y => ea a (by omega) (by omega) (by omega) (by omega))) (Nat.le_refl _)
  · rw [k 156 (by decide) (by decide)]
    funext i
    by_cases hi : tb ≤ i ∧ i < tb + 20
    · have y1 := c4 (i - tb) (by omega)
      have y2 := f4 (i - tb) (by omega)
      rw [show tb + (i - tb) = i by omega] at y1 y2
      rw [y1, y2]
    · rw [c5 i (by omega), f5 i (by omega), c1 176 (by decide) (by decide), t4]
  · rw [e1, c2 13 (by decide), f2 12 (by decide) (by decide), c1 162 (by decide) (by decide)]; exact t5
theorem p_fault (hI : Iv g) (q : ∀ v G, Nu l E 0 yX8_fault [.ref 162] v G → Q (some (.int v)) G) : Ct l E lay NC 0 0 0 yX7_fault [.ref 1] g Q X := by
  obtain ⟨z, n, Ls, tb, fc, ic, fr, wf, h⟩ := hI
  obtain ⟨t1, t2, t3, t4, t5⟩ := h.2.2.1
  refine c_fault (q _ _ (fun Q' X' q' => m_fault (fun g' f t => ?_)))
  rw [← t5]
  exact q' g' (iv_z h f)
theorem p_film (hI : Iv g) (q : ∀ v G, Nu l E 0 yX8_film [.ref 162] v G → Q (some (.int v)) G) : Ct l E lay NC 3 0 0 yX7_film [.ref 1] g Q X := by
  obtain ⟨z, n, Ls, tb, fc, ic, fr, wf, h⟩ := hI
  have h3 := h.fc3
  have hm := h.m
  obtain ⟨i1, i2, i3, i4⟩ := h.fi
  have e16 : g 1 16 = z.f := h.1.1.2.2.2.2.2.2.1
  have e46 : g 162 46 = z.f := h.1.2.1.2.2.2.2.2.2.1
  refine c_film h3 i1 (fun e3 => q _ _ (fun Q' X' q' => m_film h.ri h3 i2 (fun _ g' f t => q' g' (iv_z h f)) (fun e => absurd e3 (by omega)) (fun e => absurd e3 (by omega)))) (fun l3 on => q _ _ (fun Q' X' q' => m_film h.ri h3 i2 (fun e => absurd l3 (by omega)) (fun _ _ g' f t => q' g' (iv_z h f)) (fun _ e => absurd (e16.trans (e46.symm.trans e)) on))) (fun l3 off G c1 c2 c3 c4 c5 c6 c7 c8 => q _ _ (fun Q' X' q' => ?_))
  have zf : z.f = -1 := e16.symm.trans off
  have k162 : G 162 = g 162 := c2 162 (by omega) (by omega) (by decide)
  refine m_film (h.riG k162 (c2 164 (by omega) (by omega) (by decide))) h3 (by rw [k162]; exact i2) (fun e => absurd l3 (by omega)) (fun _ on => absurd (by rw [k162, e46]; exact zf) on) (fun _ _ g' f1 f2 t f3 f4 f5 f6 f7 f8 => q' g' ?_)
  have kG : ∀ a, a ≠ 162 → a ≠ 210 → a ≠ 211 → a ≠ 212 → g' a = G a := f1
  have k : ∀ a, a ≠ 162 → a ≠ 210 → a ≠ 211 → a ≠ 212 → (a < 68 + 11 * fc ∨ 68 + 11 * fc + 10 < a) → a ≠ 101 + 2 * fc → a ≠ 1 → g' a = g a := fun a h1 h2 h3 h4 h5 h6 h7 => (kG a h1 h2 h3 h4).trans (c2 a h5 h6 h7)
  have kk : ∀ a, ((1 < a ∧ a < 68) ∨ a = 102 ∨ a = 104 ∨ a = 106 ∨ (106 < a ∧ a < 162) ∨ (162 < a ∧ a < 210) ∨ (212 < a ∧ a < 219)) → g' a = g a := fun a ha => k a (by omega) (by omega) (by omega) (by omega) (by omega) (by omega) (by omega)
  have k1 : g' 1 = G 1 := kG 1 (by decide) (by decide) (by decide) (by decide)
  have k2 : ∀ j, j ≠ 0 → j ≠ 45 → j ≠ 46 → g' 162 j = g 162 j := fun j h1 h2 h3 => by rw [f2 j h1 h2 h3, k162]
  have fl : ∀ f, f < 3 → f ≠ fc → g' (101 + 2 * f) = g (101 + 2 * f) := fun f hf ne => k _ (by omega) (by omega) (by omega) (by omega) (by omega) (by omega) (by omega)
  have flc : g' (101 + 2 * fc) = G (101 + 2 * fc) := kG _ (by omega) (by omega) (by omega) (by omega)
  obtain ⟨⟨a1, a2, a3, a4, a5⟩, ⟨b1, b2⟩, t1, d1, w1, p1, n1⟩ := h
  obtain ⟨r1, r2, r3, r4, r5, r6, r7, r8⟩ := a1
  obtain ⟨s1, s2, s3, s4, s5, s6, s7, s8⟩ := a2
  obtain ⟨p1, p2, p3, p4, p5, p6⟩ := p1
  refine ⟨(z.w, z.m, z.n, z.s, z.t, z.c, nI fc, upd z.k fc 0), n, Ls, tb, fc + 1, ic, fun f => if f = fc then z.m else fr f, fun f => if f = fc then z.w else wf f, ⟨⟨?_, by rw [kk 143 (by decide)]; exact r2, fun i hi => by rw [kk 144 (by decide)]; exact r3 i hi, fun i hi => by rw [kk 147 (by decide)]; exact r4 i hi, fun i hi => by rw [kk 146 (by decide)]; exact r5 i hi, fun i hi => by rw [kk 145 (by decide)]; exact r6 i hi, by rw [k1]; exact c7, fun f hf => ?_⟩, ⟨fun i hi => by rw [kk 164 (by decide)]; exact s1 i hi, by rw [k2 37 (by decide) (by decide) (by decide)]; exact s2, fun t j ht hj => by rw [kk 201 (by decide)]; exact s3 t j ht hj, fun i hi => by rw [kk 203 (by decide)]; exact s4 i hi, fun i hi => by rw [kk 202 (by decide)]; exact s5 i hi, fun i hi => by rw [kk 202 (by decide)]; exact s6 i hi, f4, fun f hf => ?_⟩, by rw [k2 3 (by decide) (by decide) (by decide)]; exact a3, by rw [k2 27 (by decide) (by decide) (by decide)]; exact a4, a5⟩, ⟨b1.fr (by rw [k1]; exact c8 14 (by decide) (by decide)) (fun a x y => kk a (by omega)), b2.fr (k2 11 (by decide) (by decide) (by decide)) (fun a x y => kk a (by omega))⟩, t1.fr (by rw [k1]; exact c8 12 (by decide) (by decide)) (by rw [k1]; exact c8 13 (by decide) (by decide)) (k2 4 (by decide) (by decide) (by decide)) (k2 12 (by decide) (by decide) (by decide)) (kk 156 (by decide)) (kk 176 (by decide)), d1.fr (Nat.le_refl _) (by rw [k1]; exact c8 17 (by decide) (by decide)) (k2 54 (by decide) (by decide) (by decide)) (fun a x y => kk a (by omega)) (kk 218 (by decide)), ⟨by rw [k1]; exact c6, f3, fun f hf => ?_, fun f hf t ht => by rw [kk _ (by omega), kk 213 (by decide)]; exact i4 f hf t ht⟩, ⟨⟨p1.1, Or.inr ⟨fc, 0, l3, by decide, rfl, by show upd z.k fc 0 fc = nI 0; unfold upd; rw [if_pos rfl]; rfl⟩⟩, p2, p3, fun f hf => ?_, Or.inr ⟨fc, by omega, rfl⟩, l3⟩, by rw [kk 144 (by decide)]; exact n1⟩
  · exact (wv_fr (fun a x y => kk a (by omega))).trans r1
  · show _ = upd z.k fc 0 f
    unfold upd
    by_cases e : f = fc
    · subst e; rw [if_pos rfl, flc]; exact c4
    · rw [if_neg e, fl f hf e]; exact r8 f hf
  · show _ = upd z.k fc 0 f
    unfold upd
    rw [f6 f, c2 211 (by omega) (by omega) (by decide)]
    by_cases e : f = fc
    · rw [if_pos e, if_pos e]
    · rw [if_neg e, if_neg e]; exact s8 f hf
  · dsimp only
    by_cases e : f = fc
    · subst e
      rw [if_pos rfl, if_pos rfl]
      refine ⟨by rw [flc, c3, r2], ?_, fun i hi => f7 i hi, by rw [f5 f, if_pos rfl, k162, s2], fun c hc => a5.2.2.1.2.2 c hc⟩
      rw [← r1, ← c1]
      exact wv_fr (fun a x y => kG a (by omega) (by omega) (by omega) (by omega))
    · rw [if_neg e, if_neg e]
      obtain ⟨q1, q2, q3, q4, q5⟩ := i3 f (by omega)
      refine ⟨by rw [fl f (by omega) e]; exact q1, ?_, fun i hi => ?_, by rw [f5 f, if_neg e, c2 210 (by omega) (by omega) (by decide)]; exact q4, q5⟩
      · rw [← q2]
        exact wv_fr (fun a x y => k a (by omega) (by omega) (by omega) (by omega) (by omega) (by omega) (by omega))
      · rw [f8 _ (by omega), c2 212 (by omega) (by omega) (by decide)]; exact q3 i hi
  · dsimp only
    by_cases e : f = fc
    · subst e
      rw [if_pos rfl, if_pos rfl]
      exact ⟨0, fun _ => 0, fun _ => 0, fun _ => 0, fun _ _ => 0, by show upd z.k f 0 f = _; unfold upd; rw [if_pos rfl]; rfl, by decide, Nat.le_refl _, fun _ => show 0 < 3 by decide, fun _ _ => show 0 < 4 by decide, fun i hi => absurd hi (by omega), fun i hi => absurd hi (by omega), fun _ => ⟨rfl, fun c _ => rfl⟩⟩
    · rw [if_neg e, if_neg e]
      obtain ⟨mn, na, nb, ny, nm, q1, q2, q3, q4, q5, q6, q7, q8⟩ := p4 f (by omega)
      refine ⟨mn, na, nb, ny, nm, ?_, q2, q3, q4, q5, q6, q7, fun on => ?_⟩
      · show upd z.k fc 0 f = _
        unfold upd
        rw [if_neg e]; exact q1
      · exact absurd ((nI_eq (by omega) (by omega)).mp (show nI fc = nI f from on)).symm e
theorem Ivx.fz {z : Nz} {n : Nat} {Ls : List (List Cls)} {tb fc ic : Nat} {fr : Nat → Nat} {wf : Nat → Wr} (h : Ivx g z n Ls tb fc ic fr wf) (on : ¬ z.f = -1) : z.f.toNatClampNeg < 3 ∧ z.f = nI z.f.toNatClampNeg := by
  have h3 := h.fc3
  rcases h.pz.2.2.2.2.1 with e | ⟨f, h1, h2⟩
  · exact absurd e on
  · rw [h2, nI_clamp (by omega)]
    exact ⟨by omega, rfl⟩
theorem p_end (hI : Iv g) (q : ∀ v G, Nu l E 0 yX8_end [.ref 162] v G → Q (some (.int v)) G) : Ct l E lay NC 1 0 0 yX7_end [.ref 1] g Q X := by
  obtain ⟨z, n, Ls, tb, fc, ic, fr, wf, h⟩ := hI
  have e16 : g 1 16 = z.f := h.1.1.2.2.2.2.2.2.1
  have e46 : g 162 46 = z.f := h.1.2.1.2.2.2.2.2.2.1
  have hf : ¬ g 1 16 = -1 → z.f.toNatClampNeg < 3 ∧ g 1 16 = nI z.f.toNatClampNeg := fun on => by rw [e16] at on ⊢; exact h.fz on
  have hf2 : ¬ g 162 46 = -1 → z.f.toNatClampNeg < 3 ∧ g 162 46 = nI z.f.toNatClampNeg := fun on => by rw [e46] at on ⊢; exact h.fz on
  refine c_end (fun e0 => q _ _ (fun Q' X' q' => m_end hf2 (fun _ g' f t => q' g' (iv_z h f)) (fun on => absurd (e46.trans (e16.symm.trans e0)) on))) hf (fun on => q _ _ (fun Q' X' q' => ?_))
  have k162 : u2 g 1 16 (-1) 162 = g 162 := u2_ne 162 (by decide)
  refine m_end (by rw [k162]; exact hf2) (fun e => absurd (by rw [k162] at e; exact e16.trans (e46.symm.trans e)) on) (fun _ => ?_)
  have f3 := (hf on).1
  rw [u2_ne 211 (by decide), h.1.2.1.2.2.2.2.2.2.2 _ f3, ← h.1.1.2.2.2.2.2.2.2 _ f3]
  refine q' _ ⟨_, _, _, _, _, _, _, _, h.row (w' := z.w) (n' := n) (fun a h1 _ h3 _ _ => by rw [u2_ne a h3, u2_ne a h3, u2_ne a h1]) (fun j hj => by rw [u2_ne 1 (by decide), u2_ne 1 (by decide), u2_at, if_neg hj]) (by rw [u2_ne 1 (by decide), u2_ne 1 (by decide), u2_self]) (fun j h0 h46 => by rw [u2_at, if_neg h46, u2_at, if_neg h0, k162]) (by rw [u2_self]) ?_ (fun i hi => by rw [u2_ne 164 (by decide), u2_ne 164 (by decide), u2_ne 164 (by decide)]; exact h.1.2.1.1 i hi) h.pw⟩
  rw [← h.ew]
  exact wv_fr (fun a x y => by rw [u2_ne a (by omega), u2_ne a (by omega), u2_ne a (by omega)])
theorem p_image (hI : Iv g) (q : ∀ v G, Nu l E 0 yX8_image [.ref 162] v G → Q (some (.int v)) G) : Ct l E lay NC 2 0 0 yX7_image [.ref 1] g Q X := by
  obtain ⟨z, n, Ls, tb, fc, ic, fr, wf, h⟩ := hI
  obtain ⟨m1, m2, m3, m4⟩ := h.2.2.2.1
  refine c_image m1 m2 (fun e4 => q _ _ (fun Q' X' q' => m_image h.ri m1 m3 (fun _ g' f t => q' g' (iv_z h f)) (fun e => absurd e4 (by omega)))) (fun l4 G c1 c2 c3 c4 => q _ _ (fun Q' X' q' => ?_))
  have k162 : G 162 = g 162 := c2 162 (by omega) (by decide)
  refine m_image (h.riG k162 (c2 164 (by omega) (by decide))) m1 (by rw [k162]; exact m3) (fun e => absurd l4 (by omega)) (fun _ g' f1 f2 t f3 f4 f5 => q' g' ?_)
  have k1 : g' 1 = G 1 := f1 1 (by decide) (by decide)
  refine ⟨_, _, _, _, _, _, _, _, h.img (ic' := ic + 1) (fun a h1 h2 h3 h4 h5 => (f1 a h2 h4).trans (c2 a (by omega) h1)) (fun j hj => by rw [k1]; exact c4 j hj) (fun j h0 h54 => by rw [f2 j h0 h54, k162]) ⟨l4, by rw [k1]; exact c3, f3, fun k hk => ?_⟩⟩
  have ew : wv g' (24 + 11 * k) = wv G (24 + 11 * k) := wv_fr (fun a x y => f1 a (by omega) (by omega))
  by_cases e : k = ic
  · subst e
    rw [ew, c1, h.ew]
    exact ⟨fun i hi => f4 i hi, n, h.pw⟩
  · obtain ⟨q1, q2⟩ := m4 k (by omega)
    have ew2 : wv G (24 + 11 * k) = wv g (24 + 11 * k) := wv_fr (fun a x y => c2 a (by omega) (by omega))
    rw [ew, ew2]
    refine ⟨fun i hi => ?_, q2⟩
    rw [f5 _ (by omega), c2 218 (by omega) (by decide)]
    exact q1 i hi
theorem p_restore (hI : Iv g) (q : ∀ v G, Nu l E 1 yX8_restore [.ref 162] v G → Q (some (.int v)) G) : Ct l E lay NC 2 0 0 yX7_restore [.ref 1] g Q X := by
  obtain ⟨z, n, Ls, tb, fc, ic, fr, wf, h⟩ := hI
  obtain ⟨m1, m2, m3, m4⟩ := h.2.2.2.1
  refine c_restore m1 m2 (fun e0 => q _ _ (fun Q' X' q' => m_restore m1 m3 (fun _ g' f t => q' g' (iv_z h f)) (fun m e => absurd e0 (by omega)))) (fun k ek G c1 c2 c3 c4 c5 => q _ _ (fun Q' X' q' => ?_))
  have k162 : G 162 = g 162 := c2 162 (by decide) (by decide)
  refine m_restore m1 (by rw [k162]; exact m3) (fun e => absurd ek (by omega)) (fun m em g' f1 f2 t f3 f4 f5 => ?_)
  have emk : m = k := by omega
  subst emk
  refine q' g' ?_
  have k1 : g' 1 = G 1 := f1 1 (by decide) (by decide)
  have ha : ∀ a, a ≠ 1 → a ≠ 162 → u2 (u2 g 1 17 (nI m)) 162 54 (nI m) a = g a := fun a h1 h2 => by rw [u2_ne a h2, u2_ne a h1]
  obtain ⟨g1, hg1⟩ : ∃ g1, g1 = u2 (u2 g 1 17 (nI m)) 162 54 (nI m) := ⟨_, rfl⟩
  rw [← hg1] at ha
  have h1 : ∀ j, j ≠ 17 → g1 1 j = g 1 j := fun j hj => by rw [hg1, u2_ne 1 (by decide), u2_at, if_neg hj]
  have h2 : ∀ j, j ≠ 54 → g1 162 j = g 162 j := fun j hj => by rw [hg1, u2_at, if_neg hj, u2_ne 162 (by decide)]
  have h17 : g1 1 17 = nI m := by rw [hg1, u2_ne 1 (by decide), u2_self]
  have h54 : g1 162 54 = nI m := by rw [hg1, u2_self]
  obtain ⟨w1, n', w2⟩ := m4 m (by omega)
  have hh : Ivx g1 z n Ls tb fc m fr wf := h.img (fun a h1 h2 _ _ _ => ha a h1 h2) h1 (fun j _ hj => h2 j hj) ⟨by omega, h17, h54, fun k hk => by
    rw [wv_fr (g := g) (fun a x y => ha a (by omega) (by omega)), ha 218 (by decide) (by decide)]
    exact m4 k (by omega)⟩
  refine ⟨_, _, _, _, _, _, _, _, hh.row (w' := wv g (24 + 11 * m)) (n' := n') (fun a b1 b2 b3 b4 _ => by rw [f1 a b3 b4, c2 a b2 b1, ha a b1 b3]) (fun j hj => ?_) (by rw [k1]; exact c4) (fun j j0 j46 => ?_) f3 ?_ (fun i hi => ?_) w2⟩
  · rw [k1]
    by_cases e : j = 17
    · rw [e, c3, h17]
    · rw [c5 j hj e, h1 j e]
  · by_cases e : j = 54
    · rw [e, f4, h54]
    · rw [f2 j j0 j46 e, k162, h2 j e]
  · rw [← c1]
    exact wv_fr (fun a x y => f1 a (by omega) (by omega))
  · rw [f5 i hi, c2 218 (by decide) (by decide)]; exact w1 i hi
theorem here3 {w : Wr} {n : Nat} (h : ∀ c, c < n → ∃ y : Nat, y < 3 ∧ w (56 + 142 * c) = nI y) : (here (thrW w 0) n).length + (here (thrW w 1) n).length + (here (thrW w 2) n).length = (here (fun c => decide (w (56 + 142 * c + 3) = 1)) n).length := by
  induction n with
  | zero => rfl
  | succ n ih =>
    have i := ih (fun c hc => h c (by omega))
    rw [here_succ', here_succ', here_succ', here_succ', ← i]
    obtain ⟨y, hy, ey⟩ := h n (by omega)
    have t : ∀ v : Int32, thrW w v n = decide (w (56 + 142 * n + 3) = 1 ∧ w (56 + 142 * n) = v) := fun v => rfl
    have d01 : ¬ (0 : Int32) = 1 := by decide
    have d02 : ¬ (0 : Int32) = 2 := by decide
    have d12 : ¬ (1 : Int32) = 2 := by decide
    have d10 : ¬ (1 : Int32) = 0 := by decide
    have d20 : ¬ (2 : Int32) = 0 := by decide
    have d21 : ¬ (2 : Int32) = 1 := by decide
    rw [t, t, t]
    by_cases c : w (56 + 142 * n + 3) = 1
    · rcases (show y = 0 ∨ y = 1 ∨ y = 2 by omega) with e | e | e
      · have ey' : w (56 + 142 * n) = 0 := by rw [ey, e]; rfl
        simp [c, ey', d01, d02]; omega
      · have ey' : w (56 + 142 * n) = 1 := by rw [ey, e]; rfl
        simp [c, ey', d10, d12]; omega
      · have ey' : w (56 + 142 * n) = 2 := by rw [ey, e]; rfl
        simp [c, ey', d20, d21]; omega
    · simp [c]
theorem p_count {w : Int32} (hI : Iv g) (q : ∀ v G, Nu l E 1 yX8_count [.ref 162, .int w] v G → Q (some (.int v)) G) : Ct l E lay NC 3 0 0 yX7_count [.ref 1, .int w] g Q X := by
  obtain ⟨z, n, Ls, tb, fc, ic, fr, wf, h⟩ := hI
  have hn := h.hn
  have e16 : g 1 16 = z.f := h.1.1.2.2.2.2.2.2.1
  have e46 : g 162 46 = z.f := h.1.2.1.2.2.2.2.2.2.1
  have hf : ¬ g 1 16 = -1 → z.f.toNatClampNeg < 3 ∧ g 1 16 = nI z.f.toNatClampNeg := fun on => by rw [e16] at on ⊢; exact h.fz on
  have hf2 : ¬ g 162 46 = -1 → z.f.toNatClampNeg < 3 ∧ g 162 46 = nI z.f.toNatClampNeg := fun on => by rw [e46] at on ⊢; exact h.fz on
  have e2 : ∀ i, i < 7 → g 2 i = z.w i := fun i hi => by rw [← h.ew, wv_at (wx_i hi)]
  have key : ∀ V : Int32, (w = 0 → V = z.w 2) → (w = 1 → V = z.w 6) → (w = 2 → V = nI (here (fun c => decide (z.w (56 + 142 * c + 3) = 1)) n).length) → (w = 3 → V = g 162 37) → (w = 4 → V = g 162 11) → (w = 5 → V = z.w 5) → (w = 6 → V = g 162 45) → (w = 7 → g 162 46 = -1 → V = -1) → (w = 7 → ¬ g 162 46 = -1 → V = g 211 z.f.toNatClampNeg) → (w = 8 → V = g 162 54) → (w = 9 → V = g 162 4) → (w = 10 → V = z.w 1) → (w = 11 → V = z.w 0) → (ou 12 w → V = -1) → Nu l E 1 yX8_count [.ref 162, .int w] V g := by
    intro V a0 a1 a2 a3 a4 a5 a6 a7a a7b a8 a9 a10 a11 ao Q' X' q'
    exact m_count h.ri hf2 (fun e g' f t => by rw [← a0 e]; exact q' g' (iv_z h f)) (fun e g' f t => by rw [← a1 e]; exact q' g' (iv_z h f)) (fun e g' f t => by rw [← a2 e]; exact q' g' (iv_z h f)) (fun e g' f t => by rw [← a3 e]; exact q' g' (iv_z h f)) (fun e g' f t => by rw [← a4 e]; exact q' g' (iv_z h f)) (fun e g' f t => by rw [← a5 e]; exact q' g' (iv_z h f)) (fun e g' f t => by rw [← a6 e]; exact q' g' (iv_z h f)) (fun e e' g' f t => by rw [← a7a e e']; exact q' g' (iv_z h f)) (fun e e' g' f t => by rw [← a7b e e']; exact q' g' (iv_z h f)) (fun e g' f t => by rw [← a8 e]; exact q' g' (iv_z h f)) (fun e g' f t => by rw [← a9 e]; exact q' g' (iv_z h f)) (fun e g' f t => by rw [← a10 e]; exact q' g' (iv_z h f)) (fun e g' f t => by rw [← a11 e]; exact q' g' (iv_z h f)) (fun e g' f t => by rw [← ao e]; exact q' g' (iv_z h f))
  have no : ∀ {i : Nat}, i < 12 → w = nI i → ¬ ou 12 w := fun hi e => nu hi (by decide) e
  have v2 : nI (here (thr g 2 0) n).length + nI (here (thr g 2 1) n).length + nI (here (thr g 2 2) n).length = nI (here (fun c => decide (z.w (56 + 142 * c + 3) = 1)) n).length := by
    rw [here_thr hn, here_thr hn, here_thr hn, nI_add, nI_add, ← h.ew, here3 (fun c hc => h.wok.2.1 c (by omega))]
  exact c_count h.hn h.g6 hf (fun hw => q _ _ (key _ (fun _ => e2 2 (by decide)) (fun e => absurd (hw.symm.trans e) (by decide)) (fun e => absurd (hw.symm.trans e) (by decide)) (fun e => absurd (hw.symm.trans e) (by decide)) (fun e => absurd (hw.symm.trans e) (by decide)) (fun e => absurd (hw.symm.trans e) (by decide)) (fun e => absurd (hw.symm.trans e) (by decide)) (fun e _ => absurd (hw.symm.trans e) (by decide)) (fun e _ => absurd (hw.symm.trans e) (by decide)) (fun e => absurd (hw.symm.trans e) (by decide)) (fun e => absurd (hw.symm.trans e) (by decide)) (fun e => absurd (hw.symm.trans e) (by decide)) (fun e => absurd (hw.symm.trans e) (by decide)) (fun e => absurd e (no (i := 0) (by decide) hw)))) (fun hw => q _ _ (key _ (fun e => absurd (hw.symm.trans e) (by decide)) (fun _ => e2 6 (by decide)) (fun e => absurd (hw.symm.trans e) (by decide)) (fun e => absurd (hw.symm.trans e) (by decide)) (fun e => absurd (hw.symm.trans e) (by decide)) (fun e => absurd (hw.symm.trans e) (by decide)) (fun e => absurd (hw.symm.trans e) (by decide)) (fun e _ => absurd (hw.symm.trans e) (by decide)) (fun e _ => absurd (hw.symm.trans e) (by decide)) (fun e => absurd (hw.symm.trans e) (by decide)) (fun e => absurd (hw.symm.trans e) (by decide)) (fun e => absurd (hw.symm.trans e) (by decide)) (fun e => absurd (hw.symm.trans e) (by decide)) (fun e => absurd e (no (i := 1) (by decide) hw)))) (fun hw => q _ _ (key _ (fun e => absurd (hw.symm.trans e) (by decide)) (fun e => absurd (hw.symm.trans e) (by decide)) (fun _ => v2) (fun e => absurd (hw.symm.trans e) (by decide)) (fun e => absurd (hw.symm.trans e) (by decide)) (fun e => absurd (hw.symm.trans e) (by decide)) (fun e => absurd (hw.symm.trans e) (by decide)) (fun e _ => absurd (hw.symm.trans e) (by decide)) (fun e _ => absurd (hw.symm.trans e) (by decide)) (fun e => absurd (hw.symm.trans e) (by decide)) (fun e => absurd (hw.symm.trans e) (by decide)) (fun e => absurd (hw.symm.trans e) (by decide)) (fun e => absurd (hw.symm.trans e) (by decide)) (fun e => absurd e (no (i := 2) (by decide) hw)))) (fun hw => q _ _ (key _ (fun e => absurd (hw.symm.trans e) (by decide)) (fun e => absurd (hw.symm.trans e) (by decide)) (fun e => absurd (hw.symm.trans e) (by decide)) (fun _ => h.1.1.2.1.trans h.1.2.1.2.1.symm) (fun e => absurd (hw.symm.trans e) (by decide)) (fun e => absurd (hw.symm.trans e) (by decide)) (fun e => absurd (hw.symm.trans e) (by decide)) (fun e _ => absurd (hw.symm.trans e) (by decide)) (fun e _ => absurd (hw.symm.trans e) (by decide)) (fun e => absurd (hw.symm.trans e) (by decide)) (fun e => absurd (hw.symm.trans e) (by decide)) (fun e => absurd (hw.symm.trans e) (by decide)) (fun e => absurd (hw.symm.trans e) (by decide)) (fun e => absurd e (no (i := 3) (by decide) hw)))) (fun hw => q _ _ (key _ (fun e => absurd (hw.symm.trans e) (by decide)) (fun e => absurd (hw.symm.trans e) (by decide)) (fun e => absurd (hw.symm.trans e) (by decide)) (fun e => absurd (hw.symm.trans e) (by decide)) (fun _ => h.2.1.1.2.1.trans h.2.1.2.2.1.symm) (fun e => absurd (hw.symm.trans e) (by decide)) (fun e => absurd (hw.symm.trans e) (by decide)) (fun e _ => absurd (hw.symm.trans e) (by decide)) (fun e _ => absurd (hw.symm.trans e) (by decide)) (fun e => absurd (hw.symm.trans e) (by decide)) (fun e => absurd (hw.symm.trans e) (by decide)) (fun e => absurd (hw.symm.trans e) (by decide)) (fun e => absurd (hw.symm.trans e) (by decide)) (fun e => absurd e (no (i := 4) (by decide) hw)))) (fun hw => q _ _ (key _ (fun e => absurd (hw.symm.trans e) (by decide)) (fun e => absurd (hw.symm.trans e) (by decide)) (fun e => absurd (hw.symm.trans e) (by decide)) (fun e => absurd (hw.symm.trans e) (by decide)) (fun e => absurd (hw.symm.trans e) (by decide)) (fun _ => e2 5 (by decide)) (fun e => absurd (hw.symm.trans e) (by decide)) (fun e _ => absurd (hw.symm.trans e) (by decide)) (fun e _ => absurd (hw.symm.trans e) (by decide)) (fun e => absurd (hw.symm.trans e) (by decide)) (fun e => absurd (hw.symm.trans e) (by decide)) (fun e => absurd (hw.symm.trans e) (by decide)) (fun e => absurd (hw.symm.trans e) (by decide)) (fun e => absurd e (no (i := 5) (by decide) hw)))) (fun hw => q _ _ (key _ (fun e => absurd (hw.symm.trans e) (by decide)) (fun e => absurd (hw.symm.trans e) (by decide)) (fun e => absurd (hw.symm.trans e) (by decide)) (fun e => absurd (hw.symm.trans e) (by decide)) (fun e => absurd (hw.symm.trans e) (by decide)) (fun e => absurd (hw.symm.trans e) (by decide)) (fun _ => h.fi.1.trans h.fi.2.1.symm) (fun e _ => absurd (hw.symm.trans e) (by decide)) (fun e _ => absurd (hw.symm.trans e) (by decide)) (fun e => absurd (hw.symm.trans e) (by decide)) (fun e => absurd (hw.symm.trans e) (by decide)) (fun e => absurd (hw.symm.trans e) (by decide)) (fun e => absurd (hw.symm.trans e) (by decide)) (fun e => absurd e (no (i := 6) (by decide) hw)))) (fun hw off => q _ _ (key _ (fun e => absurd (hw.symm.trans e) (by decide)) (fun e => absurd (hw.symm.trans e) (by decide)) (fun e => absurd (hw.symm.trans e) (by decide)) (fun e => absurd (hw.symm.trans e) (by decide)) (fun e => absurd (hw.symm.trans e) (by decide)) (fun e => absurd (hw.symm.trans e) (by decide)) (fun e => absurd (hw.symm.trans e) (by decide)) (fun _ _ => rfl) (fun _ on => absurd (e46.trans (e16.symm.trans off)) on) (fun e => absurd (hw.symm.trans e) (by decide)) (fun e => absurd (hw.symm.trans e) (by decide)) (fun e => absurd (hw.symm.trans e) (by decide)) (fun e => absurd (hw.symm.trans e) (by decide)) (fun e => absurd e (no (i := 7) (by decide) hw)))) (fun hw on => q _ _ (key _ (fun e => absurd (hw.symm.trans e) (by decide)) (fun e => absurd (hw.symm.trans e) (by decide)) (fun e => absurd (hw.symm.trans e) (by decide)) (fun e => absurd (hw.symm.trans e) (by decide)) (fun e => absurd (hw.symm.trans e) (by decide)) (fun e => absurd (hw.symm.trans e) (by decide)) (fun e => absurd (hw.symm.trans e) (by decide)) (fun _ off => absurd (e16.trans (e46.symm.trans off)) on) (fun _ _ => (h.1.1.2.2.2.2.2.2.2 _ (hf on).1).trans (h.1.2.1.2.2.2.2.2.2.2 _ (hf on).1).symm) (fun e => absurd (hw.symm.trans e) (by decide)) (fun e => absurd (hw.symm.trans e) (by decide)) (fun e => absurd (hw.symm.trans e) (by decide)) (fun e => absurd (hw.symm.trans e) (by decide)) (fun e => absurd e (no (i := 7) (by decide) hw)))) (fun hw => q _ _ (key _ (fun e => absurd (hw.symm.trans e) (by decide)) (fun e => absurd (hw.symm.trans e) (by decide)) (fun e => absurd (hw.symm.trans e) (by decide)) (fun e => absurd (hw.symm.trans e) (by decide)) (fun e => absurd (hw.symm.trans e) (by decide)) (fun e => absurd (hw.symm.trans e) (by decide)) (fun e => absurd (hw.symm.trans e) (by decide)) (fun e _ => absurd (hw.symm.trans e) (by decide)) (fun e _ => absurd (hw.symm.trans e) (by decide)) (fun _ => h.2.2.2.1.2.1.trans h.2.2.2.1.2.2.1.symm) (fun e => absurd (hw.symm.trans e) (by decide)) (fun e => absurd (hw.symm.trans e) (by decide)) (fun e => absurd (hw.symm.trans e) (by decide)) (fun e => absurd e (no (i := 8) (by decide) hw)))) (fun hw => q _ _ (key _ (fun e => absurd (hw.symm.trans e) (by decide)) (fun e => absurd (hw.symm.trans e) (by decide)) (fun e => absurd (hw.symm.trans e) (by decide)) (fun e => absurd (hw.symm.trans e) (by decide)) (fun e => absurd (hw.symm.trans e) (by decide)) (fun e => absurd (hw.symm.trans e) (by decide)) (fun e => absurd (hw.symm.trans e) (by decide)) (fun e _ => absurd (hw.symm.trans e) (by decide)) (fun e _ => absurd (hw.symm.trans e) (by decide)) (fun e => absurd (hw.symm.trans e) (by decide)) (fun _ => h.2.2.1.2.1.trans h.2.2.1.2.2.1.symm) (fun e => absurd (hw.symm.trans e) (by decide)) (fun e => absurd (hw.symm.trans e) (by decide)) (fun e => absurd e (no (i := 9) (by decide) hw)))) (fun hw => q _ _ (key _ (fun e => absurd (hw.symm.trans e) (by decide)) (fun e => absurd (hw.symm.trans e) (by decide)) (fun e => absurd (hw.symm.trans e) (by decide)) (fun e => absurd (hw.symm.trans e) (by decide)) (fun e => absurd (hw.symm.trans e) (by decide)) (fun e => absurd (hw.symm.trans e) (by decide)) (fun e => absurd (hw.symm.trans e) (by decide)) (fun e _ => absurd (hw.symm.trans e) (by decide)) (fun e _ => absurd (hw.symm.trans e) (by decide)) (fun e => absurd (hw.symm.trans e) (by decide)) (fun e => absurd (hw.symm.trans e) (by decide)) (fun _ => e2 1 (by decide)) (fun e => absurd (hw.symm.trans e) (by decide)) (fun e => absurd e (no (i := 10) (by decide) hw)))) (fun hw => q _ _ (key _ (fun e => absurd (hw.symm.trans e) (by decide)) (fun e => absurd (hw.symm.trans e) (by decide)) (fun e => absurd (hw.symm.trans e) (by decide)) (fun e => absurd (hw.symm.trans e) (by decide)) (fun e => absurd (hw.symm.trans e) (by decide)) (fun e => absurd (hw.symm.trans e) (by decide)) (fun e => absurd (hw.symm.trans e) (by decide)) (fun e _ => absurd (hw.symm.trans e) (by decide)) (fun e _ => absurd (hw.symm.trans e) (by decide)) (fun e => absurd (hw.symm.trans e) (by decide)) (fun e => absurd (hw.symm.trans e) (by decide)) (fun e => absurd (hw.symm.trans e) (by decide)) (fun _ => e2 0 (by decide)) (fun e => absurd e (no (i := 11) (by decide) hw)))) (fun hw => q _ _ (key _ (fun e => absurd hw (no (i := 0) (by decide) e)) (fun e => absurd hw (no (i := 1) (by decide) e)) (fun e => absurd hw (no (i := 2) (by decide) e)) (fun e => absurd hw (no (i := 3) (by decide) e)) (fun e => absurd hw (no (i := 4) (by decide) e)) (fun e => absurd hw (no (i := 5) (by decide) e)) (fun e => absurd hw (no (i := 6) (by decide) e)) (fun e _ => absurd hw (no (i := 7) (by decide) e)) (fun e _ => absurd hw (no (i := 7) (by decide) e)) (fun e => absurd hw (no (i := 8) (by decide) e)) (fun e => absurd hw (no (i := 9) (by decide) e)) (fun e => absurd hw (no (i := 10) (by decide) e)) (fun e => absurd hw (no (i := 11) (by decide) e)) (fun _ => rfl)))
end Pairs

/-! PAIRS that only ask: trials, films -/
section Pairs
variable {l : Launch} {E : Ey} {g : Mm} {Q : Option Value → Mm → Prop} {X : String → Mm → Prop}
theorem lw_out {n : Nat} {v : Int32} (hn : n ≤ 6) (h : v < -1 ∨ nI n ≤ v) : ¬ isLw n v := by
  intro e
  rcases e with e | ⟨k, h1, h2⟩
  · subst e
    rcases h with e | e
    · exact absurd e (by decide)
    · have := Int32.le_iff_toInt_le.mp e
      rw [nI_toInt (by omega)] at this
      have z : (-1 : Int32).toInt = -1 := rfl
      omega
  · subst h2
    rcases h with e | e
    · have := Int32.lt_iff_toInt_lt.mp e
      rw [nI_toInt (by omega)] at this
      have z : (-1 : Int32).toInt = -1 := rfl
      omega
    · exact absurd ((nI_leI (by omega) (by omega)).mp e) (by omega)
theorem lw_in {n : Nat} {v : Int32} (hn : n ≤ 6) (h : ¬ (v < -1 ∨ nI n ≤ v)) : isLw n v := by
  by_cases e : v = -1
  · exact Or.inl e
  · right
    have h0 : ¬ v < 0 := fun c => h (Or.inl (by
      have c1 := Int32.lt_iff_toInt_lt.mp c
      have z : (-1 : Int32).toInt = -1 := rfl
      have z0 : (0 : Int32).toInt = 0 := rfl
      refine Int32.lt_iff_toInt_lt.mpr ?_
      rw [z]
      have : v.toInt ≠ -1 := fun q => e (Int32.toInt_inj.mp (q.trans z.symm))
      omega))
    obtain ⟨j, hj, ev⟩ := nI_of h0
    subst ev
    refine ⟨j, ?_, rfl⟩
    apply Nat.lt_of_not_le
    intro c
    exact h (Or.inr ((nI_leI (by omega) (by omega)).mpr c))
theorem nu3 {a b c i j k : Nat} {x y w : Int32} (hi : i < a) (hx : x = nI i) (hj : j < b) (hy : y = nI j) (hk : k < c) (hw : w = nI k) (ha : a ≤ 10000) (hb : b ≤ 10000) (hc : c ≤ 10000) : ¬ (ou a x ∨ ou b y ∨ ou c w) := fun e => e.elim (nu hi ha hx) (fun e => e.elim (nu hj hb hy) (nu hk hc hw))
theorem Ivx.wok {z : Nz} {n : Nat} {Ls : List (List Cls)} {tb fc ic : Nat} {fr : Nat → Nat} {wf : Nat → Wr} (h : Ivx g z n Ls tb fc ic fr wf) : WOk (wv g 2) := by rw [h.ew]; exact h.ok
theorem Ivx.w6' {z : Nz} {n : Nat} {Ls : List (List Cls)} {tb fc ic : Nat} {fr : Nat → Nat} {wf : Nat → Wr} (h : Ivx g z n Ls tb fc ic fr wf) : wv g 2 6 = nI n := by rw [h.ew]; exact h.w6
theorem fT {g g' : Mm} (h : FrT g g') : FrQ2 g g' := FrQ2.c (fun z z1 z2 z3 _ => h z z1 z2 z3)
theorem p_trial {y0 m0 v o0 : Int32} (hI : Iv g) (q : ∀ k' G, Nx l E 7 yX8_trial [.ref 162, .int y0, .int m0, .int v, .int o0] k' G → Q (some (.int k')) G) : Ct l E lay NC 9 1 6 yL_trial [.ref 1, .int y0, .int m0, .int v, .int o0, .ref 219] g Q X := by
  obtain ⟨z, n, Ls, tb, fc, ic, fr, wf, h⟩ := hI
  have hl := h.2.1.1.1
  refine w_trial (c_trial h.2.1.1 h.wok h.hn h.w6' (fun e => Or.inl ⟨rfl, q 1 g (fun Q' X' q' => m_trial h.ri h.2.1.2 (fun _ g' f t => q' g' _ (iv_z h f) t k1) (fun e1 _ => absurd e1 (lw_out hl e)) (fun e1 => absurd e1 (lw_out hl e)))⟩) (fun e1 e2 => Or.inr ⟨rfl, q 2 g (fun Q' X' q' => m_trial h.ri h.2.1.2 (fun e => absurd e1 e) (fun _ _ g' f t => q' g' _ (iv_z h f) t k2) (fun _ y m o a1 a2 a3 a4 a5 a6 => absurd e2 (nu3 a1 a2 a3 a4 a5 a6 (by decide) (by decide) (by decide))))⟩) (fun e1 y m o a1 a2 a3 a4 a5 a6 G hG => ⟨_, rfl, q 0 _ (fun Q' X' q' => ?_)⟩))
  have h2 := (h.ask (fT hG)).ask (FrQ2.o (v := nI (trC (lwOf Ls v) (-1) n y m o (wv g 2))))
  refine m_trial h2.ri h2.2.1.2 (fun e => absurd e1 e) (fun _ e => absurd e (nu3 a1 a2 a3 a4 a5 a6 (by decide) (by decide) (by decide))) (fun _ y' m' o' b1 b2 b3 b4 b5 b6 g' f t => q' g' _ (iv_z h2 f) t (fun _ => ?_))
  rw [o219 f, ← ieq a2 b2 (by omega) (by omega), ← ieq a4 b4 (by omega) (by omega), ← ieq a6 b6 (by omega) (by omega), h.ew]
theorem p_untaught {y0 m0 o0 : Int32} (hI : Iv g) (q : ∀ k' G, Nx l E 6 yX8_untaught [.ref 162, .int y0, .int m0, .int o0] k' G → Q (some (.int k')) G) : Ct l E lay NC 9 1 6 yL_untaught [.ref 1, .int y0, .int m0, .int o0, .ref 219] g Q X := by
  obtain ⟨z, n, Ls, tb, fc, ic, fr, wf, h⟩ := hI
  refine w_untaught (c_untaught h.2.1.1 h.lw' h.wok h.hn h.w6' (fun e => ⟨rfl, q 1 g (fun Q' X' q' => m_untaught h.ri h.2.1.2 h.lw (fun _ g' f t => q' g' _ (iv_z h f) t k1) (fun y m o a1 a2 a3 a4 a5 a6 => absurd e (nu3 a1 a2 a3 a4 a5 a6 (by decide) (by decide) (by decide))))⟩) (fun y m o a1 a2 a3 a4 a5 a6 G hG => ⟨_, rfl, q 0 _ (fun Q' X' q' => ?_)⟩))
  obtain ⟨V, hV⟩ : ∃ V : Int32, V = nI (trC (lwOf Ls (wv g 2 5)) (-1) n y m o (mskT (fun c => decide (c < n) && (thrW (wv g 2) (nI y) c && decide (wv g 2 (56 + 142 * c + 4) = 3))) (wv g 2))) := ⟨_, rfl⟩
  rw [← hV]
  have h2 := (h.ask (fT hG)).ask (FrQ2.o (v := V))
  refine m_untaught h2.ri h2.2.1.2 h2.lw (fun e => absurd e (nu3 a1 a2 a3 a4 a5 a6 (by decide) (by decide) (by decide))) (fun y' m' o' b1 b2 b3 b4 b5 b6 g' f t => q' g' _ (iv_z h2 f) t (fun _ => ?_))
  rw [o219 f, hV, ← ieq a2 b2 (by omega) (by omega), ← ieq a4 b4 (by omega) (by omega), ← ieq a6 b6 (by omega) (by omega), h.ew]
theorem p_odds {y0 m0 o0 k0 : Int32} (hI : Iv g) (q : ∀ k' G, Nx l E 6 yX8_odds [.ref 162, .int y0, .int m0, .int o0, .int k0] k' G → Q (some (.int k')) G) : Ct l E lay NC 9 1 6 yL_odds [.ref 1, .int y0, .int m0, .int o0, .int k0, .ref 219] g Q X := by
  obtain ⟨z, n, Ls, tb, fc, ic, fr, wf, h⟩ := hI
  have nk : ∀ k, k ≤ 20 → k0 = nI k → 1 ≤ k → ¬ (k0 < 1 ∨ 20 < k0) := fun k h1 h2 h3 e => by
    subst h2
    rcases e with e | e
    · exact absurd ((nI_ltI (a := k) (b := 1) (by omega) (by omega)).mp e) (by omega)
    · exact absurd ((nI_ltI (a := 20) (b := k) (by omega) (by omega)).mp e) (by omega)
  refine w_odds (c_odds h.2.1.1 h.lw' h.wok h.hn h.w6' (fun e => ⟨rfl, q 1 g (fun Q' X' q' => m_odds h.ri h.2.1.2 h.lw (fun _ g' f t => q' g' _ (iv_z h f) t k1) (fun y m o k a1 a2 a3 a4 a5 a6 a7 a8 a9 => absurd e (fun e => e.elim (nu3 a1 a2 a3 a4 a5 a6 (by decide) (by decide) (by decide)) (nk k a7 a8 a9))))⟩) (fun y m o k a1 a2 a3 a4 a5 a6 a7 a8 a9 G hG => ⟨_, rfl, q 0 _ (fun Q' X' q' => ?_)⟩))
  obtain ⟨V, hV⟩ : ∃ V : Int32, V = nI (here (fun i => decide (nI (here (thrW (wv g 2) (nI y)) n).length ≤ nI (trC (lwOf Ls (wv g 2 5)) (-1) n y m o (upd (upd (wv g 2) 0 (nI (i + 1))) 1 (nI (i + 1)))) * 2)) k).length := ⟨_, rfl⟩
  rw [← hV]
  have h2 := (h.ask (fT hG)).ask (FrQ2.o (v := V))
  refine m_odds h2.ri h2.2.1.2 h2.lw (fun e => absurd e (fun e => e.elim (nu3 a1 a2 a3 a4 a5 a6 (by decide) (by decide) (by decide)) (nk k a7 a8 a9))) (fun y' m' o' k' b1 b2 b3 b4 b5 b6 b7 b8 b9 g' f t => q' g' _ (iv_z h2 f) t (fun _ => ?_))
  rw [o219 f, hV, ← ieq a2 b2 (by omega) (by omega), ← ieq a4 b4 (by omega) (by omega), ← ieq a6 b6 (by omega) (by omega), ← ieq a8 b8 (by omega) (by omega), h.ew]
theorem p_fewest {y0 m0 o0 k0 : Int32} (hI : Iv g) (q : ∀ k' G, Nx l E 6 yX8_fewest [.ref 162, .int y0, .int m0, .int k0, .int o0] k' G → Q (some (.int k')) G) : Ct l E lay NC 9 1 6 yL_fewest [.ref 1, .int y0, .int m0, .int k0, .int o0, .ref 219] g Q X := by
  obtain ⟨z, n, Ls, tb, fc, ic, fr, wf, h⟩ := hI
  have nk : 1 ≤ k0 → k0 ≤ 100 → ¬ (k0 < 1 ∨ 100 < k0) := fun h1 h2 e => e.elim (fun e => absurd h1 (Int32.not_le.mpr e)) (fun e => absurd h2 (Int32.not_le.mpr e))
  refine w_fewest (c_fewest h.2.1.1 h.lw' h.wok h.hn h.w6' (fun e => ⟨rfl, q 1 g (fun Q' X' q' => m_fewest h.ri h.2.1.2 h.lw (fun _ g' f t => q' g' _ (iv_z h f) t k1) (fun y m o a1 a2 a3 a4 a5 a6 a7 a8 => absurd e (fun e => e.elim (nu3 a1 a2 a3 a4 a5 a6 (by decide) (by decide) (by decide)) (nk a7 a8))))⟩) (fun y m o a1 a2 a3 a4 a5 a6 a7 a8 G hG => ⟨_, rfl, q 0 _ (fun Q' X' q' => ?_)⟩))
  obtain ⟨V, hV⟩ : ∃ V : Int32, V = fwA (fun k => trC (lwOf Ls (wv g 2 5)) (-1) n y m o (mskT (kfP (wv g 2) n y k) (wv g 2))) k0 2 ((here (thrW (wv g 2) (nI y)) n).length - 1) := ⟨_, rfl⟩
  rw [← hV]
  have h2 := (h.ask (fT hG)).ask (FrQ2.o (v := V))
  refine m_fewest h2.ri h2.2.1.2 h2.lw (fun e => absurd e (fun e => e.elim (nu3 a1 a2 a3 a4 a5 a6 (by decide) (by decide) (by decide)) (nk a7 a8))) (fun y' m' o' b1 b2 b3 b4 b5 b6 b7 b8 g' f t => q' g' _ (iv_z h2 f) t (fun _ => ?_))
  rw [o219 f, hV, ← ieq a2 b2 (by omega) (by omega), ← ieq a4 b4 (by omega) (by omega), ← ieq a6 b6 (by omega) (by omega), h.ew]
theorem p_needed {y0 m0 o0 : Int32} (hI : Iv g) (q : ∀ k' G, Nx l E 7 yX8_needed [.ref 162, .int y0, .int m0, .int o0] k' G → Q (some (.int k')) G) : Ct l E lay NC 9 1 6 yL_needed [.ref 1, .int y0, .int m0, .int o0, .ref 219] g Q X := by
  obtain ⟨z, n, Ls, tb, fc, ic, fr, wf, h⟩ := hI
  have hl := h.2.1.1.1
  refine w_needed (c_needed h.2.1.1 h.lw' h.wok h.hn h.w6' (fun e => ⟨rfl, q 1 g (fun Q' X' q' => m_needed h.ri h.2.1.2 h.lw (fun _ g' f t => q' g' _ (iv_z h f) t k1) (fun e1 => absurd e e1) (fun y m o a1 a2 a3 a4 a5 a6 => absurd e (nu3 a1 a2 a3 a4 a5 a6 (by decide) (by decide) (by decide))))⟩) (fun e1 e2 => ⟨_, rfl, q 0 _ (fun Q' X' q' => ?_)⟩) (fun y m o a1 a2 a3 a4 a5 a6 k L hk e5 hL G hG => ⟨_, rfl, q 0 _ (fun Q' X' q' => ?_)⟩))
  · have h2 := h.ask (FrQ2.o (v := 0))
    rw [h.ew] at e2
    refine m_needed h2.ri h2.2.1.2 h2.lw (fun e => absurd e e1) (fun _ _ g' f t => q' g' _ (iv_z h2 f) t (fun _ => (o219 f).symm)) (fun y' m' o' b1 b2 b3 b4 b5 b6 k L hk e5 => ?_)
    rw [e2] at e5
    exact absurd e5.symm (nI_nem1 (by omega))
  · have h2 := (h.ask (fT hG)).ask (FrQ2.o (v := ndB (fun c => trC (some L) (nI c) n y m o (wv g 2)) (trC (some L) (-1) n y m o (wv g 2)) L.length))
    rw [h.ew] at e5
    refine m_needed h2.ri h2.2.1.2 h2.lw (fun e => absurd e (nu3 a1 a2 a3 a4 a5 a6 (by decide) (by decide) (by decide))) (fun _ e => ?_) (fun y' m' o' b1 b2 b3 b4 b5 b6 k' L' hk' e5' hL' g' f t => q' g' _ (iv_z h2 f) t (fun _ => ?_))
    · rw [e5] at e
      exact absurd e (nI_nem1 (by omega))
    · have ek : k = k' := ieq e5 e5' (by omega) (by omega)
      subst ek
      rw [hL] at hL'
      cases hL'
      rw [o219 f, ← ieq a2 b2 (by omega) (by omega), ← ieq a4 b4 (by omega) (by omega), ← ieq a6 b6 (by omega) (by omega), h.ew]
theorem p_meets {a b : Int32} (hI : Iv g) (q : ∀ k' G, Nx l E 3 yX8_meets [.ref 162, .int a, .int b] k' G → Q (some (.int k')) G) : Ct l E lay NC 9 1 6 yL_meets [.ref 1, .int a, .int b, .ref 219] g Q X := by
  obtain ⟨z, n, Ls, tb, fc, ic, fr, wf, h⟩ := hI
  have hn := h.hn
  refine w_meets (c_meets h.wok h.hn h.w6' (fun e => Or.inl ⟨rfl, q 1 g (fun Q' X' q' => m_meets h.ri (fun _ g' f t => q' g' _ (iv_z h f) t k1) (fun e1 e2 => absurd e (fun e => e.elim e1 e2)) (fun i j hi hc hj hp => absurd e (nu2 hi hc hj hp (by omega) (by omega))) (fun i j y hi hc hj hp => absurd e (nu2 hi hc hj hp (by omega) (by omega))))⟩) (fun e1 e2 e3 => Or.inr ⟨rfl, q 2 g (fun Q' X' q' => m_meets h.ri (fun e => absurd e (fun e => e.elim e1 e2)) (fun _ _ _ g' f t => q' g' _ (iv_z h f) t k2) (fun i j hi hc hj hp ne => absurd (ieq hc (e3.trans hp) (by omega) (by omega)) ne) (fun i j y hi hc hj hp ne => absurd (ieq hc (e3.trans hp) (by omega) (by omega)) ne))⟩) (fun i j hi hc hj hp ne nt => ⟨_, rfl, q 0 _ (fun Q' X' q' => ?_)⟩) (fun i j y hi hc hj hp ne nt hy ey G hG => ⟨_, rfl, q 0 _ (fun Q' X' q' => ?_)⟩))
  · have h2 := h.ask (FrQ2.o (v := -1))
    refine m_meets h2.ri (fun e => absurd e (nu2 hi hc hj hp (by omega) (by omega))) (fun _ _ e => absurd (ieq hc (e.trans hp) (by omega) (by omega)) ne) (fun i' j' hi' hc' hj' hp' _ _ g' f t => q' g' _ (iv_z h2 f) t (fun _ => (o219 f).symm)) (fun i' j' y' hi' hc' hj' hp' _ nt' => ?_)
    rw [← ieq hc hc' (by omega) (by omega), ← ieq hp hp' (by omega) (by omega), ← h.ew] at nt'
    exact absurd nt' nt
  · have h2 := (h.ask (fT hG)).ask (FrQ2.o (v := nI (here (fun k => decide (tRt (wv g 2) i j y (mnK k) = 1)) 64).length))
    refine m_meets h2.ri (fun e => absurd e (nu2 hi hc hj hp (by omega) (by omega))) (fun _ _ e => absurd (ieq hc (e.trans hp) (by omega) (by omega)) ne) (fun i' j' hi' hc' hj' hp' _ nt' => ?_) (fun i' j' y' hi' hc' hj' hp' _ _ hy' ey' g' f t => q' g' _ (iv_z h2 f) t (fun _ => ?_))
    · rw [← ieq hc hc' (by omega) (by omega), ← ieq hp hp' (by omega) (by omega), ← h.ew] at nt'
      exact absurd nt nt'
    · rw [← ieq hc hc' (by omega) (by omega), ← h.ew] at ey'
      rw [o219 f, ← ieq hc hc' (by omega) (by omega), ← ieq hp hp' (by omega) (by omega), ← ieq ey ey' (by omega) (by omega), h.ew]
end Pairs

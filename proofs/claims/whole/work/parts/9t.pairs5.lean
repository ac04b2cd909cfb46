/-! PAIRS that only ask: what is left but plain -/
theorem nrS_cg {ok ok' : Nat → Bool} {f f' : Nat → Int32} : ∀ {k : Nat}, (∀ j, j < k → ok j = ok' j ∧ (ok j = true → f j = f' j)) → nrS ok f k = nrS ok' f' k
  | 0, _ => rfl
  | k + 1, h => by
    have ih := nrS_cg (k := k) (fun j hj => h j (by omega))
    obtain ⟨h1, h2⟩ := h k (by omega)
    by_cases c : ok k = true
    · show (if ok k = true ∧ f k < (nrS ok f k).2 then (nI k, f k) else nrS ok f k) = if ok' k = true ∧ f' k < (nrS ok' f' k).2 then (nI k, f' k) else nrS ok' f' k
      rw [ih, ← h1, h2 c]
    · rw [nrS_n (fun z => c z.1), nrS_n (fun z => c (by rw [h1]; exact z.1)), ih]
theorem nrS_no {ok : Nat → Bool} {f f' : Nat → Int32} : ∀ {k : Nat}, (∀ j, j < k → ok j = false) → nrS ok f k = nrS ok f' 0
  | 0, _ => rfl
  | k + 1, h => by
    rw [nrS_n (fun z => by rw [h k (by omega)] at z; exact absurd z.1 (by decide))]
    exact nrS_no (fun j hj => h j (by omega))
section Pairs
variable {l : Launch} {E : Ey} {g : Mm} {Q : Option Value → Mm → Prop} {X : String → Mm → Prop}
theorem p_nearest {y : Int32} (hI : Iv g) (q : ∀ k' G, Nx l E 3 yX8_nearest [.ref 162, .int y] k' G → Q (some (.int k')) G) : Ct l E lay NC 9 1 6 yL_nearest [.ref 1, .int y, .ref 219] g Q X := by
  obtain ⟨z, n, Ls, tb, fc, ic, fr, wf, h⟩ := hI
  have hn := h.hn
  refine w_nearest (c_nearest h.hn h.g6 (fun e => ⟨rfl, q 1 g (fun Q' X' q' => m_nearest h.ri (fun _ g' f t => q' g' _ (iv_z h f) t k1) (fun i hi hc => absurd e (nu hi (by decide) hc)))⟩) (fun i hi hc e0 => ⟨_, rfl, q 0 _ (fun Q' X' q' => ?_)⟩) (fun i hi hc e0 => ⟨_, rfl, q 0 _ (fun Q' X' q' => ?_)⟩))
  · have h2 := h.ask (FrQ2.o (v := -1))
    refine m_nearest h2.ri (fun e => absurd e (nu hi (by decide) hc)) (fun i' hi' hc' g' f t => q' g' _ (iv_z h2 f) t (fun _ => ?_))
    rw [o219 f, ← ieq hc hc' (by omega) (by omega), nrS_no (f' := fun _ => 0) (fun j hj => ?_)]
    · rfl
    · unfold okN
      rw [here_thr hn, h.ew] at e0
      exact decide_eq_false (fun c => c.2 (Or.inl e0))
  · obtain ⟨V, hV⟩ : ∃ V : Int32, V = (nrS (fun k => decide (k ≠ i ∧ ¬ (here (thr g 2 (nI k)) n).length = 0)) (fun j => nI ((if odY g 2 n (nI i) = odY g 2 n (nI j) then 0 else 1) + (here (fun p => decide (sgY g 2 n (nI i) p ≠ sgY g 2 n (nI j) p)) 8).length)) 3).1 := ⟨_, rfl⟩
    rw [← hV]
    have h2 := h.ask (FrQ2.o (v := V))
    refine m_nearest h2.ri (fun e => absurd e (nu hi (by decide) hc)) (fun i' hi' hc' g' f t => q' g' _ (iv_z h2 f) t (fun _ => ?_))
    rw [o219 f, hV, ← ieq hc hc' (by omega) (by omega)]
    congr 1
    refine nrS_cg (fun j hj => ⟨?_, fun _ => by rw [unN_W hn h.wok, h.ew]⟩)
    unfold okN
    rw [here_thr hn, h.ew] at e0
    rw [here_thr hn, h.ew]
    refine decide_eq_decide.mpr ⟨fun c => ⟨c.1, fun d => c.2 (Or.inr d)⟩, fun c => ⟨c.1, fun d => d.elim e0 c.2⟩⟩
theorem p_blurred {y k : Int32} (hI : Iv g) (q : ∀ k' G, Nx l E 2 yX8_blurred [.ref 162, .int y, .int k] k' G → Q (some (.int k')) G) : Ct l E lay NC 9 1 6 yL_blurred [.ref 1, .int y, .int k, .ref 219] g Q X := by
  obtain ⟨z, n, Ls, tb, fc, ic, fr, wf, h⟩ := hI
  have hn := h.hn
  refine w_blurred (c_blurred h.hn h.g6 (fun e => ⟨rfl, q 1 g (fun Q' X' q' => m_blurred h.ri (fun _ g' f t => q' g' _ (iv_z h f) t k1) (fun i hi hc => absurd e (nu hi (by decide) hc)) (fun i hi hc => absurd e (nu hi (by decide) hc)))⟩) (fun i hi hc e0 => ⟨_, rfl, q 0 _ (fun Q' X' q' => ?_)⟩) (P := fun y e => pB (wv g 2) n y e) (fun y hy e he => ?_) (fun i hi hc e0 => ⟨_, rfl, q 0 _ (fun Q' X' q' => ?_)⟩))
  · have h2 := h.ask (FrQ2.o (v := -1))
    rw [here_thr hn, h.ew] at e0
    exact m_blurred h2.ri (fun e => absurd e (nu hi (by decide) hc)) (fun i' hi' hc' _ g' f t => q' g' _ (iv_z h2 f) t (fun _ => (o219 f).symm)) (fun i' hi' hc' n1 => by rw [← ieq hc hc' (by omega) (by omega)] at n1; exact absurd e0 n1)
  · have s1 := sgN_lt (w := wv g 2) (n := n) (y := nI y) (p := e / 8)
    have s2 := sgN_lt (w := wv g 2) (n := n) (y := nI y) (p := e % 8)
    unfold pB blr
    rw [decide_eq_true_iff, sgY_W hn (by omega) h.wok, sgY_W hn (by omega) h.wok]
    refine ⟨fun ⟨c1, c2, c3, c4⟩ => ⟨c1, c2, _, _, s1, s2, rfl, rfl, c3, by rw [sna_W hy s1, sna_W hy s2]; exact c4⟩, fun ⟨c1, c2, a, b, d1, d2, d3, d4, d5, d6⟩ => ?_⟩
    have ea := (nI_eq (by omega) (by omega)).mp d3
    have eb := (nI_eq (by omega) (by omega)).mp d4
    subst ea; subst eb
    rw [sna_W hy s1, sna_W hy s2] at d6
    exact ⟨c1, c2, d5, d6⟩
  · have h2 := h.ask (FrQ2.o (v := bkA (pB (wv g 2) n i) k 0 64))
    rw [here_thr hn, h.ew] at e0
    refine m_blurred h2.ri (fun e => absurd e (nu hi (by decide) hc)) (fun i' hi' hc' n1 => by rw [← ieq hc hc' (by omega) (by omega)] at n1; exact absurd n1 e0) (fun i' hi' hc' _ g' f t => q' g' _ (iv_z h2 f) t (fun _ => ?_))
    rw [o219 f, ← ieq hc hc' (by omega) (by omega), h.ew]
theorem p_of {c w : Int32} (hI : Iv g) (q : ∀ k' G, Nx l E 4 yX8_of [.ref 162, .int c, .int w] k' G → Q (some (.int k')) G) : Ct l E lay NC 9 1 6 yL_of [.ref 1, .int c, .int w, .ref 219] g Q X := by
  obtain ⟨z, n, Ls, tb, fc, ic, fr, wf, h⟩ := hI
  have hn := h.hn
  have dj : ∀ {a b : Int32}, w = a → w = b → a ≠ b → False := fun e1 e2 e3 => e3 (e1.symm.trans e2)
  have nx : ∀ {j : Nat}, j < 7 → w = nI j → ¬ ou 7 w := fun hj e => nu hj (by decide) e
  have key : ∀ (k j : Nat) (V : Int32) (G : Mm), FrQ2 g G → k < n → c = nI k → j < 7 → w = nI j →
      V = (if j = 0 then z.w (56 + 142 * k) else if j = 1 then z.w 2 - z.w (56 + 142 * k + 2) + z.w (56 + 142 * k + 1) else if j = 2 then z.w (56 + 142 * k + 4) else if j = 3 then z.w (56 + 142 * k + 3) else if j = 4 then z.w (56 + 142 * k + 5) else if j = 5 then z.w (56 + 142 * k + 6) else nI (here (fun o => hldB (lwOf Ls (z.w 5)) (-1) z.w k o) 6).length) →
      Nx l E 4 yX8_of [.ref 162, .int c, .int w] 0 (u2 G 219 0 V) := by
    intro k j V G hG hk hc hj hw hV Q' X' q'
    have h2 := (h.ask hG).ask (FrQ2.o (v := V))
    have fin : ∀ (i : Nat) (b : Int32), i < 7 → w = nI i → (i = j → b = V) → ∀ g', FrZ (u2 G 219 0 V) g' → g' 162 0 = 0 → Q' (some (.int b)) g' := fun i b hi hwi hb g' f t => q' g' _ (iv_z h2 f) t (fun _ => by rw [o219 f, hb (ieq hwi hw (by omega) (by omega))])
    refine m_of h2.ri h2.rule (fun e => absurd e (nu hk (by omega) hc)) (fun _ e => absurd e (nx hj hw)) (fun k' hk' hc' hv => fin 0 _ (by decide) hv ?_) (fun k' hk' hc' hv => fin 1 _ (by decide) hv ?_) (fun k' hk' hc' hv => fin 2 _ (by decide) hv ?_) (fun k' hk' hc' hv => fin 3 _ (by decide) hv ?_) (fun k' hk' hc' hv => fin 4 _ (by decide) hv ?_) (fun k' hk' hc' hv => fin 5 _ (by decide) hv ?_) (fun k' hk' hc' hv => fin 6 _ (by decide) hv ?_)
    all_goals intro ej; subst ej; rw [hV, ← ieq hc hc' (by omega) (by omega)]; simp
  have e' : ∀ {k r : Nat} {a b : Nat}, k < n → wx (56 + 142 * k + r) = some (a, b) → g (2 + a) b = z.w (56 + 142 * k + r) := fun hk e => by rw [← h.ew, wv_at e]
  refine w_of (c_of h.2.1.1 h.lw' h.hn h.g6 (fun e => Or.inl ⟨rfl, q 1 g (fun Q' X' q' => m_of h.ri h.rule (fun _ g' f t => q' g' _ (iv_z h f) t k1) (fun e1 _ => absurd e e1) (fun i hi hc => absurd e (nu hi (by omega) hc)) (fun i hi hc => absurd e (nu hi (by omega) hc)) (fun i hi hc => absurd e (nu hi (by omega) hc)) (fun i hi hc => absurd e (nu hi (by omega) hc)) (fun i hi hc => absurd e (nu hi (by omega) hc)) (fun i hi hc => absurd e (nu hi (by omega) hc)) (fun i hi hc => absurd e (nu hi (by omega) hc)))⟩) (fun e1 e2 => Or.inr ⟨rfl, q 2 g (fun Q' X' q' => m_of h.ri h.rule (fun e => absurd e e1) (fun _ _ g' f t => q' g' _ (iv_z h f) t k2) (fun i hi hc hv => absurd e2 (nx (j := 0) (by decide) hv)) (fun i hi hc hv => absurd e2 (nx (j := 1) (by decide) hv)) (fun i hi hc hv => absurd e2 (nx (j := 2) (by decide) hv)) (fun i hi hc hv => absurd e2 (nx (j := 3) (by decide) hv)) (fun i hi hc hv => absurd e2 (nx (j := 4) (by decide) hv)) (fun i hi hc hv => absurd e2 (nx (j := 5) (by decide) hv)) (fun i hi hc hv => absurd e2 (nx (j := 6) (by decide) hv)))⟩)
    (fun k hk hc hv => ⟨_, rfl, q 0 _ (key k 0 _ g FrQ2.refl hk hc (by decide) hv (e' (r := 0) hk (wx_yard (by omega))))⟩) (fun k hk hc hv => ⟨_, rfl, q 0 _ (key k 1 _ g FrQ2.refl hk hc (by decide) hv ?_)⟩) (fun k hk hc hv => ⟨_, rfl, q 0 _ (key k 2 _ g FrQ2.refl hk hc (by decide) hv (e' hk (wx_kind (by omega))))⟩) (fun k hk hc hv => ⟨_, rfl, q 0 _ (key k 3 _ g FrQ2.refl hk hc (by decide) hv (e' hk (wx_there (by omega))))⟩) (fun k hk hc hv => ⟨_, rfl, q 0 _ (key k 4 _ g FrQ2.refl hk hc (by decide) hv (e' hk (wx_took (by omega))))⟩) (fun k hk hc hv => ⟨_, rfl, q 0 _ (key k 5 _ g FrQ2.refl hk hc (by decide) hv (e' hk (wx_said (by omega))))⟩) (fun k hk hc hv G hG => ⟨_, rfl, q 0 _ (key k 6 _ G (FrQ2.c (fun z z1 z2 z3 z4 => hG z (by omega) (by omega) (by omega))) hk hc (by decide) hv (by rw [h.ew]; rfl))⟩))
  have a1 : g 4 k = z.w (56 + 142 * k + 1) := e' hk (wx_age (by omega))
  have a2 : g 5 k = z.w (56 + 142 * k + 2) := e' hk (wx_came (by omega))
  have a3 : g 2 2 = z.w 2 := by rw [← h.ew, wv_at (wx_i (by decide))]
  rw [a1, a2, a3]
  show _ = z.w 2 - z.w (56 + 142 * k + 2) + z.w (56 + 142 * k + 1)
  rw [Int32.add_comm]
end Pairs

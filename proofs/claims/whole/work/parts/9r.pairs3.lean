/-! PAIRS that only ask: by yards, by laws, trials -/
theorem here_thr {g : Mm} {n : Nat} {y : Int32} (hn : n ≤ 24) : here (thr g 2 y) n = here (thrW (wv g 2) y) n := here_congr (fun c hc => (thrW_thr (by omega)).symm)
theorem ssum_congr {P P' : Nat → Bool} {v v' : Nat → Int32} : ∀ {n : Nat}, (∀ c, c < n → P c = P' c ∧ v c = v' c) → ssum P v n = ssum P' v' n
  | 0, _ => rfl
  | n + 1, h => by
    have ih := ssum_congr (n := n) (fun c hc => h c (by omega))
    show (if P n then ssum P v n + v n else ssum P v n) = if P' n then ssum P' v' n + v' n else ssum P' v' n
    rw [ih, (h n (by omega)).1, (h n (by omega)).2]
theorem sgY_W {g : Mm} {n p : Nat} {y : Int32} (hn : n ≤ 24) (hp : p < 8) (hw : WOk (wv g 2)) : sgY g 2 n y p = nI (sgN (wv g 2) n y p) := by
  have e : ∀ s, s < 16 → ssum (thr g 2 y) (fun c => g (2 + 8) ((c * 8 + p) * 16 + s)) n = ssum (thrW (wv g 2) y) (fun c => wv g 2 (sgB c p + s)) n := fun s hs => ssum_congr (fun c hc => ⟨(thrW_thr (by omega)).symm, by rw [show sgB c p + s = 56 + 142 * c + 8 + 16 * p + s from rfl, wv_at (wx_sign (by omega) hp hs)]⟩)
  unfold sgY sgN
  rw [hv0_end (by decide) (fun s hs => by rw [e s hs]; exact ssum_nn hn (fun c hc => (hw.2.2 c (by omega)).sg hp hs)), bst_congr e]
theorem odY_W {g : Mm} {n : Nat} {y : Int32} (hn : n ≤ 24) (hw : WOk (wv g 2)) : odY g 2 n y = nI (odN (wv g 2) n y) := by
  have e : ∀ s, s < 6 → ssum (thr g 2 y) (fun c => g (2 + 9) (c * 6 + s)) n = ssum (thrW (wv g 2) y) (fun c => wv g 2 (odB c + s)) n := fun s hs => ssum_congr (fun c hc => ⟨(thrW_thr (by omega)).symm, by rw [show odB c + s = 56 + 142 * c + 136 + s from rfl, wv_at (wx_order (by omega) hs)]⟩)
  unfold odY odN
  rw [hv0_end (by decide) (fun s hs => by rw [e s hs]; exact ssum_nn hn (fun c hc => (hw.2.2 c (by omega)).od hs)), bst_congr e]
theorem here_succ' {P : Nat → Bool} {n : Nat} : (here P (n + 1)).length = (here P n).length + (if P n then 1 else 0) := by
  rw [here_succ]
  by_cases h : P n <;> simp [h]
theorem unN_W {g : Mm} {n i j : Nat} (hn : n ≤ 24) (hw : WOk (wv g 2)) : (if odY g 2 n (nI i) = odY g 2 n (nI j) then 0 else 1) + (here (fun p => decide (sgY g 2 n (nI i) p ≠ sgY g 2 n (nI j) p)) 8).length = unN (wv g 2) n i j := by
  have l1 : ∀ (a b : Nat), a < 16 → b < 16 → (nI a = nI b ↔ a = b) := fun a b ha hb => nI_eq (by omega) (by omega)
  unfold unN
  have hs := here_succ' (P := fun c => decide (grN (wv g 2) n (nI i) c ≠ grN (wv g 2) n (nI j) c)) (n := 8)
  have hc : here (fun c => decide (grN (wv g 2) n (nI i) c ≠ grN (wv g 2) n (nI j) c)) 8 = here (fun p => decide (sgY g 2 n (nI i) p ≠ sgY g 2 n (nI j) p)) 8 := here_congr (fun p hp => ?_)
  refine Eq.trans ?_ hs.symm
  rw [hc, odY_W hn hw, odY_W hn hw]
  · have o1 := odN_lt (w := wv g 2) (n := n) (y := nI i)
    have o2 := odN_lt (w := wv g 2) (n := n) (y := nI j)
    have e : grN (wv g 2) n (nI i) 8 = odN (wv g 2) n (nI i) ∧ grN (wv g 2) n (nI j) 8 = odN (wv g 2) n (nI j) := ⟨if_neg (by decide), if_neg (by decide)⟩
    rw [e.1, e.2]
    by_cases c : odN (wv g 2) n (nI i) = odN (wv g 2) n (nI j)
    · simp [c]
    · have c2 : ¬ nI (odN (wv g 2) n (nI i)) = nI (odN (wv g 2) n (nI j)) := fun q => c ((l1 _ _ (by omega) (by omega)).mp q)
      simp [c, c2]; omega
  · have e : grN (wv g 2) n (nI i) p = sgN (wv g 2) n (nI i) p ∧ grN (wv g 2) n (nI j) p = sgN (wv g 2) n (nI j) p := ⟨if_pos hp, if_pos hp⟩
    rw [e.1, e.2, sgY_W hn hp hw, sgY_W hn hp hw]
    have := l1 _ _ (sgN_lt (w := wv g 2) (n := n) (y := nI i) (p := p)) (sgN_lt (w := wv g 2) (n := n) (y := nI j) (p := p))
    exact decide_eq_decide.mpr (not_congr this.symm)
section Pairs
variable {l : Launch} {E : Ey} {g : Mm} {Q : Option Value → Mm → Prop} {X : String → Mm → Prop}
theorem p_share {yr a b rt : Int32} (hI : Iv g) (q : ∀ k' G, Nx l E 2 yX8_share [.ref 162, .int yr, .int a, .int b, .int rt] k' G → Q (some (.int k')) G) : Ct l E lay NC 9 1 6 yL_share [.ref 1, .int yr, .int a, .int b, .int rt, .ref 219] g Q X := by
  obtain ⟨z, n, Ls, tb, fc, ic, fr, wf, h⟩ := hI
  refine w_share (c_share h.m h.1.1.2.1 (fun e => ⟨rfl, q 1 g (fun Q' X' q' => m_share h.m h.1.2.1.2.1 h.nt' (fun _ g' f t => q' g' _ (iv_z h f) t k1) (fun e1 e2 => absurd e (fun e => e.elim e1 e2)))⟩) (fun e1 e2 => ⟨_, rfl, q 0 _ (fun Q' X' q' => ?_)⟩))
  have h2 := h.ask (FrQ2.o (v := nI (here (shP (g 144) yr a b rt) z.m).length))
  exact m_share h.m h2.1.2.1.2.1 h.nt (fun e => absurd e (fun e => e.elim e1 e2)) (fun _ _ g' f t => q' g' _ (iv_z h2 f) t (fun _ => (o219 f).symm))
theorem p_held {y o : Int32} (hI : Iv g) (q : ∀ k' G, Nx l E 5 yX8_held [.ref 162, .int y, .int o] k' G → Q (some (.int k')) G) : Ct l E lay NC 9 1 6 yL_held [.ref 1, .int y, .int o, .ref 219] g Q X := by
  obtain ⟨z, n, Ls, tb, fc, ic, fr, wf, h⟩ := hI
  have hn := h.hn
  refine w_held (c_held h.2.1.1 h.lw' h.hn h.g6 (fun e => ⟨rfl, q 1 g (fun Q' X' q' => m_held h.ri h.rule (fun _ g' f t => q' g' _ (iv_z h f) t k1) (fun i j hi hc hj hp => absurd e (nu2 hi hc hj hp (by decide) (by decide))))⟩) (fun i j hi hc hj hp G hG => ⟨_, rfl, q 0 _ (fun Q' X' q' => ?_)⟩))
  have h2 := (h.ask (FrQ2.c (g' := G) (fun z z1 z2 z3 z4 => hG z (by omega) (by omega) (by omega)))).ask (FrQ2.o (v := nI (here (fun c => thr g 2 (nI i) c && hldB (lwOf Ls (wv g 2 5)) (-1) (wv g 2) c j) n).length))
  refine m_held h2.ri h2.rule (fun e => absurd e (nu2 hi hc hj hp (by decide) (by decide))) (fun i' j' hi' hc' hj' hp' g' f t => q' g' _ (iv_z h2 f) t (fun _ => ?_))
  rw [o219 f, ← ieq hc hc' (by omega) (by omega), ← ieq hp hp' (by omega) (by omega), ← h.ew, here_congr (p' := fun c => thr g 2 (nI i) c && hldB (lwOf Ls (wv g 2 5)) (-1) (wv g 2) c j) (fun c hc => by rw [thrW_thr (by omega)])]
theorem p_holds {c o : Int32} (hI : Iv g) (q : ∀ k' G, Nx l E 4 yX8_holds [.ref 162, .int c, .int o] k' G → Q (some (.int k')) G) : Ct l E lay NC 9 1 6 yL_holds [.ref 1, .int c, .int o, .ref 219] g Q X := by
  obtain ⟨z, n, Ls, tb, fc, ic, fr, wf, h⟩ := hI
  have hn := h.hn
  refine w_holds (c_holds h.2.1.1 h.lw' h.hn h.g6 (fun e => Or.inl ⟨rfl, q 1 g (fun Q' X' q' => m_holds h.ri h.rule (fun _ g' f t => q' g' _ (iv_z h f) t k1) (fun e1 _ => absurd e e1) (fun i j hi hc _ _ => absurd e (nu hi (by omega) hc)))⟩) (fun e1 e2 => Or.inr ⟨rfl, q 2 g (fun Q' X' q' => m_holds h.ri h.rule (fun e => absurd e e1) (fun _ _ g' f t => q' g' _ (iv_z h f) t k2) (fun i j hi hc hj hp => absurd e2 (nu hj (by decide) hp)))⟩) (fun i j hi hc hj hp G r hG r1 r2 => ⟨_, rfl, q 0 _ (fun Q' X' q' => ?_)⟩))
  have h2 := (h.ask (FrQ2.c (g' := G) (fun z z1 z2 z3 z4 => hG z (by omega) (by omega) (by omega)))).ask (FrQ2.o (v := if r = 0 then 0 else 1))
  refine m_holds h2.ri h2.rule (fun e => absurd e (nu hi (by omega) hc)) (fun _ e => absurd e (nu hj (by decide) hp)) (fun i' j' hi' hc' hj' hp' g' r' f t s1 s2 => q' g' _ (iv_z h2 f) t (fun _ => ?_))
  rw [o219 f]
  rw [← ieq hc hc' (by omega) (by omega), ← ieq hp hp' (by omega) (by omega), hldB_iff, ← h.ew] at s2
  rcases r1 with e | e
  · rw [if_pos e]
    rcases s1 with e' | e'
    · exact e'
    · exact absurd (r2.mpr (s2.mp e')) (by rw [e]; decide)
  · rw [if_neg (by rw [e]; decide)]
    exact s2.mpr (r2.mp e)
theorem p_word {y p : Int32} (hI : Iv g) (q : ∀ k' G, Nx l E 2 yX8_word_ [.ref 162, .int y, .int p] k' G → Q (some (.int k')) G) : Ct l E lay NC 9 1 6 yL_word [.ref 1, .int y, .int p, .ref 219] g Q X := by
  obtain ⟨z, n, Ls, tb, fc, ic, fr, wf, h⟩ := hI
  have hn := h.hn
  have hw : WOk (wv g 2) := by rw [h.ew]; exact h.ok
  refine w_word (c_word h.hn h.g6 (fun e => ⟨rfl, q 1 g (fun Q' X' q' => m_wordY h.ri (fun _ g' f t => q' g' _ (iv_z h f) t k1) (fun i j hi hc hj hp => absurd e (nu2 hi hc hj hp (by decide) (by decide))))⟩) (fun i j hi hc hj hp e0 => ⟨_, rfl, q 0 _ (fun Q' X' q' => ?_)⟩) (fun i j hi hc hj hp e0 => ⟨_, rfl, q 0 _ (fun Q' X' q' => ?_)⟩))
  · have h2 := h.ask (FrQ2.o (v := -1))
    refine m_wordY h2.ri (fun e => absurd e (nu2 hi hc hj hp (by decide) (by decide))) (fun i' j' hi' hc' hj' hp' g' f t => q' g' _ (iv_z h2 f) t (fun _ => ?_))
    rw [o219 f, ← ieq hc hc' (by omega) (by omega), ← ieq hp hp' (by omega) (by omega), ← h.ew, ← here_thr hn, if_pos e0]
  · have h2 := h.ask (FrQ2.o (v := sgY g 2 n (nI i) j))
    refine m_wordY h2.ri (fun e => absurd e (nu2 hi hc hj hp (by decide) (by decide))) (fun i' j' hi' hc' hj' hp' g' f t => q' g' _ (iv_z h2 f) t (fun _ => ?_))
    rw [o219 f, ← ieq hc hc' (by omega) (by omega), ← ieq hp hp' (by omega) (by omega), ← h.ew, ← here_thr hn, if_neg e0, sgY_W hn hj hw]
theorem p_unlike {y p : Int32} (hI : Iv g) (q : ∀ k' G, Nx l E 3 yX8_unlike [.ref 162, .int y, .int p] k' G → Q (some (.int k')) G) : Ct l E lay NC 9 1 6 yL_unlike [.ref 1, .int y, .int p, .ref 219] g Q X := by
  obtain ⟨z, n, Ls, tb, fc, ic, fr, wf, h⟩ := hI
  have hn := h.hn
  have hw : WOk (wv g 2) := by rw [h.ew]; exact h.ok
  refine w_unlike (c_unlike h.hn h.g6 (fun e => ⟨rfl, q 1 g (fun Q' X' q' => m_unlike h.ri (fun _ g' f t => q' g' _ (iv_z h f) t k1) (fun i j hi hc hj hp => absurd e (nu2 hi hc hj hp (by decide) (by decide))) (fun i j hi hc hj hp => absurd e (nu2 hi hc hj hp (by decide) (by decide))))⟩) (fun i j hi hc hj hp e0 => ⟨_, rfl, q 0 _ (fun Q' X' q' => ?_)⟩) (fun i j hi hc hj hp e0 e1 => ⟨_, rfl, q 0 _ (fun Q' X' q' => ?_)⟩))
  · have h2 := h.ask (FrQ2.o (v := -1))
    refine m_unlike h2.ri (fun e => absurd e (nu2 hi hc hj hp (by decide) (by decide))) (fun i' j' hi' hc' hj' hp' _ g' f t => q' g' _ (iv_z h2 f) t (fun _ => (o219 f).symm)) (fun i' j' hi' hc' hj' hp' n1 n2 => ?_)
    rw [← ieq hc hc' (by omega) (by omega), ← h.ew, ← here_thr hn] at n1
    rw [← ieq hp hp' (by omega) (by omega), ← h.ew, ← here_thr hn] at n2
    exact absurd e0 (fun e => e.elim n1 n2)
  · have h2 := h.ask (FrQ2.o (v := nI ((if odY g 2 n (nI i) = odY g 2 n (nI j) then 0 else 1) + (here (fun p => decide (sgY g 2 n (nI i) p ≠ sgY g 2 n (nI j) p)) 8).length)))
    refine m_unlike h2.ri (fun e => absurd e (nu2 hi hc hj hp (by decide) (by decide))) (fun i' j' hi' hc' hj' hp' n1 => ?_) (fun i' j' hi' hc' hj' hp' _ _ g' f t => q' g' _ (iv_z h2 f) t (fun _ => ?_))
    · rw [← ieq hc hc' (by omega) (by omega), ← ieq hp hp' (by omega) (by omega), ← h.ew, ← here_thr hn, ← here_thr hn] at n1
      exact absurd n1 (fun e => e.elim e0 e1)
    · rw [o219 f, ← ieq hc hc' (by omega) (by omega), ← ieq hp hp' (by omega) (by omega), ← h.ew, unN_W hn hw]
end Pairs

/-! PAIRS: a child comes; seeds -/
theorem arr_in {w : Wr} {n r : Nat} {y a : Int32} {t : Bool} (hn : n < 24) (hr : r < 142) (hz : ∀ r, r < 142 → w (56 + 142 * n + r) = 0) : arrW w n y a t (56 + 142 * n + r) = cmB w n y a t r := by
  obtain ⟨V, hV⟩ : ∃ V : Wr, V = upd (upd (upd (upd (upd (upd w 6 (nI (n + 1))) (56 + 142 * n) y) (56 + 142 * n + 1) a) (56 + 142 * n + 2) (w 2)) (56 + 142 * n + 3) 1) (56 + 142 * n + 4) (kindA a t) := ⟨_, rfl⟩
  have v0 : V (56 + 142 * n) = y := by rw [hV]; simp [upd]
  have v1 : V (56 + 142 * n + 1) = a := by rw [hV]; simp [upd]
  have v2 : V (56 + 142 * n + 2) = w 2 := by rw [hV]; simp [upd]
  have v3 : V (56 + 142 * n + 3) = 1 := by rw [hV]; simp [upd]
  have v4 : V (56 + 142 * n + 4) = kindA a t := by rw [hV]; simp [upd]
  have v5 : ∀ r, 5 ≤ r → r < 142 → V (56 + 142 * n + r) = 0 := fun r h1 h2 => by
    rw [hV]; unfold upd
    rw [if_neg (by omega), if_neg (by omega), if_neg (by omega), if_neg (by omega), if_neg (by omega), if_neg (by omega)]
    exact hz r h2
  show fwW t n (upd (upd (upd (upd (upd (upd w 6 (nI (n + 1))) (56 + 142 * n) y) (56 + 142 * n + 1) a) (56 + 142 * n + 2) (w 2)) (56 + 142 * n + 3) 1) (56 + 142 * n + 4) (kindA a t)) (56 + 142 * n + r) = _
  rw [← hV]
  unfold fwW
  rcases (show r = 0 ∨ r = 1 ∨ r = 2 ∨ r = 3 ∨ r = 4 ∨ r = 5 ∨ r = 6 ∨ r = 7 ∨ (8 ≤ r ∧ r < 136) ∨ 136 ≤ r by omega) with e | e | e | e | e | e | e | e | ⟨e1, e2⟩ | e
  · subst e; rw [wx_blk hn (by decide)]; unfold cmB; simp; exact v0
  · subst e; rw [wx_blk hn (by decide)]; unfold cmB; simp; exact v1
  · subst e; rw [wx_blk hn (by decide)]; unfold cmB; simp; exact v2
  · subst e; rw [wx_blk hn (by decide)]; unfold cmB; simp; exact v3
  · subst e; rw [wx_blk hn (by decide)]; unfold cmB; simp; exact v4
  · subst e; rw [wx_blk hn (by decide)]; unfold cmB; simp; exact v5 5 (by decide) (by decide)
  · subst e; rw [wx_blk hn (by decide)]; unfold cmB; simp; exact v5 6 (by decide) (by decide)
  · subst e; rw [wx_blk hn (by decide)]; unfold cmB; simp; exact v5 7 (by decide) (by decide)
  · have hx : wx (56 + 142 * n + r) = some (8, n * 128 + (r - 8)) := by
      rw [wx_blk hn hr, if_neg (by omega), if_neg (by omega), if_neg (by omega), if_neg (by omega), if_neg (by omega), if_pos e2]
    have hcm : cmB w n y a t r = if 8 ≤ r ∧ r < 136 ∧ (r - 8) % 16 = fwT t n ((r - 8) / 16) then (if t then 500 else 10) else if r = 136 ∧ t = true then 500 else 0 := by
      unfold cmB
      rw [if_neg (by omega), if_neg (by omega), if_neg (by omega), if_neg (by omega), if_neg (by omega)]
    rw [hx, hcm]
    dsimp only
    have a1 : (n * 128 + (r - 8)) / 128 = n := by omega
    have a2 : (n * 128 + (r - 8)) % 16 = (r - 8) % 16 := by omega
    have a3 : (n * 128 + (r - 8)) % 128 / 16 = (r - 8) / 16 := by omega
    rw [a1, a2, a3]
    by_cases c : (r - 8) % 16 = fwT t n ((r - 8) / 16)
    · have k1 : ((8 : Nat) = 8 ∧ n = n ∧ (r - 8) % 16 = fwT t n ((r - 8) / 16)) := ⟨rfl, rfl, c⟩
      have k2 : (8 ≤ r ∧ r < 136 ∧ (r - 8) % 16 = fwT t n ((r - 8) / 16)) := ⟨e1, e2, c⟩
      rw [if_pos k1, if_pos k2]
    · rw [if_neg (fun z => c z.2.2), if_neg (fun z => absurd z.1 (by decide)), if_neg (fun z => c z.2.2), if_neg (fun z => absurd z.1 (by omega))]
      exact v5 r (by omega) hr
  · have hx : wx (56 + 142 * n + r) = some (9, n * 6 + (r - 136)) := by
      rw [wx_blk hn hr, if_neg (by omega), if_neg (by omega), if_neg (by omega), if_neg (by omega), if_neg (by omega), if_neg (by omega)]
    have hcm : cmB w n y a t r = if r = 136 ∧ t = true then 500 else 0 := by
      unfold cmB
      rw [if_neg (by omega), if_neg (by omega), if_neg (by omega), if_neg (by omega), if_neg (by omega), if_neg (by omega)]
    rw [hx, hcm]
    dsimp only
    rw [if_neg (fun z => absurd z.1 (by decide))]
    by_cases c : r = 136 ∧ t = true
    · rw [if_pos ⟨rfl, by omega, c.2⟩, if_pos c]
    · rw [if_neg (fun z => c ⟨by omega, z.2.2⟩), if_neg c]
      exact v5 r (by omega) hr
theorem arr_out {w : Wr} {n i : Nat} {y a : Int32} {t : Bool} (h : ¬ (56 + 142 * n ≤ i ∧ i < 56 + 142 * n + 142)) : arrW w n y a t i = if i = 6 then nI (n + 1) else w i := by
  have v : upd (upd (upd (upd (upd (upd w 6 (nI (n + 1))) (56 + 142 * n) y) (56 + 142 * n + 1) a) (56 + 142 * n + 2) (w 2)) (56 + 142 * n + 3) 1) (56 + 142 * n + 4) (kindA a t) i = if i = 6 then nI (n + 1) else w i := by
    unfold upd
    rw [if_neg (by omega), if_neg (by omega), if_neg (by omega), if_neg (by omega), if_neg (by omega)]
  show fwW t n (upd (upd (upd (upd (upd (upd w 6 (nI (n + 1))) (56 + 142 * n) y) (56 + 142 * n + 1) a) (56 + 142 * n + 2) (w 2)) (56 + 142 * n + 3) 1) (56 + 142 * n + 4) (kindA a t)) i = _
  unfold fwW
  cases e : wx i with
  | none => exact v
  | some q =>
    have e2 := wi_wx e
    dsimp only
    rw [if_neg (fun z => ?_), if_neg (fun z => ?_)]
    · exact v
    · unfold wi at e2
      rw [if_neg (by omega), if_neg (by omega), if_neg (by omega), if_pos z.1] at e2
      have := z.2.1
      omega
    · unfold wi at e2
      rw [if_neg (by omega), if_neg (by omega), if_pos z.1] at e2
      have := z.2.1
      omega
theorem arr_com {w : Wr} {n i : Nat} {y a : Int32} {t : Bool} (hn : n < 24) (hz : ∀ r, r < 142 → w (56 + 142 * n + r) = 0) : arrW w n y a t i = comW w n y a t i := by
  unfold comW
  by_cases h : 56 + 142 * n ≤ i ∧ i < 56 + 142 * n + 142
  · rw [if_pos h]
    have := arr_in (y := y) (a := a) (t := t) hn (show i - (56 + 142 * n) < 142 by omega) hz
    rw [show 56 + 142 * n + (i - (56 + 142 * n)) = i by omega] at this
    exact this
  · rw [if_neg h]; exact arr_out h
theorem PW.arr {w : Wr} {n m : Nat} {y : Nat} {a : Int32} {t : Bool} (h : PW w n m) (hn : n < 24) (hy : y < 3) : PW (arrW w n (nI y) a t) (n + 1) m := by
  have hz := h.2.2.2.2.2 n (Nat.le_refl _) hn
  have o : ∀ c r, c ≠ n → r < 142 → arrW w n (nI y) a t (56 + 142 * c + r) = w (56 + 142 * c + r) := fun c r hc hr => by rw [arr_out (by omega), if_neg (by omega)]
  have e6 : arrW w n (nI y) a t 6 = nI (n + 1) := by rw [arr_out (by omega), if_pos rfl]
  have e5 : arrW w n (nI y) a t 5 = w 5 := by rw [arr_out (by omega), if_neg (by omega)]
  refine ⟨by omega, e6, ⟨⟨n + 1, by omega, e6⟩, fun c hc => ?_, fun c hc r h1 h2 => ?_⟩, fun c hc => ?_, by rw [e5]; exact h.2.2.2.2.1, fun c h1 h2 r hr => by rw [o c r (by omega) hr]; exact h.2.2.2.2.2 c (by omega) h2 r hr⟩
  · by_cases e : c = n
    · subst e; exact ⟨y, hy, arr_in (r := 0) hn (by decide) hz⟩
    · rw [show arrW w n (nI y) a t (56 + 142 * c) = w (56 + 142 * c) from o c 0 e (by decide)]; exact h.2.2.1.2.1 c hc
  · by_cases e : c = n
    · subst e
      rw [arr_in hn h2 hz]
      unfold cmB
      rw [if_neg (by omega), if_neg (by omega), if_neg (by omega), if_neg (by omega), if_neg (by omega)]
      split
      · split <;> decide
      · split <;> decide
    · rw [o c r e h2]; exact h.2.2.1.2.2 c hc r h1 h2
  · by_cases e : c = n
    · subst e; exact Or.inr (arr_in (r := 3) hn (by decide) hz)
    · rw [o c 3 e (by decide)]; exact h.2.2.2.1 c hc
section Pairs
variable {l : Launch} {E : Ey} {g : Mm} {Q : Option Value → Mm → Prop} {X : String → Mm → Prop}
theorem p_come {y a tc : Int32} (hI : Iv g) (q : ∀ k' G, Nx l E 2 yX8_come [.ref 162, .int y, .int a, .int tc] k' G → Q (some (.int k')) G) : Ct l E lay NC 9 1 6 yL_come [.ref 1, .int y, .int a, .int tc, .ref 219] g Q X := by
  obtain ⟨z, n, Ls, tb, fc, ic, fr, wf, h⟩ := hI
  have hn := h.hn
  obtain ⟨t, htc⟩ : ∃ t : Bool, t = true ↔ tc ≠ 0 := ⟨decide (tc ≠ 0), by simp⟩
  refine w_come (c_come (t := t) h.hn h.g6 htc (fun e => ⟨rfl, q 1 g (fun Q' X' q' => m_come h.ri htc (fun _ g' f t => q' g' _ (iv_z h f) t k1) (fun e1 e2 => absurd e (fun e => e.elim e1 e2)) (fun e1 e2 => absurd e (fun e => e.elim e1 e2)))⟩) (fun e1 e2 e3 => ⟨_, rfl, q 0 _ (fun Q' X' q' => ?_)⟩) (fun e1 e2 e3 G hG hw => ⟨_, rfl, q 0 _ (fun Q' X' q' => ?_)⟩))
  · have h2 := h.ask (FrQ2.o (v := -1))
    exact m_come h2.ri htc (fun e => absurd e (fun e => e.elim e1 e2)) (fun _ _ _ g' f t => q' g' _ (iv_z h2 f) t (fun _ => (o219 f).symm)) (fun _ _ e => absurd e3 (by omega))
  · obtain ⟨y', hy', ey'⟩ := ou_in (b := 3) (by decide) e1
    have fw : FrWo g (u2 G 219 0 (nI n)) := by
      refine FrWo.o ⟨fun z z1 z2 _ => by rw [hG z z2, u2_ne z z1], fun j hj => by rw [hG 1 (by decide), u2_at, if_neg hj], by rw [hG 1 (by decide), u2_self]⟩
    refine m_come (h.riW fw) htc (fun e => absurd e (fun e => e.elim e1 e2)) (fun _ _ e => absurd e (by omega)) (fun _ _ _ g' f hr => q' g' _ (h.rowG (n' := n + 1) fw (w' := arrW z.w n y a t) ?_ f (fun i hi => ?_) ?_) f.2.2.2 (fun _ => (rm219 f).symm))
    · rw [← h.ew, ← hw]; exact wv_fr (fun a h1 h2 => by rw [u2_ne a (by omega)])
    · rw [hr i hi]; exact (arr_com e3 (h.pw.2.2.2.2.2 n (Nat.le_refl _) e3)).symm
    · rw [ey']; exact h.pw.arr e3 hy'
theorem p_seeds {x y : Int32} (hI : Iv g) (q : ∀ G, (∀ (Q : Option Value → Mm → Prop) (X : String → Mm → Prop), (∀ g', Iv g' → Q none g') → Ct l E lay NC 1 0 0 yX8_seeds [.ref 162, .int x, .int y] G Q X) → Q none G) : Ct l E lay NC 1 0 0 yX7_seeds [.ref 1, .int x, .int y] g Q X := by
  obtain ⟨z, n, Ls, tb, fc, ic, fr, wf, h⟩ := hI
  have fw : FrWo g (u2 (u2 (u2 g 2 0 x) 2 1 y) 1 16 (-1)) := ⟨fun z z1 z2 _ => by rw [u2_ne z z1, u2_ne z (by omega), u2_ne z (by omega)], fun j hj => by rw [u2_at, if_neg hj, u2_ne 1 (by decide), u2_ne 1 (by decide)], by rw [u2_self]⟩
  refine c_seeds (q _ (fun Q' X' q' => m_seeds (h.riW fw) (fun g' f hr => q' g' (h.rowG (n' := n) fw (w' := upd (upd z.w 0 x) 1 y) ?_ f hr ((h.pw.low (by decide)).low (by decide))))))
  rw [show wv (u2 (u2 (u2 g 2 0 x) 2 1 y) 1 16 (-1)) 2 = wv (u2 (u2 g 2 0 x) 2 1 y) 2 from wv_fr (fun a h1 h2 => by rw [u2_ne a (by omega)]), show u2 (u2 g 2 0 x) 2 1 y = u2 (u2 g (2 + 0) 0 x) (2 + 0) 1 y from rfl, wv_u2 (wx_i (by decide)), wv_u2 (wx_i (by decide)), h.ew]
end Pairs

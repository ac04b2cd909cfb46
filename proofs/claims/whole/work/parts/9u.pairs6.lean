/-! PAIRS that change the row -/
section IvR
variable {g G g' : Mm} {z : Nz} {n : Nat} {Ls : List (List Cls)} {tb fc ic : Nat} {fr : Nat → Nat} {wf : Nat → Wr}
/-- the reference before its call: the class has changed the world alone -/
theorem Ivx.riG (h : Ivx g z n Ls tb fc ic fr wf) (e1 : G 162 = g 162) (e2 : G 164 = g 164) : RI G z.w n := by
  obtain ⟨r1, r2, r3, r4⟩ := h.ri
  exact ⟨by rw [e1]; exact r1, by rw [e1]; exact r2, by rw [e2]; exact r3, r4⟩
def FrWo (g G : Mm) : Prop := (∀ z, z ≠ 1 → (z < 2 ∨ 12 < z) → z ≠ 219 → G z = g z) ∧ (∀ j, j ≠ 16 → G 1 j = g 1 j) ∧ G 1 16 = -1
theorem Ivx.rowG (h : Ivx g z n Ls tb fc ic fr wf) {w' : Wr} {n' : Nat} (c : FrWo g G) (cw : wv G 2 = w') (f : FrRm G g') (hr : ∀ i, i < 3464 → g' 164 i = w' i) (hp : PW w' n' Ls.length) : Iv g' := by
  refine ⟨_, _, _, _, _, _, _, _, h.row (w' := w') (n' := n') (fun a h1 h2 h3 h4 h5 => (f.1 a h3 h4).trans (c.1 a h1 h2 h5)) (fun j hj => ?_) ?_ (fun j h0 h46 => ?_) f.2.2.1 ?_ hr hp⟩
  · rw [f.1 1 (by decide) (by decide)]; exact c.2.1 j hj
  · rw [f.1 1 (by decide) (by decide)]; exact c.2.2
  · rw [f.2.1 j h0 h46, c.1 162 (by decide) (by decide) (by decide)]
  · rw [← cw]; exact wv_fr (fun a x y => f.1 a (by omega) (by omega))
theorem Ivx.riW (h : Ivx g z n Ls tb fc ic fr wf) (c : FrWo g G) : RI G z.w n := h.riG (c.1 162 (by decide) (by decide) (by decide)) (c.1 164 (by decide) (by decide) (by decide))
theorem FrWo.put {a k : Nat} {v : Int32} (h1 : 2 ≤ a) (h2 : a ≤ 12) : FrWo g (u2 (u2 g a k v) 1 16 (-1)) := by
  refine ⟨fun z z1 z2 _ => by rw [u2_ne z z1, u2_ne z (by omega)], fun j hj => ?_, by rw [u2_self]⟩
  rw [u2_at, if_neg hj, u2_ne 1 (by omega)]
theorem FrWo.o {v : Int32} (c : FrWo g G) : FrWo g (u2 G 219 0 v) := ⟨fun z z1 z2 z3 => by rw [u2_ne z z3]; exact c.1 z z1 z2 z3, fun j hj => by rw [u2_ne 1 (by decide)]; exact c.2.1 j hj, by rw [u2_ne 1 (by decide)]; exact c.2.2⟩
theorem wv_stop {v : Int32} {x : Int32} : wv (u2 (u2 G 1 16 x) 219 0 v) 2 = wv G 2 := wv_fr (fun a h1 h2 => by rw [u2_ne a (by omega), u2_ne a (by omega)])
theorem rm219 {v : Int32} (f : FrRm (u2 G 219 0 v) g') : g' 219 0 = v := by rw [f.1 219 (by decide) (by decide), u2_self]
theorem PW.low {w : Wr} {n m i : Nat} {v : Int32} (h : PW w n m) (h5 : i < 5) : PW (upd w i v) n m := by
  have k : ∀ j, 5 ≤ j → upd w i v j = w j := fun j hj => by unfold upd; rw [if_neg (by omega)]
  exact h.gen (k 6 (by decide)) (fun c hc => Or.inl (k _ (by omega))) (fun c hc => Or.inl (k _ (by omega))) (fun c hc r h1 h2 => k _ (by omega)) (by rw [k 5 (by decide)]; exact h.2.2.2.2.1) (fun c h1 h2 r hr => k _ (by omega))
theorem Ivx.pw (h : Ivx g z n Ls tb fc ic fr wf) : PW z.w n Ls.length := h.1.2.2.2.2
end IvR
section Pairs
variable {l : Launch} {E : Ey} {g : Mm} {Q : Option Value → Mm → Prop} {X : String → Mm → Prop}
theorem p_leave {c : Int32} (hI : Iv g) (q : ∀ k' G, Nx l E 2 yX8_leave [.ref 162, .int c] k' G → Q (some (.int k')) G) : Ct l E lay NC 9 1 6 yL_leave [.ref 1, .int c, .ref 219] g Q X := by
  obtain ⟨z, n, Ls, tb, fc, ic, fr, wf, h⟩ := hI
  have hn := h.hn
  have e7 : ∀ k, k < n → g 7 k = z.w (56 + 142 * k + 3) := fun k hk => by rw [← h.ew, wv_at (wx_there (by omega))]
  refine w_leave (c_leave h.hn h.g6 (fun e => ⟨rfl, q 1 g (fun Q' X' q' => m_leave h.ri (fun _ g' f t => q' g' _ (iv_z h f) t k1) (fun k hk hc => absurd e (nu hk (by omega) hc)) (fun k hk hc => absurd e (nu hk (by omega) hc)))⟩) (fun k hk hc e0 => ⟨_, rfl, q 0 _ (fun Q' X' q' => ?_)⟩) (fun k hk hc e0 => ⟨_, rfl, q 0 _ (fun Q' X' q' => ?_)⟩))
  · have h2 := h.ask (FrQ2.o (v := 0))
    rw [e7 k hk] at e0
    exact m_leave h2.ri (fun e => absurd e (nu hk (by omega) hc)) (fun k' hk' hc' _ g' f t => q' g' _ (iv_z h2 f) t (fun _ => (o219 f).symm)) (fun k' hk' hc' n1 => by rw [← ieq hc hc' (by omega) (by omega)] at n1; exact absurd e0 n1)
  · have fw : FrWo g (u2 (u2 (u2 g 7 k 0) 1 16 (-1)) 219 0 1) := (FrWo.put (by decide) (by decide)).o
    rw [e7 k hk] at e0
    refine m_leave (h.riW fw) (fun e => absurd e (nu hk (by omega) hc)) (fun k' hk' hc' n1 => by rw [← ieq hc hc' (by omega) (by omega)] at n1; exact absurd n1 e0) (fun k' hk' hc' _ g' f hr => ?_)
    rw [← ieq hc hc' (by omega) (by omega)] at hr
    refine q' g' _ (h.rowG (n' := n) fw (w' := upd z.w (56 + 142 * k + 3) 0) (by rw [wv_stop, show (7 : Nat) = 2 + 5 from rfl, wv_u2 (wx_there (by omega)), h.ew]) f hr ?_) f.2.2.2 (fun _ => (rm219 f).symm)
    have kk : ∀ j, j ≠ 56 + 142 * k + 3 → upd z.w (56 + 142 * k + 3) 0 j = z.w j := fun j hj => by unfold upd; rw [if_neg hj]
    exact h.pw.gen (kk _ (by omega)) (fun c hc => Or.inl (kk _ (by omega))) (fun c hc => by by_cases e : c = k; exact Or.inr (by unfold upd; rw [if_pos (by omega)]); exact Or.inl (kk _ (by omega))) (fun c hc r h1 h2 => kk _ (by omega)) (by rw [kk _ (by omega)]; exact h.lw) (fun c h1 h2 r hr => kk _ (by omega))
theorem p_visit {c y : Int32} (hI : Iv g) (q : ∀ k' G, Nx l E 2 yX8_visit [.ref 162, .int c, .int y] k' G → Q (some (.int k')) G) : Ct l E lay NC 9 1 6 yL_visit [.ref 1, .int c, .int y, .ref 219] g Q X := by
  obtain ⟨z, n, Ls, tb, fc, ic, fr, wf, h⟩ := hI
  have hn := h.hn
  have e7 : ∀ k, k < n → g 7 k = z.w (56 + 142 * k + 3) := fun k hk => by rw [← h.ew, wv_at (wx_there (by omega))]
  have e3 : ∀ k, k < n → g 3 k = z.w (56 + 142 * k) := fun k hk => by rw [← h.ew, wv_at (wx_yard (by omega))]
  refine w_visit (c_visit h.hn h.g6 (fun e => Or.inl ⟨rfl, q 1 g (fun Q' X' q' => m_visit h.ri (fun _ g' f t => q' g' _ (iv_z h f) t k1) (fun e1 _ => absurd e e1) (fun k hk hc => absurd e (nu hk (by omega) hc)) (fun k hk hc => absurd e (nu hk (by omega) hc)))⟩) (fun e1 e2 => Or.inr ⟨rfl, q 2 g (fun Q' X' q' => m_visit h.ri (fun e => absurd e e1) (fun _ _ g' f t => q' g' _ (iv_z h f) t k2) (fun k hk hc e => absurd e2 e) (fun k hk hc e => absurd e2 e))⟩) (fun k hk hc ey e0 => ⟨_, rfl, q 0 _ (fun Q' X' q' => ?_)⟩) (fun k hk hc ey e0 => ⟨_, rfl, q 0 _ (fun Q' X' q' => ?_)⟩))
  · have h2 := h.ask (FrQ2.o (v := -1))
    rw [e7 k hk] at e0
    exact m_visit h2.ri (fun e => absurd e (nu hk (by omega) hc)) (fun _ e => absurd e ey) (fun k' hk' hc' _ _ g' f t => q' g' _ (iv_z h2 f) t (fun _ => (o219 f).symm)) (fun k' hk' hc' _ n1 => by rw [← ieq hc hc' (by omega) (by omega)] at n1; exact absurd e0 n1)
  · have fw : FrWo g (u2 (u2 (u2 g 3 k y) 1 16 (-1)) 219 0 (g 3 k)) := (FrWo.put (by decide) (by decide)).o
    rw [e7 k hk] at e0
    refine m_visit (h.riW fw) (fun e => absurd e (nu hk (by omega) hc)) (fun _ e => absurd e ey) (fun k' hk' hc' _ n1 => by rw [← ieq hc hc' (by omega) (by omega)] at n1; exact absurd n1 e0) (fun k' hk' hc' _ _ g' f hr => ?_)
    rw [← ieq hc hc' (by omega) (by omega)] at hr ⊢
    refine q' g' _ (h.rowG (n' := n) fw (w' := upd z.w (56 + 142 * k) y) (by rw [wv_stop, show u2 g 3 k y = u2 g (2 + 1) k y from rfl, wv_u2 (wx_yard (by omega)), h.ew]) f hr ?_) f.2.2.2 (fun _ => by rw [rm219 f, e3 k hk])
    obtain ⟨y', hy', ey'⟩ := ou_in (b := 3) (by decide) ey
    have kk : ∀ j, j ≠ 56 + 142 * k → upd z.w (56 + 142 * k) y j = z.w j := fun j hj => by unfold upd; rw [if_neg hj]
    exact h.pw.gen (kk _ (by omega)) (fun c hc => by by_cases e : c = k; exact Or.inr ⟨y', hy', by unfold upd; rw [if_pos (by omega)]; exact ey'⟩; exact Or.inl (kk _ (by omega))) (fun c hc => Or.inl (kk _ (by omega))) (fun c hc r h1 h2 => kk _ (by omega)) (by rw [kk _ (by omega)]; exact h.lw) (fun c h1 h2 r hr => kk _ (by omega))
theorem Ivx.lowG {z : Nz} {n : Nat} {Ls : List (List Cls)} {tb fc ic : Nat} {fr : Nat → Nat} {wf : Nat → Wr} {g' : Mm} {i : Nat} {v x : Int32} (h : Ivx g z n Ls tb fc ic fr wf) (hi : i < 5) (f : FrRm (u2 (u2 (u2 g 2 i v) 1 16 (-1)) 219 0 x) g') (hr : ∀ j, j < 3464 → g' 164 j = upd z.w i v j) : Iv g' :=
  h.rowG (FrWo.put (by decide) (by decide)).o (w' := upd z.w i v) (by rw [wv_stop, show u2 g 2 i v = u2 g (2 + 0) i v from rfl, wv_u2 (wx_i (by omega)), h.ew]) f hr (h.pw.low hi)
theorem p_set {a v : Int32} (hI : Iv g) (q : ∀ k' G, Nx l E 1 yX8_set [.ref 162, .int a, .int v] k' G → Q (some (.int k')) G) : Ct l E lay NC 9 1 6 yL_set [.ref 1, .int a, .int v, .ref 219] g Q X := by
  obtain ⟨z, n, Ls, tb, fc, ic, fr, wf, h⟩ := hI
  have e2 : ∀ i, i < 7 → g 2 i = z.w i := fun i hi => by rw [← h.ew, wv_at (wx_i hi)]
  refine w_set (c_set (fun e1 e2 => ⟨rfl, q 1 g (fun Q' X' q' => m_set h.ri (fun _ _ g' f t => q' g' _ (iv_z h f) t k1) (fun a1 a2 => absurd ⟨a1, a2⟩ e1) (fun a1 a2 => absurd ⟨a1, a2⟩ e2))⟩) (fun a1 a2 => ⟨_, rfl, q 0 _ (fun Q' X' q' => ?_)⟩) (fun a1 a2 => ⟨_, rfl, q 0 _ (fun Q' X' q' => ?_)⟩))
  · exact m_set (h.riW (FrWo.put (by decide) (by decide)).o) (fun e => absurd ⟨a1, a2⟩ e) (fun _ _ g' f hr => q' g' _ (h.lowG (by decide) f hr) f.2.2.2 (fun _ => by rw [rm219 f, e2 3 (by decide)])) (fun e => absurd (a1.symm.trans e) (by decide))
  · exact m_set (h.riW (FrWo.put (by decide) (by decide)).o) (fun _ e => absurd ⟨a1, a2⟩ e) (fun e => absurd (a1.symm.trans e) (by decide)) (fun _ _ g' f hr => q' g' _ (h.lowG (by decide) f hr) f.2.2.2 (fun _ => by rw [rm219 f, e2 4 (by decide)]))
theorem p_years {m : Int32} (hI : Iv g) (q : ∀ k' G, Nx l E 1 yX8_years [.ref 162, .int m] k' G → Q (some (.int k')) G) : Ct l E lay NC 9 1 6 yL_years [.ref 1, .int m, .ref 219] g Q X := by
  obtain ⟨z, n, Ls, tb, fc, ic, fr, wf, h⟩ := hI
  have e2 : g 2 2 = z.w 2 := by rw [← h.ew, wv_at (wx_i (by decide))]
  refine w_years (c_years (fun e => Or.inl ⟨rfl, q 1 g (fun Q' X' q' => m_years h.ri (fun _ g' f t => q' g' _ (iv_z h f) t k1) (fun e1 _ => absurd e e1) (fun e1 _ => absurd e e1))⟩) (fun e1 e3 => Or.inr ⟨rfl, q 2 g (fun Q' X' q' => m_years h.ri (fun e => absurd e e1) (fun _ _ g' f t => q' g' _ (iv_z h f) t k2) (fun _ e => absurd e (by rw [← e2]; exact e3)))⟩) (fun e1 e3 => ⟨_, rfl, q 0 _ (fun Q' X' q' => ?_)⟩))
  refine m_years (h.riW (FrWo.put (by decide) (by decide)).o) (fun e => absurd e e1) (fun _ e => absurd (by rw [← e2]; exact e3) e) (fun _ _ g' f hr => ?_)
  rw [← e2] at hr ⊢
  exact q' g' _ (h.lowG (by decide) f hr) f.2.2.2 (fun _ => by rw [rm219 f])
theorem p_force {v : Int32} (hI : Iv g) (q : ∀ k' G, Nx l E 2 yX8_force [.ref 162, .int v] k' G → Q (some (.int k')) G) : Ct l E lay NC 9 1 6 yL_force [.ref 1, .int v, .ref 219] g Q X := by
  obtain ⟨z, n, Ls, tb, fc, ic, fr, wf, h⟩ := hI
  have hl := h.2.1.1.1
  have e14 : g 1 14 = nI Ls.length := h.2.1.1.2.1
  have e5 : g 2 5 = z.w 5 := by rw [← h.ew, wv_at (wx_i (by decide))]
  refine w_force (c_force (fun e => ⟨rfl, q 1 g (fun Q' X' q' => m_force h.ri hl h.2.1.2.2.1 (fun _ g' f t => q' g' _ (iv_z h f) t k1) (fun e1 => absurd e1 (lw_out hl (by rw [← e14]; exact e))))⟩) (fun e1 e2 => ⟨_, rfl, q 0 _ (fun Q' X' q' => ?_)⟩))
  have hv : isLw Ls.length v := lw_in hl (fun e => e.elim e1 (fun e => absurd e2 (by rw [e14]; exact Int32.not_lt.mpr e)))
  have fw : FrWo g (u2 (u2 (u2 g 2 5 v) 1 16 (-1)) 219 0 (g 2 5)) := (FrWo.put (by decide) (by decide)).o
  refine m_force (h.riW fw) hl (by rw [fw.1 162 (by decide) (by decide) (by decide)]; exact h.2.1.2.2.1) (fun e => absurd hv e) (fun _ g' f hr => q' g' _ (h.rowG (n' := n) fw (w' := upd z.w 5 v) (by rw [wv_stop, show u2 g 2 5 v = u2 g (2 + 0) 5 v from rfl, wv_u2 (wx_i (by omega)), h.ew]) f hr ?_) f.2.2.2 (fun _ => by rw [rm219 f, e5]))
  have kk : ∀ j, j ≠ 5 → upd z.w 5 v j = z.w j := fun j hj => by unfold upd; rw [if_neg hj]
  exact h.pw.gen (kk _ (by omega)) (fun c hc => Or.inl (kk _ (by omega))) (fun c hc => Or.inl (kk _ (by omega))) (fun c hc r h1 h2 => kk _ (by omega)) (by unfold upd; rw [if_pos rfl]; exact hv) (fun c h1 h2 r hr => kk _ (by omega))
end Pairs

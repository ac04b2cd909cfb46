/-! PAIRS that only ask -/
section Pairs
variable {l : Launch} {E : Ey} {g : Mm} {Q : Option Value → Mm → Prop} {X : String → Mm → Prop}
theorem nu2 {a b i j : Nat} {x y : Int32} (hi : i < a) (hx : x = nI i) (hj : j < b) (hy : y = nI j) (ha : a ≤ 10000) (hb : b ≤ 10000) : ¬ (ou a x ∨ ou b y) := fun e => e.elim (nu hi ha hx) (nu hj hb hy)
theorem p_order {c o : Int32} (hI : Iv g) (q : ∀ k G, Nx l E 2 yX8_order [.ref 162, .int c, .int o] k G → Q (some (.int k)) G) : Ct l E lay NC 9 1 6 yL_order [.ref 1, .int c, .int o, .ref 219] g Q X := by
  obtain ⟨z, n, Ls, tb, fc, ic, fr, wf, h⟩ := hI
  have hn := h.hn
  refine w_order (c_order h.hn h.g6 (fun e => Or.inl ⟨rfl, q 1 g (fun Q' X' q' => m_order h.ri (fun _ g' f t => q' g' _ (iv_z h f) t k1) (fun e1 _ => absurd e e1) (fun i j hi hc _ _ => absurd e (nu hi (by omega) hc)))⟩) (fun e1 e2 => Or.inr ⟨rfl, q 2 g (fun Q' X' q' => m_order h.ri (fun e => absurd e e1) (fun _ _ g' f t => q' g' _ (iv_z h f) t k2) (fun i j hi hc hj hp => absurd e2 (nu hj (by decide) hp)))⟩) (fun i j hi hc hj hp => ⟨_, rfl, q 0 _ (fun Q' X' q' => ?_)⟩))
  have h2 := h.ask (FrQ2.o (v := g 11 (i * 6 + j)))
  refine m_order h2.ri (fun e => absurd e (nu hi (by omega) hc)) (fun _ e => absurd e (nu hj (by decide) hp)) (fun i' j' hi' hc' hj' hp' g' f t => q' g' _ (iv_z h2 f) t (fun _ => ?_))
  rw [o219 f, ← ieq hc hc' (by omega) (by omega), ← ieq hp hp' (by omega) (by omega), ← h.ew, show odB i + j = 56 + 142 * i + 136 + j from rfl, wv_at (wx_order (by omega) hj)]
theorem p_since {c o : Int32} (hI : Iv g) (q : ∀ k G, Nx l E 2 yX8_since [.ref 162, .int c, .int o] k G → Q (some (.int k)) G) : Ct l E lay NC 9 1 6 yL_since [.ref 1, .int c, .int o, .ref 219] g Q X := by
  obtain ⟨z, n, Ls, tb, fc, ic, fr, wf, h⟩ := hI
  have hn := h.hn
  refine w_since (c_since h.hn h.g6 (fun e => Or.inl ⟨rfl, q 1 g (fun Q' X' q' => m_since h.ri (fun _ g' f t => q' g' _ (iv_z h f) t k1) (fun e1 _ => absurd e e1) (fun i j hi hc _ _ => absurd e (nu hi (by omega) hc)))⟩) (fun e1 e2 => Or.inr ⟨rfl, q 2 g (fun Q' X' q' => m_since h.ri (fun e => absurd e e1) (fun _ _ g' f t => q' g' _ (iv_z h f) t k2) (fun i j hi hc hj hp => absurd e2 (nu hj (by decide) hp)))⟩) (fun i j hi hc hj hp => ⟨_, rfl, q 0 _ (fun Q' X' q' => ?_)⟩))
  have h2 := h.ask (FrQ2.o (v := g 147 (i * 6 + j)))
  refine m_since h2.ri (fun e => absurd e (nu hi (by omega) hc)) (fun _ e => absurd e (nu hj (by decide) hp)) (fun i' j' hi' hc' hj' hp' g' f t => q' g' _ (iv_z h2 f) t (fun _ => ?_))
  rw [o219 f, ← ieq hc hc' (by omega) (by omega), ← ieq hp hp' (by omega) (by omega), h2.1.2.1.2.2.2.1 _ (by omega), h.1.1.2.2.2.1 _ (by omega), Nat.mul_comm]
theorem p_note {t w : Int32} (hI : Iv g) (q : ∀ k G, Nx l E 1 yX8_note [.ref 162, .int t, .int w] k G → Q (some (.int k)) G) : Ct l E lay NC 9 1 6 yL_note [.ref 1, .int t, .int w, .ref 219] g Q X := by
  obtain ⟨z, n, Ls, tb, fc, ic, fr, wf, h⟩ := hI
  have hm := h.m
  refine w_note (c_note hm h.1.1.2.1 (fun e => Or.inl ⟨rfl, q 1 g (fun Q' X' q' => m_note hm h.1.2.1.2.1 (fun _ g' f t => q' g' _ (iv_z h f) t k1) (fun e1 _ => absurd e e1) (fun i j hi hc _ _ => absurd e (nu hi (by omega) hc)))⟩) (fun e1 e2 => Or.inr ⟨rfl, q 2 g (fun Q' X' q' => m_note hm h.1.2.1.2.1 (fun e => absurd e e1) (fun _ _ g' f t => q' g' _ (iv_z h f) t k2) (fun i j hi hc hj hp => absurd e2 (nu hj (by decide) hp)))⟩) (fun i j hi hc hj hp => ⟨_, rfl, q 0 _ (fun Q' X' q' => ?_)⟩))
  have h2 := h.ask (FrQ2.o (v := g 144 (i * 19 + j)))
  refine m_note hm h2.1.2.1.2.1 (fun e => absurd e (nu hi (by omega) hc)) (fun _ e => absurd e (nu hj (by decide) hp)) (fun i' j' hi' hc' hj' hp' g' f t => q' g' _ (iv_z h2 f) t (fun _ => ?_))
  rw [o219 f, ← ieq hc hc' (by omega) (by omega), ← ieq hp hp' (by omega) (by omega), h2.1.2.1.2.2.1 _ _ (by omega) (by omega), h.1.1.2.2.1 _ (by omega)]
theorem p_first {o w : Int32} (hI : Iv g) (q : ∀ k G, Nx l E 2 yX8_first [.ref 162, .int o, .int w] k G → Q (some (.int k)) G) : Ct l E lay NC 9 1 6 yL_first [.ref 1, .int o, .int w, .ref 219] g Q X := by
  obtain ⟨z, n, Ls, tb, fc, ic, fr, wf, h⟩ := hI
  refine w_first (c_first (fun e => ⟨rfl, q 1 g (fun Q' X' q' => m_first (fun _ g' f t => q' g' _ (iv_z h f) t k1) (fun i j hi hc hj hp => absurd e (nu2 hi hc hj hp (by decide) (by decide))))⟩) (fun i hi hc hw => ⟨_, rfl, q 0 _ (fun Q' X' q' => ?_)⟩) (fun i hi hc hw => ⟨_, rfl, q 0 _ (fun Q' X' q' => ?_)⟩))
  · have h2 := h.ask (FrQ2.o (v := g 145 i))
    refine m_first (fun e => absurd e (nu2 hi hc (show 0 < 2 by decide) hw (by decide) (by decide))) (fun i' j' hi' hc' hj' hp' g' f t => q' g' _ (iv_z h2 f) t (fun _ => ?_))
    rw [o219 f, ← ieq hc hc' (by omega) (by omega), ← ieq (a := 0) hw hp' (by omega) (by omega), h.1.1.2.2.2.2.2.1 _ hi]
    exact h2.1.2.1.2.2.2.2.2.1 i hi
  · have h2 := h.ask (FrQ2.o (v := g 146 i))
    refine m_first (fun e => absurd e (nu2 hi hc (show 1 < 2 by decide) hw (by decide) (by decide))) (fun i' j' hi' hc' hj' hp' g' f t => q' g' _ (iv_z h2 f) t (fun _ => ?_))
    rw [o219 f, ← ieq hc hc' (by omega) (by omega), ← ieq (a := 1) hw hp' (by omega) (by omega), h.1.1.2.2.2.2.1 _ hi]
    exact h2.1.2.1.2.2.2.2.1 i hi
theorem p_uses {y s : Int32} (hI : Iv g) (q : ∀ k G, Nx l E 2 yX8_uses [.ref 162, .int y, .int s] k G → Q (some (.int k)) G) : Ct l E lay NC 9 1 6 yL_uses [.ref 1, .int y, .int s, .ref 219] g Q X := by
  obtain ⟨z, n, Ls, tb, fc, ic, fr, wf, h⟩ := hI
  refine w_uses (c_uses (fun e => ⟨rfl, q 1 g (fun Q' X' q' => m_uses h.ri (fun _ g' f t => q' g' _ (iv_z h f) t k1) (fun i j hi hc hj hp => absurd e (nu2 hi hc hj hp (by decide) (by decide))))⟩) (fun i j hi hc hj hp => ⟨_, rfl, q 0 _ (fun Q' X' q' => ?_)⟩))
  have h2 := h.ask (FrQ2.o (v := g 12 (i * 16 + j)))
  refine m_uses h2.ri (fun e => absurd e (nu2 hi hc hj hp (by decide) (by decide))) (fun i' j' hi' hc' hj' hp' g' f t => q' g' _ (iv_z h2 f) t (fun _ => ?_))
  rw [o219 f, ← ieq hc hc' (by omega) (by omega), ← ieq hp hp' (by omega) (by omega), ← h.ew, show 8 + 16 * i + j = 8 + (i * 16 + j) by omega, wv_at (wx_use (by omega))]
theorem p_seen {y s : Int32} (hI : Iv g) (q : ∀ k G, Nx l E 2 yX8_seen [.ref 162, .int y, .int s] k G → Q (some (.int k)) G) : Ct l E lay NC 9 1 6 yL_seen [.ref 1, .int y, .int s, .ref 219] g Q X := by
  obtain ⟨z, n, Ls, tb, fc, ic, fr, wf, h⟩ := hI
  refine w_seen (c_seen (fun e => ⟨rfl, q 1 g (fun Q' X' q' => m_seen h.ri (fun _ g' f t => q' g' _ (iv_z h f) t k1) (fun i j hi hc hj hp => absurd e (nu2 hi hc hj hp (by decide) (by decide))))⟩) (fun i j hi hc hj hp => ⟨_, rfl, q 0 _ (fun Q' X' q' => ?_)⟩))
  have h2 := h.ask (FrQ2.o (v := nI (sna g 2 i j)))
  refine m_seen h2.ri (fun e => absurd e (nu2 hi hc hj hp (by decide) (by decide))) (fun i' j' hi' hc' hj' hp' g' f t => q' g' _ (iv_z h2 f) t (fun _ => ?_))
  rw [o219 f, ← ieq hc hc' (by omega) (by omega), ← ieq hp hp' (by omega) (by omega), ← h.ew, sna_W hi hj]
theorem Ivx.nt {z : Nz} {n : Nat} {Ls : List (List Cls)} {tb fc ic : Nat} {fr : Nat → Nat} {wf : Nat → Wr} {v : Int32} (h : Ivx g z n Ls tb fc ic fr wf) : NtM (u2 g 219 0 v) (g 144) z.m := by
  have h2 := h.ask (FrQ2.o (v := v))
  have hm := h.m
  intro t j ht hj
  rw [h2.1.2.1.2.2.1 _ _ (by omega) hj, h.2.2.2.2.2.2]
theorem Ivx.nt' {z : Nz} {n : Nat} {Ls : List (List Cls)} {tb fc ic : Nat} {fr : Nat → Nat} {wf : Nat → Wr} (h : Ivx g z n Ls tb fc ic fr wf) : NtM g (g 144) z.m := by
  have hm := h.m
  intro t j ht hj
  rw [h.1.2.1.2.2.1 _ _ (by omega) hj, h.2.2.2.2.2.2]
theorem Ivx.sy {z : Nz} {n : Nat} {Ls : List (List Cls)} {tb fc ic : Nat} {fr : Nat → Nat} {wf : Nat → Wr} (h : Ivx g z n Ls tb fc ic fr wf) : ∃ sy : Nat → Nat, ∀ t, t < z.m → sy t < 24 ∧ g 144 (t * 19 + 1) = nI (sy t) := by
  have hs : SyE z := h.2.2.2.2.2.1.2.2.1
  refine ⟨fun t => if ht : t < z.m then (hs t ht).choose else 0, fun t ht => ?_⟩
  have := (hs t ht).choose_spec
  simp only [dif_pos ht]
  refine ⟨this.1, ?_⟩
  have e : z.n = g 144 := h.2.2.2.2.2.2
  rw [← e]
  exact this.2
theorem p_back {c o k : Int32} (hI : Iv g) (q : ∀ k' G, Nx l E 2 yX8_back [.ref 162, .int c, .int o, .int k] k' G → Q (some (.int k')) G) : Ct l E lay NC 9 1 6 yL_back [.ref 1, .int c, .int o, .int k, .ref 219] g Q X := by
  obtain ⟨z, n, Ls, tb, fc, ic, fr, wf, h⟩ := hI
  refine w_back (c_back h.hn h.g6 h.m h.1.1.2.1 (fun e => Or.inl ⟨rfl, q 1 g (fun Q' X' q' => m_back h.ri h.m h.1.2.1.2.1 h.nt' (fun _ g' f t => q' g' _ (iv_z h f) t k1) (fun e1 _ => absurd e e1) (fun e1 _ => absurd e e1))⟩) (fun e1 e2 => Or.inr ⟨rfl, q 2 g (fun Q' X' q' => m_back h.ri h.m h.1.2.1.2.1 h.nt' (fun e => absurd e e1) (fun _ _ g' f t => q' g' _ (iv_z h f) t k2) (fun _ e => absurd e2 e))⟩) (fun e1 e2 => ⟨_, rfl, q 0 _ (fun Q' X' q' => ?_)⟩))
  have h2 := h.ask (FrQ2.o (v := bkA (lnP (g 144) c o) k 0 z.m))
  exact m_back h2.ri h.m h2.1.2.1.2.1 h.nt (fun e => absurd e e1) (fun _ e => absurd e e2) (fun _ _ g' f t => q' g' _ (iv_z h2 f) t (fun _ => (o219 f).symm))
theorem p_right {c a b : Int32} (hI : Iv g) (q : ∀ k' G, Nx l E 2 yX8_right [.ref 162, .int c, .int a, .int b] k' G → Q (some (.int k')) G) : Ct l E lay NC 9 1 6 yL_right [.ref 1, .int c, .int a, .int b, .ref 219] g Q X := by
  obtain ⟨z, n, Ls, tb, fc, ic, fr, wf, h⟩ := hI
  refine w_right (c_right h.hn h.g6 h.m h.1.1.2.1 (fun e => Or.inl ⟨rfl, q 1 g (fun Q' X' q' => m_right h.ri h.m h.1.2.1.2.1 h.nt' (fun _ g' f t => q' g' _ (iv_z h f) t k1) (fun e1 _ => absurd e e1) (fun e1 _ => absurd e e1))⟩) (fun e1 e2 => Or.inr ⟨rfl, q 2 g (fun Q' X' q' => m_right h.ri h.m h.1.2.1.2.1 h.nt' (fun e => absurd e e1) (fun _ _ g' f t => q' g' _ (iv_z h f) t k2) (fun _ e => absurd e e2))⟩) (fun e1 e2 => ⟨_, rfl, q 0 _ (fun Q' X' q' => ?_)⟩))
  have h2 := h.ask (FrQ2.o (v := if (here (rgP (g 144) c a b) z.m).length = 0 then -1 else ssum (rgP (g 144) c a b) (fun t => g 144 (t * 19 + 14)) z.m))
  exact m_right h2.ri h.m h2.1.2.1.2.1 h.nt (fun e => absurd e e1) (fun _ e => absurd e2 e) (fun _ _ g' f t => q' g' _ (iv_z h2 f) t (fun _ => (o219 f).symm))
theorem p_taught {c o : Int32} (hI : Iv g) (q : ∀ k' G, Nx l E 2 yX8_taught [.ref 162, .int c, .int o] k' G → Q (some (.int k')) G) : Ct l E lay NC 9 1 6 yL_taught [.ref 1, .int c, .int o, .ref 219] g Q X := by
  obtain ⟨z, n, Ls, tb, fc, ic, fr, wf, h⟩ := hI
  have hn := h.hn
  obtain ⟨sy, hsy⟩ := h.sy
  refine w_taught (c_taught h.hn h.g6 h.m h.1.1.2.1 hsy (fun e => Or.inl ⟨rfl, q 1 g (fun Q' X' q' => m_taught h.ri h.m h.1.2.1.2.1 h.nt' hsy (fun _ g' f t => q' g' _ (iv_z h f) t k1) (fun e1 _ => absurd e e1) (fun i j hi hc _ _ => absurd e (nu hi (by omega) hc)))⟩) (fun e1 e2 => Or.inr ⟨rfl, q 2 g (fun Q' X' q' => m_taught h.ri h.m h.1.2.1.2.1 h.nt' hsy (fun e => absurd e e1) (fun _ _ g' f t => q' g' _ (iv_z h f) t k2) (fun i j hi hc hj hp => absurd e2 (nu hj (by decide) hp)))⟩) (fun i j hi hc hj hp G hG => ⟨_, rfl, q 0 _ (fun Q' X' q' => ?_)⟩))
  have h1 := h.ask (FrQ2.c (fun z z1 z2 z3 z4 => hG z z4))
  have e4 : G 144 = g 144 := hG 144 (by decide)
  have h2 := h1.ask (FrQ2.o (v := (ftB (fun x => nI (ftN g sy (nI i) (nI j) x z.m)) 24).1))
  refine m_taught h2.ri h.m h2.1.2.1.2.1 (nn := g 144) (by rw [← e4]; exact h1.nt) hsy (fun e => absurd e (nu hi (by omega) hc)) (fun _ e => absurd e (nu hj (by decide) hp)) (fun i' j' hi' hc' hj' hp' g' f t => q' g' _ (iv_z h2 f) t (fun _ => ?_))
  rw [o219 f, ← ieq hc hc' (by omega) (by omega), ← ieq hp hp' (by omega) (by omega)]
  rfl
theorem p_root {c o : Int32} (hI : Iv g) (q : ∀ k' G, Nx l E 2 yX8_root [.ref 162, .int c, .int o] k' G → Q (some (.int k')) G) : Ct l E lay NC 9 1 6 yL_root [.ref 1, .int c, .int o, .ref 219] g Q X := by
  obtain ⟨z, n, Ls, tb, fc, ic, fr, wf, h⟩ := hI
  obtain ⟨sy, hsy⟩ := h.sy
  refine w_root (c_root h.hn h.g6 h.m h.1.1.2.1 hsy (fun e => Or.inl ⟨rfl, q 1 g (fun Q' X' q' => m_root h.ri h.m h.1.2.1.2.1 h.nt' hsy (fun _ g' f t => q' g' _ (iv_z h f) t k1) (fun e1 _ => absurd e e1) (fun e1 _ => absurd e e1))⟩) (fun e1 e2 => Or.inr ⟨rfl, q 2 g (fun Q' X' q' => m_root h.ri h.m h.1.2.1.2.1 h.nt' hsy (fun e => absurd e e1) (fun _ _ g' f t => q' g' _ (iv_z h f) t k2) (fun _ e => absurd e2 e))⟩) (fun e1 e2 G hG => ⟨_, rfl, q 0 _ (fun Q' X' q' => ?_)⟩))
  have h1 := h.ask (FrQ2.c (fun z z1 z2 z3 z4 => hG z z4))
  have e4 : G 144 = g 144 := hG 144 (by decide)
  have h2 := h1.ask (FrQ2.o (v := rtA (fun b => (ftB (fun j => nI (ftN g sy b o j z.m)) 24).1) 24 (1 <<< (c &&& 31)) c))
  exact m_root h2.ri h.m h2.1.2.1.2.1 (nn := g 144) (by rw [← e4]; exact h1.nt) hsy (fun e => absurd e e1) (fun _ e => absurd e e2) (fun _ _ g' f t => q' g' _ (iv_z h2 f) t (fun _ => (o219 f).symm))
end Pairs

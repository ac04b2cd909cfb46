/-! PAIRS: the class's call, then the reference's -/
/-- the reference's call from G answers the same, k thrown -/
def Nx (l : Launch) (E : Ey) (d : Nat) (y : MethodName) (av : List Value) (k : Int32) (G : Mm) : Prop := ∀ (Q : Option Value → Mm → Prop) (X : String → Mm → Prop), (∀ (g' : Mm) (b : Int32), Iv g' → g' 162 0 = k → (k = 0 → b = g' 219 0) → Q (some (.int b)) g') → Ct l E lay NC d 0 0 y av G Q X
section Pairs
variable {l : Launch} {E : Ey} {g : Mm} {Q : Option Value → Mm → Prop} {X : String → Mm → Prop}
theorem o219 {g g' : Mm} {v : Int32} (f : FrZ (u2 g 219 0 v) g') : g' 219 0 = v := by
  rw [f.1 219 (by decide) (by decide) (by decide) (by decide) (by decide) (by decide) (by decide) (by decide) (by decide) (by decide), u2_self]
theorem iv_z {g g' : Mm} {z : Nz} {n : Nat} {Ls : List (List Cls)} {tb fc ic : Nat} {fr : Nat → Nat} {wf : Nat → Wr} (h : Ivx g z n Ls tb fc ic fr wf) (f : FrZ g g') : Iv g' := ⟨z, n, Ls, tb, fc, ic, fr, wf, h.ask (FrQ2.ofZ f)⟩
theorem k1 {b c : Int32} : ((1 : Int32) = 0 → b = c) := fun e => absurd e (by decide)
theorem k2 {b c : Int32} : ((2 : Int32) = 0 → b = c) := fun e => absurd e (by decide)
theorem nu {n k : Nat} {c : Int32} (hk : k < n) (hn : n ≤ 10000) (e : c = nI k) : ¬ ou n c := by rw [e]; exact nou hk (by omega)
theorem ieq {a b : Nat} {x : Int32} (h1 : x = nI a) (h2 : x = nI b) (ha : a < 10000) (hb : b < 10000) : a = b := (nI_eq (by omega) (by omega)).mp (h1.symm.trans h2)
theorem p_sign {c p s : Int32} (hI : Iv g) (q : ∀ k G, Nx l E 2 yX8_sign [.ref 162, .int c, .int p, .int s] k G → Q (some (.int k)) G) : Ct l E lay NC 9 1 6 yL_sign [.ref 1, .int c, .int p, .int s, .ref 219] g Q X := by
  obtain ⟨z, n, Ls, tb, fc, ic, fr, wf, h⟩ := hI
  have hn := h.hn
  refine w_sign (c_sign h.hn h.g6 (fun e => Or.inl ⟨rfl, q 1 g (fun Q' X' q' => m_sign h.ri (fun _ g' f t => q' g' _ (iv_z h f) t k1) (fun e1 _ => absurd e e1) (fun i j k hi hc _ _ _ _ => absurd e (nu hi (by omega) hc)))⟩) (fun e1 e2 => Or.inr ⟨rfl, q 2 g (fun Q' X' q' => m_sign h.ri (fun e => absurd e e1) (fun _ _ g' f t => q' g' _ (iv_z h f) t k2) (fun i j k hi hc hj hp hk hs => e2.elim (fun e => absurd e (nu hj (by decide) hp)) (fun e => absurd e (nu hk (by decide) hs))))⟩) (fun i j k hi hc hj hp hk hs => ⟨_, rfl, q 0 _ (fun Q' X' q' => ?_)⟩))
  have h2 := h.ask (FrQ2.o (v := g 10 ((i * 8 + j) * 16 + k)))
  refine m_sign h2.ri (fun e => absurd e (nu hi (by omega) hc)) (fun _ e => e.elim (fun e => absurd e (nu hj (by decide) hp)) (fun e => absurd e (nu hk (by decide) hs))) (fun i' j' k' hi' hc' hj' hp' hk' hs' g' f t => q' g' _ (iv_z h2 f) t (fun _ => ?_))
  rw [o219 f, ← ieq hc hc' (by omega) (by omega), ← ieq hp hp' (by omega) (by omega), ← ieq hs hs' (by omega) (by omega), ← h.ew, show sgB i j + k = 56 + 142 * i + 8 + 16 * j + k from rfl, wv_at (wx_sign (by omega) hj hk)]
end Pairs

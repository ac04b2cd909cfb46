/-! THE INVARIANT in the memory -/
def IA (g : Mm) (z : Nz) (n m : Nat) : Prop := RelC g z ∧ RelM g z ∧ g 162 3 = nI 164 ∧ g 162 27 = -1 ∧ PW z.w n m
def IT (g : Mm) (tb : Nat) : Prop := tb ≤ 300 ∧ g 1 12 = nI tb ∧ g 162 4 = nI tb ∧ g 156 = g 176 ∧ g 1 13 = g 162 12
def II (g : Mm) (ic m : Nat) : Prop := ic ≤ 4 ∧ g 1 17 = nI ic ∧ g 162 54 = nI ic ∧ ∀ k, k < ic → (∀ i, i < 3464 → g 218 (3464 * k + i) = wv g (24 + 11 * k) i) ∧ ∃ n : Nat, PW (wv g (24 + 11 * k)) n m
def IFi (g : Mm) (fc : Nat) (fr : Nat → Nat) (wf : Nat → Wr) : Prop := g 1 15 = nI fc ∧ g 162 45 = nI fc ∧ (∀ f, f < fc → g (101 + 2 * f) 2 = nI (fr f) ∧ wv g (68 + 11 * f) = wf f ∧ (∀ i, i < 3464 → g 212 (3464 * f + i) = wf f i) ∧ g 210 f = nI (fr f) ∧ ∀ c, c < 24 → Wt (wf f) c) ∧ ∀ f, f < 3 → ∀ t, t < 100 → g (102 + 2 * f) t = g 213 (100 * f + t)
def Ivx (g : Mm) (z : Nz) (n : Nat) (Ls : List (List Cls)) (tb fc ic : Nat) (fr : Nat → Nat) (wf : Nat → Wr) : Prop :=
  IA g z n Ls.length ∧ (LawsC g Ls ∧ LawsM g Ls) ∧ IT g tb ∧ II g ic Ls.length ∧ IFi g fc fr wf ∧ PZ z fc fr wf ∧ z.n = g 144
def Iv (g : Mm) : Prop := ∃ (z : Nz) (n : Nat) (Ls : List (List Cls)) (tb fc ic : Nat) (fr : Nat → Nat) (wf : Nat → Wr), Ivx g z n Ls tb fc ic fr wf
theorem RelM.fr' {g g' : Mm} {z : Nz} (h : RelM g z) (e : ∀ a, (a = 164 ∨ a = 201 ∨ a = 202 ∨ a = 203 ∨ a = 211) → g' a = g a) (e37 : g' 162 37 = g 162 37) (e46 : g' 162 46 = g 162 46) : RelM g' z := by
  obtain ⟨h1, h2, h3, h4, h5, h6, h7, h8⟩ := h
  rw [← e 164 (by decide)] at h1
  rw [← e 201 (by decide)] at h3
  rw [← e 203 (by decide)] at h4
  rw [← e 202 (by decide)] at h5 h6
  rw [← e 211 (by decide)] at h8
  exact ⟨h1, by rw [e37]; exact h2, h3, h4, h5, h6, by rw [e46]; exact h7, h8⟩
theorem IT.fr {g g' : Mm} {tb : Nat} (h : IT g tb) (e1 : g' 1 12 = g 1 12) (e2 : g' 1 13 = g 1 13) (e3 : g' 162 4 = g 162 4) (e4 : g' 162 12 = g 162 12) (e5 : g' 156 = g 156) (e6 : g' 176 = g 176) : IT g' tb := by
  obtain ⟨h1, h2, h3, h4, h5⟩ := h
  exact ⟨h1, by rw [e1]; exact h2, by rw [e3]; exact h3, by rw [e5, e6]; exact h4, by rw [e2, e4]; exact h5⟩
theorem II.fr {g g' : Mm} {ic m m' : Nat} (h : II g ic m) (hm : m ≤ m') (e1 : g' 1 17 = g 1 17) (e2 : g' 162 54 = g 162 54) (e3 : ∀ z, 24 ≤ z → z < 68 → g' z = g z) (e4 : g' 218 = g 218) : II g' ic m' := by
  obtain ⟨h1, h2, h3, h4⟩ := h
  refine ⟨h1, by rw [e1]; exact h2, by rw [e2]; exact h3, fun k hk => ?_⟩
  have ew : wv g' (24 + 11 * k) = wv g (24 + 11 * k) := wv_fr (fun a x y => e3 a (by omega) (by omega))
  obtain ⟨q1, n, q2⟩ := h4 k hk
  rw [ew, e4]
  exact ⟨q1, n, q2.mono hm⟩
theorem IFi.fr {g g' : Mm} {fc : Nat} {fr : Nat → Nat} {wf : Nat → Wr} (h : IFi g fc fr wf) (hfc : fc ≤ 3) (e1 : g' 1 15 = g 1 15) (e2 : g' 162 45 = g 162 45) (e3 : ∀ z, 68 ≤ z → z < 101 → g' z = g z) (e4 : ∀ f, f < 3 → g' (101 + 2 * f) 2 = g (101 + 2 * f) 2) (e5 : ∀ f, f < 3 → g' (102 + 2 * f) = g (102 + 2 * f)) (e6 : ∀ z, (z = 210 ∨ z = 212 ∨ z = 213) → g' z = g z) : IFi g' fc fr wf := by
  obtain ⟨h1, h2, h3, h4⟩ := h
  refine ⟨by rw [e1]; exact h1, by rw [e2]; exact h2, fun f hf => ?_, fun f hf t ht => ?_⟩
  · have ew : wv g' (68 + 11 * f) = wv g (68 + 11 * f) := wv_fr (fun a x y => e3 a (by omega) (by omega))
    obtain ⟨q1, q2, q3, q4, q5⟩ := h3 f hf
    rw [ew, e6 212 (by decide), e6 210 (by decide), e4 f (by omega)]
    exact ⟨q1, q2, q3, q4, q5⟩
  · rw [e5 f hf, e6 213 (by decide)]; exact h4 f hf t ht
section IvF
variable {g g' : Mm} {z : Nz} {n : Nat} {Ls : List (List Cls)} {tb fc ic : Nat} {fr : Nat → Nat} {wf : Nat → Wr}
theorem Ivx.hn (h : Ivx g z n Ls tb fc ic fr wf) : n ≤ 24 := h.1.2.2.2.2.1
theorem Ivx.w6 (h : Ivx g z n Ls tb fc ic fr wf) : z.w 6 = nI n := h.1.2.2.2.2.2.1
theorem Ivx.ew (h : Ivx g z n Ls tb fc ic fr wf) : wv g 2 = z.w := h.1.1.1
theorem Ivx.g6 (h : Ivx g z n Ls tb fc ic fr wf) : g 2 6 = nI n := by rw [← h.w6, ← h.ew]; exact (wv_at (wx_i (by decide))).symm
theorem Ivx.ok (h : Ivx g z n Ls tb fc ic fr wf) : WOk z.w := h.1.2.2.2.2.2.2.1
theorem Ivx.lw (h : Ivx g z n Ls tb fc ic fr wf) : isLw Ls.length (z.w 5) := h.1.2.2.2.2.2.2.2.2.1
theorem Ivx.lw' (h : Ivx g z n Ls tb fc ic fr wf) : isLw Ls.length (wv g 2 5) := by rw [h.ew]; exact h.lw
theorem Ivx.ri (h : Ivx g z n Ls tb fc ic fr wf) : RI g z.w n := ⟨h.1.2.2.1, h.1.2.2.2.1, h.1.2.1.1, h.hn, h.w6, h.ok, h.1.2.2.2.2.2.2.2.1⟩
theorem Ivx.rule (h : Ivx g z n Ls tb fc ic fr wf) : RuleM g 164 (lwOf Ls (z.w 5)) := h.2.1.2.rule (h.1.2.1.1 5 (by decide)) h.lw
theorem Ivx.m (h : Ivx g z n Ls tb fc ic fr wf) : z.m ≤ 1500 := h.2.2.2.2.2.1.1.1
/-- only what is written and read within one call has changed -/
def FrQ2 (g g' : Mm) : Prop := (∀ z, (z < 13 ∨ 23 < z) → (z < 148 ∨ 154 < z) → z ≠ 157 → z ≠ 158 → z ≠ 162 → z ≠ 165 → z ≠ 191 → z ≠ 197 → z ≠ 198 → z ≠ 199 → z ≠ 205 → z ≠ 214 → z ≠ 215 → z ≠ 216 → z ≠ 219 → g' z = g z) ∧ ∀ j, (j = 3 ∨ j = 4 ∨ j = 11 ∨ j = 12 ∨ j = 27 ∨ j = 37 ∨ j = 45 ∨ j = 46 ∨ j = 54) → g' 162 j = g 162 j
theorem FrQ2.refl : FrQ2 g g := ⟨fun _ _ _ _ _ _ _ _ _ _ _ _ _ _ _ _ => rfl, fun _ _ => rfl⟩
theorem FrQ2.trans {g1 g2 : Mm} (a : FrQ2 g g1) (b : FrQ2 g1 g2) : FrQ2 g g2 := ⟨fun z z1 z2 z3 z4 z5 z6 z7 z8 z9 za zb zc zd ze zf => (b.1 z z1 z2 z3 z4 z5 z6 z7 z8 z9 za zb zc zd ze zf).trans (a.1 z z1 z2 z3 z4 z5 z6 z7 z8 z9 za zb zc zd ze zf), fun j hj => (b.2 j hj).trans (a.2 j hj)⟩
theorem FrQ2.ofZ (a : FrZ g g') : FrQ2 g g' := ⟨fun z _ _ _ _ z5 z6 z7 z8 z9 za zb zc zd ze _ => a.1 z z5 z6 z7 z8 z9 za zb zc zd ze, a.2⟩
theorem FrQ2.o {v : Int32} : FrQ2 g (u2 g 219 0 v) := ⟨fun z _ _ _ _ _ _ _ _ _ _ _ _ _ _ zf => u2_ne z zf, fun j _ => by rw [u2_ne 162 (by decide)]⟩
theorem FrQ2.c (a : ∀ z, (z < 13 ∨ 23 < z) → (z < 148 ∨ 154 < z) → z ≠ 157 → z ≠ 158 → g' z = g z) : FrQ2 g g' := ⟨fun z z1 z2 z3 z4 _ _ _ _ _ _ _ _ _ _ _ => a z z1 z2 z3 z4, fun j _ => by rw [a 162 (by decide) (by decide) (by decide) (by decide)]⟩
theorem Ivx.ask (h : Ivx g z n Ls tb fc ic fr wf) (e : FrQ2 g g') : Ivx g' z n Ls tb fc ic fr wf := by
  obtain ⟨⟨a1, a2, a3, a4, a5⟩, ⟨b1, b2⟩, c1, d1, f1, p1, n1⟩ := h
  have k : ∀ z, ((z < 13 ∨ 23 < z) ∧ (z < 148 ∨ 154 < z) ∧ z ≠ 157 ∧ z ≠ 158 ∧ z < 162) → g' z = g z := fun z hz => e.1 z (by omega) (by omega) (by omega) (by omega) (by omega) (by omega) (by omega) (by omega) (by omega) (by omega) (by omega) (by omega) (by omega) (by omega) (by omega)
  have k2 : ∀ z, (z = 164 ∨ (175 < z ∧ z < 191) ∨ (200 < z ∧ z < 204) ∨ (205 < z ∧ z < 214) ∨ z = 218) → g' z = g z := fun z hz => e.1 z (by omega) (by omega) (by omega) (by omega) (by omega) (by omega) (by omega) (by omega) (by omega) (by omega) (by omega) (by omega) (by omega) (by omega) (by omega)
  have k1 : g' 1 = g 1 := k 1 (by decide)
  refine ⟨⟨?_, a2.fr' (fun a ha => k2 a (by omega)) (e.2 37 (by decide)) (e.2 46 (by decide)), by rw [e.2 3 (by decide)]; exact a3, by rw [e.2 27 (by decide)]; exact a4, a5⟩, ⟨b1.fr (by rw [k1]) (fun a x y => k a (by omega)), b2.fr (e.2 11 (by decide)) (fun a x y => k2 a (by omega))⟩, c1.fr (by rw [k1]) (by rw [k1]) (e.2 4 (by decide)) (e.2 12 (by decide)) (k 156 (by decide)) (k2 176 (by decide)), d1.fr (Nat.le_refl _) (by rw [k1]) (e.2 54 (by decide)) (fun a x y => k a (by omega)) (k2 218 (by decide)), f1.fr p1.2.2.2.2.2 (by rw [k1]) (e.2 45 (by decide)) (fun a x y => k a (by omega)) (fun f hf => by rw [k _ (by omega)]) (fun f hf => k _ (by omega)) (fun a ha => k2 a (by omega)), p1, by rw [n1, k 144 (by decide)]⟩
  have ew : wv g' 2 = z.w := (wv_fr (fun a x y => k a (by omega))).trans a1.1
  exact a1.w' ew (fun a ha => k a (by omega))
/-- the row has changed, and the film that ran stands still -/
theorem Ivx.row (h : Ivx g z n Ls tb fc ic fr wf) {w' : Wr} {n' : Nat} (e1 : ∀ z, z ≠ 1 → (z < 2 ∨ 12 < z) → z ≠ 162 → z ≠ 164 → z ≠ 219 → g' z = g z) (e2 : ∀ j, j ≠ 16 → g' 1 j = g 1 j) (e16 : g' 1 16 = -1) (e3 : ∀ j, j ≠ 0 → j ≠ 46 → g' 162 j = g 162 j) (e46 : g' 162 46 = -1) (hw : wv g' 2 = w') (hr : ∀ i, i < 3464 → g' 164 i = w' i) (hp : PW w' n' Ls.length) : Ivx g' (w', z.m, z.n, z.s, z.t, z.c, -1, z.k) n' Ls tb fc ic fr wf := by
  obtain ⟨⟨a1, a2, a3, a4, a5⟩, ⟨b1, b2⟩, c1, d1, f1, p1, n1⟩ := h
  have k : ∀ z, (12 < z ∧ z ≠ 162 ∧ z ≠ 164 ∧ z ≠ 219) → g' z = g z := fun z hz => e1 z (by omega) (by omega) (by omega) (by omega) (by omega)
  obtain ⟨r1, r2, r3, r4, r5, r6, r7, r8⟩ := a1
  obtain ⟨s1, s2, s3, s4, s5, s6, s7, s8⟩ := a2
  refine ⟨⟨⟨hw, by rw [k 143 (by decide)]; exact r2, fun i hi => by rw [k 144 (by decide)]; exact r3 i hi, fun i hi => by rw [k 147 (by decide)]; exact r4 i hi, fun i hi => by rw [k 146 (by decide)]; exact r5 i hi, fun i hi => by rw [k 145 (by decide)]; exact r6 i hi, e16, fun f hf => by rw [k _ (by omega)]; exact r8 f hf⟩, ⟨hr, by rw [e3 37 (by decide) (by decide)]; exact s2, fun t j ht hj => by rw [k 201 (by decide)]; exact s3 t j ht hj, fun i hi => by rw [k 203 (by decide)]; exact s4 i hi, fun i hi => by rw [k 202 (by decide)]; exact s5 i hi, fun i hi => by rw [k 202 (by decide)]; exact s6 i hi, e46, fun f hf => by rw [k 211 (by decide)]; exact s8 f hf⟩, by rw [e3 3 (by decide) (by decide)]; exact a3, by rw [e3 27 (by decide) (by decide)]; exact a4, hp⟩, ⟨b1.fr (e2 14 (by decide)) (fun a x y => k a (by omega)), b2.fr (e3 11 (by decide) (by decide)) (fun a x y => k a (by omega))⟩, c1.fr (e2 12 (by decide)) (e2 13 (by decide)) (e3 4 (by decide) (by decide)) (e3 12 (by decide) (by decide)) (k 156 (by decide)) (k 176 (by decide)), d1.fr (Nat.le_refl _) (e2 17 (by decide)) (e3 54 (by decide) (by decide)) (fun a x y => k a (by omega)) (k 218 (by decide)), f1.fr p1.2.2.2.2.2 (e2 15 (by decide)) (e3 45 (by decide) (by decide)) (fun a x y => k a (by omega)) (fun f hf => by rw [k _ (by omega)]) (fun f hf => k _ (by omega)) (fun a ha => k a (by omega)), p1.stop, by rw [k 144 (by decide)]; exact n1⟩
end IvF

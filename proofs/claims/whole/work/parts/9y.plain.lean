/-! PAIRS: plain. How many meanings are said in a way of their own: the product of the concepts that are seen alone -/
theorem al_t {s : Nat → Int32} {k : Nat} (hk : k < 4) : (here (fun j => decide (s k = s j)) 4).length = 1 ↔ ∀ j, j < 4 → s k = s j → j = k := by
  constructor
  · intro h j hj e
    obtain ⟨a, ha⟩ := List.length_eq_one_iff.mp h
    have m1 : k ∈ here (fun j => decide (s k = s j)) 4 := List.mem_filter.mpr ⟨List.mem_range.mpr hk, decide_eq_true rfl⟩
    have m2 : j ∈ here (fun j => decide (s k = s j)) 4 := List.mem_filter.mpr ⟨List.mem_range.mpr hj, decide_eq_true e⟩
    rw [ha] at m1 m2
    rw [List.mem_singleton.mp m1, List.mem_singleton.mp m2]
  · intro h
    have d : ∀ k, k < 4 → (here (fun j => decide (j = k)) 4).length = 1 := by decide
    rw [here_congr (p' := fun j => decide (j = k)) (fun j hj => decide_eq_decide.mpr ⟨h j hj, fun e => by rw [e]⟩)]
    exact d k hk
theorem wdE_r {w : Wr} {y c o m o' : Nat} (ho : o < 6) : wdE (wdP w y c o) m o' ↔ ∀ r, r < 3 → sfW w y c (con r (mnK o' r)) = sfW w y c (con r (mnK m r)) := by
  constructor
  · intro ⟨h0, h1, h2⟩ r hr
    rcases rN_sur o ho r hr with e | e | e
    · rw [← e]; exact h0
    · rw [← e]; exact h1
    · rw [← e]; exact h2
  · intro h
    exact ⟨h _ (rN_3 _), h _ (rN_3 _), h _ (rN_3 _)⟩
theorem wdU_al {w : Wr} {y c o m : Nat} (ho : o < 6) (hm : m < 64) : wdU (wdP w y c o) m = true ↔ (∀ j, j < 4 → sfW w y c (0 + m / 16) = sfW w y c (0 + j) → j = m / 16) ∧ (∀ j, j < 4 → sfW w y c (4 + m / 4 % 4) = sfW w y c (4 + j) → j = m / 4 % 4) ∧ ∀ j, j < 4 → sfW w y c (0 + m % 4) = sfW w y c (0 + j) → j = m % 4 := by
  have c0 : ∀ v, con 0 v = 0 + v := fun v => by unfold con; rw [if_neg (by decide), Nat.zero_add]
  have c1 : ∀ v, con 1 v = 4 + v := fun v => by unfold con; rw [if_pos rfl]
  have c2 : ∀ v, con 2 v = 0 + v := fun v => by unfold con; rw [if_neg (by decide), Nat.zero_add]
  have k0 : ∀ v, mnK v 0 = v / 16 := fun v => rfl
  have k1 : ∀ v, mnK v 1 = v / 4 % 4 := fun v => rfl
  have k2 : ∀ v, mnK v 2 = v % 4 := fun v => rfl
  rw [wdU_t]
  have r3 : ∀ {P : Nat → Prop}, P 0 → P 1 → P 2 → ∀ r, r < 3 → P r := fun h0 h1 h2 r hr => by
    rcases (show r = 0 ∨ r = 1 ∨ r = 2 by omega) with e | e | e <;> subst e <;> assumption
  constructor
  · intro h
    refine ⟨fun j hj e => ?_, fun j hj e => ?_, fun j hj e => ?_⟩
    · rcases h (16 * j + m % 16) (by omega) with q | q
      · omega
      · refine absurd ((wdE_r ho).mpr (r3 ?_ ?_ ?_)) q
        · rw [k0, k0, c0, c0, show (16 * j + m % 16) / 16 = j by omega]; exact e.symm
        · rw [k1, k1, show (16 * j + m % 16) / 4 % 4 = m / 4 % 4 by omega]
        · rw [k2, k2, show (16 * j + m % 16) % 4 = m % 4 by omega]
    · rcases h (16 * (m / 16) + 4 * j + m % 4) (by omega) with q | q
      · omega
      · refine absurd ((wdE_r ho).mpr (r3 ?_ ?_ ?_)) q
        · rw [k0, k0, show (16 * (m / 16) + 4 * j + m % 4) / 16 = m / 16 by omega]
        · rw [k1, k1, c1, c1, show (16 * (m / 16) + 4 * j + m % 4) / 4 % 4 = j by omega]; exact e.symm
        · rw [k2, k2, show (16 * (m / 16) + 4 * j + m % 4) % 4 = m % 4 by omega]
    · rcases h (4 * (m / 4) + j) (by omega) with q | q
      · omega
      · refine absurd ((wdE_r ho).mpr (r3 ?_ ?_ ?_)) q
        · rw [k0, k0, show (4 * (m / 4) + j) / 16 = m / 16 by omega]
        · rw [k1, k1, show (4 * (m / 4) + j) / 4 % 4 = m / 4 % 4 by omega]
        · rw [k2, k2, c2, c2, show (4 * (m / 4) + j) % 4 = j by omega]; exact e.symm
  · intro ⟨h0, h1, h2⟩ o' ho'
    by_cases q : wdE (wdP w y c o) m o'
    · left
      have e := (wdE_r ho).mp q
      have e0 := e 0 (by decide)
      have e1 := e 1 (by decide)
      have e2 := e 2 (by decide)
      rw [k0, k0, c0, c0] at e0
      rw [k1, k1, c1, c1] at e1
      rw [k2, k2, c2, c2] at e2
      have a0 := h0 (o' / 16) (by omega) e0.symm
      have a1 := h1 (o' / 4 % 4) (by omega) e1.symm
      have a2 := h2 (o' % 4) (by omega) e2.symm
      omega
    · exact Or.inr q
def f4 (a0 a1 a2 a3 : Bool) (k : Nat) : Bool := if k = 0 then a0 else if k = 1 then a1 else if k = 2 then a2 else a3
theorem cnt64b : ∀ a0 a1 a2 a3 b0 b1 b2 b3 : Bool, (here (fun m => f4 a0 a1 a2 a3 (m / 16) && f4 b0 b1 b2 b3 (m / 4 % 4) && f4 a0 a1 a2 a3 (m % 4)) 64).length = (here (f4 a0 a1 a2 a3) 4).length * (here (f4 b0 b1 b2 b3) 4).length * (here (f4 a0 a1 a2 a3) 4).length := by decide +kernel
theorem f4_of {a : Nat → Bool} {k : Nat} (hk : k < 4) : a k = f4 (a 0) (a 1) (a 2) (a 3) k := by
  rcases (show k = 0 ∨ k = 1 ∨ k = 2 ∨ k = 3 by omega) with e | e | e | e <;> subst e <;> rfl
theorem cnt64 {a b P : Nat → Bool} (h : ∀ m, m < 64 → P m = (a (m / 16) && b (m / 4 % 4) && a (m % 4))) : (here P 64).length = (here a 4).length * (here b 4).length * (here a 4).length := by
  rw [here_congr (p := a) (n := 4) (fun k hk => f4_of hk), here_congr (p := b) (n := 4) (fun k hk => f4_of hk), ← cnt64b, here_congr (p := P) (fun m hm => ?_)]
  rw [h m hm, f4_of (a := a) (k := m / 16) (by omega), f4_of (a := b) (k := m / 4 % 4) (by omega), f4_of (a := a) (k := m % 4) (by omega)]
theorem sfr_W {g : Mm} {y c p : Nat} (hc : c < 24) (hp : p < 8) (hy : y < 3) : sfr g 2 y c p = sfW (wv g 2) y c p := by
  have e : ∀ s, s < 16 → g (2 + 8) ((c * 8 + p) * 16 + s) = wv g 2 (sgB c p + s) := fun s hs => (wv_s hc hp hs).symm
  have hb : bst (fun s => g (2 + 8) ((c * 8 + p) * 16 + s)) 16 < 16 := bst_lt (by decide)
  have eb : bst (fun s => g (2 + 8) ((c * 8 + p) * 16 + s)) 16 = bst (fun s => wv g 2 (sgB c p + s)) 16 := bst_congr e
  unfold sfr sfW
  rw [e _ hb, sna_W hy hb, eb]
theorem alP_W {g : Mm} {y c f k : Nat} (hc : c < 24) (hy : y < 3) (hf : f + 4 ≤ 8) (hk : k < 4) : alP g 2 y c f k = true ↔ ∀ j, j < 4 → sfW (wv g 2) y c (f + k) = sfW (wv g 2) y c (f + j) → j = k := by
  unfold alP
  rw [decide_eq_true_iff]
  have := al_t (s := fun j => sfW (wv g 2) y c (f + j)) hk
  rw [← this]
  rw [here_congr (p := alR g 2 y c f k) (p' := fun j => decide (sfW (wv g 2) y c (f + k) = sfW (wv g 2) y c (f + j))) (fun j hj => by unfold alR; rw [sfr_W hc (by omega) hy, sfr_W hc (by omega) hy])]
theorem bool_iff {a b : Bool} (h : a = true ↔ b = true) : a = b := by cases a <;> cases b <;> simp_all
theorem plain_W {g : Mm} {y c o : Nat} (hc : c < 24) (hy : y < 3) (ho : o < 6) : (here (wdU (wdP (wv g 2) y c o)) 64).length = (here (alP g 2 y c 0) 4).length * (here (alP g 2 y c 4) 4).length * (here (alP g 2 y c 0) 4).length := by
  refine cnt64 (fun m hm => bool_iff ?_)
  rw [wdU_al ho hm, Bool.and_eq_true, Bool.and_eq_true, alP_W hc hy (by omega) (by omega), alP_W hc hy (by omega) (by omega), alP_W hc hy (by omega) (by omega), and_assoc]
theorem hvy_cg {f f' : Nat → Int32} {n : Nat} (hn : 0 < n) (h : ∀ j, j < n → f j = f' j) : hvy f n = hvy f' n := by
  unfold hvy
  rw [h _ (bst_lt hn), bst_congr h]
section Pairs
variable {l : Launch} {E : Ey} {g : Mm} {Q : Option Value → Mm → Prop} {X : String → Mm → Prop}
theorem p_plain {c : Int32} (hI : Iv g) (q : ∀ k' G, Nx l E 3 yX8_plain [.ref 162, .int c] k' G → Q (some (.int k')) G) : Ct l E lay NC 9 1 6 yL_plain [.ref 1, .int c, .ref 219] g Q X := by
  obtain ⟨z, n, Ls, tb, fc, ic, fr, wf, h⟩ := hI
  have hn := h.hn
  have eh : ∀ k, k < n → hvy (fun s => g 11 (k * 6 + s)) 6 = hvy (fun s => z.w (odB k + s)) 6 := fun k hk => hvy_cg (by decide) (fun s hs => by rw [← h.ew, wv_o (by omega) hs])
  have hy : ∀ k, k < n → (g 3 k).toNatClampNeg < 3 ∧ g 3 k = nI (g 3 k).toNatClampNeg := fun k hk => by
    obtain ⟨y, h1, h2⟩ := h.ok.2.1 k (by omega)
    have e : g 3 k = nI y := by rw [← h2, ← h.ew, wv_at (wx_yard (by omega))]
    rw [e, nI_clamp (by omega)]
    exact ⟨h1, rfl⟩
  refine w_plain (c_plain (y := fun k => (g 3 k).toNatClampNeg) h.hn h.g6 hy (fun e => ⟨rfl, q 1 g (fun Q' X' q' => m_plain h.ri (fun _ g' f t => q' g' _ (iv_z h f) t k1) (fun i hi hc => absurd e (nu hi (by omega) hc)) (fun i y o hi hc => absurd e (nu hi (by omega) hc)))⟩) (fun k hk hc e0 => ⟨_, rfl, q 0 _ (fun Q' X' q' => ?_)⟩) (fun k hk hc e0 => ⟨_, rfl, q 0 _ (fun Q' X' q' => ?_)⟩))
  · have h2 := h.ask (FrQ2.o (v := 0))
    rw [eh k hk] at e0
    refine m_plain h2.ri (fun e => absurd e (nu hk (by omega) hc)) (fun i hi hc' _ g' f t => q' g' _ (iv_z h2 f) t (fun _ => (o219 f).symm)) (fun i y o hi hc' _ _ _ n1 => ?_)
    rw [← ieq hc hc' (by omega) (by omega)] at n1
    exact absurd e0 n1
  · obtain ⟨V, hV⟩ : ∃ V : Int32, V = nI ((here (alP g 2 (g 3 k).toNatClampNeg k 0) 4).length) * nI ((here (alP g 2 (g 3 k).toNatClampNeg k 4) 4).length) * nI ((here (alP g 2 (g 3 k).toNatClampNeg k 0) 4).length) := ⟨_, rfl⟩
    rw [← hV]
    have h2 := h.ask (FrQ2.o (v := V))
    rw [eh k hk] at e0
    refine m_plain h2.ri (fun e => absurd e (nu hk (by omega) hc)) (fun i hi hc' n1 => ?_) (fun i y o hi hc' hy' ey' ho _ g' f t => q' g' _ (iv_z h2 f) t (fun _ => ?_))
    · rw [← ieq hc hc' (by omega) (by omega)] at n1
      exact absurd n1 e0
    · have e1 := ieq hc hc' (by omega) (by omega)
      subst e1
      have e2 : (g 3 k).toNatClampNeg = y := by
        have e : g 3 k = nI y := by rw [← ey', ← h.ew, wv_at (wx_yard (by omega))]
        rw [e, nI_clamp (by omega)]
      rw [o219 f, hV, e2, ← h.ew, plain_W (by omega) hy' ho, pk_mul, pk_mul]
end Pairs

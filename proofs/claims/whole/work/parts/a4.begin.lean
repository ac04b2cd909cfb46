/-! THE BEGINNING: what the constructors leave is the invariant; and the world of fixed references -/
def w0 (i : Nat) : Int32 := if i < 7 then ([1, 1, 0, 1000, 50, -1, 0] : List Int32).getD i 0 else 0
theorem wx_1 {i : Nat} {q : Nat × Nat} (e : wx i = some q) (h : 7 ≤ i) : 1 ≤ q.1 := by
  unfold wx at e
  rw [if_neg (by omega)] at e
  repeat' split at e
  all_goals first | (cases e; done) | (cases e; dsimp only; omega)
theorem WF_wv {N : List Nat} {g : Mm} {b : Nat} (h : WF N g b) : wv g b = w0 := by
  funext i
  by_cases hi : i < 7
  · rw [wv_at (wx_i hi)]
    show g b i = w0 i
    rw [h.2.1 i (by omega)]
    unfold wR w0
    rw [if_pos hi, if_pos hi]
  · have e0 : w0 i = 0 := by unfold w0; rw [if_neg hi]
    rw [e0]
    cases e : wx i with
    | none => simp only [wv, e]
    | some q =>
      have h1 := wx_1 e (by omega)
      have h2 := wx_le e
      simp only [wv, e]
      rw [h.2.2 q.1 h1 h2]
theorem w0_z {i : Nat} (h : 6 ≤ i) : w0 i = 0 := by
  unfold w0
  by_cases c : i < 7
  · have : i = 6 := by omega
    subst this; rfl
  · rw [if_neg c]
theorem PW_0 : PW w0 0 0 := by
  refine ⟨by decide, rfl, ⟨⟨0, by decide, rfl⟩, fun c hc => ⟨0, by decide, w0_z (by omega)⟩, fun c hc r h1 h2 => ?_⟩, fun c hc => Or.inl (w0_z (by omega)), Or.inl rfl, fun c h1 h2 r hr => w0_z (by omega)⟩
  rw [w0_z (by omega)]
  decide
theorem Iv_0 {N : List Nat} {g : Mm} (h : YF N g) (hm : MF g) : Iv g := by
  obtain ⟨⟨y0, y12, y13, y14, y15, y16, y17⟩, ya, yw, yf, yl, ⟨-, n0, n1, n2, n3, n4, n144, n145, n146, n147⟩, ys, yr, y155, y156, y157, y158⟩ := h
  obtain ⟨⟨m1, m3, m12, m27, m46, m0⟩, m164, m202, m203, m165, m176, m177, m178, m179, m180, m181, m182, m183, m191, m197, m198, m199, m201, m205, m210, m211, m212, m213, m214, m215, m216, m218⟩ := hm
  have hf : ∀ f, f < 3 → FiF N g f := fun f h => yf f (by rcases (show f = 0 ∨ f = 1 ∨ f = 2 by omega) with e | e | e <;> subst e <;> decide)
  have ew : wv g 2 = w0 := WF_wv (yw 2 (by decide))
  have e164 : ∀ i, g 164 i = w0 i := fun i => by
    rw [m164]
    by_cases c : 7 ≤ i
    · rw [w0_z (by omega)]
      unfold upd
      rw [if_neg (by omega), if_neg (by omega), if_neg (by omega), if_neg (by omega), if_neg (by omega)]
    · rcases (show i = 0 ∨ i = 1 ∨ i = 2 ∨ i = 3 ∨ i = 4 ∨ i = 5 ∨ i = 6 by omega) with e | e | e | e | e | e | e <;> subst e <;> rfl
  refine ⟨(w0, 0, g 144, g 147, g 146, g 145, -1, fun _ => 0), 0, [], 0, 0, 0, fun _ => 0, fun _ => w0, ⟨⟨ew, n0, fun _ _ => rfl, fun _ _ => rfl, fun _ _ => rfl, fun _ _ => rfl, y16, fun f h => (hf f h).2.2.2.2.2.1⟩, ⟨fun i _ => e164 i, m0 37 (by decide), fun t j _ _ => ?_, fun i hi => ?_, fun o ho => ?_, fun o ho => ?_, m46, fun f _ => ?_⟩, m3, m27, PW_0⟩, ⟨⟨by decide, y14, fun k L e => by simp at e⟩, ⟨by decide, m0 11 (by decide), fun k L e => by simp at e⟩⟩, ⟨by decide, y12, m0 4 (by decide), by rw [y156, m176], by rw [y13, m12]⟩, ⟨by decide, y17, m0 54 (by decide), fun k hk => absurd hk (by omega)⟩, ⟨y15, m0 45 (by decide), fun f hf => absurd hf (by omega), fun f h t _ => ?_⟩, ⟨⟨Nat.zero_le _, Or.inl rfl⟩, fun o ho => ⟨?_, fun _ c hc => ?_⟩, fun t ht => absurd ht (Nat.not_lt_zero _), fun f hf => absurd hf (by omega), Or.inl rfl, by decide⟩, rfl⟩
  · show g 201 (20 * t + j) = g 144 (t * 19 + j)
    rw [m201, n144]
  · show g 203 i = g 147 i
    rw [m203 i hi, n147 i hi]
  · show g 202 (2 * o + 1) = g 146 o
    rw [m202 _ (by omega), n146 o ho]
  · show g 202 (2 * o) = g 145 o
    rw [m202 _ (by omega), n145 o ho]
  · rw [m211]
  · have e := (hf f h).2.2.2.2.2.2.1
    rw [show 102 + 2 * f = 101 + 2 * f + 1 by omega, e, m213]
  · show g 146 o = -1 ↔ g 145 o = -1
    rw [n146 o ho, n145 o ho]
  · show g 147 (c * 6 + o) = -1
    exact n147 _ (by omega)
theorem YF.fr {g g' : Mm} (h : YF ordY g) (e : ∀ c ∈ ordY, g' c = g c) : YF ordY g' := by
  have f : Fq ordY g g' := fun c hc _ _ _ _ => e c hc
  have s : ∀ c ∈ ordY, c ∈ ordY := fun _ h => h
  obtain ⟨⟨y0, y12, y13, y14, y15, y16, y17⟩, ⟨z1, z2, z3⟩, yw, yf, yl, yn, ys, yr, y155, y156, y157, y158⟩ := h
  have e1 := e 1 (by decide +kernel)
  refine ⟨⟨fun k hk => by rw [e1]; exact y0 k hk, by rw [e1]; exact y12, by rw [e1]; exact y13, by rw [e1]; exact y14, by rw [e1]; exact y15, by rw [e1]; exact y16, by rw [e1]; exact y17⟩, ⟨fun j hj => by rw [e 159 (by decide +kernel)]; exact z1 j hj, fun j hj => by rw [e 160 (by decide +kernel)]; exact z2 j hj, fun j hj => by rw [e 161 (by decide +kernel)]; exact z3 j hj⟩, fun b hb => (yw b hb).mono s (fun j hj => e _ ((yw b hb).1 j hj)), fun i hi => (yf i hi).fq s f (by simp at hi; omega), fun b hb => (yl b hb).mono s (fun j hj => e _ ((yl b hb).1 j hj)), yn.fq s f, ys.fq s f, yr.fq s f, fun k hk => by rw [e 155 (by decide +kernel)]; exact y155 k hk, by rw [e 156 (by decide +kernel)]; exact y156, by rw [e 157 (by decide +kernel)]; exact y157, by rw [e 158 (by decide +kernel)]; exact y158⟩
theorem MF.fr {g g' : Mm} (h : MF g) (e : ∀ c, 162 ≤ c → c ≤ 218 → g' c = g c) : MF g' := by
  obtain ⟨⟨m1, m3, m12, m27, m46, m0⟩, m164, m202, m203, m165, m176, m177, m178, m179, m180, m181, m182, m183, m191, m197, m198, m199, m201, m205, m210, m211, m212, m213, m214, m215, m216, m218⟩ := h
  unfold MF
  rw [e 162 (by decide) (by decide), e 164 (by decide) (by decide), e 202 (by decide) (by decide), e 203 (by decide) (by decide), e 165 (by decide) (by decide), e 176 (by decide) (by decide), e 177 (by decide) (by decide), e 178 (by decide) (by decide), e 179 (by decide) (by decide), e 180 (by decide) (by decide), e 181 (by decide) (by decide), e 182 (by decide) (by decide), e 183 (by decide) (by decide), e 191 (by decide) (by decide), e 197 (by decide) (by decide), e 198 (by decide) (by decide), e 199 (by decide) (by decide), e 201 (by decide) (by decide), e 205 (by decide) (by decide), e 210 (by decide) (by decide), e 211 (by decide) (by decide), e 212 (by decide) (by decide), e 213 (by decide) (by decide), e 214 (by decide) (by decide), e 215 (by decide) (by decide), e 216 (by decide) (by decide), e 218 (by decide) (by decide)]
  exact ⟨⟨m1, m3, m12, m27, m46, m0⟩, m164, m202, m203, m165, m176, m177, m178, m179, m180, m181, m182, m183, m191, m197, m198, m199, m201, m205, m210, m211, m212, m213, m214, m215, m216, m218⟩
/-! the layout of fixed references -/
theorem ab_c {t kd : Nat} {v : Int32} (h : kd = t + 3) (hv : v = nI t) (h0 : t ≠ 0) (h1 : t < 2 ^ 31) : ab kd v = ab 2 v := by
  subst h; subst hv
  rw [ab2 h1 h0]
  rfl
theorem ce_o {E : Ey} {g : Mm} {a ci m : Nat} {kd : Nat → Nat} (hL : lay a = (.inl ci, m, kd)) (h : ∀ k, k < m → ab (kd k) (g a k) = ab (gK ci k) (g a k)) : ce E (lay a) (g a) = ce E (layG a) (g a) := by
  rw [hL, lg_o hL, ce_obj, ce_obj]
  congr 2
  exact List.map_congr_left (fun k hk => by rw [h k (List.mem_range.mp hk)])
theorem ce_1 {E : Ey} {N : List Nat} {g : Mm} (h : YF N g) : ce E (lay 1) (g 1) = ce E (layG 1) (g 1) := by
  refine ce_o ob1.2 (fun k hk => ?_)
  by_cases c : k < 12
  · have d : ∀ k, k < 12 → 4 ≤ kY k ∧ kY k < 1000 := by decide
    have := d k c
    have e : gK 7 k = 2 := if_pos c
    rw [e]
    exact ab_c (t := kY k - 3) (by omega) (h.1.1 k c) (by omega) (by omega)
  · have e : gK 7 k = 0 := if_neg c
    have e2 : kY k = 0 := by
      have d : ∀ k, k < 18 → ¬ k < 12 → kY k = 0 := by decide
      exact d k hk c
    rw [e, e2]
theorem ce_W {E : Ey} {N : List Nat} {g : Mm} {b : Nat} (hb : Wo b) (h : WF N g b) : ce E (lay b) (g b) = ce E (layG b) (g b) := by
  refine ce_o hb.ob.2 (fun k hk => ?_)
  obtain ⟨i, hi, eb⟩ := hb
  by_cases c : k < 7
  · have e : gK 6 k = 0 := if_pos c
    have e2 : kW b k = 0 := if_pos c
    rw [e, e2]
  · have e : gK 6 k = 2 := if_neg c
    have e2 : kW b k = b + k - 3 := if_neg c
    have e3 : g b k = nI (b + (k - 6)) := by rw [h.2.1 k hk]; unfold wR; rw [if_neg c]
    rw [e]
    exact ab_c (t := b + (k - 6)) (by rw [e2]; omega) e3 (by omega) (by omega)
theorem ce_F {E : Ey} {N : List Nat} {g : Mm} {i : Nat} (hi : i < 3) (h : FiF N g i) : ce E (lay (101 + 2 * i)) (g (101 + 2 * i)) = ce E (layG (101 + 2 * i)) (g (101 + 2 * i)) := by
  refine ce_o (show Fm (101 + 2 * i) from ⟨i, hi, rfl⟩).ob.2 (fun k hk => ?_)
  have d : (101 + 2 * i - 101) / 2 = i := by omega
  rcases (show k = 0 ∨ k = 1 ∨ k = 2 ∨ k = 3 by omega) with e | e | e | e <;> subst e
  · exact ab_c (t := 68 + 11 * i) (by show 68 + 11 * ((101 + 2 * i - 101) / 2) + 3 = _; rw [d]) h.2.2.1 (by omega) (by omega)
  · exact ab_c (t := 101 + 2 * i + 1) rfl h.2.2.2.1 (by omega) (by omega)
  · rfl
  · rfl
theorem ce_L {E : Ey} {N : List Nat} {g : Mm} {b : Nat} (hb : Lw b) (h : LF N g b) : ce E (lay b) (g b) = ce E (layG b) (g b) := by
  refine ce_o hb.ob.2 (fun k hk => ?_)
  obtain ⟨i, hi, eb⟩ := hb
  rcases (show k = 0 ∨ k = 6 ∨ (1 ≤ k ∧ k ≤ 5) by omega) with e | e | e
  · subst e; rfl
  · subst e; rfl
  · have e1 : gK 1 k = 2 := by show (if k = 0 then 0 else if k = 6 then 0 else 2) = 2; rw [if_neg (by omega), if_neg (by omega)]
    have e2 : kL b k = b + k + 3 := by show (if k = 0 then 0 else if k = 6 then 0 else b + k + 3) = _; rw [if_neg (by omega), if_neg (by omega)]
    rw [e1]
    exact ab_c (t := b + k) e2 (h.2.2.2.1 k e.1 e.2) (by omega) (by omega)
theorem ce_143 {E : Ey} {N : List Nat} {g : Mm} (h : NoF N g) : ce E (lay 143) (g 143) = ce E (layG 143) (g 143) := by
  obtain ⟨-, n0, n1, n2, n3, n4, -⟩ := h
  refine ce_o (a := 143) rfl (fun k hk => ?_)
  rcases (show k = 0 ∨ k = 1 ∨ k = 2 ∨ k = 3 ∨ k = 4 by omega) with e | e | e | e | e <;> subst e
  · rfl
  · exact ab_c (t := 144) rfl n1 (by decide) (by decide)
  · exact ab_c (t := 145) rfl n2 (by decide) (by decide)
  · exact ab_c (t := 146) rfl n3 (by decide) (by decide)
  · exact ab_c (t := 147) rfl n4 (by decide) (by decide)
theorem ce_148 {E : Ey} {N : List Nat} {g : Mm} (h : SpF N g) : ce E (lay 148) (g 148) = ce E (layG 148) (g 148) := by
  obtain ⟨-, n2, n4, n6, -⟩ := h
  refine ce_o (a := 148) rfl (fun k hk => ?_)
  rcases (show k = 0 ∨ k = 1 ∨ k = 2 ∨ k = 3 ∨ k = 4 ∨ k = 5 ∨ k = 6 ∨ k = 7 ∨ k = 8 ∨ k = 9 by omega) with e | e | e | e | e | e | e | e | e | e <;> subst e
  · rfl
  · rfl
  · exact ab_c (t := 149) rfl n2 (by decide) (by decide)
  · rfl
  · exact ab_c (t := 150) rfl n4 (by decide) (by decide)
  · rfl
  · exact ab_c (t := 151) rfl n6 (by decide) (by decide)
  · rfl
  · rfl
  · rfl
theorem ce_152 {E : Ey} {N : List Nat} {g : Mm} (h : RuF N g) : ce E (lay 152) (g 152) = ce E (layG 152) (g 152) := by
  obtain ⟨-, n0, n1, -⟩ := h
  refine ce_o (a := 152) rfl (fun k hk => ?_)
  rcases (show k = 0 ∨ k = 1 ∨ k = 2 ∨ k = 3 by omega) with e | e | e | e <;> subst e
  · exact ab_c (t := 153) rfl n0 (by decide) (by decide)
  · exact ab_c (t := 154) rfl n1 (by decide) (by decide)
  · rfl
  · rfl
theorem ce_155 {E : Ey} {g : Mm} : ce E (lay 155) (g 155) = ce E (layG 155) (g 155) := by
  refine ce_o (a := 155) rfl (fun k hk => ?_)
  rcases (show k = 0 ∨ k = 1 ∨ k = 2 ∨ k = 3 ∨ k = 4 ∨ k = 5 ∨ k = 6 ∨ k = 7 ∨ k = 8 by omega) with e | e | e | e | e | e | e | e | e <;> subst e <;> rfl
theorem ce_162 {E : Ey} {g : Mm} (h : MF g) : ce E (lay 162) (g 162) = ce E (layG 162) (g 162) := by
  refine ce_o ob162.2 (fun k hk => ?_)
  by_cases c : k ∈ ([1, 2, 13, 14, 15, 16, 17, 18, 19, 20, 28, 34, 35, 36, 38, 39, 40, 42, 47, 48, 49, 50, 51, 52, 53, 55] : List Nat)
  · have d : ∀ k ∈ ([1, 2, 13, 14, 15, 16, 17, 18, 19, 20, 28, 34, 35, 36, 38, 39, 40, 42, 47, 48, 49, 50, 51, 52, 53, 55] : List Nat), kM k = 166 + k ∧ gK 8 k = 2 := by decide
    rw [(d k c).2]
    exact ab_c (t := 163 + k) (by rw [(d k c).1]; omega) (h.1.1 k c) (by omega) (by omega)
  · have d : ∀ k, k < 56 → k ∉ ([1, 2, 13, 14, 15, 16, 17, 18, 19, 20, 28, 34, 35, 36, 38, 39, 40, 42, 47, 48, 49, 50, 51, 52, 53, 55] : List Nat) → kM k = gK 8 k := by decide
    rw [d k hk c]
theorem ce_a {E : Ey} {g : Mm} {a m : Nat} {ty : FieldType} {kd : Nat → Nat} (hL : lay a = (.inr ty, m, kd)) (h : (kd 0 = 0 ∧ gA ty 0 = 0) ∨ (kd 0 = 1 ∧ gA ty 0 = 1)) : ce E (lay a) (g a) = ce E (layG a) (g a) := by
  rw [hL, lg_a hL]
  rcases h with ⟨h1, h2⟩ | ⟨h1, h2⟩
  · rw [ce_int h1, ce_int h2]
  · rw [ce_lng h1, ce_lng h2]
/-- a row of references that stay -/
theorem at_q {E : Ey} {g : Mm} {H : Heap} {a m : Nat} {C : String} {kd : Nat → Nat} (hL : lay a = (.inr (.object C), m, kd)) (hz : ∃ z, kd 0 = z + 3) (h : ∀ j, j < m → 3 < kd j ∧ kd j < 1000 ∧ g a j = nI (kd j - 3)) (hw : va_at E.D vwCl (E.ad a, ce E (layG a) (g a)) H) : va_at E.D vwCl (E.ad a, ce E (lay a) (g a)) H := by
  rw [lg_a hL, ce_nul (show gA (.object C) 0 = 2 from rfl)] at hw
  rw [hL, ce_ref hz]
  show H[E.ad a]? = some (vp_cell _ _)
  have hw' : H[E.ad a]? = some (vp_cell _ _) := hw
  rw [hw']
  congr 1
  dsimp only
  rw [vp_cell_q, vp_cell_q]
  unfold arrV
  congr 1
  congr 1
  funext j
  have := h j.val j.isLt
  show va_rf (if g a j.val = 0 then none else some (E.ad (g a j.val).toNatClampNeg)) = va_rf (some (E.ad (kd j.val - 3)))
  rw [this.2.2, if_neg (nI_nz (by omega) (by omega)), nI_clamp (by omega)]
def objs : List Nat := [1, 2, 13, 24, 35, 46, 57, 68, 79, 90, 101, 103, 105, 107, 113, 119, 125, 131, 137, 143, 148, 152, 155, 162]
def clB (a : Nat) : Bool := match lay a with
  | (.inl _, _, _) => objs.contains a
  | (.inr ty, _, kd) => a == 159 || a == 160 || a == 161 || (kd 0 == 0 && gA ty 0 == 0) || (kd 0 == 1 && gA ty 0 == 1)
theorem clB_t : ∀ a, a < 220 → clB a = true := by decide +kernel
theorem at_all {E : Ey} {N : List Nat} {g : Mm} {H : Heap} (h : YF N g) (hm : MF g) {a : Nat} (ha : a < 220) (hw : va_at E.D vwCl (E.ad a, ce E (layG a) (g a)) H) : va_at E.D vwCl (E.ad a, ce E (lay a) (g a)) H := by
  have hc := clB_t a ha
  rcases hL : lay a with ⟨ci | ty, m, kd⟩
  · have ho : a ∈ objs := by
      unfold clB at hc
      rw [hL] at hc
      exact List.contains_iff_mem.mp hc
    have e : ce E (lay a) (g a) = ce E (layG a) (g a) := by
      obtain ⟨y1, ya, yw, yf, yl, yn, ys, yr, -⟩ := id h
      simp only [objs, List.mem_cons, List.not_mem_nil, or_false] at ho
      rcases ho with e | e | e | e | e | e | e | e | e | e | e | e | e | e | e | e | e | e | e | e | e | e | e | e <;> subst e
      · exact ce_1 h
      · exact ce_W ⟨0, by decide, rfl⟩ (yw 2 (by decide))
      · exact ce_W ⟨1, by decide, rfl⟩ (yw 13 (by decide))
      · exact ce_W ⟨2, by decide, rfl⟩ (yw 24 (by decide))
      · exact ce_W ⟨3, by decide, rfl⟩ (yw 35 (by decide))
      · exact ce_W ⟨4, by decide, rfl⟩ (yw 46 (by decide))
      · exact ce_W ⟨5, by decide, rfl⟩ (yw 57 (by decide))
      · exact ce_W ⟨6, by decide, rfl⟩ (yf 0 (by decide)).2.2.2.2.2.2.2
      · exact ce_W ⟨7, by decide, rfl⟩ (yf 1 (by decide)).2.2.2.2.2.2.2
      · exact ce_W ⟨8, by decide, rfl⟩ (yf 2 (by decide)).2.2.2.2.2.2.2
      · exact ce_F (i := 0) (by decide) (yf 0 (by decide))
      · exact ce_F (i := 1) (by decide) (yf 1 (by decide))
      · exact ce_F (i := 2) (by decide) (yf 2 (by decide))
      · exact ce_L ⟨0, by decide, rfl⟩ (yl 107 (by decide))
      · exact ce_L ⟨1, by decide, rfl⟩ (yl 113 (by decide))
      · exact ce_L ⟨2, by decide, rfl⟩ (yl 119 (by decide))
      · exact ce_L ⟨3, by decide, rfl⟩ (yl 125 (by decide))
      · exact ce_L ⟨4, by decide, rfl⟩ (yl 131 (by decide))
      · exact ce_L ⟨5, by decide, rfl⟩ (yl 137 (by decide))
      · exact ce_143 yn
      · exact ce_148 ys
      · exact ce_152 yr
      · exact ce_155
      · exact ce_162 hm
    rw [← hL, e]
    exact hw
  · rw [← hL]
    by_cases q : a = 159 ∨ a = 160 ∨ a = 161
    · rcases q with q | q | q <;> subst q
      · exact at_q (a := 159) rfl ⟨24, rfl⟩ (fun j hj => ⟨by show 3 < 24 + 11 * j + 3; omega, by show 24 + 11 * j + 3 < 1000; omega, h.2.1.1 j hj⟩) hw
      · exact at_q (a := 160) rfl ⟨101, rfl⟩ (fun j hj => ⟨by show 3 < 101 + 2 * j + 3; omega, by show 101 + 2 * j + 3 < 1000; omega, h.2.1.2.1 j hj⟩) hw
      · exact at_q (a := 161) rfl ⟨107, rfl⟩ (fun j hj => ⟨by show 3 < 107 + 6 * j + 3; omega, by show 107 + 6 * j + 3 < 1000; omega, h.2.1.2.2 j hj⟩) hw
    · unfold clB at hc
      rw [hL] at hc
      have hc2 : (kd 0 = 0 ∧ gA ty 0 = 0) ∨ (kd 0 = 1 ∧ gA ty 0 = 1) := by
        simp only [Bool.or_eq_true, Bool.and_eq_true, beq_iff_eq] at hc
        rcases hc with ((((e | e) | e) | e) | e)
        · exact absurd (Or.inl e) q
        · exact absurd (Or.inr (Or.inl e)) q
        · exact absurd (Or.inr (Or.inr e)) q
        · exact Or.inl e
        · exact Or.inr e
      rw [ce_a hL hc2]
      exact hw
theorem NC_nodup : NC.Nodup := List.Pairwise.filter _ List.nodup_range
theorem NC_lt {a : Nat} (h : a ∈ NC) : a < 220 := List.mem_range.mp (List.mem_filter.mp h).1
theorem Wd_lay {E : Ey} {N N' : List Nat} {g : Mm} {U : State} {H : Heap} (h : Wd E layG N' g U H) (hN : ∀ a ∈ NC, a ∈ N') (hy : YF N g) (hm : MF g) : Wd E lay NC g U H := by
  obtain ⟨h1, h2, h3, h4, h5⟩ := h
  refine ⟨fun k q hk => ?_, h2, ⟨NC_nodup, fun i hi j hj => h3.2.1 i (hN i hi) j (hN j hj), fun i hi => h3.2.2 i (hN i hi)⟩, h4, h5⟩
  obtain ⟨a, ha, rfl⟩ : ∃ a, NC[k]? = some a ∧ (E.ad a, ce E (lay a) (g a)) = q := by
    unfold wl at hk
    rw [List.getElem?_map] at hk
    cases e : NC[k]? with
    | none => rw [e] at hk; cases hk
    | some a => rw [e] at hk; exact ⟨a, rfl, Option.some.inj hk⟩
  have hm2 : a ∈ NC := List.mem_of_getElem? ha
  obtain ⟨k', hk'⟩ := List.mem_iff_getElem?.mp (hN a hm2)
  exact at_all hy hm (NC_lt hm2) (h1 k' _ (wl_at hk'))

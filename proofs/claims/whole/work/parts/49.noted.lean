/-! THE CLASS: a talk that is noted -/
/-- what is noted of a talk -/
def ntF (v0 v1 v2 v6 v10 v14 v15 v16 v17 v18 : Int32) (p q r : Nat → Int32) (j : Nat) : Int32 :=
  if j = 0 then v0 else if j = 1 then v1 else if j = 2 then v2 else if j < 6 then p (j - 3) else if j = 6 then v6
  else if j < 10 then q (j - 7) else if j = 10 then v10 else if j < 14 then r (j - 11) else if j = 14 then v14
  else if j = 15 then v15 else if j = 16 then v16 else if j = 17 then v17 else v18
theorem ntF_all {v0 v1 v2 v6 v10 v14 v15 v16 v17 v18 : Int32} {p q r : Nat → Int32} {f : Nat → Int32} {B : Nat} (h0 : f B = v0) (h1 : f (B + 1) = v1) (h2 : f (B + 2) = v2) (h3 : ∀ k, k < 3 → f (B + 3 + k) = p k) (h6 : f (B + 6) = v6) (h7 : ∀ k, k < 3 → f (B + 7 + k) = q k) (h10 : f (B + 10) = v10) (h11 : ∀ k, k < 3 → f (B + 11 + k) = r k) (h14 : f (B + 14) = v14) (h15 : f (B + 15) = v15) (h16 : f (B + 16) = v16) (h17 : f (B + 17) = v17) (h18 : f (B + 18) = v18) : ∀ j, j < 19 → f (B + j) = ntF v0 v1 v2 v6 v10 v14 v15 v16 v17 v18 p q r j := by
  intro j hj
  rcases (show j = 0 ∨ j = 1 ∨ j = 2 ∨ j = 3 ∨ j = 4 ∨ j = 5 ∨ j = 6 ∨ j = 7 ∨ j = 8 ∨ j = 9 ∨ j = 10 ∨ j = 11 ∨ j = 12 ∨ j = 13 ∨ j = 14 ∨ j = 15 ∨ j = 16 ∨ j = 17 ∨ j = 18 by omega) with e | e | e | e | e | e | e | e | e | e | e | e | e | e | e | e | e | e | e
  · subst e; exact h0
  · subst e; exact h1
  · subst e; exact h2
  · subst e; exact h3 0 (by decide)
  · subst e; exact h3 1 (by decide)
  · subst e; exact h3 2 (by decide)
  · subst e; exact h6
  · subst e; exact h7 0 (by decide)
  · subst e; exact h7 1 (by decide)
  · subst e; exact h7 2 (by decide)
  · subst e; exact h10
  · subst e; exact h11 0 (by decide)
  · subst e; exact h11 1 (by decide)
  · subst e; exact h11 2 (by decide)
  · subst e; exact h14
  · subst e; exact h15
  · subst e; exact h16
  · subst e; exact h17
  · subst e; exact h18
def ntV (lw : Option (List Cls)) (lo : Int32) (W : Wr) (a b y : Nat) (mt : Nat → Nat) : Nat → Int32 :=
  ntF (tW6 lw lo W a b y mt 2) (nI a) (nI b) (nI (sayO W a)) (nI (tO' W a b y mt)) (tRt W a b y mt) (tSh W a b y mt) (tLn W a b y mt) (tW6 lw lo W a b y mt (56 + 142 * a + 4)) (tW6 lw lo W a b y mt (56 + 142 * b + 4)) (fun k => nI (mt k)) (fun k => nI (sayS W a mt k)) (fun k => nI (tTk W a b y mt k))
/-- newly held -/
def nwH (lw : Option (List Cls)) (lo : Int32) (W : Wr) (s : Nat → Int32) (c o : Nat) : Bool := decide (s (c * 6 + o) = -1) && hldB lw lo W c o
/-- the memory g' behind a noted talk from a to b in yard y; m talks were noted before -/
def NtP (lw : Option (List Cls)) (g g' : Mm) (a b y m : Nat) (mt : Nat → Nat) : Prop :=
  (∀ z, z ≠ 1 → (z < 2 ∨ 12 < z) → (z < 101 ∨ 107 ≤ z) → z ≠ 143 → z ≠ 144 → z ≠ 145 → z ≠ 146 → z ≠ 147 → z ≠ 148 → z ≠ 150 → z ≠ 151 → z ≠ 153 → z ≠ 154 → g' z = g z) ∧
  wv g' 2 = tW6 lw (g 152 3) (wv g 2) a b y mt ∧ g' 148 7 = tRt (wv g 2) a b y mt ∧
  g' 143 0 = nI (m + 1) ∧ (∀ j, j < 19 → g' 144 (m * 19 + j) = ntV lw (g 152 3) (wv g 2) a b y mt j) ∧ (∀ i, (i < m * 19 ∨ m * 19 + 19 ≤ i) → g' 144 i = g 144 i) ∧
  (∀ i, i < 144 → g' 147 i = if (i / 6 = a ∨ i / 6 = b) ∧ nwH lw (g 152 3) (tW6 lw (g 152 3) (wv g 2) a b y mt) (g 147) (i / 6) (i % 6) = true then nI m else g 147 i) ∧
  (∀ o, o < 6 → g' 146 o = if (nwH lw (g 152 3) (tW6 lw (g 152 3) (wv g 2) a b y mt) (g 147) b o = true ∨ nwH lw (g 152 3) (tW6 lw (g 152 3) (wv g 2) a b y mt) (g 147) a o = true) ∧ g 146 o = -1 then nI m else g 146 o) ∧
  (∀ o, o < 6 → g' 145 o = if g 146 o = -1 then (if nwH lw (g 152 3) (tW6 lw (g 152 3) (wv g 2) a b y mt) (g 147) b o = true then nI b else if nwH lw (g 152 3) (tW6 lw (g 152 3) (wv g 2) a b y mt) (g 147) a o = true then nI a else g 145 o) else g 145 o) ∧
  (g 1 16 = -1 → g' 1 = g 1 ∧ ∀ z, 101 ≤ z → z < 107 → g' z = g z) ∧
  (∀ f mn, f < 3 → mn < 100 → g 1 16 = nI f → g (101 + 2 * f) 3 = nI mn → (∀ z, 101 ≤ z → z < 107 → z ≠ 101 + 2 * f → g' z = g z) ∧ g' (101 + 2 * f) 3 = nI (mn + 1) ∧ (∀ j, j ≠ 3 → g' (101 + 2 * f) j = g (101 + 2 * f) j) ∧ g' 1 16 = (if mn + 1 = 100 then -1 else nI f) ∧ ∀ j, j ≠ 16 → g' 1 j = g 1 j)
section ClsN
variable {l : Launch} {E : Ey} {g : Mm} {Q : Option Value → Mm → Prop} {X : String → Mm → Prop} {h : Nat}
theorem fst_t {F m : Int32} {A B : Prop} [Decidable A] [Decidable B] (hm : ¬ m = -1) : (if A ∧ (if B ∧ F = -1 then m else F) = -1 then m else (if B ∧ F = -1 then m else F)) = if (B ∨ A) ∧ F = -1 then m else F := by
  by_cases hB : B <;> by_cases hA : A <;> by_cases hF : F = -1 <;> simp [hB, hA, hF, hm]
theorem fst_c {F m a b C : Int32} {A B : Prop} [Decidable A] [Decidable B] (hm : ¬ m = -1) : (if A ∧ (if B ∧ F = -1 then m else F) = -1 then a else (if B ∧ F = -1 then b else C)) = if F = -1 then (if B then b else if A then a else C) else C := by
  by_cases hB : B <;> by_cases hA : A <;> by_cases hF : F = -1 <;> simp [hB, hA, hF, hm]
theorem nwH_t {lw : Option (List Cls)} {lo : Int32} {W : Wr} {s : Nat → Int32} {c o : Nat} : nwH lw lo W s c o = true ↔ s (c * 6 + o) = -1 ∧ hldB lw lo W c o = true := by
  unfold nwH; simp
set_option maxRecDepth 10000 in
set_option maxHeartbeats 4000000 in
theorem c_makeNotedTalk {a b y m : Nat} {mt : Nat → Nat} {lw : Option (List Cls)} (hab : a ≠ b) (ha : a < 24) (hb : b < 24) (hs : SpC g a b mt) (hmt4 : ∀ r, mt r < 4) (hy : y < 3) (hya : wv g 2 (56 + 142 * a) = nI y) (hyb : wv g 2 (56 + 142 * b) = nI y) (hwt : Wt (wv g 2) b) (hR0 : RuleC g lw) (hm : m < 1500) (em : g 143 0 = nI m) (hf : g 1 16 = -1 ∨ ∃ f mn, f < 3 ∧ mn < 100 ∧ g 1 16 = nI f ∧ g (101 + 2 * f) 3 = nI mn) (q : ∀ g', NtP lw g g' a b y m mt → Q none g') : Ct l E lay NC 6 0 0 yX7_makeNotedTalk [.ref 1] g Q X := by
  obtain ⟨W, hW⟩ : ∃ W : Wr, W = wv g 2 := ⟨_, rfl⟩
  obtain ⟨V, hV⟩ : ∃ V : Wr, V = tW6 lw (g 152 3) W a b y mt := ⟨_, rfl⟩
  refine Ct_in k_yX7_makeNotedTalk (by decide) rfl (Nat.le_of_ble_eq_true rfl) rfl ?_
  intro S hS hZ hr ht hR
  show J S 0 0 (g) 0 [some (.ref 1)] []
  refine J_aload_n hS dX7_makeNotedTalk_0 rfl ?_
  refine J_getR (t := 148) hS dX7_makeNotedTalk_1 flX7_45 ob1 rfl ?_
  refine J_aload_n hS dX7_makeNotedTalk_4 rfl ?_
  refine J_getR (t := 2) hS dX7_makeNotedTalk_5 flX7_10 ob1 rfl ?_
  refine J_aload_n hS dX7_makeNotedTalk_8 rfl ?_
  refine J_getR (t := 152) hS dX7_makeNotedTalk_9 flX7_52 ob1 rfl ?_
  refine J_callV2 (X' := fun _ _ => False) hS dX7_makeNotedTalk_12 mvX7_399 ob148 rfl (by decide) (by decide) (Nat.le_of_ble_eq_true rfl) ⟨Nat.le_trans (by decide) hR.1, Nat.le_trans (by decide) hR.2⟩ (fun _ _ q => q.elim) (c_makeIn wo_now hs hmt4 hy hya hyb hwt hR0 (fun g1 a1 a2 a3 a4 a5 a6 a7 a8 a9 a10 => ?_))
  rw [← hW] at a2 a4 a5 a6 a7 a8 a9 a10
  rw [← hV] at a2
  have hrt : tRt W a b y mt = 0 ∨ tRt W a b y mt = 1 := by unfold tRt rtI; split <;> simp
  have hsh : tSh W a b y mt = 0 ∨ tSh W a b y mt = 1 := by unfold tSh; split <;> simp
  have hR1 : RuleC g1 lw := hR0.fr (fun z hz => a1 z (by omega) (by omega) (by omega) (by omega) (by omega) (by omega))
  have e1 : g1 152 = g 152 := a1 152 (by decide) (by decide) (by decide) (by decide) (by decide) (by decide)
  refine J_aload_n hS dX7_makeNotedTalk_15 rfl ?_
  refine J_getR (t := 143) hS dX7_makeNotedTalk_16 flX7_38 ob1 rfl ?_
  refine J_aload_n hS dX7_makeNotedTalk_19 rfl ?_
  refine J_getR (t := 2) hS dX7_makeNotedTalk_20 flX7_10 ob1 rfl ?_
  refine J_aload_n hS dX7_makeNotedTalk_23 rfl ?_
  refine J_getR (t := 148) hS dX7_makeNotedTalk_24 flX7_45 ob1 rfl ?_
  refine J_callV2 (X' := fun _ _ => False) hS dX7_makeNotedTalk_27 mvX7_403 ob143 rfl (by decide) (by decide) (Nat.le_of_ble_eq_true rfl) ⟨Nat.le_trans (by decide) hR.1, Nat.le_trans (by decide) hR.2⟩ (fun _ _ q => q.elim) (c_write wo_now (m := m) ha hb a3.2.2.1 a3.2.2.2.1 hm (by rw [a1 143 (by decide) (by decide) (by decide) (by decide) (by decide) (by decide)]; exact em) hrt a8 hsh a9 (fun g2 b0 b1 b2 b3 b4 b5 b6 b7 b8 b9 b10 b11 b12 b13 b14 => ?_))
  have e2 : g2 152 = g 152 := by rw [b0 152 (by decide) (by decide)]; exact e1
  have w2 : wv g2 2 = V := by rw [← a2]; exact wv_fr (fun z h1 h2 => b0 z (by omega) (by omega))
  have s2 : g2 148 = g1 148 := b0 148 (by decide) (by decide)
  have hR2 : RuleC g2 lw := hR1.fr (fun z hz => b0 z (by omega) (by omega))
  refine J_aload_n hS dX7_makeNotedTalk_30 rfl ?_
  refine J_getR (t := 143) hS dX7_makeNotedTalk_31 flX7_38 ob1 rfl ?_
  refine J_aload_n hS dX7_makeNotedTalk_34 rfl ?_
  refine J_getR (t := 2) hS dX7_makeNotedTalk_35 flX7_10 ob1 rfl ?_
  refine J_aload_n hS dX7_makeNotedTalk_38 rfl ?_
  refine J_getR (t := 152) hS dX7_makeNotedTalk_39 flX7_52 ob1 rfl ?_
  refine J_aload_n hS dX7_makeNotedTalk_42 rfl ?_
  refine J_getR (t := 148) hS dX7_makeNotedTalk_43 flX7_45 ob1 rfl ?_
  refine J_getI hS dX7_makeNotedTalk_46 flX7_407 ob148 rfl ?_
  show J S 0 0 (g2) 49 [some (.ref 1)] [.int _, .ref (152), .ref (2), .ref (143)]
  rw [show g2 148 1 = nI b by rw [s2]; exact a3.2.2.2.1]
  refine J_callV3 (X' := fun _ _ => False) hS dX7_makeNotedTalk_49 mvX7_410 ob143 rfl (by decide) (by decide) (Nat.le_of_ble_eq_true rfl) ⟨Nat.le_trans (by decide) hR.1, Nat.le_trans (by decide) hR.2⟩ (fun _ _ q => q.elim) (c_askWhatIsHeld wo_now hb b1 hR2 (fun g3 d0 d1 d2 d3 d4 => ?_))
  rw [w2, e2] at d1 d3 d4
  have w3 : wv g3 2 = V := by rw [← w2]; exact wv_fr (fun z h1 h2 => d0 z (by omega) (by omega) (by omega) (by omega) (by omega))
  have e3 : g3 152 = g 152 := by rw [d0 152 (by decide) (by decide) (by decide) (by decide) (by decide)]; exact e2
  have hR3 : RuleC g3 lw := hR2.fr (fun z hz => d0 z (by omega) (by omega) (by omega) (by omega) (by omega))
  refine J_aload_n hS dX7_makeNotedTalk_52 rfl ?_
  refine J_getR (t := 143) hS dX7_makeNotedTalk_53 flX7_38 ob1 rfl ?_
  refine J_aload_n hS dX7_makeNotedTalk_56 rfl ?_
  refine J_getR (t := 2) hS dX7_makeNotedTalk_57 flX7_10 ob1 rfl ?_
  refine J_aload_n hS dX7_makeNotedTalk_60 rfl ?_
  refine J_getR (t := 152) hS dX7_makeNotedTalk_61 flX7_52 ob1 rfl ?_
  refine J_aload_n hS dX7_makeNotedTalk_64 rfl ?_
  refine J_getR (t := 148) hS dX7_makeNotedTalk_65 flX7_45 ob1 rfl ?_
  refine J_getI hS dX7_makeNotedTalk_68 flX7_414 ob148 rfl ?_
  show J S 0 0 (g3) 71 [some (.ref 1)] [.int _, .ref (152), .ref (2), .ref (143)]
  rw [show g3 148 0 = nI a by rw [d0 148 (by decide) (by decide) (by decide) (by decide) (by decide), s2]; exact a3.2.2.1]
  refine J_callV3 (X' := fun _ _ => False) hS dX7_makeNotedTalk_71 mvX7_410 ob143 rfl (by decide) (by decide) (Nat.le_of_ble_eq_true rfl) ⟨Nat.le_trans (by decide) hR.1, Nat.le_trans (by decide) hR.2⟩ (fun _ _ q => q.elim) (c_askWhatIsHeld wo_now ha (by rw [d0 143 (by decide) (by decide) (by decide) (by decide) (by decide)]; exact b1) hR3 (fun g4 f0 f1 f2 f3 f4 => ?_))
  rw [w3, e3] at f1 f3 f4
  have e41 : g4 1 = g 1 := by
    rw [f0 1 (by decide) (by decide) (by decide) (by decide) (by decide), d0 1 (by decide) (by decide) (by decide) (by decide) (by decide), b0 1 (by decide) (by decide)]; exact a1 1 (by decide) (by decide) (by decide) (by decide) (by decide) (by decide)
  have e4f : ∀ z, 101 ≤ z → z < 107 → g4 z = g z := by
    intro z h1 h2
    rw [f0 z (by omega) (by omega) (by omega) (by omega) (by omega), d0 z (by omega) (by omega) (by omega) (by omega) (by omega), b0 z (by omega) (by omega)]; exact a1 z (by omega) (by omega) (by omega) (by omega) (by omega) (by omega)
  have s3 : g3 147 = g3 147 := rfl
  have g2k : ∀ z, z = 145 ∨ z = 146 ∨ z = 147 → g2 z = g z := by
    intro z hz
    rw [b0 z (by omega) (by omega)]; exact a1 z (by omega) (by omega) (by omega) (by omega) (by omega) (by omega)
  rw [g2k 147 (by simp)] at d1 d2
  rw [g2k 146 (by simp), g2k 147 (by simp)] at d3
  rw [g2k 146 (by simp), g2k 147 (by simp), g2k 145 (by simp)] at d4
  have n147 : ∀ o, o < 6 → g3 147 (a * 6 + o) = g 147 (a * 6 + o) := fun o ho => d2 _ (by omega)
  have nm1 : ¬ nI m = -1 := nI_nem1 (by omega)
  have fin : ∀ g' : Mm, (∀ z, z ≠ 1 → (z < 101 ∨ 107 ≤ z) → g' z = g4 z) → (g 1 16 = -1 → g' 1 = g 1 ∧ ∀ z, 101 ≤ z → z < 107 → g' z = g z) → (∀ f mn, f < 3 → mn < 100 → g 1 16 = nI f → g (101 + 2 * f) 3 = nI mn → (∀ z, 101 ≤ z → z < 107 → z ≠ 101 + 2 * f → g' z = g z) ∧ g' (101 + 2 * f) 3 = nI (mn + 1) ∧ (∀ j, j ≠ 3 → g' (101 + 2 * f) j = g (101 + 2 * f) j) ∧ g' 1 16 = (if mn + 1 = 100 then -1 else nI f) ∧ ∀ j, j ≠ 16 → g' 1 j = g 1 j) → NtP lw g g' a b y m mt := by
    intro g' k1 k2 k3
    unfold NtP
    rw [← hW, ← hV]
    have k4 : ∀ z, z ≠ 1 → (z < 101 ∨ 107 ≤ z) → z ≠ 145 → z ≠ 146 → z ≠ 147 → z ≠ 153 → z ≠ 154 → g' z = g2 z := by
      intro z h1 h2 h3 h4 h5 h6 h7
      rw [k1 z h1 h2, f0 z h3 h4 h5 h6 h7, d0 z h3 h4 h5 h6 h7]
    refine ⟨?_, ?_, ?_, ?_, ?_, ?_, ?_, ?_, ?_, k2, k3⟩
    · intro z z1 z2 z3 z4 z5 z6 z7 z8 z9 z10 z11 z12 z13
      rw [k4 z z1 z3 z6 z7 z8 z12 z13, b0 z z4 z5]; exact a1 z (by omega) z9 z10 z11 z12 z13
    · rw [← w3]
      exact wv_fr (fun z h1 h2 => by rw [k1 z (by omega) (by omega)]; exact f0 z (by omega) (by omega) (by omega) (by omega) (by omega))
    · rw [k4 148 (by decide) (by decide) (by decide) (by decide) (by decide) (by decide) (by decide), s2]; exact a8
    · rw [k4 143 (by decide) (by decide) (by decide) (by decide) (by decide) (by decide) (by decide)]; exact b1
    · intro j hj
      rw [k4 144 (by decide) (by decide) (by decide) (by decide) (by decide) (by decide) (by decide)]
      have w1g : ∀ i, i < 24 → g1 (2 + 4) i = V (56 + 142 * i + 4) := by
        intro i hi; rw [← a2, wv_at (wx_kind hi)]
      unfold ntV
      rw [← hV]
      refine ntF_all ?_ b5 b6 (fun k hk => ?_) ?_ (fun k hk => ?_) ?_ (fun k hk => ?_) b10 b11 ?_ ?_ ?_ j hj
      · rw [b4, ← a2]; exact (wv_at (g := g1) (h := 2) (wx_i (show 2 < 7 by decide))).symm
      · rw [(b7 k hk).1]; exact (a3.2.2.2.2 k hk).2
      · rw [b8]; exact a4
      · rw [(b7 k hk).2.1]; exact (a5 k hk).2
      · rw [b9]; exact a6
      · rw [(b7 k hk).2.2]; exact a7 k hk
      · rw [b12]; exact a10
      · rw [b13]; exact w1g a ha
      · rw [b14]; exact w1g b hb
    · intro i hi
      rw [k4 144 (by decide) (by decide) (by decide) (by decide) (by decide) (by decide) (by decide), b3 i hi]
      rw [a1 144 (by decide) (by decide) (by decide) (by decide) (by decide) (by decide)]
    · intro i hi
      rw [k1 147 (by decide) (by decide)]
      have hi2 : i = i / 6 * 6 + i % 6 := by omega
      by_cases ea : i / 6 = a
      · rw [hi2, ea, f1 (i % 6) (by omega), n147 _ (by omega)]
        by_cases hc : nwH lw (g 152 3) V (g 147) a (i % 6) = true
        · rw [if_pos (nwH_t.mp hc), if_pos ⟨Or.inl (by omega), by rw [show (a * 6 + i % 6) / 6 = a by omega, show (a * 6 + i % 6) % 6 = i % 6 by omega]; exact hc⟩]
        · rw [if_neg (fun z => hc (nwH_t.mpr z)), if_neg (fun z => hc (by have := z.2; rw [show (a * 6 + i % 6) / 6 = a by omega, show (a * 6 + i % 6) % 6 = i % 6 by omega] at this; exact this))]
      · rw [f2 i (by omega)]
        by_cases eb : i / 6 = b
        · rw [hi2, eb, d1 (i % 6) (by omega)]
          by_cases hc : nwH lw (g 152 3) V (g 147) b (i % 6) = true
          · rw [if_pos (nwH_t.mp hc), if_pos ⟨Or.inr (by omega), by rw [show (b * 6 + i % 6) / 6 = b by omega, show (b * 6 + i % 6) % 6 = i % 6 by omega]; exact hc⟩]
          · rw [if_neg (fun z => hc (nwH_t.mpr z)), if_neg (fun z => hc (by have := z.2; rw [show (b * 6 + i % 6) / 6 = b by omega, show (b * 6 + i % 6) % 6 = i % 6 by omega] at this; exact this))]
        · rw [d2 i (by omega), if_neg (fun z => z.1.elim ea eb)]
    · intro o ho
      rw [k1 146 (by decide) (by decide), f3 o ho, n147 o ho, d3 o ho]
      simp only [nwH_t]
      exact fst_t nm1
    · intro o ho
      rw [k1 145 (by decide) (by decide), f4 o ho, n147 o ho, d3 o ho, d4 o ho]
      simp only [nwH_t]
      exact fst_c nm1
  refine J_aload_n hS dX7_makeNotedTalk_74 rfl ?_
  refine J_getI hS dX7_makeNotedTalk_75 flX7_86 ob1 rfl ?_
  refine J_iconst (v := (-1)) hS dX7_makeNotedTalk_78 (by decide) ?_
  show J S 0 0 (g4) 79 [some (.ref 1)] [.int (-1), .int _]
  rw [e41]
  refine J_icmp_eq (tgt := 121) hS dX7_makeNotedTalk_79 (by decide) (fun c1 => ?_) (fun c1 => ?_)
  ·
    refine J_vret hS hZ hr dX7_makeNotedTalk_121 (by omega) (by omega) ?_
    refine q g4 (fin g4 (fun _ _ _ => rfl) (fun _ => ⟨e41, e4f⟩) (fun f mn hf3 hmn ef emn => ?_))
    rw [c1] at ef; exact absurd ef.symm (nI_nem1 (by omega))
  · obtain ⟨f, mn, hf3, hmn, ef, emn⟩ : ∃ f mn, f < 3 ∧ mn < 100 ∧ g 1 16 = nI f ∧ g (101 + 2 * f) 3 = nI mn := by
      rcases hf with z | z
      · exact absurd z c1
      · exact z
    have hF : Fm (101 + 2 * f) := ⟨f, hf3, rfl⟩
    have emn4 : g4 (101 + 2 * f) 3 = nI mn := by rw [e4f _ (by omega) (by omega)]; exact emn
    refine J_aload_n hS dX7_makeNotedTalk_82 rfl ?_
    refine J_getR (t := 160) hS dX7_makeNotedTalk_83 flX7_25 ob1 rfl ?_
    refine J_aload_n hS dX7_makeNotedTalk_86 rfl ?_
    refine J_getI hS dX7_makeNotedTalk_87 flX7_86 ob1 rfl ?_
    show J S 0 0 (g4) 90 [some (.ref 1)] [.int _, .ref (160)]
    rw [e41, ef]
    refine J_aaldN (t0 := 4) (t := 101 + 2 * f) hS (f) dX7_makeNotedTalk_90 aq160 (fun _ => rfl) (by first | rfl | (simp only [n0, n1, n2, n3, n4, n5, n6, n7, n8, n9, n10, n11, n12, n13, n14, n15, n16, n17, n18, n19, n20, n24, n32, n56, n60, n64, n72, n99, n100, n128, n136, n142, n144, n200, n300, n999, n1000, n1500, n3464, nI_add, pk_mul] <;> first | rfl | (congr 1; omega))) (by omega) (by decide) rfl ?_
    refine J_dup hS dX7_makeNotedTalk_91 rfl ?_
    refine J_getI hS dX7_makeNotedTalk_92 flX7_277 hF.ob rfl ?_
    show J S 0 0 (g4) 95 [some (.ref 1)] [.int _, .ref (101 + 2 * f)]
    rw [emn4]
    refine J_iconst (v := 1) hS dX7_makeNotedTalk_95 (by decide) ?_
    refine J_iadd hS dX7_makeNotedTalk_96 ?_
    refine J_putI hS dX7_makeNotedTalk_97 fpX7_277 hF.ob rfl (fun g97 eg97 => ?_)
    refine J_aload_n hS dX7_makeNotedTalk_100 rfl ?_
    refine J_getR (t := 160) hS dX7_makeNotedTalk_101 flX7_25 ob1 rfl ?_
    refine J_aload_n hS dX7_makeNotedTalk_104 rfl ?_
    refine J_getI hS dX7_makeNotedTalk_105 flX7_86 ob1 rfl ?_
    show J S 0 0 (g97) 108 [some (.ref 1)] [.int _, .ref (160)]
    rw [show g97 1 16 = nI f by rw [eg97, u2_ne _ (by omega), e41]; exact ef]
    refine J_aaldN (t0 := 4) (t := 101 + 2 * f) hS (f) dX7_makeNotedTalk_108 aq160 (fun _ => rfl) (by first | rfl | (simp only [n0, n1, n2, n3, n4, n5, n6, n7, n8, n9, n10, n11, n12, n13, n14, n15, n16, n17, n18, n19, n20, n24, n32, n56, n60, n64, n72, n99, n100, n128, n136, n142, n144, n200, n300, n999, n1000, n1500, n3464, nI_add, pk_mul] <;> first | rfl | (congr 1; omega))) (by omega) (by decide) rfl ?_
    refine J_getI hS dX7_makeNotedTalk_109 flX7_277 hF.ob rfl ?_
    show J S 0 0 (g97) 112 [some (.ref 1)] [.int _]
    rw [show g97 (101 + 2 * f) 3 = nI (mn + 1) by rw [eg97, u2_self]; exact nI_1 mn]
    refine J_bipush (v := 100) hS dX7_makeNotedTalk_112 (by decide) ?_
    have hk : ∀ z, z ≠ 101 + 2 * f → g97 z = g4 z := fun z hz => by rw [eg97, u2_ne _ hz]
    have hk3 : g97 (101 + 2 * f) 3 = nI (mn + 1) := by rw [eg97, u2_self]; exact nI_1 mn
    have hkj : ∀ j, j ≠ 3 → g97 (101 + 2 * f) j = g (101 + 2 * f) j := fun j hj => by rw [eg97]; simp [u2, hj, e4f _ (show 101 ≤ 101 + 2 * f by omega) (by omega)]
    refine J_icmp_lt (tgt := 121) hS dX7_makeNotedTalk_114 (by decide) (fun c2 => ?_) (fun c2 => ?_)
    · have hlt : ¬ mn + 1 = 100 := fun z => by rw [z] at c2; exact absurd c2 (by decide)
      refine J_vret hS hZ hr dX7_makeNotedTalk_121 (by omega) (by omega) ?_
      refine q g97 (fin g97 (fun z z1 z2 => hk z (by omega)) (fun z => absurd z c1) (fun f' mn' hf' hmn' ef' emn' => ?_))
      have eff : f' = f := (nI_eq (by omega) (by omega)).mp (ef'.symm.trans ef)
      subst eff
      have emm : mn' = mn := (nI_eq (by omega) (by omega)).mp (emn'.symm.trans emn)
      subst emm
      refine ⟨fun z z1 z2 z3 => by rw [hk z z3]; exact e4f z z1 z2, hk3, hkj, ?_, fun j _ => by rw [hk 1 (by omega), e41]⟩
      rw [hk 1 (by omega), e41, if_neg hlt]; exact ef
    · have hge : mn + 1 = 100 := by
        rcases Nat.lt_or_ge (mn + 1) 100 with z | z
        · exact absurd (nI_lt z (by decide)) c2
        · omega
      refine J_aload_n hS dX7_makeNotedTalk_117 rfl ?_
      refine J_callV0 (X' := fun _ _ => False) hS dX7_makeNotedTalk_118 mvX7_100 ob1 rfl (by decide) (by decide) (Nat.le_of_ble_eq_true rfl) ⟨Nat.le_trans (by decide) hR.1, Nat.le_trans (by decide) hR.2⟩ (fun _ _ q => q.elim) (c_stopFilm ?_)
      refine J_vret hS hZ hr dX7_makeNotedTalk_121 (by omega) (by omega) ?_
      refine q _ (fin _ (fun z z1 z2 => by rw [u2_ne _ z1]; exact hk z (by omega)) (fun z => absurd z c1) (fun f' mn' hf' hmn' ef' emn' => ?_))
      have eff : f' = f := (nI_eq (by omega) (by omega)).mp (ef'.symm.trans ef)
      subst eff
      have emm : mn' = mn := (nI_eq (by omega) (by omega)).mp (emn'.symm.trans emn)
      subst emm
      refine ⟨fun z z1 z2 z3 => by rw [u2_ne _ (by omega), hk z z3]; exact e4f z z1 z2, by rw [u2_ne _ (by omega)]; exact hk3, fun j hj => by rw [u2_ne _ (by omega)]; exact hkj j hj, ?_, fun j hj => ?_⟩
      · rw [u2_self, if_pos hge]
      · simp [u2, hj, hk 1 (by omega), e41]
end ClsN


/-! THE CONSTRUCTOR OF THE CLASS -/
def RuF (N : List Nat) (g : Mm) : Prop := (152 ∈ N ∧ 153 ∈ N ∧ 154 ∈ N) ∧ g 152 0 = nI 153 ∧ g 152 1 = nI 154 ∧ g 152 2 = 0 ∧ g 152 3 = -1 ∧ (g 153 = fun _ => 0) ∧ g 154 = fun _ => 0
def SpF (N : List Nat) (g : Mm) : Prop := (148 ∈ N ∧ 149 ∈ N ∧ 150 ∈ N ∧ 151 ∈ N) ∧ g 148 2 = nI 149 ∧ g 148 4 = nI 150 ∧ g 148 6 = nI 151 ∧ g 148 9 = -1 ∧ (∀ k ∈ ([0, 1, 3, 5, 7, 8] : List Nat), g 148 k = 0) ∧ (g 149 = fun _ => 0) ∧ (g 150 = fun _ => 0) ∧ g 151 = fun _ => 0
def Fq (N : List Nat) (g g' : Mm) : Prop := ∀ c ∈ N, c ≠ 1 → c ≠ 159 → c ≠ 160 → c ≠ 161 → g' c = g c
theorem Fq.trans {N N1 : List Nat} {g g1 g2 : Mm} (a : Fq N g g1) (h : ∀ c ∈ N, c ∈ N1) (b : Fq N1 g1 g2) : Fq N g g2 := fun c hc h1 h2 h3 h4 => (b c (h c hc) h1 h2 h3 h4).trans (a c hc h1 h2 h3 h4)
theorem Fq.put {N : List Nat} {g g' : Mm} {a k : Nat} {v : Int32} (e : g' = u2 g a k v) (h : a = 1 ∨ a = 159 ∨ a = 160 ∨ a = 161) : Fq N g g' := fun c hc h1 h2 h3 h4 => by rw [e, u2_ne c (by omega)]
theorem Fq.new {N : List Nat} {g g' : Mm} {a : Nat} (e : g' = zrM g a) (h : a ∉ N) : Fq N g g' := fun c hc h1 h2 h3 h4 => by rw [e, zrM_ne (fun z => h (by rw [← z]; exact hc))]
theorem Fq.call {N : List Nat} {g g1 g2 : Mm} {a : Nat} (e : g1 = zrM g a) (h : a ∉ N) (f : ∀ c ∈ N ++ [a], c ≠ a → g2 c = g1 c) : Fq N g g2 := fun c hc h1 h2 h3 h4 => by
  have : c ≠ a := fun z => h (by rw [← z]; exact hc)
  rw [f c (mi_a hc) this, e, zrM_ne this]
theorem LF.mono {N N' : List Nat} {g g' : Mm} {b : Nat} (h : LF N g b) (hN : ∀ c ∈ N, c ∈ N') (hg : ∀ j, j ≤ 5 → g' (b + j) = g (b + j)) : LF N' g' b :=
  have h0 : g' b = g b := hg 0 (by omega)
  ⟨fun j hj => hN _ (h.1 j hj), by rw [h0]; exact h.2.1, by rw [h0]; exact h.2.2.1, fun k h1 h2 => by rw [h0]; exact h.2.2.2.1 k h1 h2, fun j h1 h2 => by rw [hg j h2]; exact h.2.2.2.2 j h1 h2⟩
theorem WF.fq {N N' : List Nat} {g g' : Mm} {b : Nat} (h : WF N g b) (hN : ∀ c ∈ N, c ∈ N') (f : Fq N g g') (h1 : 2 ≤ b) (h2 : b < 100) : WF N' g' b := h.mono hN (fun j hj => f _ (h.1 j hj) (by omega) (by omega) (by omega) (by omega))
theorem LF.fq {N N' : List Nat} {g g' : Mm} {b : Nat} (h : LF N g b) (hN : ∀ c ∈ N, c ∈ N') (f : Fq N g g') (h1 : 107 ≤ b) (h2 : b < 143) : LF N' g' b := h.mono hN (fun j hj => f _ (h.1 j hj) (by omega) (by omega) (by omega) (by omega))
theorem FiF.fq {N N' : List Nat} {g g' : Mm} {i : Nat} (h : FiF N g i) (hN : ∀ c ∈ N, c ∈ N') (f : Fq N g g') (hi : i < 3) : FiF N' g' i := by
  obtain ⟨a1, a2, a3, a4, a5, a6, a7, a8⟩ := h
  have e1 := f _ a1 (by omega) (by omega) (by omega) (by omega)
  have e2 := f _ a2 (by omega) (by omega) (by omega) (by omega)
  exact ⟨hN _ a1, hN _ a2, by rw [e1]; exact a3, by rw [e1]; exact a4, by rw [e1]; exact a5, by rw [e1]; exact a6, by rw [e2]; exact a7, a8.fq hN f (by omega) (by omega)⟩
theorem NoF.fq {N N' : List Nat} {g g' : Mm} (h : NoF N g) (hN : ∀ c ∈ N, c ∈ N') (f : Fq N g g') : NoF N' g' := by
  obtain ⟨⟨m1, m2, m3, m4, m5⟩, a⟩ := h
  have e1 := f _ m1 (by decide) (by decide) (by decide) (by decide)
  have e2 := f _ m2 (by decide) (by decide) (by decide) (by decide)
  have e3 := f _ m3 (by decide) (by decide) (by decide) (by decide)
  have e4 := f _ m4 (by decide) (by decide) (by decide) (by decide)
  have e5 := f _ m5 (by decide) (by decide) (by decide) (by decide)
  refine ⟨⟨hN _ m1, hN _ m2, hN _ m3, hN _ m4, hN _ m5⟩, ?_⟩
  rw [e1, e2, e3, e4, e5]; exact a
theorem SpF.fq {N N' : List Nat} {g g' : Mm} (h : SpF N g) (hN : ∀ c ∈ N, c ∈ N') (f : Fq N g g') : SpF N' g' := by
  obtain ⟨⟨m1, m2, m3, m4⟩, a⟩ := h
  have e1 := f _ m1 (by decide) (by decide) (by decide) (by decide)
  have e2 := f _ m2 (by decide) (by decide) (by decide) (by decide)
  have e3 := f _ m3 (by decide) (by decide) (by decide) (by decide)
  have e4 := f _ m4 (by decide) (by decide) (by decide) (by decide)
  refine ⟨⟨hN _ m1, hN _ m2, hN _ m3, hN _ m4⟩, ?_⟩
  rw [e1, e2, e3, e4]; exact a
theorem RuF.fq {N N' : List Nat} {g g' : Mm} (h : RuF N g) (hN : ∀ c ∈ N, c ∈ N') (f : Fq N g g') : RuF N' g' := by
  obtain ⟨⟨m1, m2, m3⟩, a⟩ := h
  have e1 := f _ m1 (by decide) (by decide) (by decide) (by decide)
  have e2 := f _ m2 (by decide) (by decide) (by decide) (by decide)
  have e3 := f _ m3 (by decide) (by decide) (by decide) (by decide)
  refine ⟨⟨hN _ m1, hN _ m2, hN _ m3⟩, ?_⟩
  rw [e1, e2, e3]; exact a
theorem nin10 {b : Nat} {N : List Nat} (h : ∀ a ∈ ([b + 1, b + 2, b + 3, b + 4, b + 5, b + 6, b + 7, b + 8, b + 9, b + 10] : List Nat), a ∉ N) : ∀ j, 1 ≤ j → j ≤ 10 → b + j ∉ N := fun j h1 h2 => h _ (by simp; omega)
theorem nin5 {b : Nat} {N : List Nat} (h : ∀ a ∈ ([b + 1, b + 2, b + 3, b + 4, b + 5] : List Nat), a ∉ N) : ∀ j, 1 ≤ j → j ≤ 5 → b + j ∉ N := fun j h1 h2 => h _ (by simp; omega)
/-- the class's object as it is made -/
def YF (N : List Nat) (g : Mm) : Prop :=
  ((∀ k, k < 12 → g 1 k = nI (kY k - 3)) ∧ g 1 12 = 0 ∧ g 1 13 = -1 ∧ g 1 14 = 0 ∧ g 1 15 = 0 ∧ g 1 16 = -1 ∧ g 1 17 = 0) ∧
  ((∀ j, j < 4 → g 159 j = nI (24 + 11 * j)) ∧ (∀ j, j < 3 → g 160 j = nI (101 + 2 * j)) ∧ ∀ j, j < 6 → g 161 j = nI (107 + 6 * j)) ∧
  (∀ b ∈ ([2, 13, 24, 35, 46, 57] : List Nat), WF N g b) ∧ (∀ i ∈ ([0, 1, 2] : List Nat), FiF N g i) ∧ (∀ b ∈ ([107, 113, 119, 125, 131, 137] : List Nat), LF N g b) ∧
  NoF N g ∧ SpF N g ∧ RuF N g ∧ (∀ k, k < 9 → g 155 k = if k = 8 then -1 else 0) ∧ (g 156 = fun _ => 0) ∧ (g 157 = fun _ => 0) ∧ g 158 = fun _ => 0
def ordY : List Nat := (((((((((((((((((((((((((((((((((((((((((((([1] ++ [2]) ++ [3, 4, 5, 6, 7, 8, 9, 10, 11, 12]) ++ [13]) ++ [14, 15, 16, 17, 18, 19, 20, 21, 22, 23]) ++ [159]) ++ [160]) ++ [161]) ++ [143]) ++ [144, 145, 146, 147]) ++ [148]) ++ [149, 150, 151]) ++ [152]) ++ [153, 154]) ++ [155]) ++ []) ++ [156]) ++ [157]) ++ [158]) ++ [24]) ++ [25, 26, 27, 28, 29, 30, 31, 32, 33, 34]) ++ [35]) ++ [36, 37, 38, 39, 40, 41, 42, 43, 44, 45]) ++ [46]) ++ [47, 48, 49, 50, 51, 52, 53, 54, 55, 56]) ++ [57]) ++ [58, 59, 60, 61, 62, 63, 64, 65, 66, 67]) ++ [101]) ++ [68, 69, 70, 71, 72, 73, 74, 75, 76, 77, 78, 102]) ++ [103]) ++ [79, 80, 81, 82, 83, 84, 85, 86, 87, 88, 89, 104]) ++ [105]) ++ [90, 91, 92, 93, 94, 95, 96, 97, 98, 99, 100, 106]) ++ [107]) ++ [108, 109, 110, 111, 112]) ++ [113]) ++ [114, 115, 116, 117, 118]) ++ [119]) ++ [120, 121, 122, 123, 124]) ++ [125]) ++ [126, 127, 128, 129, 130]) ++ [131]) ++ [132, 133, 134, 135, 136]) ++ [137]) ++ [138, 139, 140, 141, 142])
section Ctors
variable {l : Launch} {E : Ey} {g : Mm}
def pxY (U : State) : Prop := va_AO "YardTalk$World" U ∧ va_AO "YardTalk$Film" U ∧ va_AO "YardTalk$Law" U
set_option maxHeartbeats 4000000 in
set_option maxRecDepth 10000 in
theorem i_X7 : CtG l E layG [1] 3 160 62843 yX7_init 1 g pxY (fun N' g' => N' = ordY ∧ YF N' g') := by
  refine CtG_of (by decide) rfl k_yX7_init (by decide) (fun S0 hG hZ hr hnm hpx hcl hb => ?_)
  have hS := hG.1
  have r1 : g 1 = (g 1) := rfl
  refine J_aload_n hS dX7_init_0 rfl ?_
  refine J_obj hS dX7_init_1 mlX7_1 ob_i ob_c rfl (by decide) (Nat.le_of_ble_eq_true rfl) ?_
  refine J_aload_n hS dX7_init_4 rfl ?_
  refine J_newO hG hcl (2) (by decide +kernel) (by omega) dX7_init_5 noX7_7 (lgW (b := 2) ⟨0, by decide, by decide⟩) (rl_c (v := .ref (1)) hb (rl_n rl_0)) (rn_c (v := .ref (1)) hb rn_0) (by decide) (by decide) (fun S E hG hcl => ?_)
  have hS := hG.1
  obtain ⟨g1, eg1⟩ : ∃ x : Mm, x = zrM g (2) := ⟨_, rfl⟩
  rw [← eg1] at hcl ⊢
  have hb := mi_a (x := 2) hb
  have m_2 := mi_s (x := 2) (N := [1])
  have r1 : g1 1 = (g 1) := by rw [eg1, zrM_ne (by decide), r1]
  refine J_dup hS dX7_init_8 rfl ?_
  refine J_callI (Px := fun _ => True) hG hcl dX7_init_9 miX7_9 m_2 rfl (by decide) (by decide) (Nat.le_of_ble_eq_true rfl) (by decide) (by decide) (rl_c (v := .ref (1)) hb (rl_n rl_0)) (rn_c (v := .ref (2)) m_2 (rn_c (v := .ref (1)) hb rn_0)) trivial (fun _ _ _ h => h) (i_X6 (Px := fun _ => True) (b := 2) ⟨0, by decide, by decide⟩ (nin10 (by decide +kernel))) (fun S E N1 gq hG hU hcl hq => ?_)
  obtain ⟨hN1, frg2, wf⟩ := hq
  subst hN1
  have hS := hG.1
  have hb := hU _ hb
  have m_2 := hU _ m_2
  obtain ⟨g2, eg2⟩ : ∃ x : Mm, x = gq := ⟨_, rfl⟩
  subst eg2
  have r1 : g2 1 = (g 1) := (frg2 1 (by decide +kernel) (by decide)).trans r1
  have F1 := Fq.call (N := [1]) eg1 (by decide +kernel) frg2
  have K0 := wf
  refine J_putFR (t := 2) hS (by rw [hG.2.1]; exact hnm) dX7_init_12 ffX7_10 (Or.inl ⟨_, rfl⟩) ⟨hb, lg_o ob1.2⟩ rfl (by omega) (by omega) (fun g3 eg3 => ?_)
  have hcl := Cl.putR (k := 0) (t := 2) hcl (lg_o ob1.2) rfl m_2 (by omega)
  rw [← eg3] at hcl
  have r1 : g3 1 = (upd (g 1) 0 (nI (2))) := by rw [eg3, u2_row, r1]
  have F2 := Fq.put (N := (([1] ++ [2]) ++ [3, 4, 5, 6, 7, 8, 9, 10, 11, 12])) eg3 (by decide)
  refine J_aload_n hS dX7_init_15 rfl ?_
  refine J_newO hG hcl (13) (by decide +kernel) (by omega) dX7_init_16 noX7_7 (lgW (b := 13) ⟨1, by decide, by decide⟩) (rl_c (v := .ref (1)) hb (rl_n rl_0)) (rn_c (v := .ref (1)) hb rn_0) (by decide) (by decide) (fun S E hG hcl => ?_)
  have hS := hG.1
  obtain ⟨g4, eg4⟩ : ∃ x : Mm, x = zrM g3 (13) := ⟨_, rfl⟩
  rw [← eg4] at hcl ⊢
  have hb := mi_a (x := 13) hb
  have m_2 := mi_a (x := 13) m_2
  have m_13 := mi_s (x := 13) (N := (([1] ++ [2]) ++ [3, 4, 5, 6, 7, 8, 9, 10, 11, 12]))
  have r1 : g4 1 = (upd (g 1) 0 (nI (2))) := by rw [eg4, zrM_ne (by decide), r1]
  refine J_dup hS dX7_init_19 rfl ?_
  refine J_callI (Px := fun _ => True) hG hcl dX7_init_20 miX7_9 m_13 rfl (by decide) (by decide) (Nat.le_of_ble_eq_true rfl) (by decide) (by decide) (rl_c (v := .ref (1)) hb (rl_n rl_0)) (rn_c (v := .ref (13)) m_13 (rn_c (v := .ref (1)) hb rn_0)) trivial (fun _ _ _ h => h) (i_X6 (Px := fun _ => True) (b := 13) ⟨1, by decide, by decide⟩ (nin10 (by decide +kernel))) (fun S E N1 gq hG hU hcl hq => ?_)
  obtain ⟨hN1, frg5, wf⟩ := hq
  subst hN1
  have hS := hG.1
  have hb := hU _ hb
  have m_2 := hU _ m_2
  have m_13 := hU _ m_13
  obtain ⟨g5, eg5⟩ : ∃ x : Mm, x = gq := ⟨_, rfl⟩
  subst eg5
  have r1 : g5 1 = (upd (g 1) 0 (nI (2))) := (frg5 1 (by decide +kernel) (by decide)).trans r1
  have F3 := Fq.call (N := (([1] ++ [2]) ++ [3, 4, 5, 6, 7, 8, 9, 10, 11, 12])) eg4 (by decide +kernel) frg5
  have K1 := wf
  refine J_putFR (t := 13) hS (by rw [hG.2.1]; exact hnm) dX7_init_23 ffX7_16 (Or.inl ⟨_, rfl⟩) ⟨hb, lg_o ob1.2⟩ rfl (by omega) (by omega) (fun g6 eg6 => ?_)
  have hcl := Cl.putR (k := 1) (t := 13) hcl (lg_o ob1.2) rfl m_13 (by omega)
  rw [← eg6] at hcl
  have r1 : g6 1 = (upd (upd (g 1) 0 (nI (2))) 1 (nI (13))) := by rw [eg6, u2_row, r1]
  have F4 := Fq.put (N := (((([1] ++ [2]) ++ [3, 4, 5, 6, 7, 8, 9, 10, 11, 12]) ++ [13]) ++ [14, 15, 16, 17, 18, 19, 20, 21, 22, 23])) eg6 (by decide)
  refine J_aload_n hS dX7_init_26 rfl ?_
  refine J_iconst (v := 4) hS dX7_init_27 (by decide) ?_
  refine J_newQ (C := "YardTalk$World") (t0 := 3) hG hcl (159) (by decide +kernel) (by omega) dX7_init_28 clX7_7 (by rw [hG.2.1]; exact hpx.1) (lg_a aq159.2.1) rfl (by decide) (fun _ => rfl) (by decide) (by decide) (by decide) (rl_c (v := .ref (1)) hb (rl_n rl_0)) (rn_c (v := .ref (1)) hb rn_0) (by decide) (by decide) (fun S E hG hcl => ?_)
  have hS := hG.1
  obtain ⟨g7, eg7⟩ : ∃ x : Mm, x = zrM g6 (159) := ⟨_, rfl⟩
  rw [← eg7] at hcl ⊢
  have hb := mi_a (x := 159) hb
  have m_2 := mi_a (x := 159) m_2
  have m_13 := mi_a (x := 159) m_13
  have m_159 := mi_s (x := 159) (N := (((([1] ++ [2]) ++ [3, 4, 5, 6, 7, 8, 9, 10, 11, 12]) ++ [13]) ++ [14, 15, 16, 17, 18, 19, 20, 21, 22, 23]))
  have r1 : g7 1 = (upd (upd (g 1) 0 (nI (2))) 1 (nI (13))) := by rw [eg7, zrM_ne (by decide), r1]
  have F5 := Fq.new (N := (((([1] ++ [2]) ++ [3, 4, 5, 6, 7, 8, 9, 10, 11, 12]) ++ [13]) ++ [14, 15, 16, 17, 18, 19, 20, 21, 22, 23])) eg7 (by decide +kernel)
  have r159 : g7 159 = (fun _ => 0) := by rw [eg7]; exact zrM_at
  refine J_putFR (t := 159) hS (by rw [hG.2.1]; exact hnm) dX7_init_31 ffX7_19 (Or.inr ⟨_, rfl⟩) ⟨hb, lg_o ob1.2⟩ rfl (by omega) (by omega) (fun g8 eg8 => ?_)
  have hcl := Cl.putR (k := 2) (t := 159) hcl (lg_o ob1.2) rfl m_159 (by omega)
  rw [← eg8] at hcl
  have r1 : g8 1 = (upd (upd (upd (g 1) 0 (nI (2))) 1 (nI (13))) 2 (nI (159))) := by rw [eg8, u2_row, r1]
  have r159 : g8 159 = (fun _ => 0) := by rw [eg8, u2_ne _ (by decide), r159]
  have F6 := Fq.put (N := ((((([1] ++ [2]) ++ [3, 4, 5, 6, 7, 8, 9, 10, 11, 12]) ++ [13]) ++ [14, 15, 16, 17, 18, 19, 20, 21, 22, 23]) ++ [159])) eg8 (by decide)
  refine J_aload_n hS dX7_init_34 rfl ?_
  refine J_iconst (v := 3) hS dX7_init_35 (by decide) ?_
  refine J_newQ (C := "YardTalk$Film") (t0 := 4) hG hcl (160) (by decide +kernel) (by omega) dX7_init_36 clX7_23 (by rw [hG.2.1]; exact hpx.2.1) (lg_a aq160.2.1) rfl (by decide) (fun _ => rfl) (by decide) (by decide) (by decide) (rl_c (v := .ref (1)) hb (rl_n rl_0)) (rn_c (v := .ref (1)) hb rn_0) (by decide) (by decide) (fun S E hG hcl => ?_)
  have hS := hG.1
  obtain ⟨g9, eg9⟩ : ∃ x : Mm, x = zrM g8 (160) := ⟨_, rfl⟩
  rw [← eg9] at hcl ⊢
  have hb := mi_a (x := 160) hb
  have m_2 := mi_a (x := 160) m_2
  have m_13 := mi_a (x := 160) m_13
  have m_159 := mi_a (x := 160) m_159
  have m_160 := mi_s (x := 160) (N := ((((([1] ++ [2]) ++ [3, 4, 5, 6, 7, 8, 9, 10, 11, 12]) ++ [13]) ++ [14, 15, 16, 17, 18, 19, 20, 21, 22, 23]) ++ [159]))
  have r1 : g9 1 = (upd (upd (upd (g 1) 0 (nI (2))) 1 (nI (13))) 2 (nI (159))) := by rw [eg9, zrM_ne (by decide), r1]
  have r159 : g9 159 = (fun _ => 0) := by rw [eg9, zrM_ne (by decide), r159]
  have F7 := Fq.new (N := ((((([1] ++ [2]) ++ [3, 4, 5, 6, 7, 8, 9, 10, 11, 12]) ++ [13]) ++ [14, 15, 16, 17, 18, 19, 20, 21, 22, 23]) ++ [159])) eg9 (by decide +kernel)
  have r160 : g9 160 = (fun _ => 0) := by rw [eg9]; exact zrM_at
  refine J_putFR (t := 160) hS (by rw [hG.2.1]; exact hnm) dX7_init_39 ffX7_25 (Or.inr ⟨_, rfl⟩) ⟨hb, lg_o ob1.2⟩ rfl (by omega) (by omega) (fun g10 eg10 => ?_)
  have hcl := Cl.putR (k := 3) (t := 160) hcl (lg_o ob1.2) rfl m_160 (by omega)
  rw [← eg10] at hcl
  have r1 : g10 1 = (upd (upd (upd (upd (g 1) 0 (nI (2))) 1 (nI (13))) 2 (nI (159))) 3 (nI (160))) := by rw [eg10, u2_row, r1]
  have r159 : g10 159 = (fun _ => 0) := by rw [eg10, u2_ne _ (by decide), r159]
  have r160 : g10 160 = (fun _ => 0) := by rw [eg10, u2_ne _ (by decide), r160]
  have F8 := Fq.put (N := (((((([1] ++ [2]) ++ [3, 4, 5, 6, 7, 8, 9, 10, 11, 12]) ++ [13]) ++ [14, 15, 16, 17, 18, 19, 20, 21, 22, 23]) ++ [159]) ++ [160])) eg10 (by decide)
  refine J_aload_n hS dX7_init_42 rfl ?_
  refine J_bipush (v := 6) hS dX7_init_43 (by decide) ?_
  refine J_newQ (C := "YardTalk$Law") (t0 := 5) hG hcl (161) (by decide +kernel) (by omega) dX7_init_45 clX7_29 (by rw [hG.2.1]; exact hpx.2.2) (lg_a aq161.2.1) rfl (by decide) (fun _ => rfl) (by decide) (by decide) (by decide) (rl_c (v := .ref (1)) hb (rl_n rl_0)) (rn_c (v := .ref (1)) hb rn_0) (by decide) (by decide) (fun S E hG hcl => ?_)
  have hS := hG.1
  obtain ⟨g11, eg11⟩ : ∃ x : Mm, x = zrM g10 (161) := ⟨_, rfl⟩
  rw [← eg11] at hcl ⊢
  have hb := mi_a (x := 161) hb
  have m_2 := mi_a (x := 161) m_2
  have m_13 := mi_a (x := 161) m_13
  have m_159 := mi_a (x := 161) m_159
  have m_160 := mi_a (x := 161) m_160
  have m_161 := mi_s (x := 161) (N := (((((([1] ++ [2]) ++ [3, 4, 5, 6, 7, 8, 9, 10, 11, 12]) ++ [13]) ++ [14, 15, 16, 17, 18, 19, 20, 21, 22, 23]) ++ [159]) ++ [160]))
  have r1 : g11 1 = (upd (upd (upd (upd (g 1) 0 (nI (2))) 1 (nI (13))) 2 (nI (159))) 3 (nI (160))) := by rw [eg11, zrM_ne (by decide), r1]
  have r159 : g11 159 = (fun _ => 0) := by rw [eg11, zrM_ne (by decide), r159]
  have r160 : g11 160 = (fun _ => 0) := by rw [eg11, zrM_ne (by decide), r160]
  have F9 := Fq.new (N := (((((([1] ++ [2]) ++ [3, 4, 5, 6, 7, 8, 9, 10, 11, 12]) ++ [13]) ++ [14, 15, 16, 17, 18, 19, 20, 21, 22, 23]) ++ [159]) ++ [160])) eg11 (by decide +kernel)
  have r161 : g11 161 = (fun _ => 0) := by rw [eg11]; exact zrM_at
  refine J_putFR (t := 161) hS (by rw [hG.2.1]; exact hnm) dX7_init_48 ffX7_31 (Or.inr ⟨_, rfl⟩) ⟨hb, lg_o ob1.2⟩ rfl (by omega) (by omega) (fun g12 eg12 => ?_)
  have hcl := Cl.putR (k := 4) (t := 161) hcl (lg_o ob1.2) rfl m_161 (by omega)
  rw [← eg12] at hcl
  have r1 : g12 1 = (upd (upd (upd (upd (upd (g 1) 0 (nI (2))) 1 (nI (13))) 2 (nI (159))) 3 (nI (160))) 4 (nI (161))) := by rw [eg12, u2_row, r1]
  have r159 : g12 159 = (fun _ => 0) := by rw [eg12, u2_ne _ (by decide), r159]
  have r160 : g12 160 = (fun _ => 0) := by rw [eg12, u2_ne _ (by decide), r160]
  have r161 : g12 161 = (fun _ => 0) := by rw [eg12, u2_ne _ (by decide), r161]
  have F10 := Fq.put (N := ((((((([1] ++ [2]) ++ [3, 4, 5, 6, 7, 8, 9, 10, 11, 12]) ++ [13]) ++ [14, 15, 16, 17, 18, 19, 20, 21, 22, 23]) ++ [159]) ++ [160]) ++ [161])) eg12 (by decide)
  refine J_aload_n hS dX7_init_51 rfl ?_
  refine J_newO hG hcl (143) (by decide +kernel) (by omega) dX7_init_52 noX7_35 (lg_o ob143.2) (rl_c (v := .ref (1)) hb (rl_n rl_0)) (rn_c (v := .ref (1)) hb rn_0) (by decide) (by decide) (fun S E hG hcl => ?_)
  have hS := hG.1
  obtain ⟨g13, eg13⟩ : ∃ x : Mm, x = zrM g12 (143) := ⟨_, rfl⟩
  rw [← eg13] at hcl ⊢
  have hb := mi_a (x := 143) hb
  have m_2 := mi_a (x := 143) m_2
  have m_13 := mi_a (x := 143) m_13
  have m_159 := mi_a (x := 143) m_159
  have m_160 := mi_a (x := 143) m_160
  have m_161 := mi_a (x := 143) m_161
  have m_143 := mi_s (x := 143) (N := ((((((([1] ++ [2]) ++ [3, 4, 5, 6, 7, 8, 9, 10, 11, 12]) ++ [13]) ++ [14, 15, 16, 17, 18, 19, 20, 21, 22, 23]) ++ [159]) ++ [160]) ++ [161]))
  have r1 : g13 1 = (upd (upd (upd (upd (upd (g 1) 0 (nI (2))) 1 (nI (13))) 2 (nI (159))) 3 (nI (160))) 4 (nI (161))) := by rw [eg13, zrM_ne (by decide), r1]
  have r159 : g13 159 = (fun _ => 0) := by rw [eg13, zrM_ne (by decide), r159]
  have r160 : g13 160 = (fun _ => 0) := by rw [eg13, zrM_ne (by decide), r160]
  have r161 : g13 161 = (fun _ => 0) := by rw [eg13, zrM_ne (by decide), r161]
  refine J_dup hS dX7_init_55 rfl ?_
  refine J_callI (Px := fun _ => True) hG hcl dX7_init_56 miX7_37 m_143 rfl (by decide) (by decide) (Nat.le_of_ble_eq_true rfl) (by decide) (by decide) (rl_c (v := .ref (1)) hb (rl_n rl_0)) (rn_c (v := .ref (143)) m_143 (rn_c (v := .ref (1)) hb rn_0)) trivial (fun _ _ _ h => h) (i_X3 (Px := fun _ => True) (by decide +kernel)) (fun S E N1 gq hG hU hcl hq => ?_)
  obtain ⟨hN1, frg14, wf⟩ := hq
  subst hN1
  have hS := hG.1
  have hb := hU _ hb
  have m_2 := hU _ m_2
  have m_13 := hU _ m_13
  have m_159 := hU _ m_159
  have m_160 := hU _ m_160
  have m_161 := hU _ m_161
  have m_143 := hU _ m_143
  obtain ⟨g14, eg14⟩ : ∃ x : Mm, x = gq := ⟨_, rfl⟩
  subst eg14
  have r1 : g14 1 = (upd (upd (upd (upd (upd (g 1) 0 (nI (2))) 1 (nI (13))) 2 (nI (159))) 3 (nI (160))) 4 (nI (161))) := (frg14 1 (by decide +kernel) (by decide)).trans r1
  have r159 : g14 159 = (fun _ => 0) := (frg14 159 (by decide +kernel) (by decide)).trans r159
  have r160 : g14 160 = (fun _ => 0) := (frg14 160 (by decide +kernel) (by decide)).trans r160
  have r161 : g14 161 = (fun _ => 0) := (frg14 161 (by decide +kernel) (by decide)).trans r161
  have F11 := Fq.call (N := ((((((([1] ++ [2]) ++ [3, 4, 5, 6, 7, 8, 9, 10, 11, 12]) ++ [13]) ++ [14, 15, 16, 17, 18, 19, 20, 21, 22, 23]) ++ [159]) ++ [160]) ++ [161])) eg13 (by decide +kernel) frg14
  have K2 := wf
  refine J_putFR (t := 143) hS (by rw [hG.2.1]; exact hnm) dX7_init_59 ffX7_38 (Or.inl ⟨_, rfl⟩) ⟨hb, lg_o ob1.2⟩ rfl (by omega) (by omega) (fun g15 eg15 => ?_)
  have hcl := Cl.putR (k := 5) (t := 143) hcl (lg_o ob1.2) rfl m_143 (by omega)
  rw [← eg15] at hcl
  have r1 : g15 1 = (upd (upd (upd (upd (upd (upd (g 1) 0 (nI (2))) 1 (nI (13))) 2 (nI (159))) 3 (nI (160))) 4 (nI (161))) 5 (nI (143))) := by rw [eg15, u2_row, r1]
  have r159 : g15 159 = (fun _ => 0) := by rw [eg15, u2_ne _ (by decide), r159]
  have r160 : g15 160 = (fun _ => 0) := by rw [eg15, u2_ne _ (by decide), r160]
  have r161 : g15 161 = (fun _ => 0) := by rw [eg15, u2_ne _ (by decide), r161]
  have F12 := Fq.put (N := ((((((((([1] ++ [2]) ++ [3, 4, 5, 6, 7, 8, 9, 10, 11, 12]) ++ [13]) ++ [14, 15, 16, 17, 18, 19, 20, 21, 22, 23]) ++ [159]) ++ [160]) ++ [161]) ++ [143]) ++ [144, 145, 146, 147])) eg15 (by decide)
  refine J_aload_n hS dX7_init_62 rfl ?_
  refine J_newO hG hcl (148) (by decide +kernel) (by omega) dX7_init_63 noX7_42 (lg_o ob148.2) (rl_c (v := .ref (1)) hb (rl_n rl_0)) (rn_c (v := .ref (1)) hb rn_0) (by decide) (by decide) (fun S E hG hcl => ?_)
  have hS := hG.1
  obtain ⟨g16, eg16⟩ : ∃ x : Mm, x = zrM g15 (148) := ⟨_, rfl⟩
  rw [← eg16] at hcl ⊢
  have hb := mi_a (x := 148) hb
  have m_2 := mi_a (x := 148) m_2
  have m_13 := mi_a (x := 148) m_13
  have m_159 := mi_a (x := 148) m_159
  have m_160 := mi_a (x := 148) m_160
  have m_161 := mi_a (x := 148) m_161
  have m_143 := mi_a (x := 148) m_143
  have m_148 := mi_s (x := 148) (N := ((((((((([1] ++ [2]) ++ [3, 4, 5, 6, 7, 8, 9, 10, 11, 12]) ++ [13]) ++ [14, 15, 16, 17, 18, 19, 20, 21, 22, 23]) ++ [159]) ++ [160]) ++ [161]) ++ [143]) ++ [144, 145, 146, 147]))
  have r1 : g16 1 = (upd (upd (upd (upd (upd (upd (g 1) 0 (nI (2))) 1 (nI (13))) 2 (nI (159))) 3 (nI (160))) 4 (nI (161))) 5 (nI (143))) := by rw [eg16, zrM_ne (by decide), r1]
  have r159 : g16 159 = (fun _ => 0) := by rw [eg16, zrM_ne (by decide), r159]
  have r160 : g16 160 = (fun _ => 0) := by rw [eg16, zrM_ne (by decide), r160]
  have r161 : g16 161 = (fun _ => 0) := by rw [eg16, zrM_ne (by decide), r161]
  refine J_dup hS dX7_init_66 rfl ?_
  refine J_callI (Px := fun _ => True) hG hcl dX7_init_67 miX7_44 m_148 rfl (by decide) (by decide) (Nat.le_of_ble_eq_true rfl) (by decide) (by decide) (rl_c (v := .ref (1)) hb (rl_n rl_0)) (rn_c (v := .ref (148)) m_148 (rn_c (v := .ref (1)) hb rn_0)) trivial (fun _ _ _ h => h) (i_X5 (Px := fun _ => True) (by decide +kernel)) (fun S E N1 gq hG hU hcl hq => ?_)
  obtain ⟨hN1, frg17, wf⟩ := hq
  subst hN1
  have hS := hG.1
  have hb := hU _ hb
  have m_2 := hU _ m_2
  have m_13 := hU _ m_13
  have m_159 := hU _ m_159
  have m_160 := hU _ m_160
  have m_161 := hU _ m_161
  have m_143 := hU _ m_143
  have m_148 := hU _ m_148
  obtain ⟨g17, eg17⟩ : ∃ x : Mm, x = gq := ⟨_, rfl⟩
  subst eg17
  have r1 : g17 1 = (upd (upd (upd (upd (upd (upd (g 1) 0 (nI (2))) 1 (nI (13))) 2 (nI (159))) 3 (nI (160))) 4 (nI (161))) 5 (nI (143))) := (frg17 1 (by decide +kernel) (by decide)).trans r1
  have r159 : g17 159 = (fun _ => 0) := (frg17 159 (by decide +kernel) (by decide)).trans r159
  have r160 : g17 160 = (fun _ => 0) := (frg17 160 (by decide +kernel) (by decide)).trans r160
  have r161 : g17 161 = (fun _ => 0) := (frg17 161 (by decide +kernel) (by decide)).trans r161
  have F13 := Fq.call (N := ((((((((([1] ++ [2]) ++ [3, 4, 5, 6, 7, 8, 9, 10, 11, 12]) ++ [13]) ++ [14, 15, 16, 17, 18, 19, 20, 21, 22, 23]) ++ [159]) ++ [160]) ++ [161]) ++ [143]) ++ [144, 145, 146, 147])) eg16 (by decide +kernel) frg17
  have K3 : SpF ((((((((((([1] ++ [2]) ++ [3, 4, 5, 6, 7, 8, 9, 10, 11, 12]) ++ [13]) ++ [14, 15, 16, 17, 18, 19, 20, 21, 22, 23]) ++ [159]) ++ [160]) ++ [161]) ++ [143]) ++ [144, 145, 146, 147]) ++ [148]) ++ [149, 150, 151]) g17 := ⟨⟨by decide +kernel, by decide +kernel, by decide +kernel, by decide +kernel⟩, wf⟩
  refine J_putFR (t := 148) hS (by rw [hG.2.1]; exact hnm) dX7_init_70 ffX7_45 (Or.inl ⟨_, rfl⟩) ⟨hb, lg_o ob1.2⟩ rfl (by omega) (by omega) (fun g18 eg18 => ?_)
  have hcl := Cl.putR (k := 6) (t := 148) hcl (lg_o ob1.2) rfl m_148 (by omega)
  rw [← eg18] at hcl
  have r1 : g18 1 = (upd (upd (upd (upd (upd (upd (upd (g 1) 0 (nI (2))) 1 (nI (13))) 2 (nI (159))) 3 (nI (160))) 4 (nI (161))) 5 (nI (143))) 6 (nI (148))) := by rw [eg18, u2_row, r1]
  have r159 : g18 159 = (fun _ => 0) := by rw [eg18, u2_ne _ (by decide), r159]
  have r160 : g18 160 = (fun _ => 0) := by rw [eg18, u2_ne _ (by decide), r160]
  have r161 : g18 161 = (fun _ => 0) := by rw [eg18, u2_ne _ (by decide), r161]
  have F14 := Fq.put (N := ((((((((((([1] ++ [2]) ++ [3, 4, 5, 6, 7, 8, 9, 10, 11, 12]) ++ [13]) ++ [14, 15, 16, 17, 18, 19, 20, 21, 22, 23]) ++ [159]) ++ [160]) ++ [161]) ++ [143]) ++ [144, 145, 146, 147]) ++ [148]) ++ [149, 150, 151])) eg18 (by decide)
  refine J_aload_n hS dX7_init_73 rfl ?_
  refine J_newO hG hcl (152) (by decide +kernel) (by omega) dX7_init_74 noX7_49 (lg_o ob152.2) (rl_c (v := .ref (1)) hb (rl_n rl_0)) (rn_c (v := .ref (1)) hb rn_0) (by decide) (by decide) (fun S E hG hcl => ?_)
  have hS := hG.1
  obtain ⟨g19, eg19⟩ : ∃ x : Mm, x = zrM g18 (152) := ⟨_, rfl⟩
  rw [← eg19] at hcl ⊢
  have hb := mi_a (x := 152) hb
  have m_2 := mi_a (x := 152) m_2
  have m_13 := mi_a (x := 152) m_13
  have m_159 := mi_a (x := 152) m_159
  have m_160 := mi_a (x := 152) m_160
  have m_161 := mi_a (x := 152) m_161
  have m_143 := mi_a (x := 152) m_143
  have m_148 := mi_a (x := 152) m_148
  have m_152 := mi_s (x := 152) (N := ((((((((((([1] ++ [2]) ++ [3, 4, 5, 6, 7, 8, 9, 10, 11, 12]) ++ [13]) ++ [14, 15, 16, 17, 18, 19, 20, 21, 22, 23]) ++ [159]) ++ [160]) ++ [161]) ++ [143]) ++ [144, 145, 146, 147]) ++ [148]) ++ [149, 150, 151]))
  have r1 : g19 1 = (upd (upd (upd (upd (upd (upd (upd (g 1) 0 (nI (2))) 1 (nI (13))) 2 (nI (159))) 3 (nI (160))) 4 (nI (161))) 5 (nI (143))) 6 (nI (148))) := by rw [eg19, zrM_ne (by decide), r1]
  have r159 : g19 159 = (fun _ => 0) := by rw [eg19, zrM_ne (by decide), r159]
  have r160 : g19 160 = (fun _ => 0) := by rw [eg19, zrM_ne (by decide), r160]
  have r161 : g19 161 = (fun _ => 0) := by rw [eg19, zrM_ne (by decide), r161]
  refine J_dup hS dX7_init_77 rfl ?_
  refine J_callI (Px := fun _ => True) hG hcl dX7_init_78 miX7_51 m_152 rfl (by decide) (by decide) (Nat.le_of_ble_eq_true rfl) (by decide) (by decide) (rl_c (v := .ref (1)) hb (rl_n rl_0)) (rn_c (v := .ref (152)) m_152 (rn_c (v := .ref (1)) hb rn_0)) trivial (fun _ _ _ h => h) (i_X4 (Px := fun _ => True) (by decide +kernel)) (fun S E N1 gq hG hU hcl hq => ?_)
  obtain ⟨hN1, frg20, wf⟩ := hq
  subst hN1
  have hS := hG.1
  have hb := hU _ hb
  have m_2 := hU _ m_2
  have m_13 := hU _ m_13
  have m_159 := hU _ m_159
  have m_160 := hU _ m_160
  have m_161 := hU _ m_161
  have m_143 := hU _ m_143
  have m_148 := hU _ m_148
  have m_152 := hU _ m_152
  obtain ⟨g20, eg20⟩ : ∃ x : Mm, x = gq := ⟨_, rfl⟩
  subst eg20
  have r1 : g20 1 = (upd (upd (upd (upd (upd (upd (upd (g 1) 0 (nI (2))) 1 (nI (13))) 2 (nI (159))) 3 (nI (160))) 4 (nI (161))) 5 (nI (143))) 6 (nI (148))) := (frg20 1 (by decide +kernel) (by decide)).trans r1
  have r159 : g20 159 = (fun _ => 0) := (frg20 159 (by decide +kernel) (by decide)).trans r159
  have r160 : g20 160 = (fun _ => 0) := (frg20 160 (by decide +kernel) (by decide)).trans r160
  have r161 : g20 161 = (fun _ => 0) := (frg20 161 (by decide +kernel) (by decide)).trans r161
  have F15 := Fq.call (N := ((((((((((([1] ++ [2]) ++ [3, 4, 5, 6, 7, 8, 9, 10, 11, 12]) ++ [13]) ++ [14, 15, 16, 17, 18, 19, 20, 21, 22, 23]) ++ [159]) ++ [160]) ++ [161]) ++ [143]) ++ [144, 145, 146, 147]) ++ [148]) ++ [149, 150, 151])) eg19 (by decide +kernel) frg20
  have K4 : RuF ((((((((((((([1] ++ [2]) ++ [3, 4, 5, 6, 7, 8, 9, 10, 11, 12]) ++ [13]) ++ [14, 15, 16, 17, 18, 19, 20, 21, 22, 23]) ++ [159]) ++ [160]) ++ [161]) ++ [143]) ++ [144, 145, 146, 147]) ++ [148]) ++ [149, 150, 151]) ++ [152]) ++ [153, 154]) g20 := ⟨⟨by decide +kernel, by decide +kernel, by decide +kernel⟩, wf⟩
  refine J_putFR (t := 152) hS (by rw [hG.2.1]; exact hnm) dX7_init_81 ffX7_52 (Or.inl ⟨_, rfl⟩) ⟨hb, lg_o ob1.2⟩ rfl (by omega) (by omega) (fun g21 eg21 => ?_)
  have hcl := Cl.putR (k := 7) (t := 152) hcl (lg_o ob1.2) rfl m_152 (by omega)
  rw [← eg21] at hcl
  have r1 : g21 1 = (upd (upd (upd (upd (upd (upd (upd (upd (g 1) 0 (nI (2))) 1 (nI (13))) 2 (nI (159))) 3 (nI (160))) 4 (nI (161))) 5 (nI (143))) 6 (nI (148))) 7 (nI (152))) := by rw [eg21, u2_row, r1]
  have r159 : g21 159 = (fun _ => 0) := by rw [eg21, u2_ne _ (by decide), r159]
  have r160 : g21 160 = (fun _ => 0) := by rw [eg21, u2_ne _ (by decide), r160]
  have r161 : g21 161 = (fun _ => 0) := by rw [eg21, u2_ne _ (by decide), r161]
  have F16 := Fq.put (N := ((((((((((((([1] ++ [2]) ++ [3, 4, 5, 6, 7, 8, 9, 10, 11, 12]) ++ [13]) ++ [14, 15, 16, 17, 18, 19, 20, 21, 22, 23]) ++ [159]) ++ [160]) ++ [161]) ++ [143]) ++ [144, 145, 146, 147]) ++ [148]) ++ [149, 150, 151]) ++ [152]) ++ [153, 154])) eg21 (by decide)
  refine J_aload_n hS dX7_init_84 rfl ?_
  refine J_newO hG hcl (155) (by decide +kernel) (by omega) dX7_init_85 noX7_56 (lg_o ob155.2) (rl_c (v := .ref (1)) hb (rl_n rl_0)) (rn_c (v := .ref (1)) hb rn_0) (by decide) (by decide) (fun S E hG hcl => ?_)
  have hS := hG.1
  obtain ⟨g22, eg22⟩ : ∃ x : Mm, x = zrM g21 (155) := ⟨_, rfl⟩
  rw [← eg22] at hcl ⊢
  have hb := mi_a (x := 155) hb
  have m_2 := mi_a (x := 155) m_2
  have m_13 := mi_a (x := 155) m_13
  have m_159 := mi_a (x := 155) m_159
  have m_160 := mi_a (x := 155) m_160
  have m_161 := mi_a (x := 155) m_161
  have m_143 := mi_a (x := 155) m_143
  have m_148 := mi_a (x := 155) m_148
  have m_152 := mi_a (x := 155) m_152
  have m_155 := mi_s (x := 155) (N := ((((((((((((([1] ++ [2]) ++ [3, 4, 5, 6, 7, 8, 9, 10, 11, 12]) ++ [13]) ++ [14, 15, 16, 17, 18, 19, 20, 21, 22, 23]) ++ [159]) ++ [160]) ++ [161]) ++ [143]) ++ [144, 145, 146, 147]) ++ [148]) ++ [149, 150, 151]) ++ [152]) ++ [153, 154]))
  have r1 : g22 1 = (upd (upd (upd (upd (upd (upd (upd (upd (g 1) 0 (nI (2))) 1 (nI (13))) 2 (nI (159))) 3 (nI (160))) 4 (nI (161))) 5 (nI (143))) 6 (nI (148))) 7 (nI (152))) := by rw [eg22, zrM_ne (by decide), r1]
  have r159 : g22 159 = (fun _ => 0) := by rw [eg22, zrM_ne (by decide), r159]
  have r160 : g22 160 = (fun _ => 0) := by rw [eg22, zrM_ne (by decide), r160]
  have r161 : g22 161 = (fun _ => 0) := by rw [eg22, zrM_ne (by decide), r161]
  refine J_dup hS dX7_init_88 rfl ?_
  refine J_callI (Px := fun _ => True) hG hcl dX7_init_89 miX7_58 m_155 rfl (by decide) (by decide) (Nat.le_of_ble_eq_true rfl) (by decide) (by decide) (rl_c (v := .ref (1)) hb (rl_n rl_0)) (rn_c (v := .ref (155)) m_155 (rn_c (v := .ref (1)) hb rn_0)) trivial (fun _ _ _ h => h) (i_X2 (Px := fun _ => True) (by decide +kernel)) (fun S E N1 gq hG hU hcl hq => ?_)
  obtain ⟨hN1, frg23, wf⟩ := hq
  subst hN1
  have hS := hG.1
  have hb := hU _ hb
  have m_2 := hU _ m_2
  have m_13 := hU _ m_13
  have m_159 := hU _ m_159
  have m_160 := hU _ m_160
  have m_161 := hU _ m_161
  have m_143 := hU _ m_143
  have m_148 := hU _ m_148
  have m_152 := hU _ m_152
  have m_155 := hU _ m_155
  obtain ⟨g23, eg23⟩ : ∃ x : Mm, x = gq := ⟨_, rfl⟩
  subst eg23
  have r1 : g23 1 = (upd (upd (upd (upd (upd (upd (upd (upd (g 1) 0 (nI (2))) 1 (nI (13))) 2 (nI (159))) 3 (nI (160))) 4 (nI (161))) 5 (nI (143))) 6 (nI (148))) 7 (nI (152))) := (frg23 1 (by decide +kernel) (by decide)).trans r1
  have r159 : g23 159 = (fun _ => 0) := (frg23 159 (by decide +kernel) (by decide)).trans r159
  have r160 : g23 160 = (fun _ => 0) := (frg23 160 (by decide +kernel) (by decide)).trans r160
  have r161 : g23 161 = (fun _ => 0) := (frg23 161 (by decide +kernel) (by decide)).trans r161
  have F17 := Fq.call (N := ((((((((((((([1] ++ [2]) ++ [3, 4, 5, 6, 7, 8, 9, 10, 11, 12]) ++ [13]) ++ [14, 15, 16, 17, 18, 19, 20, 21, 22, 23]) ++ [159]) ++ [160]) ++ [161]) ++ [143]) ++ [144, 145, 146, 147]) ++ [148]) ++ [149, 150, 151]) ++ [152]) ++ [153, 154])) eg22 (by decide +kernel) frg23
  have K5 := wf
  refine J_putFR (t := 155) hS (by rw [hG.2.1]; exact hnm) dX7_init_92 ffX7_59 (Or.inl ⟨_, rfl⟩) ⟨hb, lg_o ob1.2⟩ rfl (by omega) (by omega) (fun g24 eg24 => ?_)
  have hcl := Cl.putR (k := 8) (t := 155) hcl (lg_o ob1.2) rfl m_155 (by omega)
  rw [← eg24] at hcl
  have r1 : g24 1 = (upd (upd (upd (upd (upd (upd (upd (upd (upd (g 1) 0 (nI (2))) 1 (nI (13))) 2 (nI (159))) 3 (nI (160))) 4 (nI (161))) 5 (nI (143))) 6 (nI (148))) 7 (nI (152))) 8 (nI (155))) := by rw [eg24, u2_row, r1]
  have r159 : g24 159 = (fun _ => 0) := by rw [eg24, u2_ne _ (by decide), r159]
  have r160 : g24 160 = (fun _ => 0) := by rw [eg24, u2_ne _ (by decide), r160]
  have r161 : g24 161 = (fun _ => 0) := by rw [eg24, u2_ne _ (by decide), r161]
  have F18 := Fq.put (N := ((((((((((((((([1] ++ [2]) ++ [3, 4, 5, 6, 7, 8, 9, 10, 11, 12]) ++ [13]) ++ [14, 15, 16, 17, 18, 19, 20, 21, 22, 23]) ++ [159]) ++ [160]) ++ [161]) ++ [143]) ++ [144, 145, 146, 147]) ++ [148]) ++ [149, 150, 151]) ++ [152]) ++ [153, 154]) ++ [155]) ++ [])) eg24 (by decide)
  refine J_aload_n hS dX7_init_95 rfl ?_
  refine J_sipush (v := 300) hS dX7_init_96 (by decide) ?_
  refine J_newA hG hcl (156) (by decide +kernel) (by omega) dX7_init_99 rfl ac_I (lg_r ar156) (Or.inl ⟨rfl, Or.inl rfl⟩) (by decide) (by decide) (by decide) (rl_c (v := .ref (1)) hb (rl_n rl_0)) (rn_c (v := .ref (1)) hb rn_0) (by decide) (by decide) (fun S E hG hcl => ?_)
  have hS := hG.1
  obtain ⟨g25, eg25⟩ : ∃ x : Mm, x = zrM g24 (156) := ⟨_, rfl⟩
  rw [← eg25] at hcl ⊢
  have hb := mi_a (x := 156) hb
  have m_2 := mi_a (x := 156) m_2
  have m_13 := mi_a (x := 156) m_13
  have m_159 := mi_a (x := 156) m_159
  have m_160 := mi_a (x := 156) m_160
  have m_161 := mi_a (x := 156) m_161
  have m_143 := mi_a (x := 156) m_143
  have m_148 := mi_a (x := 156) m_148
  have m_152 := mi_a (x := 156) m_152
  have m_155 := mi_a (x := 156) m_155
  have m_156 := mi_s (x := 156) (N := ((((((((((((((([1] ++ [2]) ++ [3, 4, 5, 6, 7, 8, 9, 10, 11, 12]) ++ [13]) ++ [14, 15, 16, 17, 18, 19, 20, 21, 22, 23]) ++ [159]) ++ [160]) ++ [161]) ++ [143]) ++ [144, 145, 146, 147]) ++ [148]) ++ [149, 150, 151]) ++ [152]) ++ [153, 154]) ++ [155]) ++ []))
  have r1 : g25 1 = (upd (upd (upd (upd (upd (upd (upd (upd (upd (g 1) 0 (nI (2))) 1 (nI (13))) 2 (nI (159))) 3 (nI (160))) 4 (nI (161))) 5 (nI (143))) 6 (nI (148))) 7 (nI (152))) 8 (nI (155))) := by rw [eg25, zrM_ne (by decide), r1]
  have r159 : g25 159 = (fun _ => 0) := by rw [eg25, zrM_ne (by decide), r159]
  have r160 : g25 160 = (fun _ => 0) := by rw [eg25, zrM_ne (by decide), r160]
  have r161 : g25 161 = (fun _ => 0) := by rw [eg25, zrM_ne (by decide), r161]
  have F19 := Fq.new (N := ((((((((((((((([1] ++ [2]) ++ [3, 4, 5, 6, 7, 8, 9, 10, 11, 12]) ++ [13]) ++ [14, 15, 16, 17, 18, 19, 20, 21, 22, 23]) ++ [159]) ++ [160]) ++ [161]) ++ [143]) ++ [144, 145, 146, 147]) ++ [148]) ++ [149, 150, 151]) ++ [152]) ++ [153, 154]) ++ [155]) ++ [])) eg25 (by decide +kernel)
  have K6 : g25 156 = (fun _ => 0) := by rw [eg25]; exact zrM_at
  refine J_putFR (t := 156) hS (by rw [hG.2.1]; exact hnm) dX7_init_101 ffX7_63 (Or.inr ⟨_, rfl⟩) ⟨hb, lg_o ob1.2⟩ rfl (by omega) (by omega) (fun g26 eg26 => ?_)
  have hcl := Cl.putR (k := 9) (t := 156) hcl (lg_o ob1.2) rfl m_156 (by omega)
  rw [← eg26] at hcl
  have r1 : g26 1 = (upd (upd (upd (upd (upd (upd (upd (upd (upd (upd (g 1) 0 (nI (2))) 1 (nI (13))) 2 (nI (159))) 3 (nI (160))) 4 (nI (161))) 5 (nI (143))) 6 (nI (148))) 7 (nI (152))) 8 (nI (155))) 9 (nI (156))) := by rw [eg26, u2_row, r1]
  have r159 : g26 159 = (fun _ => 0) := by rw [eg26, u2_ne _ (by decide), r159]
  have r160 : g26 160 = (fun _ => 0) := by rw [eg26, u2_ne _ (by decide), r160]
  have r161 : g26 161 = (fun _ => 0) := by rw [eg26, u2_ne _ (by decide), r161]
  have F20 := Fq.put (N := (((((((((((((((([1] ++ [2]) ++ [3, 4, 5, 6, 7, 8, 9, 10, 11, 12]) ++ [13]) ++ [14, 15, 16, 17, 18, 19, 20, 21, 22, 23]) ++ [159]) ++ [160]) ++ [161]) ++ [143]) ++ [144, 145, 146, 147]) ++ [148]) ++ [149, 150, 151]) ++ [152]) ++ [153, 154]) ++ [155]) ++ []) ++ [156])) eg26 (by decide)
  refine J_aload_n hS dX7_init_104 rfl ?_
  refine J_bipush (v := 24) hS dX7_init_105 (by decide) ?_
  refine J_newA hG hcl (157) (by decide +kernel) (by omega) dX7_init_107 rfl ac_I (lg_r ar157) (Or.inl ⟨rfl, Or.inl rfl⟩) (by decide) (by decide) (by decide) (rl_c (v := .ref (1)) hb (rl_n rl_0)) (rn_c (v := .ref (1)) hb rn_0) (by decide) (by decide) (fun S E hG hcl => ?_)
  have hS := hG.1
  obtain ⟨g27, eg27⟩ : ∃ x : Mm, x = zrM g26 (157) := ⟨_, rfl⟩
  rw [← eg27] at hcl ⊢
  have hb := mi_a (x := 157) hb
  have m_2 := mi_a (x := 157) m_2
  have m_13 := mi_a (x := 157) m_13
  have m_159 := mi_a (x := 157) m_159
  have m_160 := mi_a (x := 157) m_160
  have m_161 := mi_a (x := 157) m_161
  have m_143 := mi_a (x := 157) m_143
  have m_148 := mi_a (x := 157) m_148
  have m_152 := mi_a (x := 157) m_152
  have m_155 := mi_a (x := 157) m_155
  have m_156 := mi_a (x := 157) m_156
  have m_157 := mi_s (x := 157) (N := (((((((((((((((([1] ++ [2]) ++ [3, 4, 5, 6, 7, 8, 9, 10, 11, 12]) ++ [13]) ++ [14, 15, 16, 17, 18, 19, 20, 21, 22, 23]) ++ [159]) ++ [160]) ++ [161]) ++ [143]) ++ [144, 145, 146, 147]) ++ [148]) ++ [149, 150, 151]) ++ [152]) ++ [153, 154]) ++ [155]) ++ []) ++ [156]))
  have r1 : g27 1 = (upd (upd (upd (upd (upd (upd (upd (upd (upd (upd (g 1) 0 (nI (2))) 1 (nI (13))) 2 (nI (159))) 3 (nI (160))) 4 (nI (161))) 5 (nI (143))) 6 (nI (148))) 7 (nI (152))) 8 (nI (155))) 9 (nI (156))) := by rw [eg27, zrM_ne (by decide), r1]
  have r159 : g27 159 = (fun _ => 0) := by rw [eg27, zrM_ne (by decide), r159]
  have r160 : g27 160 = (fun _ => 0) := by rw [eg27, zrM_ne (by decide), r160]
  have r161 : g27 161 = (fun _ => 0) := by rw [eg27, zrM_ne (by decide), r161]
  have F21 := Fq.new (N := (((((((((((((((([1] ++ [2]) ++ [3, 4, 5, 6, 7, 8, 9, 10, 11, 12]) ++ [13]) ++ [14, 15, 16, 17, 18, 19, 20, 21, 22, 23]) ++ [159]) ++ [160]) ++ [161]) ++ [143]) ++ [144, 145, 146, 147]) ++ [148]) ++ [149, 150, 151]) ++ [152]) ++ [153, 154]) ++ [155]) ++ []) ++ [156])) eg27 (by decide +kernel)
  have K7 : g27 157 = (fun _ => 0) := by rw [eg27]; exact zrM_at
  refine J_putFR (t := 157) hS (by rw [hG.2.1]; exact hnm) dX7_init_109 ffX7_67 (Or.inr ⟨_, rfl⟩) ⟨hb, lg_o ob1.2⟩ rfl (by omega) (by omega) (fun g28 eg28 => ?_)
  have hcl := Cl.putR (k := 10) (t := 157) hcl (lg_o ob1.2) rfl m_157 (by omega)
  rw [← eg28] at hcl
  have r1 : g28 1 = (upd (upd (upd (upd (upd (upd (upd (upd (upd (upd (upd (g 1) 0 (nI (2))) 1 (nI (13))) 2 (nI (159))) 3 (nI (160))) 4 (nI (161))) 5 (nI (143))) 6 (nI (148))) 7 (nI (152))) 8 (nI (155))) 9 (nI (156))) 10 (nI (157))) := by rw [eg28, u2_row, r1]
  have r159 : g28 159 = (fun _ => 0) := by rw [eg28, u2_ne _ (by decide), r159]
  have r160 : g28 160 = (fun _ => 0) := by rw [eg28, u2_ne _ (by decide), r160]
  have r161 : g28 161 = (fun _ => 0) := by rw [eg28, u2_ne _ (by decide), r161]
  have F22 := Fq.put (N := ((((((((((((((((([1] ++ [2]) ++ [3, 4, 5, 6, 7, 8, 9, 10, 11, 12]) ++ [13]) ++ [14, 15, 16, 17, 18, 19, 20, 21, 22, 23]) ++ [159]) ++ [160]) ++ [161]) ++ [143]) ++ [144, 145, 146, 147]) ++ [148]) ++ [149, 150, 151]) ++ [152]) ++ [153, 154]) ++ [155]) ++ []) ++ [156]) ++ [157])) eg28 (by decide)
  refine J_aload_n hS dX7_init_112 rfl ?_
  refine J_bipush (v := 24) hS dX7_init_113 (by decide) ?_
  refine J_newA hG hcl (158) (by decide +kernel) (by omega) dX7_init_115 rfl ac_I (lg_r ar158) (Or.inl ⟨rfl, Or.inl rfl⟩) (by decide) (by decide) (by decide) (rl_c (v := .ref (1)) hb (rl_n rl_0)) (rn_c (v := .ref (1)) hb rn_0) (by decide) (by decide) (fun S E hG hcl => ?_)
  have hS := hG.1
  obtain ⟨g29, eg29⟩ : ∃ x : Mm, x = zrM g28 (158) := ⟨_, rfl⟩
  rw [← eg29] at hcl ⊢
  have hb := mi_a (x := 158) hb
  have m_2 := mi_a (x := 158) m_2
  have m_13 := mi_a (x := 158) m_13
  have m_159 := mi_a (x := 158) m_159
  have m_160 := mi_a (x := 158) m_160
  have m_161 := mi_a (x := 158) m_161
  have m_143 := mi_a (x := 158) m_143
  have m_148 := mi_a (x := 158) m_148
  have m_152 := mi_a (x := 158) m_152
  have m_155 := mi_a (x := 158) m_155
  have m_156 := mi_a (x := 158) m_156
  have m_157 := mi_a (x := 158) m_157
  have m_158 := mi_s (x := 158) (N := ((((((((((((((((([1] ++ [2]) ++ [3, 4, 5, 6, 7, 8, 9, 10, 11, 12]) ++ [13]) ++ [14, 15, 16, 17, 18, 19, 20, 21, 22, 23]) ++ [159]) ++ [160]) ++ [161]) ++ [143]) ++ [144, 145, 146, 147]) ++ [148]) ++ [149, 150, 151]) ++ [152]) ++ [153, 154]) ++ [155]) ++ []) ++ [156]) ++ [157]))
  have r1 : g29 1 = (upd (upd (upd (upd (upd (upd (upd (upd (upd (upd (upd (g 1) 0 (nI (2))) 1 (nI (13))) 2 (nI (159))) 3 (nI (160))) 4 (nI (161))) 5 (nI (143))) 6 (nI (148))) 7 (nI (152))) 8 (nI (155))) 9 (nI (156))) 10 (nI (157))) := by rw [eg29, zrM_ne (by decide), r1]
  have r159 : g29 159 = (fun _ => 0) := by rw [eg29, zrM_ne (by decide), r159]
  have r160 : g29 160 = (fun _ => 0) := by rw [eg29, zrM_ne (by decide), r160]
  have r161 : g29 161 = (fun _ => 0) := by rw [eg29, zrM_ne (by decide), r161]
  have F23 := Fq.new (N := ((((((((((((((((([1] ++ [2]) ++ [3, 4, 5, 6, 7, 8, 9, 10, 11, 12]) ++ [13]) ++ [14, 15, 16, 17, 18, 19, 20, 21, 22, 23]) ++ [159]) ++ [160]) ++ [161]) ++ [143]) ++ [144, 145, 146, 147]) ++ [148]) ++ [149, 150, 151]) ++ [152]) ++ [153, 154]) ++ [155]) ++ []) ++ [156]) ++ [157])) eg29 (by decide +kernel)
  have K8 : g29 158 = (fun _ => 0) := by rw [eg29]; exact zrM_at
  refine J_putFR (t := 158) hS (by rw [hG.2.1]; exact hnm) dX7_init_117 ffX7_70 (Or.inr ⟨_, rfl⟩) ⟨hb, lg_o ob1.2⟩ rfl (by omega) (by omega) (fun g30 eg30 => ?_)
  have hcl := Cl.putR (k := 11) (t := 158) hcl (lg_o ob1.2) rfl m_158 (by omega)
  rw [← eg30] at hcl
  have r1 : g30 1 = (upd (upd (upd (upd (upd (upd (upd (upd (upd (upd (upd (upd (g 1) 0 (nI (2))) 1 (nI (13))) 2 (nI (159))) 3 (nI (160))) 4 (nI (161))) 5 (nI (143))) 6 (nI (148))) 7 (nI (152))) 8 (nI (155))) 9 (nI (156))) 10 (nI (157))) 11 (nI (158))) := by rw [eg30, u2_row, r1]
  have r159 : g30 159 = (fun _ => 0) := by rw [eg30, u2_ne _ (by decide), r159]
  have r160 : g30 160 = (fun _ => 0) := by rw [eg30, u2_ne _ (by decide), r160]
  have r161 : g30 161 = (fun _ => 0) := by rw [eg30, u2_ne _ (by decide), r161]
  have F24 := Fq.put (N := (((((((((((((((((([1] ++ [2]) ++ [3, 4, 5, 6, 7, 8, 9, 10, 11, 12]) ++ [13]) ++ [14, 15, 16, 17, 18, 19, 20, 21, 22, 23]) ++ [159]) ++ [160]) ++ [161]) ++ [143]) ++ [144, 145, 146, 147]) ++ [148]) ++ [149, 150, 151]) ++ [152]) ++ [153, 154]) ++ [155]) ++ []) ++ [156]) ++ [157]) ++ [158])) eg30 (by decide)
  refine J_aload_n hS dX7_init_120 rfl ?_
  refine J_iconst (v := 0) hS dX7_init_121 (by decide) ?_
  refine J_putI hS dX7_init_122 fpX7_73 ⟨hb, lg_o ob1.2⟩ rfl (fun g31 eg31 => ?_)
  have hcl := Cl.putI (k := 12) (v := 0) hcl (lg_o ob1.2) rfl
  rw [← eg31] at hcl
  have r1 : g31 1 = (upd (upd (upd (upd (upd (upd (upd (upd (upd (upd (upd (upd (upd (g 1) 0 (nI (2))) 1 (nI (13))) 2 (nI (159))) 3 (nI (160))) 4 (nI (161))) 5 (nI (143))) 6 (nI (148))) 7 (nI (152))) 8 (nI (155))) 9 (nI (156))) 10 (nI (157))) 11 (nI (158))) 12 (0)) := by rw [eg31, u2_row, r1]
  have r159 : g31 159 = (fun _ => 0) := by rw [eg31, u2_ne _ (by decide), r159]
  have r160 : g31 160 = (fun _ => 0) := by rw [eg31, u2_ne _ (by decide), r160]
  have r161 : g31 161 = (fun _ => 0) := by rw [eg31, u2_ne _ (by decide), r161]
  have F25 := Fq.put (N := (((((((((((((((((([1] ++ [2]) ++ [3, 4, 5, 6, 7, 8, 9, 10, 11, 12]) ++ [13]) ++ [14, 15, 16, 17, 18, 19, 20, 21, 22, 23]) ++ [159]) ++ [160]) ++ [161]) ++ [143]) ++ [144, 145, 146, 147]) ++ [148]) ++ [149, 150, 151]) ++ [152]) ++ [153, 154]) ++ [155]) ++ []) ++ [156]) ++ [157]) ++ [158])) eg31 (by decide)
  refine J_aload_n hS dX7_init_125 rfl ?_
  refine J_iconst (v := (-1)) hS dX7_init_126 (by decide) ?_
  refine J_putI hS dX7_init_127 fpX7_77 ⟨hb, lg_o ob1.2⟩ rfl (fun g32 eg32 => ?_)
  have hcl := Cl.putI (k := 13) (v := (-1)) hcl (lg_o ob1.2) rfl
  rw [← eg32] at hcl
  have r1 : g32 1 = (upd (upd (upd (upd (upd (upd (upd (upd (upd (upd (upd (upd (upd (upd (g 1) 0 (nI (2))) 1 (nI (13))) 2 (nI (159))) 3 (nI (160))) 4 (nI (161))) 5 (nI (143))) 6 (nI (148))) 7 (nI (152))) 8 (nI (155))) 9 (nI (156))) 10 (nI (157))) 11 (nI (158))) 12 (0)) 13 ((-1))) := by rw [eg32, u2_row, r1]
  have r159 : g32 159 = (fun _ => 0) := by rw [eg32, u2_ne _ (by decide), r159]
  have r160 : g32 160 = (fun _ => 0) := by rw [eg32, u2_ne _ (by decide), r160]
  have r161 : g32 161 = (fun _ => 0) := by rw [eg32, u2_ne _ (by decide), r161]
  have F26 := Fq.put (N := (((((((((((((((((([1] ++ [2]) ++ [3, 4, 5, 6, 7, 8, 9, 10, 11, 12]) ++ [13]) ++ [14, 15, 16, 17, 18, 19, 20, 21, 22, 23]) ++ [159]) ++ [160]) ++ [161]) ++ [143]) ++ [144, 145, 146, 147]) ++ [148]) ++ [149, 150, 151]) ++ [152]) ++ [153, 154]) ++ [155]) ++ []) ++ [156]) ++ [157]) ++ [158])) eg32 (by decide)
  refine J_aload_n hS dX7_init_130 rfl ?_
  refine J_iconst (v := 0) hS dX7_init_131 (by decide) ?_
  refine J_putI hS dX7_init_132 fpX7_80 ⟨hb, lg_o ob1.2⟩ rfl (fun g33 eg33 => ?_)
  have hcl := Cl.putI (k := 14) (v := 0) hcl (lg_o ob1.2) rfl
  rw [← eg33] at hcl
  have r1 : g33 1 = (upd (upd (upd (upd (upd (upd (upd (upd (upd (upd (upd (upd (upd (upd (upd (g 1) 0 (nI (2))) 1 (nI (13))) 2 (nI (159))) 3 (nI (160))) 4 (nI (161))) 5 (nI (143))) 6 (nI (148))) 7 (nI (152))) 8 (nI (155))) 9 (nI (156))) 10 (nI (157))) 11 (nI (158))) 12 (0)) 13 ((-1))) 14 (0)) := by rw [eg33, u2_row, r1]
  have r159 : g33 159 = (fun _ => 0) := by rw [eg33, u2_ne _ (by decide), r159]
  have r160 : g33 160 = (fun _ => 0) := by rw [eg33, u2_ne _ (by decide), r160]
  have r161 : g33 161 = (fun _ => 0) := by rw [eg33, u2_ne _ (by decide), r161]
  have F27 := Fq.put (N := (((((((((((((((((([1] ++ [2]) ++ [3, 4, 5, 6, 7, 8, 9, 10, 11, 12]) ++ [13]) ++ [14, 15, 16, 17, 18, 19, 20, 21, 22, 23]) ++ [159]) ++ [160]) ++ [161]) ++ [143]) ++ [144, 145, 146, 147]) ++ [148]) ++ [149, 150, 151]) ++ [152]) ++ [153, 154]) ++ [155]) ++ []) ++ [156]) ++ [157]) ++ [158])) eg33 (by decide)
  refine J_aload_n hS dX7_init_135 rfl ?_
  refine J_iconst (v := 0) hS dX7_init_136 (by decide) ?_
  refine J_putI hS dX7_init_137 fpX7_83 ⟨hb, lg_o ob1.2⟩ rfl (fun g34 eg34 => ?_)
  have hcl := Cl.putI (k := 15) (v := 0) hcl (lg_o ob1.2) rfl
  rw [← eg34] at hcl
  have r1 : g34 1 = (upd (upd (upd (upd (upd (upd (upd (upd (upd (upd (upd (upd (upd (upd (upd (upd (g 1) 0 (nI (2))) 1 (nI (13))) 2 (nI (159))) 3 (nI (160))) 4 (nI (161))) 5 (nI (143))) 6 (nI (148))) 7 (nI (152))) 8 (nI (155))) 9 (nI (156))) 10 (nI (157))) 11 (nI (158))) 12 (0)) 13 ((-1))) 14 (0)) 15 (0)) := by rw [eg34, u2_row, r1]
  have r159 : g34 159 = (fun _ => 0) := by rw [eg34, u2_ne _ (by decide), r159]
  have r160 : g34 160 = (fun _ => 0) := by rw [eg34, u2_ne _ (by decide), r160]
  have r161 : g34 161 = (fun _ => 0) := by rw [eg34, u2_ne _ (by decide), r161]
  have F28 := Fq.put (N := (((((((((((((((((([1] ++ [2]) ++ [3, 4, 5, 6, 7, 8, 9, 10, 11, 12]) ++ [13]) ++ [14, 15, 16, 17, 18, 19, 20, 21, 22, 23]) ++ [159]) ++ [160]) ++ [161]) ++ [143]) ++ [144, 145, 146, 147]) ++ [148]) ++ [149, 150, 151]) ++ [152]) ++ [153, 154]) ++ [155]) ++ []) ++ [156]) ++ [157]) ++ [158])) eg34 (by decide)
  refine J_aload_n hS dX7_init_140 rfl ?_
  refine J_iconst (v := (-1)) hS dX7_init_141 (by decide) ?_
  refine J_putI hS dX7_init_142 fpX7_86 ⟨hb, lg_o ob1.2⟩ rfl (fun g35 eg35 => ?_)
  have hcl := Cl.putI (k := 16) (v := (-1)) hcl (lg_o ob1.2) rfl
  rw [← eg35] at hcl
  have r1 : g35 1 = (upd (upd (upd (upd (upd (upd (upd (upd (upd (upd (upd (upd (upd (upd (upd (upd (upd (g 1) 0 (nI (2))) 1 (nI (13))) 2 (nI (159))) 3 (nI (160))) 4 (nI (161))) 5 (nI (143))) 6 (nI (148))) 7 (nI (152))) 8 (nI (155))) 9 (nI (156))) 10 (nI (157))) 11 (nI (158))) 12 (0)) 13 ((-1))) 14 (0)) 15 (0)) 16 ((-1))) := by rw [eg35, u2_row, r1]
  have r159 : g35 159 = (fun _ => 0) := by rw [eg35, u2_ne _ (by decide), r159]
  have r160 : g35 160 = (fun _ => 0) := by rw [eg35, u2_ne _ (by decide), r160]
  have r161 : g35 161 = (fun _ => 0) := by rw [eg35, u2_ne _ (by decide), r161]
  have F29 := Fq.put (N := (((((((((((((((((([1] ++ [2]) ++ [3, 4, 5, 6, 7, 8, 9, 10, 11, 12]) ++ [13]) ++ [14, 15, 16, 17, 18, 19, 20, 21, 22, 23]) ++ [159]) ++ [160]) ++ [161]) ++ [143]) ++ [144, 145, 146, 147]) ++ [148]) ++ [149, 150, 151]) ++ [152]) ++ [153, 154]) ++ [155]) ++ []) ++ [156]) ++ [157]) ++ [158])) eg35 (by decide)
  refine J_aload_n hS dX7_init_145 rfl ?_
  refine J_iconst (v := 0) hS dX7_init_146 (by decide) ?_
  refine J_putI hS dX7_init_147 fpX7_89 ⟨hb, lg_o ob1.2⟩ rfl (fun g36 eg36 => ?_)
  have hcl := Cl.putI (k := 17) (v := 0) hcl (lg_o ob1.2) rfl
  rw [← eg36] at hcl
  have r1 : g36 1 = (upd (upd (upd (upd (upd (upd (upd (upd (upd (upd (upd (upd (upd (upd (upd (upd (upd (upd (g 1) 0 (nI (2))) 1 (nI (13))) 2 (nI (159))) 3 (nI (160))) 4 (nI (161))) 5 (nI (143))) 6 (nI (148))) 7 (nI (152))) 8 (nI (155))) 9 (nI (156))) 10 (nI (157))) 11 (nI (158))) 12 (0)) 13 ((-1))) 14 (0)) 15 (0)) 16 ((-1))) 17 (0)) := by rw [eg36, u2_row, r1]
  have r159 : g36 159 = (fun _ => 0) := by rw [eg36, u2_ne _ (by decide), r159]
  have r160 : g36 160 = (fun _ => 0) := by rw [eg36, u2_ne _ (by decide), r160]
  have r161 : g36 161 = (fun _ => 0) := by rw [eg36, u2_ne _ (by decide), r161]
  have F30 := Fq.put (N := (((((((((((((((((([1] ++ [2]) ++ [3, 4, 5, 6, 7, 8, 9, 10, 11, 12]) ++ [13]) ++ [14, 15, 16, 17, 18, 19, 20, 21, 22, 23]) ++ [159]) ++ [160]) ++ [161]) ++ [143]) ++ [144, 145, 146, 147]) ++ [148]) ++ [149, 150, 151]) ++ [152]) ++ [153, 154]) ++ [155]) ++ []) ++ [156]) ++ [157]) ++ [158])) eg36 (by decide)
  refine J_iconst (v := 0) hS dX7_init_150 (by decide) ?_
  refine J_istore_n (lt := fun x => [some (.ref 1), some (.int x)]) hS dX7_init_151 (Nat.le_of_ble_eq_true rfl) (fun _ => rfl) (fun x ex => ?_)
  subst ex
  refine J_iload_n hS dX7_init_152 rfl ?_
  refine J_iconst (v := 4) hS dX7_init_153 (by decide) ?_
  refine J_icmp_ge (tgt := 176) hS dX7_init_154 (by decide) (fun c => absurd c (by decide)) (fun _ => ?_)
  refine J_aload_n hS dX7_init_157 rfl ?_
  refine J_getD hS dX7_init_158 flX7_19 ⟨hb, lg_o ob1.2⟩ rfl (v := .ref 159) (by rw [show g36 1 2 = nI 159 by rw [r1]; rfl]; exact ab2 (by decide) (by decide)) ?_
  refine J_iload_n hS dX7_init_161 rfl ?_
  refine J_newO hG hcl (24) (by decide +kernel) (by omega) dX7_init_162 noX7_7 (lgW (b := 24) ⟨2, by decide, by decide⟩) (rl_c (v := .ref (1)) hb (rl_c (v := .int 0) trivial rl_0)) (rn_c (v := .int 0) trivial (rn_c (v := .ref (159)) m_159 rn_0)) (by decide) (by decide) (fun S E hG hcl => ?_)
  have hS := hG.1
  obtain ⟨g37, eg37⟩ : ∃ x : Mm, x = zrM g36 (24) := ⟨_, rfl⟩
  rw [← eg37] at hcl ⊢
  have hb := mi_a (x := 24) hb
  have m_2 := mi_a (x := 24) m_2
  have m_13 := mi_a (x := 24) m_13
  have m_159 := mi_a (x := 24) m_159
  have m_160 := mi_a (x := 24) m_160
  have m_161 := mi_a (x := 24) m_161
  have m_143 := mi_a (x := 24) m_143
  have m_148 := mi_a (x := 24) m_148
  have m_152 := mi_a (x := 24) m_152
  have m_155 := mi_a (x := 24) m_155
  have m_156 := mi_a (x := 24) m_156
  have m_157 := mi_a (x := 24) m_157
  have m_158 := mi_a (x := 24) m_158
  have m_24 := mi_s (x := 24) (N := (((((((((((((((((([1] ++ [2]) ++ [3, 4, 5, 6, 7, 8, 9, 10, 11, 12]) ++ [13]) ++ [14, 15, 16, 17, 18, 19, 20, 21, 22, 23]) ++ [159]) ++ [160]) ++ [161]) ++ [143]) ++ [144, 145, 146, 147]) ++ [148]) ++ [149, 150, 151]) ++ [152]) ++ [153, 154]) ++ [155]) ++ []) ++ [156]) ++ [157]) ++ [158]))
  have r1 : g37 1 = (upd (upd (upd (upd (upd (upd (upd (upd (upd (upd (upd (upd (upd (upd (upd (upd (upd (upd (g 1) 0 (nI (2))) 1 (nI (13))) 2 (nI (159))) 3 (nI (160))) 4 (nI (161))) 5 (nI (143))) 6 (nI (148))) 7 (nI (152))) 8 (nI (155))) 9 (nI (156))) 10 (nI (157))) 11 (nI (158))) 12 (0)) 13 ((-1))) 14 (0)) 15 (0)) 16 ((-1))) 17 (0)) := by rw [eg37, zrM_ne (by decide), r1]
  have r159 : g37 159 = (fun _ => 0) := by rw [eg37, zrM_ne (by decide), r159]
  have r160 : g37 160 = (fun _ => 0) := by rw [eg37, zrM_ne (by decide), r160]
  have r161 : g37 161 = (fun _ => 0) := by rw [eg37, zrM_ne (by decide), r161]
  refine J_dup hS dX7_init_165 rfl ?_
  refine J_callI (Px := fun _ => True) hG hcl dX7_init_166 miX7_9 m_24 rfl (by decide) (by decide) (Nat.le_of_ble_eq_true rfl) (by decide) (by decide) (rl_c (v := .ref (1)) hb (rl_c (v := .int 0) trivial rl_0)) (rn_c (v := .ref (24)) m_24 (rn_c (v := .int 0) trivial (rn_c (v := .ref (159)) m_159 rn_0))) trivial (fun _ _ _ h => h) (i_X6 (Px := fun _ => True) (b := 24) ⟨2, by decide, by decide⟩ (nin10 (by decide +kernel))) (fun S E N1 gq hG hU hcl hq => ?_)
  obtain ⟨hN1, frg38, wf⟩ := hq
  subst hN1
  have hS := hG.1
  have hb := hU _ hb
  have m_2 := hU _ m_2
  have m_13 := hU _ m_13
  have m_159 := hU _ m_159
  have m_160 := hU _ m_160
  have m_161 := hU _ m_161
  have m_143 := hU _ m_143
  have m_148 := hU _ m_148
  have m_152 := hU _ m_152
  have m_155 := hU _ m_155
  have m_156 := hU _ m_156
  have m_157 := hU _ m_157
  have m_158 := hU _ m_158
  have m_24 := hU _ m_24
  obtain ⟨g38, eg38⟩ : ∃ x : Mm, x = gq := ⟨_, rfl⟩
  subst eg38
  have r1 : g38 1 = (upd (upd (upd (upd (upd (upd (upd (upd (upd (upd (upd (upd (upd (upd (upd (upd (upd (upd (g 1) 0 (nI (2))) 1 (nI (13))) 2 (nI (159))) 3 (nI (160))) 4 (nI (161))) 5 (nI (143))) 6 (nI (148))) 7 (nI (152))) 8 (nI (155))) 9 (nI (156))) 10 (nI (157))) 11 (nI (158))) 12 (0)) 13 ((-1))) 14 (0)) 15 (0)) 16 ((-1))) 17 (0)) := (frg38 1 (by decide +kernel) (by decide)).trans r1
  have r159 : g38 159 = (fun _ => 0) := (frg38 159 (by decide +kernel) (by decide)).trans r159
  have r160 : g38 160 = (fun _ => 0) := (frg38 160 (by decide +kernel) (by decide)).trans r160
  have r161 : g38 161 = (fun _ => 0) := (frg38 161 (by decide +kernel) (by decide)).trans r161
  have F31 := Fq.call (N := (((((((((((((((((([1] ++ [2]) ++ [3, 4, 5, 6, 7, 8, 9, 10, 11, 12]) ++ [13]) ++ [14, 15, 16, 17, 18, 19, 20, 21, 22, 23]) ++ [159]) ++ [160]) ++ [161]) ++ [143]) ++ [144, 145, 146, 147]) ++ [148]) ++ [149, 150, 151]) ++ [152]) ++ [153, 154]) ++ [155]) ++ []) ++ [156]) ++ [157]) ++ [158])) eg37 (by decide +kernel) frg38
  have K9 := wf
  refine J_astQ (t0 := 3) (ci := 6) (T := TX6) hS dX7_init_169 m_159 (lg_a aq159.2.1) rfl (fun _ => rfl) rfl ⟨m_24, lgW (b := 24) ⟨2, by decide, by decide⟩⟩ (by decide) (by decide) (by unfold vp_in; decide) (fun g39 eg39 => ?_)
  have eg39 : g39 = u2 g38 159 0 (nI 24) := eg39
  have hcl := Cl.putQ (k := 0) (t := 24) hcl (lg_a aq159.2.1) rfl m_24 (by decide)
  rw [← eg39] at hcl
  have r1 : g39 1 = (upd (upd (upd (upd (upd (upd (upd (upd (upd (upd (upd (upd (upd (upd (upd (upd (upd (upd (g 1) 0 (nI (2))) 1 (nI (13))) 2 (nI (159))) 3 (nI (160))) 4 (nI (161))) 5 (nI (143))) 6 (nI (148))) 7 (nI (152))) 8 (nI (155))) 9 (nI (156))) 10 (nI (157))) 11 (nI (158))) 12 (0)) 13 ((-1))) 14 (0)) 15 (0)) 16 ((-1))) 17 (0)) := by rw [eg39, u2_ne _ (by decide), r1]
  have r159 : g39 159 = (upd (fun _ => 0) 0 (nI 24)) := by rw [eg39, u2_row, r159]
  have r160 : g39 160 = (fun _ => 0) := by rw [eg39, u2_ne _ (by decide), r160]
  have r161 : g39 161 = (fun _ => 0) := by rw [eg39, u2_ne _ (by decide), r161]
  have F32 := Fq.put (N := (((((((((((((((((((([1] ++ [2]) ++ [3, 4, 5, 6, 7, 8, 9, 10, 11, 12]) ++ [13]) ++ [14, 15, 16, 17, 18, 19, 20, 21, 22, 23]) ++ [159]) ++ [160]) ++ [161]) ++ [143]) ++ [144, 145, 146, 147]) ++ [148]) ++ [149, 150, 151]) ++ [152]) ++ [153, 154]) ++ [155]) ++ []) ++ [156]) ++ [157]) ++ [158]) ++ [24]) ++ [25, 26, 27, 28, 29, 30, 31, 32, 33, 34])) eg39 (by decide)
  refine J_iinc (lt := fun z => [some (.ref 1), some (.int z)]) (v := 1) hS dX7_init_170 rfl (by decide) (fun _ => rfl) (fun z ez => ?_)
  have ez : z = 1 := ez.trans (by decide)
  subst ez
  refine J_goto (tgt := 152) hS dX7_init_173 (by decide) ?_
  refine J_iload_n hS dX7_init_152 rfl ?_
  refine J_iconst (v := 4) hS dX7_init_153 (by decide) ?_
  refine J_icmp_ge (tgt := 176) hS dX7_init_154 (by decide) (fun c => absurd c (by decide)) (fun _ => ?_)
  refine J_aload_n hS dX7_init_157 rfl ?_
  refine J_getD hS dX7_init_158 flX7_19 ⟨hb, lg_o ob1.2⟩ rfl (v := .ref 159) (by rw [show g39 1 2 = nI 159 by rw [r1]; rfl]; exact ab2 (by decide) (by decide)) ?_
  refine J_iload_n hS dX7_init_161 rfl ?_
  refine J_newO hG hcl (35) (by decide +kernel) (by omega) dX7_init_162 noX7_7 (lgW (b := 35) ⟨3, by decide, by decide⟩) (rl_c (v := .ref (1)) hb (rl_c (v := .int 1) trivial rl_0)) (rn_c (v := .int 1) trivial (rn_c (v := .ref (159)) m_159 rn_0)) (by decide) (by decide) (fun S E hG hcl => ?_)
  have hS := hG.1
  obtain ⟨g40, eg40⟩ : ∃ x : Mm, x = zrM g39 (35) := ⟨_, rfl⟩
  rw [← eg40] at hcl ⊢
  have hb := mi_a (x := 35) hb
  have m_2 := mi_a (x := 35) m_2
  have m_13 := mi_a (x := 35) m_13
  have m_159 := mi_a (x := 35) m_159
  have m_160 := mi_a (x := 35) m_160
  have m_161 := mi_a (x := 35) m_161
  have m_143 := mi_a (x := 35) m_143
  have m_148 := mi_a (x := 35) m_148
  have m_152 := mi_a (x := 35) m_152
  have m_155 := mi_a (x := 35) m_155
  have m_156 := mi_a (x := 35) m_156
  have m_157 := mi_a (x := 35) m_157
  have m_158 := mi_a (x := 35) m_158
  have m_24 := mi_a (x := 35) m_24
  have m_35 := mi_s (x := 35) (N := (((((((((((((((((((([1] ++ [2]) ++ [3, 4, 5, 6, 7, 8, 9, 10, 11, 12]) ++ [13]) ++ [14, 15, 16, 17, 18, 19, 20, 21, 22, 23]) ++ [159]) ++ [160]) ++ [161]) ++ [143]) ++ [144, 145, 146, 147]) ++ [148]) ++ [149, 150, 151]) ++ [152]) ++ [153, 154]) ++ [155]) ++ []) ++ [156]) ++ [157]) ++ [158]) ++ [24]) ++ [25, 26, 27, 28, 29, 30, 31, 32, 33, 34]))
  have r1 : g40 1 = (upd (upd (upd (upd (upd (upd (upd (upd (upd (upd (upd (upd (upd (upd (upd (upd (upd (upd (g 1) 0 (nI (2))) 1 (nI (13))) 2 (nI (159))) 3 (nI (160))) 4 (nI (161))) 5 (nI (143))) 6 (nI (148))) 7 (nI (152))) 8 (nI (155))) 9 (nI (156))) 10 (nI (157))) 11 (nI (158))) 12 (0)) 13 ((-1))) 14 (0)) 15 (0)) 16 ((-1))) 17 (0)) := by rw [eg40, zrM_ne (by decide), r1]
  have r159 : g40 159 = (upd (fun _ => 0) 0 (nI 24)) := by rw [eg40, zrM_ne (by decide), r159]
  have r160 : g40 160 = (fun _ => 0) := by rw [eg40, zrM_ne (by decide), r160]
  have r161 : g40 161 = (fun _ => 0) := by rw [eg40, zrM_ne (by decide), r161]
  refine J_dup hS dX7_init_165 rfl ?_
  refine J_callI (Px := fun _ => True) hG hcl dX7_init_166 miX7_9 m_35 rfl (by decide) (by decide) (Nat.le_of_ble_eq_true rfl) (by decide) (by decide) (rl_c (v := .ref (1)) hb (rl_c (v := .int 1) trivial rl_0)) (rn_c (v := .ref (35)) m_35 (rn_c (v := .int 1) trivial (rn_c (v := .ref (159)) m_159 rn_0))) trivial (fun _ _ _ h => h) (i_X6 (Px := fun _ => True) (b := 35) ⟨3, by decide, by decide⟩ (nin10 (by decide +kernel))) (fun S E N1 gq hG hU hcl hq => ?_)
  obtain ⟨hN1, frg41, wf⟩ := hq
  subst hN1
  have hS := hG.1
  have hb := hU _ hb
  have m_2 := hU _ m_2
  have m_13 := hU _ m_13
  have m_159 := hU _ m_159
  have m_160 := hU _ m_160
  have m_161 := hU _ m_161
  have m_143 := hU _ m_143
  have m_148 := hU _ m_148
  have m_152 := hU _ m_152
  have m_155 := hU _ m_155
  have m_156 := hU _ m_156
  have m_157 := hU _ m_157
  have m_158 := hU _ m_158
  have m_24 := hU _ m_24
  have m_35 := hU _ m_35
  obtain ⟨g41, eg41⟩ : ∃ x : Mm, x = gq := ⟨_, rfl⟩
  subst eg41
  have r1 : g41 1 = (upd (upd (upd (upd (upd (upd (upd (upd (upd (upd (upd (upd (upd (upd (upd (upd (upd (upd (g 1) 0 (nI (2))) 1 (nI (13))) 2 (nI (159))) 3 (nI (160))) 4 (nI (161))) 5 (nI (143))) 6 (nI (148))) 7 (nI (152))) 8 (nI (155))) 9 (nI (156))) 10 (nI (157))) 11 (nI (158))) 12 (0)) 13 ((-1))) 14 (0)) 15 (0)) 16 ((-1))) 17 (0)) := (frg41 1 (by decide +kernel) (by decide)).trans r1
  have r159 : g41 159 = (upd (fun _ => 0) 0 (nI 24)) := (frg41 159 (by decide +kernel) (by decide)).trans r159
  have r160 : g41 160 = (fun _ => 0) := (frg41 160 (by decide +kernel) (by decide)).trans r160
  have r161 : g41 161 = (fun _ => 0) := (frg41 161 (by decide +kernel) (by decide)).trans r161
  have F33 := Fq.call (N := (((((((((((((((((((([1] ++ [2]) ++ [3, 4, 5, 6, 7, 8, 9, 10, 11, 12]) ++ [13]) ++ [14, 15, 16, 17, 18, 19, 20, 21, 22, 23]) ++ [159]) ++ [160]) ++ [161]) ++ [143]) ++ [144, 145, 146, 147]) ++ [148]) ++ [149, 150, 151]) ++ [152]) ++ [153, 154]) ++ [155]) ++ []) ++ [156]) ++ [157]) ++ [158]) ++ [24]) ++ [25, 26, 27, 28, 29, 30, 31, 32, 33, 34])) eg40 (by decide +kernel) frg41
  have K10 := wf
  refine J_astQ (t0 := 3) (ci := 6) (T := TX6) hS dX7_init_169 m_159 (lg_a aq159.2.1) rfl (fun _ => rfl) rfl ⟨m_35, lgW (b := 35) ⟨3, by decide, by decide⟩⟩ (by decide) (by decide) (by unfold vp_in; decide) (fun g42 eg42 => ?_)
  have eg42 : g42 = u2 g41 159 1 (nI 35) := eg42
  have hcl := Cl.putQ (k := 1) (t := 35) hcl (lg_a aq159.2.1) rfl m_35 (by decide)
  rw [← eg42] at hcl
  have r1 : g42 1 = (upd (upd (upd (upd (upd (upd (upd (upd (upd (upd (upd (upd (upd (upd (upd (upd (upd (upd (g 1) 0 (nI (2))) 1 (nI (13))) 2 (nI (159))) 3 (nI (160))) 4 (nI (161))) 5 (nI (143))) 6 (nI (148))) 7 (nI (152))) 8 (nI (155))) 9 (nI (156))) 10 (nI (157))) 11 (nI (158))) 12 (0)) 13 ((-1))) 14 (0)) 15 (0)) 16 ((-1))) 17 (0)) := by rw [eg42, u2_ne _ (by decide), r1]
  have r159 : g42 159 = (upd (upd (fun _ => 0) 0 (nI 24)) 1 (nI 35)) := by rw [eg42, u2_row, r159]
  have r160 : g42 160 = (fun _ => 0) := by rw [eg42, u2_ne _ (by decide), r160]
  have r161 : g42 161 = (fun _ => 0) := by rw [eg42, u2_ne _ (by decide), r161]
  have F34 := Fq.put (N := (((((((((((((((((((((([1] ++ [2]) ++ [3, 4, 5, 6, 7, 8, 9, 10, 11, 12]) ++ [13]) ++ [14, 15, 16, 17, 18, 19, 20, 21, 22, 23]) ++ [159]) ++ [160]) ++ [161]) ++ [143]) ++ [144, 145, 146, 147]) ++ [148]) ++ [149, 150, 151]) ++ [152]) ++ [153, 154]) ++ [155]) ++ []) ++ [156]) ++ [157]) ++ [158]) ++ [24]) ++ [25, 26, 27, 28, 29, 30, 31, 32, 33, 34]) ++ [35]) ++ [36, 37, 38, 39, 40, 41, 42, 43, 44, 45])) eg42 (by decide)
  refine J_iinc (lt := fun z => [some (.ref 1), some (.int z)]) (v := 1) hS dX7_init_170 rfl (by decide) (fun _ => rfl) (fun z ez => ?_)
  have ez : z = 2 := ez.trans (by decide)
  subst ez
  refine J_goto (tgt := 152) hS dX7_init_173 (by decide) ?_
  refine J_iload_n hS dX7_init_152 rfl ?_
  refine J_iconst (v := 4) hS dX7_init_153 (by decide) ?_
  refine J_icmp_ge (tgt := 176) hS dX7_init_154 (by decide) (fun c => absurd c (by decide)) (fun _ => ?_)
  refine J_aload_n hS dX7_init_157 rfl ?_
  refine J_getD hS dX7_init_158 flX7_19 ⟨hb, lg_o ob1.2⟩ rfl (v := .ref 159) (by rw [show g42 1 2 = nI 159 by rw [r1]; rfl]; exact ab2 (by decide) (by decide)) ?_
  refine J_iload_n hS dX7_init_161 rfl ?_
  refine J_newO hG hcl (46) (by decide +kernel) (by omega) dX7_init_162 noX7_7 (lgW (b := 46) ⟨4, by decide, by decide⟩) (rl_c (v := .ref (1)) hb (rl_c (v := .int 2) trivial rl_0)) (rn_c (v := .int 2) trivial (rn_c (v := .ref (159)) m_159 rn_0)) (by decide) (by decide) (fun S E hG hcl => ?_)
  have hS := hG.1
  obtain ⟨g43, eg43⟩ : ∃ x : Mm, x = zrM g42 (46) := ⟨_, rfl⟩
  rw [← eg43] at hcl ⊢
  have hb := mi_a (x := 46) hb
  have m_2 := mi_a (x := 46) m_2
  have m_13 := mi_a (x := 46) m_13
  have m_159 := mi_a (x := 46) m_159
  have m_160 := mi_a (x := 46) m_160
  have m_161 := mi_a (x := 46) m_161
  have m_143 := mi_a (x := 46) m_143
  have m_148 := mi_a (x := 46) m_148
  have m_152 := mi_a (x := 46) m_152
  have m_155 := mi_a (x := 46) m_155
  have m_156 := mi_a (x := 46) m_156
  have m_157 := mi_a (x := 46) m_157
  have m_158 := mi_a (x := 46) m_158
  have m_24 := mi_a (x := 46) m_24
  have m_35 := mi_a (x := 46) m_35
  have m_46 := mi_s (x := 46) (N := (((((((((((((((((((((([1] ++ [2]) ++ [3, 4, 5, 6, 7, 8, 9, 10, 11, 12]) ++ [13]) ++ [14, 15, 16, 17, 18, 19, 20, 21, 22, 23]) ++ [159]) ++ [160]) ++ [161]) ++ [143]) ++ [144, 145, 146, 147]) ++ [148]) ++ [149, 150, 151]) ++ [152]) ++ [153, 154]) ++ [155]) ++ []) ++ [156]) ++ [157]) ++ [158]) ++ [24]) ++ [25, 26, 27, 28, 29, 30, 31, 32, 33, 34]) ++ [35]) ++ [36, 37, 38, 39, 40, 41, 42, 43, 44, 45]))
  have r1 : g43 1 = (upd (upd (upd (upd (upd (upd (upd (upd (upd (upd (upd (upd (upd (upd (upd (upd (upd (upd (g 1) 0 (nI (2))) 1 (nI (13))) 2 (nI (159))) 3 (nI (160))) 4 (nI (161))) 5 (nI (143))) 6 (nI (148))) 7 (nI (152))) 8 (nI (155))) 9 (nI (156))) 10 (nI (157))) 11 (nI (158))) 12 (0)) 13 ((-1))) 14 (0)) 15 (0)) 16 ((-1))) 17 (0)) := by rw [eg43, zrM_ne (by decide), r1]
  have r159 : g43 159 = (upd (upd (fun _ => 0) 0 (nI 24)) 1 (nI 35)) := by rw [eg43, zrM_ne (by decide), r159]
  have r160 : g43 160 = (fun _ => 0) := by rw [eg43, zrM_ne (by decide), r160]
  have r161 : g43 161 = (fun _ => 0) := by rw [eg43, zrM_ne (by decide), r161]
  refine J_dup hS dX7_init_165 rfl ?_
  refine J_callI (Px := fun _ => True) hG hcl dX7_init_166 miX7_9 m_46 rfl (by decide) (by decide) (Nat.le_of_ble_eq_true rfl) (by decide) (by decide) (rl_c (v := .ref (1)) hb (rl_c (v := .int 2) trivial rl_0)) (rn_c (v := .ref (46)) m_46 (rn_c (v := .int 2) trivial (rn_c (v := .ref (159)) m_159 rn_0))) trivial (fun _ _ _ h => h) (i_X6 (Px := fun _ => True) (b := 46) ⟨4, by decide, by decide⟩ (nin10 (by decide +kernel))) (fun S E N1 gq hG hU hcl hq => ?_)
  obtain ⟨hN1, frg44, wf⟩ := hq
  subst hN1
  have hS := hG.1
  have hb := hU _ hb
  have m_2 := hU _ m_2
  have m_13 := hU _ m_13
  have m_159 := hU _ m_159
  have m_160 := hU _ m_160
  have m_161 := hU _ m_161
  have m_143 := hU _ m_143
  have m_148 := hU _ m_148
  have m_152 := hU _ m_152
  have m_155 := hU _ m_155
  have m_156 := hU _ m_156
  have m_157 := hU _ m_157
  have m_158 := hU _ m_158
  have m_24 := hU _ m_24
  have m_35 := hU _ m_35
  have m_46 := hU _ m_46
  obtain ⟨g44, eg44⟩ : ∃ x : Mm, x = gq := ⟨_, rfl⟩
  subst eg44
  have r1 : g44 1 = (upd (upd (upd (upd (upd (upd (upd (upd (upd (upd (upd (upd (upd (upd (upd (upd (upd (upd (g 1) 0 (nI (2))) 1 (nI (13))) 2 (nI (159))) 3 (nI (160))) 4 (nI (161))) 5 (nI (143))) 6 (nI (148))) 7 (nI (152))) 8 (nI (155))) 9 (nI (156))) 10 (nI (157))) 11 (nI (158))) 12 (0)) 13 ((-1))) 14 (0)) 15 (0)) 16 ((-1))) 17 (0)) := (frg44 1 (by decide +kernel) (by decide)).trans r1
  have r159 : g44 159 = (upd (upd (fun _ => 0) 0 (nI 24)) 1 (nI 35)) := (frg44 159 (by decide +kernel) (by decide)).trans r159
  have r160 : g44 160 = (fun _ => 0) := (frg44 160 (by decide +kernel) (by decide)).trans r160
  have r161 : g44 161 = (fun _ => 0) := (frg44 161 (by decide +kernel) (by decide)).trans r161
  have F35 := Fq.call (N := (((((((((((((((((((((([1] ++ [2]) ++ [3, 4, 5, 6, 7, 8, 9, 10, 11, 12]) ++ [13]) ++ [14, 15, 16, 17, 18, 19, 20, 21, 22, 23]) ++ [159]) ++ [160]) ++ [161]) ++ [143]) ++ [144, 145, 146, 147]) ++ [148]) ++ [149, 150, 151]) ++ [152]) ++ [153, 154]) ++ [155]) ++ []) ++ [156]) ++ [157]) ++ [158]) ++ [24]) ++ [25, 26, 27, 28, 29, 30, 31, 32, 33, 34]) ++ [35]) ++ [36, 37, 38, 39, 40, 41, 42, 43, 44, 45])) eg43 (by decide +kernel) frg44
  have K11 := wf
  refine J_astQ (t0 := 3) (ci := 6) (T := TX6) hS dX7_init_169 m_159 (lg_a aq159.2.1) rfl (fun _ => rfl) rfl ⟨m_46, lgW (b := 46) ⟨4, by decide, by decide⟩⟩ (by decide) (by decide) (by unfold vp_in; decide) (fun g45 eg45 => ?_)
  have eg45 : g45 = u2 g44 159 2 (nI 46) := eg45
  have hcl := Cl.putQ (k := 2) (t := 46) hcl (lg_a aq159.2.1) rfl m_46 (by decide)
  rw [← eg45] at hcl
  have r1 : g45 1 = (upd (upd (upd (upd (upd (upd (upd (upd (upd (upd (upd (upd (upd (upd (upd (upd (upd (upd (g 1) 0 (nI (2))) 1 (nI (13))) 2 (nI (159))) 3 (nI (160))) 4 (nI (161))) 5 (nI (143))) 6 (nI (148))) 7 (nI (152))) 8 (nI (155))) 9 (nI (156))) 10 (nI (157))) 11 (nI (158))) 12 (0)) 13 ((-1))) 14 (0)) 15 (0)) 16 ((-1))) 17 (0)) := by rw [eg45, u2_ne _ (by decide), r1]
  have r159 : g45 159 = (upd (upd (upd (fun _ => 0) 0 (nI 24)) 1 (nI 35)) 2 (nI 46)) := by rw [eg45, u2_row, r159]
  have r160 : g45 160 = (fun _ => 0) := by rw [eg45, u2_ne _ (by decide), r160]
  have r161 : g45 161 = (fun _ => 0) := by rw [eg45, u2_ne _ (by decide), r161]
  have F36 := Fq.put (N := (((((((((((((((((((((((([1] ++ [2]) ++ [3, 4, 5, 6, 7, 8, 9, 10, 11, 12]) ++ [13]) ++ [14, 15, 16, 17, 18, 19, 20, 21, 22, 23]) ++ [159]) ++ [160]) ++ [161]) ++ [143]) ++ [144, 145, 146, 147]) ++ [148]) ++ [149, 150, 151]) ++ [152]) ++ [153, 154]) ++ [155]) ++ []) ++ [156]) ++ [157]) ++ [158]) ++ [24]) ++ [25, 26, 27, 28, 29, 30, 31, 32, 33, 34]) ++ [35]) ++ [36, 37, 38, 39, 40, 41, 42, 43, 44, 45]) ++ [46]) ++ [47, 48, 49, 50, 51, 52, 53, 54, 55, 56])) eg45 (by decide)
  refine J_iinc (lt := fun z => [some (.ref 1), some (.int z)]) (v := 1) hS dX7_init_170 rfl (by decide) (fun _ => rfl) (fun z ez => ?_)
  have ez : z = 3 := ez.trans (by decide)
  subst ez
  refine J_goto (tgt := 152) hS dX7_init_173 (by decide) ?_
  refine J_iload_n hS dX7_init_152 rfl ?_
  refine J_iconst (v := 4) hS dX7_init_153 (by decide) ?_
  refine J_icmp_ge (tgt := 176) hS dX7_init_154 (by decide) (fun c => absurd c (by decide)) (fun _ => ?_)
  refine J_aload_n hS dX7_init_157 rfl ?_
  refine J_getD hS dX7_init_158 flX7_19 ⟨hb, lg_o ob1.2⟩ rfl (v := .ref 159) (by rw [show g45 1 2 = nI 159 by rw [r1]; rfl]; exact ab2 (by decide) (by decide)) ?_
  refine J_iload_n hS dX7_init_161 rfl ?_
  refine J_newO hG hcl (57) (by decide +kernel) (by omega) dX7_init_162 noX7_7 (lgW (b := 57) ⟨5, by decide, by decide⟩) (rl_c (v := .ref (1)) hb (rl_c (v := .int 3) trivial rl_0)) (rn_c (v := .int 3) trivial (rn_c (v := .ref (159)) m_159 rn_0)) (by decide) (by decide) (fun S E hG hcl => ?_)
  have hS := hG.1
  obtain ⟨g46, eg46⟩ : ∃ x : Mm, x = zrM g45 (57) := ⟨_, rfl⟩
  rw [← eg46] at hcl ⊢
  have hb := mi_a (x := 57) hb
  have m_2 := mi_a (x := 57) m_2
  have m_13 := mi_a (x := 57) m_13
  have m_159 := mi_a (x := 57) m_159
  have m_160 := mi_a (x := 57) m_160
  have m_161 := mi_a (x := 57) m_161
  have m_143 := mi_a (x := 57) m_143
  have m_148 := mi_a (x := 57) m_148
  have m_152 := mi_a (x := 57) m_152
  have m_155 := mi_a (x := 57) m_155
  have m_156 := mi_a (x := 57) m_156
  have m_157 := mi_a (x := 57) m_157
  have m_158 := mi_a (x := 57) m_158
  have m_24 := mi_a (x := 57) m_24
  have m_35 := mi_a (x := 57) m_35
  have m_46 := mi_a (x := 57) m_46
  have m_57 := mi_s (x := 57) (N := (((((((((((((((((((((((([1] ++ [2]) ++ [3, 4, 5, 6, 7, 8, 9, 10, 11, 12]) ++ [13]) ++ [14, 15, 16, 17, 18, 19, 20, 21, 22, 23]) ++ [159]) ++ [160]) ++ [161]) ++ [143]) ++ [144, 145, 146, 147]) ++ [148]) ++ [149, 150, 151]) ++ [152]) ++ [153, 154]) ++ [155]) ++ []) ++ [156]) ++ [157]) ++ [158]) ++ [24]) ++ [25, 26, 27, 28, 29, 30, 31, 32, 33, 34]) ++ [35]) ++ [36, 37, 38, 39, 40, 41, 42, 43, 44, 45]) ++ [46]) ++ [47, 48, 49, 50, 51, 52, 53, 54, 55, 56]))
  have r1 : g46 1 = (upd (upd (upd (upd (upd (upd (upd (upd (upd (upd (upd (upd (upd (upd (upd (upd (upd (upd (g 1) 0 (nI (2))) 1 (nI (13))) 2 (nI (159))) 3 (nI (160))) 4 (nI (161))) 5 (nI (143))) 6 (nI (148))) 7 (nI (152))) 8 (nI (155))) 9 (nI (156))) 10 (nI (157))) 11 (nI (158))) 12 (0)) 13 ((-1))) 14 (0)) 15 (0)) 16 ((-1))) 17 (0)) := by rw [eg46, zrM_ne (by decide), r1]
  have r159 : g46 159 = (upd (upd (upd (fun _ => 0) 0 (nI 24)) 1 (nI 35)) 2 (nI 46)) := by rw [eg46, zrM_ne (by decide), r159]
  have r160 : g46 160 = (fun _ => 0) := by rw [eg46, zrM_ne (by decide), r160]
  have r161 : g46 161 = (fun _ => 0) := by rw [eg46, zrM_ne (by decide), r161]
  refine J_dup hS dX7_init_165 rfl ?_
  refine J_callI (Px := fun _ => True) hG hcl dX7_init_166 miX7_9 m_57 rfl (by decide) (by decide) (Nat.le_of_ble_eq_true rfl) (by decide) (by decide) (rl_c (v := .ref (1)) hb (rl_c (v := .int 3) trivial rl_0)) (rn_c (v := .ref (57)) m_57 (rn_c (v := .int 3) trivial (rn_c (v := .ref (159)) m_159 rn_0))) trivial (fun _ _ _ h => h) (i_X6 (Px := fun _ => True) (b := 57) ⟨5, by decide, by decide⟩ (nin10 (by decide +kernel))) (fun S E N1 gq hG hU hcl hq => ?_)
  obtain ⟨hN1, frg47, wf⟩ := hq
  subst hN1
  have hS := hG.1
  have hb := hU _ hb
  have m_2 := hU _ m_2
  have m_13 := hU _ m_13
  have m_159 := hU _ m_159
  have m_160 := hU _ m_160
  have m_161 := hU _ m_161
  have m_143 := hU _ m_143
  have m_148 := hU _ m_148
  have m_152 := hU _ m_152
  have m_155 := hU _ m_155
  have m_156 := hU _ m_156
  have m_157 := hU _ m_157
  have m_158 := hU _ m_158
  have m_24 := hU _ m_24
  have m_35 := hU _ m_35
  have m_46 := hU _ m_46
  have m_57 := hU _ m_57
  obtain ⟨g47, eg47⟩ : ∃ x : Mm, x = gq := ⟨_, rfl⟩
  subst eg47
  have r1 : g47 1 = (upd (upd (upd (upd (upd (upd (upd (upd (upd (upd (upd (upd (upd (upd (upd (upd (upd (upd (g 1) 0 (nI (2))) 1 (nI (13))) 2 (nI (159))) 3 (nI (160))) 4 (nI (161))) 5 (nI (143))) 6 (nI (148))) 7 (nI (152))) 8 (nI (155))) 9 (nI (156))) 10 (nI (157))) 11 (nI (158))) 12 (0)) 13 ((-1))) 14 (0)) 15 (0)) 16 ((-1))) 17 (0)) := (frg47 1 (by decide +kernel) (by decide)).trans r1
  have r159 : g47 159 = (upd (upd (upd (fun _ => 0) 0 (nI 24)) 1 (nI 35)) 2 (nI 46)) := (frg47 159 (by decide +kernel) (by decide)).trans r159
  have r160 : g47 160 = (fun _ => 0) := (frg47 160 (by decide +kernel) (by decide)).trans r160
  have r161 : g47 161 = (fun _ => 0) := (frg47 161 (by decide +kernel) (by decide)).trans r161
  have F37 := Fq.call (N := (((((((((((((((((((((((([1] ++ [2]) ++ [3, 4, 5, 6, 7, 8, 9, 10, 11, 12]) ++ [13]) ++ [14, 15, 16, 17, 18, 19, 20, 21, 22, 23]) ++ [159]) ++ [160]) ++ [161]) ++ [143]) ++ [144, 145, 146, 147]) ++ [148]) ++ [149, 150, 151]) ++ [152]) ++ [153, 154]) ++ [155]) ++ []) ++ [156]) ++ [157]) ++ [158]) ++ [24]) ++ [25, 26, 27, 28, 29, 30, 31, 32, 33, 34]) ++ [35]) ++ [36, 37, 38, 39, 40, 41, 42, 43, 44, 45]) ++ [46]) ++ [47, 48, 49, 50, 51, 52, 53, 54, 55, 56])) eg46 (by decide +kernel) frg47
  have K12 := wf
  refine J_astQ (t0 := 3) (ci := 6) (T := TX6) hS dX7_init_169 m_159 (lg_a aq159.2.1) rfl (fun _ => rfl) rfl ⟨m_57, lgW (b := 57) ⟨5, by decide, by decide⟩⟩ (by decide) (by decide) (by unfold vp_in; decide) (fun g48 eg48 => ?_)
  have eg48 : g48 = u2 g47 159 3 (nI 57) := eg48
  have hcl := Cl.putQ (k := 3) (t := 57) hcl (lg_a aq159.2.1) rfl m_57 (by decide)
  rw [← eg48] at hcl
  have r1 : g48 1 = (upd (upd (upd (upd (upd (upd (upd (upd (upd (upd (upd (upd (upd (upd (upd (upd (upd (upd (g 1) 0 (nI (2))) 1 (nI (13))) 2 (nI (159))) 3 (nI (160))) 4 (nI (161))) 5 (nI (143))) 6 (nI (148))) 7 (nI (152))) 8 (nI (155))) 9 (nI (156))) 10 (nI (157))) 11 (nI (158))) 12 (0)) 13 ((-1))) 14 (0)) 15 (0)) 16 ((-1))) 17 (0)) := by rw [eg48, u2_ne _ (by decide), r1]
  have r159 : g48 159 = (upd (upd (upd (upd (fun _ => 0) 0 (nI 24)) 1 (nI 35)) 2 (nI 46)) 3 (nI 57)) := by rw [eg48, u2_row, r159]
  have r160 : g48 160 = (fun _ => 0) := by rw [eg48, u2_ne _ (by decide), r160]
  have r161 : g48 161 = (fun _ => 0) := by rw [eg48, u2_ne _ (by decide), r161]
  have F38 := Fq.put (N := (((((((((((((((((((((((((([1] ++ [2]) ++ [3, 4, 5, 6, 7, 8, 9, 10, 11, 12]) ++ [13]) ++ [14, 15, 16, 17, 18, 19, 20, 21, 22, 23]) ++ [159]) ++ [160]) ++ [161]) ++ [143]) ++ [144, 145, 146, 147]) ++ [148]) ++ [149, 150, 151]) ++ [152]) ++ [153, 154]) ++ [155]) ++ []) ++ [156]) ++ [157]) ++ [158]) ++ [24]) ++ [25, 26, 27, 28, 29, 30, 31, 32, 33, 34]) ++ [35]) ++ [36, 37, 38, 39, 40, 41, 42, 43, 44, 45]) ++ [46]) ++ [47, 48, 49, 50, 51, 52, 53, 54, 55, 56]) ++ [57]) ++ [58, 59, 60, 61, 62, 63, 64, 65, 66, 67])) eg48 (by decide)
  refine J_iinc (lt := fun z => [some (.ref 1), some (.int z)]) (v := 1) hS dX7_init_170 rfl (by decide) (fun _ => rfl) (fun z ez => ?_)
  have ez : z = 4 := ez.trans (by decide)
  subst ez
  refine J_goto (tgt := 152) hS dX7_init_173 (by decide) ?_
  refine J_iload_n hS dX7_init_152 rfl ?_
  refine J_iconst (v := 4) hS dX7_init_153 (by decide) ?_
  refine J_icmp_ge (tgt := 176) hS dX7_init_154 (by decide) (fun _ => ?_) (fun c => absurd (by decide) c)
  refine J_iconst (v := 0) hS dX7_init_176 (by decide) ?_
  refine J_istore_n (lt := fun x => [some (.ref 1), some (.int x)]) hS dX7_init_177 (Nat.le_of_ble_eq_true rfl) (fun _ => rfl) (fun x ex => ?_)
  subst ex
  refine J_iload_n hS dX7_init_178 rfl ?_
  refine J_iconst (v := 3) hS dX7_init_179 (by decide) ?_
  refine J_icmp_ge (tgt := 202) hS dX7_init_180 (by decide) (fun c => absurd c (by decide)) (fun _ => ?_)
  refine J_aload_n hS dX7_init_183 rfl ?_
  refine J_getD hS dX7_init_184 flX7_25 ⟨hb, lg_o ob1.2⟩ rfl (v := .ref 160) (by rw [show g48 1 3 = nI 160 by rw [r1]; rfl]; exact ab2 (by decide) (by decide)) ?_
  refine J_iload_n hS dX7_init_187 rfl ?_
  refine J_newO hG hcl (101) (by decide +kernel) (by omega) dX7_init_188 noX7_23 (lgF (b := 101) ⟨0, by decide, by decide⟩) (rl_c (v := .ref (1)) hb (rl_c (v := .int 0) trivial rl_0)) (rn_c (v := .int 0) trivial (rn_c (v := .ref (160)) m_160 rn_0)) (by decide) (by decide) (fun S E hG hcl => ?_)
  have hS := hG.1
  obtain ⟨g49, eg49⟩ : ∃ x : Mm, x = zrM g48 (101) := ⟨_, rfl⟩
  rw [← eg49] at hcl ⊢
  have hb := mi_a (x := 101) hb
  have m_2 := mi_a (x := 101) m_2
  have m_13 := mi_a (x := 101) m_13
  have m_159 := mi_a (x := 101) m_159
  have m_160 := mi_a (x := 101) m_160
  have m_161 := mi_a (x := 101) m_161
  have m_143 := mi_a (x := 101) m_143
  have m_148 := mi_a (x := 101) m_148
  have m_152 := mi_a (x := 101) m_152
  have m_155 := mi_a (x := 101) m_155
  have m_156 := mi_a (x := 101) m_156
  have m_157 := mi_a (x := 101) m_157
  have m_158 := mi_a (x := 101) m_158
  have m_24 := mi_a (x := 101) m_24
  have m_35 := mi_a (x := 101) m_35
  have m_46 := mi_a (x := 101) m_46
  have m_57 := mi_a (x := 101) m_57
  have m_101 := mi_s (x := 101) (N := (((((((((((((((((((((((((([1] ++ [2]) ++ [3, 4, 5, 6, 7, 8, 9, 10, 11, 12]) ++ [13]) ++ [14, 15, 16, 17, 18, 19, 20, 21, 22, 23]) ++ [159]) ++ [160]) ++ [161]) ++ [143]) ++ [144, 145, 146, 147]) ++ [148]) ++ [149, 150, 151]) ++ [152]) ++ [153, 154]) ++ [155]) ++ []) ++ [156]) ++ [157]) ++ [158]) ++ [24]) ++ [25, 26, 27, 28, 29, 30, 31, 32, 33, 34]) ++ [35]) ++ [36, 37, 38, 39, 40, 41, 42, 43, 44, 45]) ++ [46]) ++ [47, 48, 49, 50, 51, 52, 53, 54, 55, 56]) ++ [57]) ++ [58, 59, 60, 61, 62, 63, 64, 65, 66, 67]))
  have r1 : g49 1 = (upd (upd (upd (upd (upd (upd (upd (upd (upd (upd (upd (upd (upd (upd (upd (upd (upd (upd (g 1) 0 (nI (2))) 1 (nI (13))) 2 (nI (159))) 3 (nI (160))) 4 (nI (161))) 5 (nI (143))) 6 (nI (148))) 7 (nI (152))) 8 (nI (155))) 9 (nI (156))) 10 (nI (157))) 11 (nI (158))) 12 (0)) 13 ((-1))) 14 (0)) 15 (0)) 16 ((-1))) 17 (0)) := by rw [eg49, zrM_ne (by decide), r1]
  have r159 : g49 159 = (upd (upd (upd (upd (fun _ => 0) 0 (nI 24)) 1 (nI 35)) 2 (nI 46)) 3 (nI 57)) := by rw [eg49, zrM_ne (by decide), r159]
  have r160 : g49 160 = (fun _ => 0) := by rw [eg49, zrM_ne (by decide), r160]
  have r161 : g49 161 = (fun _ => 0) := by rw [eg49, zrM_ne (by decide), r161]
  refine J_dup hS dX7_init_191 rfl ?_
  refine J_callI (Px := fun _ => True) hG hcl dX7_init_192 miX7_92 m_101 rfl (by decide) (by decide) (Nat.le_of_ble_eq_true rfl) (by decide) (by decide) (rl_c (v := .ref (1)) hb (rl_c (v := .int 0) trivial rl_0)) (rn_c (v := .ref (101)) m_101 (rn_c (v := .int 0) trivial (rn_c (v := .ref (160)) m_160 rn_0))) trivial (fun _ _ _ h => h) (i_X0 (Px := fun _ => True) (i := 0) (by decide) (by decide +kernel)) (fun S E N1 gq hG hU hcl hq => ?_)
  obtain ⟨hN1, frg50, wf⟩ := hq
  subst hN1
  have hS := hG.1
  have hb := hU _ hb
  have m_2 := hU _ m_2
  have m_13 := hU _ m_13
  have m_159 := hU _ m_159
  have m_160 := hU _ m_160
  have m_161 := hU _ m_161
  have m_143 := hU _ m_143
  have m_148 := hU _ m_148
  have m_152 := hU _ m_152
  have m_155 := hU _ m_155
  have m_156 := hU _ m_156
  have m_157 := hU _ m_157
  have m_158 := hU _ m_158
  have m_24 := hU _ m_24
  have m_35 := hU _ m_35
  have m_46 := hU _ m_46
  have m_57 := hU _ m_57
  have m_101 := hU _ m_101
  obtain ⟨g50, eg50⟩ : ∃ x : Mm, x = gq := ⟨_, rfl⟩
  subst eg50
  have r1 : g50 1 = (upd (upd (upd (upd (upd (upd (upd (upd (upd (upd (upd (upd (upd (upd (upd (upd (upd (upd (g 1) 0 (nI (2))) 1 (nI (13))) 2 (nI (159))) 3 (nI (160))) 4 (nI (161))) 5 (nI (143))) 6 (nI (148))) 7 (nI (152))) 8 (nI (155))) 9 (nI (156))) 10 (nI (157))) 11 (nI (158))) 12 (0)) 13 ((-1))) 14 (0)) 15 (0)) 16 ((-1))) 17 (0)) := (frg50 1 (by decide +kernel) (by decide)).trans r1
  have r159 : g50 159 = (upd (upd (upd (upd (fun _ => 0) 0 (nI 24)) 1 (nI 35)) 2 (nI 46)) 3 (nI 57)) := (frg50 159 (by decide +kernel) (by decide)).trans r159
  have r160 : g50 160 = (fun _ => 0) := (frg50 160 (by decide +kernel) (by decide)).trans r160
  have r161 : g50 161 = (fun _ => 0) := (frg50 161 (by decide +kernel) (by decide)).trans r161
  have F39 := Fq.call (N := (((((((((((((((((((((((((([1] ++ [2]) ++ [3, 4, 5, 6, 7, 8, 9, 10, 11, 12]) ++ [13]) ++ [14, 15, 16, 17, 18, 19, 20, 21, 22, 23]) ++ [159]) ++ [160]) ++ [161]) ++ [143]) ++ [144, 145, 146, 147]) ++ [148]) ++ [149, 150, 151]) ++ [152]) ++ [153, 154]) ++ [155]) ++ []) ++ [156]) ++ [157]) ++ [158]) ++ [24]) ++ [25, 26, 27, 28, 29, 30, 31, 32, 33, 34]) ++ [35]) ++ [36, 37, 38, 39, 40, 41, 42, 43, 44, 45]) ++ [46]) ++ [47, 48, 49, 50, 51, 52, 53, 54, 55, 56]) ++ [57]) ++ [58, 59, 60, 61, 62, 63, 64, 65, 66, 67])) eg49 (by decide +kernel) frg50
  have K13 := wf
  refine J_astQ (t0 := 4) (ci := 0) (T := TX0) hS dX7_init_195 m_160 (lg_a aq160.2.1) rfl (fun _ => rfl) rfl ⟨m_101, lgF (b := 101) ⟨0, by decide, by decide⟩⟩ (by decide) (by decide) (by unfold vp_in; decide) (fun g51 eg51 => ?_)
  have eg51 : g51 = u2 g50 160 0 (nI 101) := eg51
  have hcl := Cl.putQ (k := 0) (t := 101) hcl (lg_a aq160.2.1) rfl m_101 (by decide)
  rw [← eg51] at hcl
  have r1 : g51 1 = (upd (upd (upd (upd (upd (upd (upd (upd (upd (upd (upd (upd (upd (upd (upd (upd (upd (upd (g 1) 0 (nI (2))) 1 (nI (13))) 2 (nI (159))) 3 (nI (160))) 4 (nI (161))) 5 (nI (143))) 6 (nI (148))) 7 (nI (152))) 8 (nI (155))) 9 (nI (156))) 10 (nI (157))) 11 (nI (158))) 12 (0)) 13 ((-1))) 14 (0)) 15 (0)) 16 ((-1))) 17 (0)) := by rw [eg51, u2_ne _ (by decide), r1]
  have r159 : g51 159 = (upd (upd (upd (upd (fun _ => 0) 0 (nI 24)) 1 (nI 35)) 2 (nI 46)) 3 (nI 57)) := by rw [eg51, u2_ne _ (by decide), r159]
  have r160 : g51 160 = (upd (fun _ => 0) 0 (nI 101)) := by rw [eg51, u2_row, r160]
  have r161 : g51 161 = (fun _ => 0) := by rw [eg51, u2_ne _ (by decide), r161]
  have F40 := Fq.put (N := (((((((((((((((((((((((((((([1] ++ [2]) ++ [3, 4, 5, 6, 7, 8, 9, 10, 11, 12]) ++ [13]) ++ [14, 15, 16, 17, 18, 19, 20, 21, 22, 23]) ++ [159]) ++ [160]) ++ [161]) ++ [143]) ++ [144, 145, 146, 147]) ++ [148]) ++ [149, 150, 151]) ++ [152]) ++ [153, 154]) ++ [155]) ++ []) ++ [156]) ++ [157]) ++ [158]) ++ [24]) ++ [25, 26, 27, 28, 29, 30, 31, 32, 33, 34]) ++ [35]) ++ [36, 37, 38, 39, 40, 41, 42, 43, 44, 45]) ++ [46]) ++ [47, 48, 49, 50, 51, 52, 53, 54, 55, 56]) ++ [57]) ++ [58, 59, 60, 61, 62, 63, 64, 65, 66, 67]) ++ [101]) ++ [68, 69, 70, 71, 72, 73, 74, 75, 76, 77, 78, 102])) eg51 (by decide)
  refine J_iinc (lt := fun z => [some (.ref 1), some (.int z)]) (v := 1) hS dX7_init_196 rfl (by decide) (fun _ => rfl) (fun z ez => ?_)
  have ez : z = 1 := ez.trans (by decide)
  subst ez
  refine J_goto (tgt := 178) hS dX7_init_199 (by decide) ?_
  refine J_iload_n hS dX7_init_178 rfl ?_
  refine J_iconst (v := 3) hS dX7_init_179 (by decide) ?_
  refine J_icmp_ge (tgt := 202) hS dX7_init_180 (by decide) (fun c => absurd c (by decide)) (fun _ => ?_)
  refine J_aload_n hS dX7_init_183 rfl ?_
  refine J_getD hS dX7_init_184 flX7_25 ⟨hb, lg_o ob1.2⟩ rfl (v := .ref 160) (by rw [show g51 1 3 = nI 160 by rw [r1]; rfl]; exact ab2 (by decide) (by decide)) ?_
  refine J_iload_n hS dX7_init_187 rfl ?_
  refine J_newO hG hcl (103) (by decide +kernel) (by omega) dX7_init_188 noX7_23 (lgF (b := 103) ⟨1, by decide, by decide⟩) (rl_c (v := .ref (1)) hb (rl_c (v := .int 1) trivial rl_0)) (rn_c (v := .int 1) trivial (rn_c (v := .ref (160)) m_160 rn_0)) (by decide) (by decide) (fun S E hG hcl => ?_)
  have hS := hG.1
  obtain ⟨g52, eg52⟩ : ∃ x : Mm, x = zrM g51 (103) := ⟨_, rfl⟩
  rw [← eg52] at hcl ⊢
  have hb := mi_a (x := 103) hb
  have m_2 := mi_a (x := 103) m_2
  have m_13 := mi_a (x := 103) m_13
  have m_159 := mi_a (x := 103) m_159
  have m_160 := mi_a (x := 103) m_160
  have m_161 := mi_a (x := 103) m_161
  have m_143 := mi_a (x := 103) m_143
  have m_148 := mi_a (x := 103) m_148
  have m_152 := mi_a (x := 103) m_152
  have m_155 := mi_a (x := 103) m_155
  have m_156 := mi_a (x := 103) m_156
  have m_157 := mi_a (x := 103) m_157
  have m_158 := mi_a (x := 103) m_158
  have m_24 := mi_a (x := 103) m_24
  have m_35 := mi_a (x := 103) m_35
  have m_46 := mi_a (x := 103) m_46
  have m_57 := mi_a (x := 103) m_57
  have m_101 := mi_a (x := 103) m_101
  have m_103 := mi_s (x := 103) (N := (((((((((((((((((((((((((((([1] ++ [2]) ++ [3, 4, 5, 6, 7, 8, 9, 10, 11, 12]) ++ [13]) ++ [14, 15, 16, 17, 18, 19, 20, 21, 22, 23]) ++ [159]) ++ [160]) ++ [161]) ++ [143]) ++ [144, 145, 146, 147]) ++ [148]) ++ [149, 150, 151]) ++ [152]) ++ [153, 154]) ++ [155]) ++ []) ++ [156]) ++ [157]) ++ [158]) ++ [24]) ++ [25, 26, 27, 28, 29, 30, 31, 32, 33, 34]) ++ [35]) ++ [36, 37, 38, 39, 40, 41, 42, 43, 44, 45]) ++ [46]) ++ [47, 48, 49, 50, 51, 52, 53, 54, 55, 56]) ++ [57]) ++ [58, 59, 60, 61, 62, 63, 64, 65, 66, 67]) ++ [101]) ++ [68, 69, 70, 71, 72, 73, 74, 75, 76, 77, 78, 102]))
  have r1 : g52 1 = (upd (upd (upd (upd (upd (upd (upd (upd (upd (upd (upd (upd (upd (upd (upd (upd (upd (upd (g 1) 0 (nI (2))) 1 (nI (13))) 2 (nI (159))) 3 (nI (160))) 4 (nI (161))) 5 (nI (143))) 6 (nI (148))) 7 (nI (152))) 8 (nI (155))) 9 (nI (156))) 10 (nI (157))) 11 (nI (158))) 12 (0)) 13 ((-1))) 14 (0)) 15 (0)) 16 ((-1))) 17 (0)) := by rw [eg52, zrM_ne (by decide), r1]
  have r159 : g52 159 = (upd (upd (upd (upd (fun _ => 0) 0 (nI 24)) 1 (nI 35)) 2 (nI 46)) 3 (nI 57)) := by rw [eg52, zrM_ne (by decide), r159]
  have r160 : g52 160 = (upd (fun _ => 0) 0 (nI 101)) := by rw [eg52, zrM_ne (by decide), r160]
  have r161 : g52 161 = (fun _ => 0) := by rw [eg52, zrM_ne (by decide), r161]
  refine J_dup hS dX7_init_191 rfl ?_
  refine J_callI (Px := fun _ => True) hG hcl dX7_init_192 miX7_92 m_103 rfl (by decide) (by decide) (Nat.le_of_ble_eq_true rfl) (by decide) (by decide) (rl_c (v := .ref (1)) hb (rl_c (v := .int 1) trivial rl_0)) (rn_c (v := .ref (103)) m_103 (rn_c (v := .int 1) trivial (rn_c (v := .ref (160)) m_160 rn_0))) trivial (fun _ _ _ h => h) (i_X0 (Px := fun _ => True) (i := 1) (by decide) (by decide +kernel)) (fun S E N1 gq hG hU hcl hq => ?_)
  obtain ⟨hN1, frg53, wf⟩ := hq
  subst hN1
  have hS := hG.1
  have hb := hU _ hb
  have m_2 := hU _ m_2
  have m_13 := hU _ m_13
  have m_159 := hU _ m_159
  have m_160 := hU _ m_160
  have m_161 := hU _ m_161
  have m_143 := hU _ m_143
  have m_148 := hU _ m_148
  have m_152 := hU _ m_152
  have m_155 := hU _ m_155
  have m_156 := hU _ m_156
  have m_157 := hU _ m_157
  have m_158 := hU _ m_158
  have m_24 := hU _ m_24
  have m_35 := hU _ m_35
  have m_46 := hU _ m_46
  have m_57 := hU _ m_57
  have m_101 := hU _ m_101
  have m_103 := hU _ m_103
  obtain ⟨g53, eg53⟩ : ∃ x : Mm, x = gq := ⟨_, rfl⟩
  subst eg53
  have r1 : g53 1 = (upd (upd (upd (upd (upd (upd (upd (upd (upd (upd (upd (upd (upd (upd (upd (upd (upd (upd (g 1) 0 (nI (2))) 1 (nI (13))) 2 (nI (159))) 3 (nI (160))) 4 (nI (161))) 5 (nI (143))) 6 (nI (148))) 7 (nI (152))) 8 (nI (155))) 9 (nI (156))) 10 (nI (157))) 11 (nI (158))) 12 (0)) 13 ((-1))) 14 (0)) 15 (0)) 16 ((-1))) 17 (0)) := (frg53 1 (by decide +kernel) (by decide)).trans r1
  have r159 : g53 159 = (upd (upd (upd (upd (fun _ => 0) 0 (nI 24)) 1 (nI 35)) 2 (nI 46)) 3 (nI 57)) := (frg53 159 (by decide +kernel) (by decide)).trans r159
  have r160 : g53 160 = (upd (fun _ => 0) 0 (nI 101)) := (frg53 160 (by decide +kernel) (by decide)).trans r160
  have r161 : g53 161 = (fun _ => 0) := (frg53 161 (by decide +kernel) (by decide)).trans r161
  have F41 := Fq.call (N := (((((((((((((((((((((((((((([1] ++ [2]) ++ [3, 4, 5, 6, 7, 8, 9, 10, 11, 12]) ++ [13]) ++ [14, 15, 16, 17, 18, 19, 20, 21, 22, 23]) ++ [159]) ++ [160]) ++ [161]) ++ [143]) ++ [144, 145, 146, 147]) ++ [148]) ++ [149, 150, 151]) ++ [152]) ++ [153, 154]) ++ [155]) ++ []) ++ [156]) ++ [157]) ++ [158]) ++ [24]) ++ [25, 26, 27, 28, 29, 30, 31, 32, 33, 34]) ++ [35]) ++ [36, 37, 38, 39, 40, 41, 42, 43, 44, 45]) ++ [46]) ++ [47, 48, 49, 50, 51, 52, 53, 54, 55, 56]) ++ [57]) ++ [58, 59, 60, 61, 62, 63, 64, 65, 66, 67]) ++ [101]) ++ [68, 69, 70, 71, 72, 73, 74, 75, 76, 77, 78, 102])) eg52 (by decide +kernel) frg53
  have K14 := wf
  refine J_astQ (t0 := 4) (ci := 0) (T := TX0) hS dX7_init_195 m_160 (lg_a aq160.2.1) rfl (fun _ => rfl) rfl ⟨m_103, lgF (b := 103) ⟨1, by decide, by decide⟩⟩ (by decide) (by decide) (by unfold vp_in; decide) (fun g54 eg54 => ?_)
  have eg54 : g54 = u2 g53 160 1 (nI 103) := eg54
  have hcl := Cl.putQ (k := 1) (t := 103) hcl (lg_a aq160.2.1) rfl m_103 (by decide)
  rw [← eg54] at hcl
  have r1 : g54 1 = (upd (upd (upd (upd (upd (upd (upd (upd (upd (upd (upd (upd (upd (upd (upd (upd (upd (upd (g 1) 0 (nI (2))) 1 (nI (13))) 2 (nI (159))) 3 (nI (160))) 4 (nI (161))) 5 (nI (143))) 6 (nI (148))) 7 (nI (152))) 8 (nI (155))) 9 (nI (156))) 10 (nI (157))) 11 (nI (158))) 12 (0)) 13 ((-1))) 14 (0)) 15 (0)) 16 ((-1))) 17 (0)) := by rw [eg54, u2_ne _ (by decide), r1]
  have r159 : g54 159 = (upd (upd (upd (upd (fun _ => 0) 0 (nI 24)) 1 (nI 35)) 2 (nI 46)) 3 (nI 57)) := by rw [eg54, u2_ne _ (by decide), r159]
  have r160 : g54 160 = (upd (upd (fun _ => 0) 0 (nI 101)) 1 (nI 103)) := by rw [eg54, u2_row, r160]
  have r161 : g54 161 = (fun _ => 0) := by rw [eg54, u2_ne _ (by decide), r161]
  have F42 := Fq.put (N := (((((((((((((((((((((((((((((([1] ++ [2]) ++ [3, 4, 5, 6, 7, 8, 9, 10, 11, 12]) ++ [13]) ++ [14, 15, 16, 17, 18, 19, 20, 21, 22, 23]) ++ [159]) ++ [160]) ++ [161]) ++ [143]) ++ [144, 145, 146, 147]) ++ [148]) ++ [149, 150, 151]) ++ [152]) ++ [153, 154]) ++ [155]) ++ []) ++ [156]) ++ [157]) ++ [158]) ++ [24]) ++ [25, 26, 27, 28, 29, 30, 31, 32, 33, 34]) ++ [35]) ++ [36, 37, 38, 39, 40, 41, 42, 43, 44, 45]) ++ [46]) ++ [47, 48, 49, 50, 51, 52, 53, 54, 55, 56]) ++ [57]) ++ [58, 59, 60, 61, 62, 63, 64, 65, 66, 67]) ++ [101]) ++ [68, 69, 70, 71, 72, 73, 74, 75, 76, 77, 78, 102]) ++ [103]) ++ [79, 80, 81, 82, 83, 84, 85, 86, 87, 88, 89, 104])) eg54 (by decide)
  refine J_iinc (lt := fun z => [some (.ref 1), some (.int z)]) (v := 1) hS dX7_init_196 rfl (by decide) (fun _ => rfl) (fun z ez => ?_)
  have ez : z = 2 := ez.trans (by decide)
  subst ez
  refine J_goto (tgt := 178) hS dX7_init_199 (by decide) ?_
  refine J_iload_n hS dX7_init_178 rfl ?_
  refine J_iconst (v := 3) hS dX7_init_179 (by decide) ?_
  refine J_icmp_ge (tgt := 202) hS dX7_init_180 (by decide) (fun c => absurd c (by decide)) (fun _ => ?_)
  refine J_aload_n hS dX7_init_183 rfl ?_
  refine J_getD hS dX7_init_184 flX7_25 ⟨hb, lg_o ob1.2⟩ rfl (v := .ref 160) (by rw [show g54 1 3 = nI 160 by rw [r1]; rfl]; exact ab2 (by decide) (by decide)) ?_
  refine J_iload_n hS dX7_init_187 rfl ?_
  refine J_newO hG hcl (105) (by decide +kernel) (by omega) dX7_init_188 noX7_23 (lgF (b := 105) ⟨2, by decide, by decide⟩) (rl_c (v := .ref (1)) hb (rl_c (v := .int 2) trivial rl_0)) (rn_c (v := .int 2) trivial (rn_c (v := .ref (160)) m_160 rn_0)) (by decide) (by decide) (fun S E hG hcl => ?_)
  have hS := hG.1
  obtain ⟨g55, eg55⟩ : ∃ x : Mm, x = zrM g54 (105) := ⟨_, rfl⟩
  rw [← eg55] at hcl ⊢
  have hb := mi_a (x := 105) hb
  have m_2 := mi_a (x := 105) m_2
  have m_13 := mi_a (x := 105) m_13
  have m_159 := mi_a (x := 105) m_159
  have m_160 := mi_a (x := 105) m_160
  have m_161 := mi_a (x := 105) m_161
  have m_143 := mi_a (x := 105) m_143
  have m_148 := mi_a (x := 105) m_148
  have m_152 := mi_a (x := 105) m_152
  have m_155 := mi_a (x := 105) m_155
  have m_156 := mi_a (x := 105) m_156
  have m_157 := mi_a (x := 105) m_157
  have m_158 := mi_a (x := 105) m_158
  have m_24 := mi_a (x := 105) m_24
  have m_35 := mi_a (x := 105) m_35
  have m_46 := mi_a (x := 105) m_46
  have m_57 := mi_a (x := 105) m_57
  have m_101 := mi_a (x := 105) m_101
  have m_103 := mi_a (x := 105) m_103
  have m_105 := mi_s (x := 105) (N := (((((((((((((((((((((((((((((([1] ++ [2]) ++ [3, 4, 5, 6, 7, 8, 9, 10, 11, 12]) ++ [13]) ++ [14, 15, 16, 17, 18, 19, 20, 21, 22, 23]) ++ [159]) ++ [160]) ++ [161]) ++ [143]) ++ [144, 145, 146, 147]) ++ [148]) ++ [149, 150, 151]) ++ [152]) ++ [153, 154]) ++ [155]) ++ []) ++ [156]) ++ [157]) ++ [158]) ++ [24]) ++ [25, 26, 27, 28, 29, 30, 31, 32, 33, 34]) ++ [35]) ++ [36, 37, 38, 39, 40, 41, 42, 43, 44, 45]) ++ [46]) ++ [47, 48, 49, 50, 51, 52, 53, 54, 55, 56]) ++ [57]) ++ [58, 59, 60, 61, 62, 63, 64, 65, 66, 67]) ++ [101]) ++ [68, 69, 70, 71, 72, 73, 74, 75, 76, 77, 78, 102]) ++ [103]) ++ [79, 80, 81, 82, 83, 84, 85, 86, 87, 88, 89, 104]))
  have r1 : g55 1 = (upd (upd (upd (upd (upd (upd (upd (upd (upd (upd (upd (upd (upd (upd (upd (upd (upd (upd (g 1) 0 (nI (2))) 1 (nI (13))) 2 (nI (159))) 3 (nI (160))) 4 (nI (161))) 5 (nI (143))) 6 (nI (148))) 7 (nI (152))) 8 (nI (155))) 9 (nI (156))) 10 (nI (157))) 11 (nI (158))) 12 (0)) 13 ((-1))) 14 (0)) 15 (0)) 16 ((-1))) 17 (0)) := by rw [eg55, zrM_ne (by decide), r1]
  have r159 : g55 159 = (upd (upd (upd (upd (fun _ => 0) 0 (nI 24)) 1 (nI 35)) 2 (nI 46)) 3 (nI 57)) := by rw [eg55, zrM_ne (by decide), r159]
  have r160 : g55 160 = (upd (upd (fun _ => 0) 0 (nI 101)) 1 (nI 103)) := by rw [eg55, zrM_ne (by decide), r160]
  have r161 : g55 161 = (fun _ => 0) := by rw [eg55, zrM_ne (by decide), r161]
  refine J_dup hS dX7_init_191 rfl ?_
  refine J_callI (Px := fun _ => True) hG hcl dX7_init_192 miX7_92 m_105 rfl (by decide) (by decide) (Nat.le_of_ble_eq_true rfl) (by decide) (by decide) (rl_c (v := .ref (1)) hb (rl_c (v := .int 2) trivial rl_0)) (rn_c (v := .ref (105)) m_105 (rn_c (v := .int 2) trivial (rn_c (v := .ref (160)) m_160 rn_0))) trivial (fun _ _ _ h => h) (i_X0 (Px := fun _ => True) (i := 2) (by decide) (by decide +kernel)) (fun S E N1 gq hG hU hcl hq => ?_)
  obtain ⟨hN1, frg56, wf⟩ := hq
  subst hN1
  have hS := hG.1
  have hb := hU _ hb
  have m_2 := hU _ m_2
  have m_13 := hU _ m_13
  have m_159 := hU _ m_159
  have m_160 := hU _ m_160
  have m_161 := hU _ m_161
  have m_143 := hU _ m_143
  have m_148 := hU _ m_148
  have m_152 := hU _ m_152
  have m_155 := hU _ m_155
  have m_156 := hU _ m_156
  have m_157 := hU _ m_157
  have m_158 := hU _ m_158
  have m_24 := hU _ m_24
  have m_35 := hU _ m_35
  have m_46 := hU _ m_46
  have m_57 := hU _ m_57
  have m_101 := hU _ m_101
  have m_103 := hU _ m_103
  have m_105 := hU _ m_105
  obtain ⟨g56, eg56⟩ : ∃ x : Mm, x = gq := ⟨_, rfl⟩
  subst eg56
  have r1 : g56 1 = (upd (upd (upd (upd (upd (upd (upd (upd (upd (upd (upd (upd (upd (upd (upd (upd (upd (upd (g 1) 0 (nI (2))) 1 (nI (13))) 2 (nI (159))) 3 (nI (160))) 4 (nI (161))) 5 (nI (143))) 6 (nI (148))) 7 (nI (152))) 8 (nI (155))) 9 (nI (156))) 10 (nI (157))) 11 (nI (158))) 12 (0)) 13 ((-1))) 14 (0)) 15 (0)) 16 ((-1))) 17 (0)) := (frg56 1 (by decide +kernel) (by decide)).trans r1
  have r159 : g56 159 = (upd (upd (upd (upd (fun _ => 0) 0 (nI 24)) 1 (nI 35)) 2 (nI 46)) 3 (nI 57)) := (frg56 159 (by decide +kernel) (by decide)).trans r159
  have r160 : g56 160 = (upd (upd (fun _ => 0) 0 (nI 101)) 1 (nI 103)) := (frg56 160 (by decide +kernel) (by decide)).trans r160
  have r161 : g56 161 = (fun _ => 0) := (frg56 161 (by decide +kernel) (by decide)).trans r161
  have F43 := Fq.call (N := (((((((((((((((((((((((((((((([1] ++ [2]) ++ [3, 4, 5, 6, 7, 8, 9, 10, 11, 12]) ++ [13]) ++ [14, 15, 16, 17, 18, 19, 20, 21, 22, 23]) ++ [159]) ++ [160]) ++ [161]) ++ [143]) ++ [144, 145, 146, 147]) ++ [148]) ++ [149, 150, 151]) ++ [152]) ++ [153, 154]) ++ [155]) ++ []) ++ [156]) ++ [157]) ++ [158]) ++ [24]) ++ [25, 26, 27, 28, 29, 30, 31, 32, 33, 34]) ++ [35]) ++ [36, 37, 38, 39, 40, 41, 42, 43, 44, 45]) ++ [46]) ++ [47, 48, 49, 50, 51, 52, 53, 54, 55, 56]) ++ [57]) ++ [58, 59, 60, 61, 62, 63, 64, 65, 66, 67]) ++ [101]) ++ [68, 69, 70, 71, 72, 73, 74, 75, 76, 77, 78, 102]) ++ [103]) ++ [79, 80, 81, 82, 83, 84, 85, 86, 87, 88, 89, 104])) eg55 (by decide +kernel) frg56
  have K15 := wf
  refine J_astQ (t0 := 4) (ci := 0) (T := TX0) hS dX7_init_195 m_160 (lg_a aq160.2.1) rfl (fun _ => rfl) rfl ⟨m_105, lgF (b := 105) ⟨2, by decide, by decide⟩⟩ (by decide) (by decide) (by unfold vp_in; decide) (fun g57 eg57 => ?_)
  have eg57 : g57 = u2 g56 160 2 (nI 105) := eg57
  have hcl := Cl.putQ (k := 2) (t := 105) hcl (lg_a aq160.2.1) rfl m_105 (by decide)
  rw [← eg57] at hcl
  have r1 : g57 1 = (upd (upd (upd (upd (upd (upd (upd (upd (upd (upd (upd (upd (upd (upd (upd (upd (upd (upd (g 1) 0 (nI (2))) 1 (nI (13))) 2 (nI (159))) 3 (nI (160))) 4 (nI (161))) 5 (nI (143))) 6 (nI (148))) 7 (nI (152))) 8 (nI (155))) 9 (nI (156))) 10 (nI (157))) 11 (nI (158))) 12 (0)) 13 ((-1))) 14 (0)) 15 (0)) 16 ((-1))) 17 (0)) := by rw [eg57, u2_ne _ (by decide), r1]
  have r159 : g57 159 = (upd (upd (upd (upd (fun _ => 0) 0 (nI 24)) 1 (nI 35)) 2 (nI 46)) 3 (nI 57)) := by rw [eg57, u2_ne _ (by decide), r159]
  have r160 : g57 160 = (upd (upd (upd (fun _ => 0) 0 (nI 101)) 1 (nI 103)) 2 (nI 105)) := by rw [eg57, u2_row, r160]
  have r161 : g57 161 = (fun _ => 0) := by rw [eg57, u2_ne _ (by decide), r161]
  have F44 := Fq.put (N := (((((((((((((((((((((((((((((((([1] ++ [2]) ++ [3, 4, 5, 6, 7, 8, 9, 10, 11, 12]) ++ [13]) ++ [14, 15, 16, 17, 18, 19, 20, 21, 22, 23]) ++ [159]) ++ [160]) ++ [161]) ++ [143]) ++ [144, 145, 146, 147]) ++ [148]) ++ [149, 150, 151]) ++ [152]) ++ [153, 154]) ++ [155]) ++ []) ++ [156]) ++ [157]) ++ [158]) ++ [24]) ++ [25, 26, 27, 28, 29, 30, 31, 32, 33, 34]) ++ [35]) ++ [36, 37, 38, 39, 40, 41, 42, 43, 44, 45]) ++ [46]) ++ [47, 48, 49, 50, 51, 52, 53, 54, 55, 56]) ++ [57]) ++ [58, 59, 60, 61, 62, 63, 64, 65, 66, 67]) ++ [101]) ++ [68, 69, 70, 71, 72, 73, 74, 75, 76, 77, 78, 102]) ++ [103]) ++ [79, 80, 81, 82, 83, 84, 85, 86, 87, 88, 89, 104]) ++ [105]) ++ [90, 91, 92, 93, 94, 95, 96, 97, 98, 99, 100, 106])) eg57 (by decide)
  refine J_iinc (lt := fun z => [some (.ref 1), some (.int z)]) (v := 1) hS dX7_init_196 rfl (by decide) (fun _ => rfl) (fun z ez => ?_)
  have ez : z = 3 := ez.trans (by decide)
  subst ez
  refine J_goto (tgt := 178) hS dX7_init_199 (by decide) ?_
  refine J_iload_n hS dX7_init_178 rfl ?_
  refine J_iconst (v := 3) hS dX7_init_179 (by decide) ?_
  refine J_icmp_ge (tgt := 202) hS dX7_init_180 (by decide) (fun _ => ?_) (fun c => absurd (by decide) c)
  refine J_iconst (v := 0) hS dX7_init_202 (by decide) ?_
  refine J_istore_n (lt := fun x => [some (.ref 1), some (.int x)]) hS dX7_init_203 (Nat.le_of_ble_eq_true rfl) (fun _ => rfl) (fun x ex => ?_)
  subst ex
  refine J_iload_n hS dX7_init_204 rfl ?_
  refine J_bipush (v := 6) hS dX7_init_205 (by decide) ?_
  refine J_icmp_ge (tgt := 229) hS dX7_init_207 (by decide) (fun c => absurd c (by decide)) (fun _ => ?_)
  refine J_aload_n hS dX7_init_210 rfl ?_
  refine J_getD hS dX7_init_211 flX7_31 ⟨hb, lg_o ob1.2⟩ rfl (v := .ref 161) (by rw [show g57 1 4 = nI 161 by rw [r1]; rfl]; exact ab2 (by decide) (by decide)) ?_
  refine J_iload_n hS dX7_init_214 rfl ?_
  refine J_newO hG hcl (107) (by decide +kernel) (by omega) dX7_init_215 noX7_29 (lgL (b := 107) ⟨0, by decide, by decide⟩) (rl_c (v := .ref (1)) hb (rl_c (v := .int 0) trivial rl_0)) (rn_c (v := .int 0) trivial (rn_c (v := .ref (161)) m_161 rn_0)) (by decide) (by decide) (fun S E hG hcl => ?_)
  have hS := hG.1
  obtain ⟨g58, eg58⟩ : ∃ x : Mm, x = zrM g57 (107) := ⟨_, rfl⟩
  rw [← eg58] at hcl ⊢
  have hb := mi_a (x := 107) hb
  have m_2 := mi_a (x := 107) m_2
  have m_13 := mi_a (x := 107) m_13
  have m_159 := mi_a (x := 107) m_159
  have m_160 := mi_a (x := 107) m_160
  have m_161 := mi_a (x := 107) m_161
  have m_143 := mi_a (x := 107) m_143
  have m_148 := mi_a (x := 107) m_148
  have m_152 := mi_a (x := 107) m_152
  have m_155 := mi_a (x := 107) m_155
  have m_156 := mi_a (x := 107) m_156
  have m_157 := mi_a (x := 107) m_157
  have m_158 := mi_a (x := 107) m_158
  have m_24 := mi_a (x := 107) m_24
  have m_35 := mi_a (x := 107) m_35
  have m_46 := mi_a (x := 107) m_46
  have m_57 := mi_a (x := 107) m_57
  have m_101 := mi_a (x := 107) m_101
  have m_103 := mi_a (x := 107) m_103
  have m_105 := mi_a (x := 107) m_105
  have m_107 := mi_s (x := 107) (N := (((((((((((((((((((((((((((((((([1] ++ [2]) ++ [3, 4, 5, 6, 7, 8, 9, 10, 11, 12]) ++ [13]) ++ [14, 15, 16, 17, 18, 19, 20, 21, 22, 23]) ++ [159]) ++ [160]) ++ [161]) ++ [143]) ++ [144, 145, 146, 147]) ++ [148]) ++ [149, 150, 151]) ++ [152]) ++ [153, 154]) ++ [155]) ++ []) ++ [156]) ++ [157]) ++ [158]) ++ [24]) ++ [25, 26, 27, 28, 29, 30, 31, 32, 33, 34]) ++ [35]) ++ [36, 37, 38, 39, 40, 41, 42, 43, 44, 45]) ++ [46]) ++ [47, 48, 49, 50, 51, 52, 53, 54, 55, 56]) ++ [57]) ++ [58, 59, 60, 61, 62, 63, 64, 65, 66, 67]) ++ [101]) ++ [68, 69, 70, 71, 72, 73, 74, 75, 76, 77, 78, 102]) ++ [103]) ++ [79, 80, 81, 82, 83, 84, 85, 86, 87, 88, 89, 104]) ++ [105]) ++ [90, 91, 92, 93, 94, 95, 96, 97, 98, 99, 100, 106]))
  have r1 : g58 1 = (upd (upd (upd (upd (upd (upd (upd (upd (upd (upd (upd (upd (upd (upd (upd (upd (upd (upd (g 1) 0 (nI (2))) 1 (nI (13))) 2 (nI (159))) 3 (nI (160))) 4 (nI (161))) 5 (nI (143))) 6 (nI (148))) 7 (nI (152))) 8 (nI (155))) 9 (nI (156))) 10 (nI (157))) 11 (nI (158))) 12 (0)) 13 ((-1))) 14 (0)) 15 (0)) 16 ((-1))) 17 (0)) := by rw [eg58, zrM_ne (by decide), r1]
  have r159 : g58 159 = (upd (upd (upd (upd (fun _ => 0) 0 (nI 24)) 1 (nI 35)) 2 (nI 46)) 3 (nI 57)) := by rw [eg58, zrM_ne (by decide), r159]
  have r160 : g58 160 = (upd (upd (upd (fun _ => 0) 0 (nI 101)) 1 (nI 103)) 2 (nI 105)) := by rw [eg58, zrM_ne (by decide), r160]
  have r161 : g58 161 = (fun _ => 0) := by rw [eg58, zrM_ne (by decide), r161]
  refine J_dup hS dX7_init_218 rfl ?_
  refine J_callI (Px := fun _ => True) hG hcl dX7_init_219 miX7_93 m_107 rfl (by decide) (by decide) (Nat.le_of_ble_eq_true rfl) (by decide) (by decide) (rl_c (v := .ref (1)) hb (rl_c (v := .int 0) trivial rl_0)) (rn_c (v := .ref (107)) m_107 (rn_c (v := .int 0) trivial (rn_c (v := .ref (161)) m_161 rn_0))) trivial (fun _ _ _ h => h) (i_X1 (Px := fun _ => True) (b := 107) ⟨0, by decide, by decide⟩ (nin5 (by decide +kernel))) (fun S E N1 gq hG hU hcl hq => ?_)
  obtain ⟨hN1, frg59, wf⟩ := hq
  subst hN1
  have hS := hG.1
  have hb := hU _ hb
  have m_2 := hU _ m_2
  have m_13 := hU _ m_13
  have m_159 := hU _ m_159
  have m_160 := hU _ m_160
  have m_161 := hU _ m_161
  have m_143 := hU _ m_143
  have m_148 := hU _ m_148
  have m_152 := hU _ m_152
  have m_155 := hU _ m_155
  have m_156 := hU _ m_156
  have m_157 := hU _ m_157
  have m_158 := hU _ m_158
  have m_24 := hU _ m_24
  have m_35 := hU _ m_35
  have m_46 := hU _ m_46
  have m_57 := hU _ m_57
  have m_101 := hU _ m_101
  have m_103 := hU _ m_103
  have m_105 := hU _ m_105
  have m_107 := hU _ m_107
  obtain ⟨g59, eg59⟩ : ∃ x : Mm, x = gq := ⟨_, rfl⟩
  subst eg59
  have r1 : g59 1 = (upd (upd (upd (upd (upd (upd (upd (upd (upd (upd (upd (upd (upd (upd (upd (upd (upd (upd (g 1) 0 (nI (2))) 1 (nI (13))) 2 (nI (159))) 3 (nI (160))) 4 (nI (161))) 5 (nI (143))) 6 (nI (148))) 7 (nI (152))) 8 (nI (155))) 9 (nI (156))) 10 (nI (157))) 11 (nI (158))) 12 (0)) 13 ((-1))) 14 (0)) 15 (0)) 16 ((-1))) 17 (0)) := (frg59 1 (by decide +kernel) (by decide)).trans r1
  have r159 : g59 159 = (upd (upd (upd (upd (fun _ => 0) 0 (nI 24)) 1 (nI 35)) 2 (nI 46)) 3 (nI 57)) := (frg59 159 (by decide +kernel) (by decide)).trans r159
  have r160 : g59 160 = (upd (upd (upd (fun _ => 0) 0 (nI 101)) 1 (nI 103)) 2 (nI 105)) := (frg59 160 (by decide +kernel) (by decide)).trans r160
  have r161 : g59 161 = (fun _ => 0) := (frg59 161 (by decide +kernel) (by decide)).trans r161
  have F45 := Fq.call (N := (((((((((((((((((((((((((((((((([1] ++ [2]) ++ [3, 4, 5, 6, 7, 8, 9, 10, 11, 12]) ++ [13]) ++ [14, 15, 16, 17, 18, 19, 20, 21, 22, 23]) ++ [159]) ++ [160]) ++ [161]) ++ [143]) ++ [144, 145, 146, 147]) ++ [148]) ++ [149, 150, 151]) ++ [152]) ++ [153, 154]) ++ [155]) ++ []) ++ [156]) ++ [157]) ++ [158]) ++ [24]) ++ [25, 26, 27, 28, 29, 30, 31, 32, 33, 34]) ++ [35]) ++ [36, 37, 38, 39, 40, 41, 42, 43, 44, 45]) ++ [46]) ++ [47, 48, 49, 50, 51, 52, 53, 54, 55, 56]) ++ [57]) ++ [58, 59, 60, 61, 62, 63, 64, 65, 66, 67]) ++ [101]) ++ [68, 69, 70, 71, 72, 73, 74, 75, 76, 77, 78, 102]) ++ [103]) ++ [79, 80, 81, 82, 83, 84, 85, 86, 87, 88, 89, 104]) ++ [105]) ++ [90, 91, 92, 93, 94, 95, 96, 97, 98, 99, 100, 106])) eg58 (by decide +kernel) frg59
  have K16 := wf
  refine J_astQ (t0 := 5) (ci := 1) (T := TX1) hS dX7_init_222 m_161 (lg_a aq161.2.1) rfl (fun _ => rfl) rfl ⟨m_107, lgL (b := 107) ⟨0, by decide, by decide⟩⟩ (by decide) (by decide) (by unfold vp_in; decide) (fun g60 eg60 => ?_)
  have eg60 : g60 = u2 g59 161 0 (nI 107) := eg60
  have hcl := Cl.putQ (k := 0) (t := 107) hcl (lg_a aq161.2.1) rfl m_107 (by decide)
  rw [← eg60] at hcl
  have r1 : g60 1 = (upd (upd (upd (upd (upd (upd (upd (upd (upd (upd (upd (upd (upd (upd (upd (upd (upd (upd (g 1) 0 (nI (2))) 1 (nI (13))) 2 (nI (159))) 3 (nI (160))) 4 (nI (161))) 5 (nI (143))) 6 (nI (148))) 7 (nI (152))) 8 (nI (155))) 9 (nI (156))) 10 (nI (157))) 11 (nI (158))) 12 (0)) 13 ((-1))) 14 (0)) 15 (0)) 16 ((-1))) 17 (0)) := by rw [eg60, u2_ne _ (by decide), r1]
  have r159 : g60 159 = (upd (upd (upd (upd (fun _ => 0) 0 (nI 24)) 1 (nI 35)) 2 (nI 46)) 3 (nI 57)) := by rw [eg60, u2_ne _ (by decide), r159]
  have r160 : g60 160 = (upd (upd (upd (fun _ => 0) 0 (nI 101)) 1 (nI 103)) 2 (nI 105)) := by rw [eg60, u2_ne _ (by decide), r160]
  have r161 : g60 161 = (upd (fun _ => 0) 0 (nI 107)) := by rw [eg60, u2_row, r161]
  have F46 := Fq.put (N := (((((((((((((((((((((((((((((((((([1] ++ [2]) ++ [3, 4, 5, 6, 7, 8, 9, 10, 11, 12]) ++ [13]) ++ [14, 15, 16, 17, 18, 19, 20, 21, 22, 23]) ++ [159]) ++ [160]) ++ [161]) ++ [143]) ++ [144, 145, 146, 147]) ++ [148]) ++ [149, 150, 151]) ++ [152]) ++ [153, 154]) ++ [155]) ++ []) ++ [156]) ++ [157]) ++ [158]) ++ [24]) ++ [25, 26, 27, 28, 29, 30, 31, 32, 33, 34]) ++ [35]) ++ [36, 37, 38, 39, 40, 41, 42, 43, 44, 45]) ++ [46]) ++ [47, 48, 49, 50, 51, 52, 53, 54, 55, 56]) ++ [57]) ++ [58, 59, 60, 61, 62, 63, 64, 65, 66, 67]) ++ [101]) ++ [68, 69, 70, 71, 72, 73, 74, 75, 76, 77, 78, 102]) ++ [103]) ++ [79, 80, 81, 82, 83, 84, 85, 86, 87, 88, 89, 104]) ++ [105]) ++ [90, 91, 92, 93, 94, 95, 96, 97, 98, 99, 100, 106]) ++ [107]) ++ [108, 109, 110, 111, 112])) eg60 (by decide)
  refine J_iinc (lt := fun z => [some (.ref 1), some (.int z)]) (v := 1) hS dX7_init_223 rfl (by decide) (fun _ => rfl) (fun z ez => ?_)
  have ez : z = 1 := ez.trans (by decide)
  subst ez
  refine J_goto (tgt := 204) hS dX7_init_226 (by decide) ?_
  refine J_iload_n hS dX7_init_204 rfl ?_
  refine J_bipush (v := 6) hS dX7_init_205 (by decide) ?_
  refine J_icmp_ge (tgt := 229) hS dX7_init_207 (by decide) (fun c => absurd c (by decide)) (fun _ => ?_)
  refine J_aload_n hS dX7_init_210 rfl ?_
  refine J_getD hS dX7_init_211 flX7_31 ⟨hb, lg_o ob1.2⟩ rfl (v := .ref 161) (by rw [show g60 1 4 = nI 161 by rw [r1]; rfl]; exact ab2 (by decide) (by decide)) ?_
  refine J_iload_n hS dX7_init_214 rfl ?_
  refine J_newO hG hcl (113) (by decide +kernel) (by omega) dX7_init_215 noX7_29 (lgL (b := 113) ⟨1, by decide, by decide⟩) (rl_c (v := .ref (1)) hb (rl_c (v := .int 1) trivial rl_0)) (rn_c (v := .int 1) trivial (rn_c (v := .ref (161)) m_161 rn_0)) (by decide) (by decide) (fun S E hG hcl => ?_)
  have hS := hG.1
  obtain ⟨g61, eg61⟩ : ∃ x : Mm, x = zrM g60 (113) := ⟨_, rfl⟩
  rw [← eg61] at hcl ⊢
  have hb := mi_a (x := 113) hb
  have m_2 := mi_a (x := 113) m_2
  have m_13 := mi_a (x := 113) m_13
  have m_159 := mi_a (x := 113) m_159
  have m_160 := mi_a (x := 113) m_160
  have m_161 := mi_a (x := 113) m_161
  have m_143 := mi_a (x := 113) m_143
  have m_148 := mi_a (x := 113) m_148
  have m_152 := mi_a (x := 113) m_152
  have m_155 := mi_a (x := 113) m_155
  have m_156 := mi_a (x := 113) m_156
  have m_157 := mi_a (x := 113) m_157
  have m_158 := mi_a (x := 113) m_158
  have m_24 := mi_a (x := 113) m_24
  have m_35 := mi_a (x := 113) m_35
  have m_46 := mi_a (x := 113) m_46
  have m_57 := mi_a (x := 113) m_57
  have m_101 := mi_a (x := 113) m_101
  have m_103 := mi_a (x := 113) m_103
  have m_105 := mi_a (x := 113) m_105
  have m_107 := mi_a (x := 113) m_107
  have m_113 := mi_s (x := 113) (N := (((((((((((((((((((((((((((((((((([1] ++ [2]) ++ [3, 4, 5, 6, 7, 8, 9, 10, 11, 12]) ++ [13]) ++ [14, 15, 16, 17, 18, 19, 20, 21, 22, 23]) ++ [159]) ++ [160]) ++ [161]) ++ [143]) ++ [144, 145, 146, 147]) ++ [148]) ++ [149, 150, 151]) ++ [152]) ++ [153, 154]) ++ [155]) ++ []) ++ [156]) ++ [157]) ++ [158]) ++ [24]) ++ [25, 26, 27, 28, 29, 30, 31, 32, 33, 34]) ++ [35]) ++ [36, 37, 38, 39, 40, 41, 42, 43, 44, 45]) ++ [46]) ++ [47, 48, 49, 50, 51, 52, 53, 54, 55, 56]) ++ [57]) ++ [58, 59, 60, 61, 62, 63, 64, 65, 66, 67]) ++ [101]) ++ [68, 69, 70, 71, 72, 73, 74, 75, 76, 77, 78, 102]) ++ [103]) ++ [79, 80, 81, 82, 83, 84, 85, 86, 87, 88, 89, 104]) ++ [105]) ++ [90, 91, 92, 93, 94, 95, 96, 97, 98, 99, 100, 106]) ++ [107]) ++ [108, 109, 110, 111, 112]))
  have r1 : g61 1 = (upd (upd (upd (upd (upd (upd (upd (upd (upd (upd (upd (upd (upd (upd (upd (upd (upd (upd (g 1) 0 (nI (2))) 1 (nI (13))) 2 (nI (159))) 3 (nI (160))) 4 (nI (161))) 5 (nI (143))) 6 (nI (148))) 7 (nI (152))) 8 (nI (155))) 9 (nI (156))) 10 (nI (157))) 11 (nI (158))) 12 (0)) 13 ((-1))) 14 (0)) 15 (0)) 16 ((-1))) 17 (0)) := by rw [eg61, zrM_ne (by decide), r1]
  have r159 : g61 159 = (upd (upd (upd (upd (fun _ => 0) 0 (nI 24)) 1 (nI 35)) 2 (nI 46)) 3 (nI 57)) := by rw [eg61, zrM_ne (by decide), r159]
  have r160 : g61 160 = (upd (upd (upd (fun _ => 0) 0 (nI 101)) 1 (nI 103)) 2 (nI 105)) := by rw [eg61, zrM_ne (by decide), r160]
  have r161 : g61 161 = (upd (fun _ => 0) 0 (nI 107)) := by rw [eg61, zrM_ne (by decide), r161]
  refine J_dup hS dX7_init_218 rfl ?_
  refine J_callI (Px := fun _ => True) hG hcl dX7_init_219 miX7_93 m_113 rfl (by decide) (by decide) (Nat.le_of_ble_eq_true rfl) (by decide) (by decide) (rl_c (v := .ref (1)) hb (rl_c (v := .int 1) trivial rl_0)) (rn_c (v := .ref (113)) m_113 (rn_c (v := .int 1) trivial (rn_c (v := .ref (161)) m_161 rn_0))) trivial (fun _ _ _ h => h) (i_X1 (Px := fun _ => True) (b := 113) ⟨1, by decide, by decide⟩ (nin5 (by decide +kernel))) (fun S E N1 gq hG hU hcl hq => ?_)
  obtain ⟨hN1, frg62, wf⟩ := hq
  subst hN1
  have hS := hG.1
  have hb := hU _ hb
  have m_2 := hU _ m_2
  have m_13 := hU _ m_13
  have m_159 := hU _ m_159
  have m_160 := hU _ m_160
  have m_161 := hU _ m_161
  have m_143 := hU _ m_143
  have m_148 := hU _ m_148
  have m_152 := hU _ m_152
  have m_155 := hU _ m_155
  have m_156 := hU _ m_156
  have m_157 := hU _ m_157
  have m_158 := hU _ m_158
  have m_24 := hU _ m_24
  have m_35 := hU _ m_35
  have m_46 := hU _ m_46
  have m_57 := hU _ m_57
  have m_101 := hU _ m_101
  have m_103 := hU _ m_103
  have m_105 := hU _ m_105
  have m_107 := hU _ m_107
  have m_113 := hU _ m_113
  obtain ⟨g62, eg62⟩ : ∃ x : Mm, x = gq := ⟨_, rfl⟩
  subst eg62
  have r1 : g62 1 = (upd (upd (upd (upd (upd (upd (upd (upd (upd (upd (upd (upd (upd (upd (upd (upd (upd (upd (g 1) 0 (nI (2))) 1 (nI (13))) 2 (nI (159))) 3 (nI (160))) 4 (nI (161))) 5 (nI (143))) 6 (nI (148))) 7 (nI (152))) 8 (nI (155))) 9 (nI (156))) 10 (nI (157))) 11 (nI (158))) 12 (0)) 13 ((-1))) 14 (0)) 15 (0)) 16 ((-1))) 17 (0)) := (frg62 1 (by decide +kernel) (by decide)).trans r1
  have r159 : g62 159 = (upd (upd (upd (upd (fun _ => 0) 0 (nI 24)) 1 (nI 35)) 2 (nI 46)) 3 (nI 57)) := (frg62 159 (by decide +kernel) (by decide)).trans r159
  have r160 : g62 160 = (upd (upd (upd (fun _ => 0) 0 (nI 101)) 1 (nI 103)) 2 (nI 105)) := (frg62 160 (by decide +kernel) (by decide)).trans r160
  have r161 : g62 161 = (upd (fun _ => 0) 0 (nI 107)) := (frg62 161 (by decide +kernel) (by decide)).trans r161
  have F47 := Fq.call (N := (((((((((((((((((((((((((((((((((([1] ++ [2]) ++ [3, 4, 5, 6, 7, 8, 9, 10, 11, 12]) ++ [13]) ++ [14, 15, 16, 17, 18, 19, 20, 21, 22, 23]) ++ [159]) ++ [160]) ++ [161]) ++ [143]) ++ [144, 145, 146, 147]) ++ [148]) ++ [149, 150, 151]) ++ [152]) ++ [153, 154]) ++ [155]) ++ []) ++ [156]) ++ [157]) ++ [158]) ++ [24]) ++ [25, 26, 27, 28, 29, 30, 31, 32, 33, 34]) ++ [35]) ++ [36, 37, 38, 39, 40, 41, 42, 43, 44, 45]) ++ [46]) ++ [47, 48, 49, 50, 51, 52, 53, 54, 55, 56]) ++ [57]) ++ [58, 59, 60, 61, 62, 63, 64, 65, 66, 67]) ++ [101]) ++ [68, 69, 70, 71, 72, 73, 74, 75, 76, 77, 78, 102]) ++ [103]) ++ [79, 80, 81, 82, 83, 84, 85, 86, 87, 88, 89, 104]) ++ [105]) ++ [90, 91, 92, 93, 94, 95, 96, 97, 98, 99, 100, 106]) ++ [107]) ++ [108, 109, 110, 111, 112])) eg61 (by decide +kernel) frg62
  have K17 := wf
  refine J_astQ (t0 := 5) (ci := 1) (T := TX1) hS dX7_init_222 m_161 (lg_a aq161.2.1) rfl (fun _ => rfl) rfl ⟨m_113, lgL (b := 113) ⟨1, by decide, by decide⟩⟩ (by decide) (by decide) (by unfold vp_in; decide) (fun g63 eg63 => ?_)
  have eg63 : g63 = u2 g62 161 1 (nI 113) := eg63
  have hcl := Cl.putQ (k := 1) (t := 113) hcl (lg_a aq161.2.1) rfl m_113 (by decide)
  rw [← eg63] at hcl
  have r1 : g63 1 = (upd (upd (upd (upd (upd (upd (upd (upd (upd (upd (upd (upd (upd (upd (upd (upd (upd (upd (g 1) 0 (nI (2))) 1 (nI (13))) 2 (nI (159))) 3 (nI (160))) 4 (nI (161))) 5 (nI (143))) 6 (nI (148))) 7 (nI (152))) 8 (nI (155))) 9 (nI (156))) 10 (nI (157))) 11 (nI (158))) 12 (0)) 13 ((-1))) 14 (0)) 15 (0)) 16 ((-1))) 17 (0)) := by rw [eg63, u2_ne _ (by decide), r1]
  have r159 : g63 159 = (upd (upd (upd (upd (fun _ => 0) 0 (nI 24)) 1 (nI 35)) 2 (nI 46)) 3 (nI 57)) := by rw [eg63, u2_ne _ (by decide), r159]
  have r160 : g63 160 = (upd (upd (upd (fun _ => 0) 0 (nI 101)) 1 (nI 103)) 2 (nI 105)) := by rw [eg63, u2_ne _ (by decide), r160]
  have r161 : g63 161 = (upd (upd (fun _ => 0) 0 (nI 107)) 1 (nI 113)) := by rw [eg63, u2_row, r161]
  have F48 := Fq.put (N := (((((((((((((((((((((((((((((((((((([1] ++ [2]) ++ [3, 4, 5, 6, 7, 8, 9, 10, 11, 12]) ++ [13]) ++ [14, 15, 16, 17, 18, 19, 20, 21, 22, 23]) ++ [159]) ++ [160]) ++ [161]) ++ [143]) ++ [144, 145, 146, 147]) ++ [148]) ++ [149, 150, 151]) ++ [152]) ++ [153, 154]) ++ [155]) ++ []) ++ [156]) ++ [157]) ++ [158]) ++ [24]) ++ [25, 26, 27, 28, 29, 30, 31, 32, 33, 34]) ++ [35]) ++ [36, 37, 38, 39, 40, 41, 42, 43, 44, 45]) ++ [46]) ++ [47, 48, 49, 50, 51, 52, 53, 54, 55, 56]) ++ [57]) ++ [58, 59, 60, 61, 62, 63, 64, 65, 66, 67]) ++ [101]) ++ [68, 69, 70, 71, 72, 73, 74, 75, 76, 77, 78, 102]) ++ [103]) ++ [79, 80, 81, 82, 83, 84, 85, 86, 87, 88, 89, 104]) ++ [105]) ++ [90, 91, 92, 93, 94, 95, 96, 97, 98, 99, 100, 106]) ++ [107]) ++ [108, 109, 110, 111, 112]) ++ [113]) ++ [114, 115, 116, 117, 118])) eg63 (by decide)
  refine J_iinc (lt := fun z => [some (.ref 1), some (.int z)]) (v := 1) hS dX7_init_223 rfl (by decide) (fun _ => rfl) (fun z ez => ?_)
  have ez : z = 2 := ez.trans (by decide)
  subst ez
  refine J_goto (tgt := 204) hS dX7_init_226 (by decide) ?_
  refine J_iload_n hS dX7_init_204 rfl ?_
  refine J_bipush (v := 6) hS dX7_init_205 (by decide) ?_
  refine J_icmp_ge (tgt := 229) hS dX7_init_207 (by decide) (fun c => absurd c (by decide)) (fun _ => ?_)
  refine J_aload_n hS dX7_init_210 rfl ?_
  refine J_getD hS dX7_init_211 flX7_31 ⟨hb, lg_o ob1.2⟩ rfl (v := .ref 161) (by rw [show g63 1 4 = nI 161 by rw [r1]; rfl]; exact ab2 (by decide) (by decide)) ?_
  refine J_iload_n hS dX7_init_214 rfl ?_
  refine J_newO hG hcl (119) (by decide +kernel) (by omega) dX7_init_215 noX7_29 (lgL (b := 119) ⟨2, by decide, by decide⟩) (rl_c (v := .ref (1)) hb (rl_c (v := .int 2) trivial rl_0)) (rn_c (v := .int 2) trivial (rn_c (v := .ref (161)) m_161 rn_0)) (by decide) (by decide) (fun S E hG hcl => ?_)
  have hS := hG.1
  obtain ⟨g64, eg64⟩ : ∃ x : Mm, x = zrM g63 (119) := ⟨_, rfl⟩
  rw [← eg64] at hcl ⊢
  have hb := mi_a (x := 119) hb
  have m_2 := mi_a (x := 119) m_2
  have m_13 := mi_a (x := 119) m_13
  have m_159 := mi_a (x := 119) m_159
  have m_160 := mi_a (x := 119) m_160
  have m_161 := mi_a (x := 119) m_161
  have m_143 := mi_a (x := 119) m_143
  have m_148 := mi_a (x := 119) m_148
  have m_152 := mi_a (x := 119) m_152
  have m_155 := mi_a (x := 119) m_155
  have m_156 := mi_a (x := 119) m_156
  have m_157 := mi_a (x := 119) m_157
  have m_158 := mi_a (x := 119) m_158
  have m_24 := mi_a (x := 119) m_24
  have m_35 := mi_a (x := 119) m_35
  have m_46 := mi_a (x := 119) m_46
  have m_57 := mi_a (x := 119) m_57
  have m_101 := mi_a (x := 119) m_101
  have m_103 := mi_a (x := 119) m_103
  have m_105 := mi_a (x := 119) m_105
  have m_107 := mi_a (x := 119) m_107
  have m_113 := mi_a (x := 119) m_113
  have m_119 := mi_s (x := 119) (N := (((((((((((((((((((((((((((((((((((([1] ++ [2]) ++ [3, 4, 5, 6, 7, 8, 9, 10, 11, 12]) ++ [13]) ++ [14, 15, 16, 17, 18, 19, 20, 21, 22, 23]) ++ [159]) ++ [160]) ++ [161]) ++ [143]) ++ [144, 145, 146, 147]) ++ [148]) ++ [149, 150, 151]) ++ [152]) ++ [153, 154]) ++ [155]) ++ []) ++ [156]) ++ [157]) ++ [158]) ++ [24]) ++ [25, 26, 27, 28, 29, 30, 31, 32, 33, 34]) ++ [35]) ++ [36, 37, 38, 39, 40, 41, 42, 43, 44, 45]) ++ [46]) ++ [47, 48, 49, 50, 51, 52, 53, 54, 55, 56]) ++ [57]) ++ [58, 59, 60, 61, 62, 63, 64, 65, 66, 67]) ++ [101]) ++ [68, 69, 70, 71, 72, 73, 74, 75, 76, 77, 78, 102]) ++ [103]) ++ [79, 80, 81, 82, 83, 84, 85, 86, 87, 88, 89, 104]) ++ [105]) ++ [90, 91, 92, 93, 94, 95, 96, 97, 98, 99, 100, 106]) ++ [107]) ++ [108, 109, 110, 111, 112]) ++ [113]) ++ [114, 115, 116, 117, 118]))
  have r1 : g64 1 = (upd (upd (upd (upd (upd (upd (upd (upd (upd (upd (upd (upd (upd (upd (upd (upd (upd (upd (g 1) 0 (nI (2))) 1 (nI (13))) 2 (nI (159))) 3 (nI (160))) 4 (nI (161))) 5 (nI (143))) 6 (nI (148))) 7 (nI (152))) 8 (nI (155))) 9 (nI (156))) 10 (nI (157))) 11 (nI (158))) 12 (0)) 13 ((-1))) 14 (0)) 15 (0)) 16 ((-1))) 17 (0)) := by rw [eg64, zrM_ne (by decide), r1]
  have r159 : g64 159 = (upd (upd (upd (upd (fun _ => 0) 0 (nI 24)) 1 (nI 35)) 2 (nI 46)) 3 (nI 57)) := by rw [eg64, zrM_ne (by decide), r159]
  have r160 : g64 160 = (upd (upd (upd (fun _ => 0) 0 (nI 101)) 1 (nI 103)) 2 (nI 105)) := by rw [eg64, zrM_ne (by decide), r160]
  have r161 : g64 161 = (upd (upd (fun _ => 0) 0 (nI 107)) 1 (nI 113)) := by rw [eg64, zrM_ne (by decide), r161]
  refine J_dup hS dX7_init_218 rfl ?_
  refine J_callI (Px := fun _ => True) hG hcl dX7_init_219 miX7_93 m_119 rfl (by decide) (by decide) (Nat.le_of_ble_eq_true rfl) (by decide) (by decide) (rl_c (v := .ref (1)) hb (rl_c (v := .int 2) trivial rl_0)) (rn_c (v := .ref (119)) m_119 (rn_c (v := .int 2) trivial (rn_c (v := .ref (161)) m_161 rn_0))) trivial (fun _ _ _ h => h) (i_X1 (Px := fun _ => True) (b := 119) ⟨2, by decide, by decide⟩ (nin5 (by decide +kernel))) (fun S E N1 gq hG hU hcl hq => ?_)
  obtain ⟨hN1, frg65, wf⟩ := hq
  subst hN1
  have hS := hG.1
  have hb := hU _ hb
  have m_2 := hU _ m_2
  have m_13 := hU _ m_13
  have m_159 := hU _ m_159
  have m_160 := hU _ m_160
  have m_161 := hU _ m_161
  have m_143 := hU _ m_143
  have m_148 := hU _ m_148
  have m_152 := hU _ m_152
  have m_155 := hU _ m_155
  have m_156 := hU _ m_156
  have m_157 := hU _ m_157
  have m_158 := hU _ m_158
  have m_24 := hU _ m_24
  have m_35 := hU _ m_35
  have m_46 := hU _ m_46
  have m_57 := hU _ m_57
  have m_101 := hU _ m_101
  have m_103 := hU _ m_103
  have m_105 := hU _ m_105
  have m_107 := hU _ m_107
  have m_113 := hU _ m_113
  have m_119 := hU _ m_119
  obtain ⟨g65, eg65⟩ : ∃ x : Mm, x = gq := ⟨_, rfl⟩
  subst eg65
  have r1 : g65 1 = (upd (upd (upd (upd (upd (upd (upd (upd (upd (upd (upd (upd (upd (upd (upd (upd (upd (upd (g 1) 0 (nI (2))) 1 (nI (13))) 2 (nI (159))) 3 (nI (160))) 4 (nI (161))) 5 (nI (143))) 6 (nI (148))) 7 (nI (152))) 8 (nI (155))) 9 (nI (156))) 10 (nI (157))) 11 (nI (158))) 12 (0)) 13 ((-1))) 14 (0)) 15 (0)) 16 ((-1))) 17 (0)) := (frg65 1 (by decide +kernel) (by decide)).trans r1
  have r159 : g65 159 = (upd (upd (upd (upd (fun _ => 0) 0 (nI 24)) 1 (nI 35)) 2 (nI 46)) 3 (nI 57)) := (frg65 159 (by decide +kernel) (by decide)).trans r159
  have r160 : g65 160 = (upd (upd (upd (fun _ => 0) 0 (nI 101)) 1 (nI 103)) 2 (nI 105)) := (frg65 160 (by decide +kernel) (by decide)).trans r160
  have r161 : g65 161 = (upd (upd (fun _ => 0) 0 (nI 107)) 1 (nI 113)) := (frg65 161 (by decide +kernel) (by decide)).trans r161
  have F49 := Fq.call (N := (((((((((((((((((((((((((((((((((((([1] ++ [2]) ++ [3, 4, 5, 6, 7, 8, 9, 10, 11, 12]) ++ [13]) ++ [14, 15, 16, 17, 18, 19, 20, 21, 22, 23]) ++ [159]) ++ [160]) ++ [161]) ++ [143]) ++ [144, 145, 146, 147]) ++ [148]) ++ [149, 150, 151]) ++ [152]) ++ [153, 154]) ++ [155]) ++ []) ++ [156]) ++ [157]) ++ [158]) ++ [24]) ++ [25, 26, 27, 28, 29, 30, 31, 32, 33, 34]) ++ [35]) ++ [36, 37, 38, 39, 40, 41, 42, 43, 44, 45]) ++ [46]) ++ [47, 48, 49, 50, 51, 52, 53, 54, 55, 56]) ++ [57]) ++ [58, 59, 60, 61, 62, 63, 64, 65, 66, 67]) ++ [101]) ++ [68, 69, 70, 71, 72, 73, 74, 75, 76, 77, 78, 102]) ++ [103]) ++ [79, 80, 81, 82, 83, 84, 85, 86, 87, 88, 89, 104]) ++ [105]) ++ [90, 91, 92, 93, 94, 95, 96, 97, 98, 99, 100, 106]) ++ [107]) ++ [108, 109, 110, 111, 112]) ++ [113]) ++ [114, 115, 116, 117, 118])) eg64 (by decide +kernel) frg65
  have K18 := wf
  refine J_astQ (t0 := 5) (ci := 1) (T := TX1) hS dX7_init_222 m_161 (lg_a aq161.2.1) rfl (fun _ => rfl) rfl ⟨m_119, lgL (b := 119) ⟨2, by decide, by decide⟩⟩ (by decide) (by decide) (by unfold vp_in; decide) (fun g66 eg66 => ?_)
  have eg66 : g66 = u2 g65 161 2 (nI 119) := eg66
  have hcl := Cl.putQ (k := 2) (t := 119) hcl (lg_a aq161.2.1) rfl m_119 (by decide)
  rw [← eg66] at hcl
  have r1 : g66 1 = (upd (upd (upd (upd (upd (upd (upd (upd (upd (upd (upd (upd (upd (upd (upd (upd (upd (upd (g 1) 0 (nI (2))) 1 (nI (13))) 2 (nI (159))) 3 (nI (160))) 4 (nI (161))) 5 (nI (143))) 6 (nI (148))) 7 (nI (152))) 8 (nI (155))) 9 (nI (156))) 10 (nI (157))) 11 (nI (158))) 12 (0)) 13 ((-1))) 14 (0)) 15 (0)) 16 ((-1))) 17 (0)) := by rw [eg66, u2_ne _ (by decide), r1]
  have r159 : g66 159 = (upd (upd (upd (upd (fun _ => 0) 0 (nI 24)) 1 (nI 35)) 2 (nI 46)) 3 (nI 57)) := by rw [eg66, u2_ne _ (by decide), r159]
  have r160 : g66 160 = (upd (upd (upd (fun _ => 0) 0 (nI 101)) 1 (nI 103)) 2 (nI 105)) := by rw [eg66, u2_ne _ (by decide), r160]
  have r161 : g66 161 = (upd (upd (upd (fun _ => 0) 0 (nI 107)) 1 (nI 113)) 2 (nI 119)) := by rw [eg66, u2_row, r161]
  have F50 := Fq.put (N := (((((((((((((((((((((((((((((((((((((([1] ++ [2]) ++ [3, 4, 5, 6, 7, 8, 9, 10, 11, 12]) ++ [13]) ++ [14, 15, 16, 17, 18, 19, 20, 21, 22, 23]) ++ [159]) ++ [160]) ++ [161]) ++ [143]) ++ [144, 145, 146, 147]) ++ [148]) ++ [149, 150, 151]) ++ [152]) ++ [153, 154]) ++ [155]) ++ []) ++ [156]) ++ [157]) ++ [158]) ++ [24]) ++ [25, 26, 27, 28, 29, 30, 31, 32, 33, 34]) ++ [35]) ++ [36, 37, 38, 39, 40, 41, 42, 43, 44, 45]) ++ [46]) ++ [47, 48, 49, 50, 51, 52, 53, 54, 55, 56]) ++ [57]) ++ [58, 59, 60, 61, 62, 63, 64, 65, 66, 67]) ++ [101]) ++ [68, 69, 70, 71, 72, 73, 74, 75, 76, 77, 78, 102]) ++ [103]) ++ [79, 80, 81, 82, 83, 84, 85, 86, 87, 88, 89, 104]) ++ [105]) ++ [90, 91, 92, 93, 94, 95, 96, 97, 98, 99, 100, 106]) ++ [107]) ++ [108, 109, 110, 111, 112]) ++ [113]) ++ [114, 115, 116, 117, 118]) ++ [119]) ++ [120, 121, 122, 123, 124])) eg66 (by decide)
  refine J_iinc (lt := fun z => [some (.ref 1), some (.int z)]) (v := 1) hS dX7_init_223 rfl (by decide) (fun _ => rfl) (fun z ez => ?_)
  have ez : z = 3 := ez.trans (by decide)
  subst ez
  refine J_goto (tgt := 204) hS dX7_init_226 (by decide) ?_
  refine J_iload_n hS dX7_init_204 rfl ?_
  refine J_bipush (v := 6) hS dX7_init_205 (by decide) ?_
  refine J_icmp_ge (tgt := 229) hS dX7_init_207 (by decide) (fun c => absurd c (by decide)) (fun _ => ?_)
  refine J_aload_n hS dX7_init_210 rfl ?_
  refine J_getD hS dX7_init_211 flX7_31 ⟨hb, lg_o ob1.2⟩ rfl (v := .ref 161) (by rw [show g66 1 4 = nI 161 by rw [r1]; rfl]; exact ab2 (by decide) (by decide)) ?_
  refine J_iload_n hS dX7_init_214 rfl ?_
  refine J_newO hG hcl (125) (by decide +kernel) (by omega) dX7_init_215 noX7_29 (lgL (b := 125) ⟨3, by decide, by decide⟩) (rl_c (v := .ref (1)) hb (rl_c (v := .int 3) trivial rl_0)) (rn_c (v := .int 3) trivial (rn_c (v := .ref (161)) m_161 rn_0)) (by decide) (by decide) (fun S E hG hcl => ?_)
  have hS := hG.1
  obtain ⟨g67, eg67⟩ : ∃ x : Mm, x = zrM g66 (125) := ⟨_, rfl⟩
  rw [← eg67] at hcl ⊢
  have hb := mi_a (x := 125) hb
  have m_2 := mi_a (x := 125) m_2
  have m_13 := mi_a (x := 125) m_13
  have m_159 := mi_a (x := 125) m_159
  have m_160 := mi_a (x := 125) m_160
  have m_161 := mi_a (x := 125) m_161
  have m_143 := mi_a (x := 125) m_143
  have m_148 := mi_a (x := 125) m_148
  have m_152 := mi_a (x := 125) m_152
  have m_155 := mi_a (x := 125) m_155
  have m_156 := mi_a (x := 125) m_156
  have m_157 := mi_a (x := 125) m_157
  have m_158 := mi_a (x := 125) m_158
  have m_24 := mi_a (x := 125) m_24
  have m_35 := mi_a (x := 125) m_35
  have m_46 := mi_a (x := 125) m_46
  have m_57 := mi_a (x := 125) m_57
  have m_101 := mi_a (x := 125) m_101
  have m_103 := mi_a (x := 125) m_103
  have m_105 := mi_a (x := 125) m_105
  have m_107 := mi_a (x := 125) m_107
  have m_113 := mi_a (x := 125) m_113
  have m_119 := mi_a (x := 125) m_119
  have m_125 := mi_s (x := 125) (N := (((((((((((((((((((((((((((((((((((((([1] ++ [2]) ++ [3, 4, 5, 6, 7, 8, 9, 10, 11, 12]) ++ [13]) ++ [14, 15, 16, 17, 18, 19, 20, 21, 22, 23]) ++ [159]) ++ [160]) ++ [161]) ++ [143]) ++ [144, 145, 146, 147]) ++ [148]) ++ [149, 150, 151]) ++ [152]) ++ [153, 154]) ++ [155]) ++ []) ++ [156]) ++ [157]) ++ [158]) ++ [24]) ++ [25, 26, 27, 28, 29, 30, 31, 32, 33, 34]) ++ [35]) ++ [36, 37, 38, 39, 40, 41, 42, 43, 44, 45]) ++ [46]) ++ [47, 48, 49, 50, 51, 52, 53, 54, 55, 56]) ++ [57]) ++ [58, 59, 60, 61, 62, 63, 64, 65, 66, 67]) ++ [101]) ++ [68, 69, 70, 71, 72, 73, 74, 75, 76, 77, 78, 102]) ++ [103]) ++ [79, 80, 81, 82, 83, 84, 85, 86, 87, 88, 89, 104]) ++ [105]) ++ [90, 91, 92, 93, 94, 95, 96, 97, 98, 99, 100, 106]) ++ [107]) ++ [108, 109, 110, 111, 112]) ++ [113]) ++ [114, 115, 116, 117, 118]) ++ [119]) ++ [120, 121, 122, 123, 124]))
  have r1 : g67 1 = (upd (upd (upd (upd (upd (upd (upd (upd (upd (upd (upd (upd (upd (upd (upd (upd (upd (upd (g 1) 0 (nI (2))) 1 (nI (13))) 2 (nI (159))) 3 (nI (160))) 4 (nI (161))) 5 (nI (143))) 6 (nI (148))) 7 (nI (152))) 8 (nI (155))) 9 (nI (156))) 10 (nI (157))) 11 (nI (158))) 12 (0)) 13 ((-1))) 14 (0)) 15 (0)) 16 ((-1))) 17 (0)) := by rw [eg67, zrM_ne (by decide), r1]
  have r159 : g67 159 = (upd (upd (upd (upd (fun _ => 0) 0 (nI 24)) 1 (nI 35)) 2 (nI 46)) 3 (nI 57)) := by rw [eg67, zrM_ne (by decide), r159]
  have r160 : g67 160 = (upd (upd (upd (fun _ => 0) 0 (nI 101)) 1 (nI 103)) 2 (nI 105)) := by rw [eg67, zrM_ne (by decide), r160]
  have r161 : g67 161 = (upd (upd (upd (fun _ => 0) 0 (nI 107)) 1 (nI 113)) 2 (nI 119)) := by rw [eg67, zrM_ne (by decide), r161]
  refine J_dup hS dX7_init_218 rfl ?_
  refine J_callI (Px := fun _ => True) hG hcl dX7_init_219 miX7_93 m_125 rfl (by decide) (by decide) (Nat.le_of_ble_eq_true rfl) (by decide) (by decide) (rl_c (v := .ref (1)) hb (rl_c (v := .int 3) trivial rl_0)) (rn_c (v := .ref (125)) m_125 (rn_c (v := .int 3) trivial (rn_c (v := .ref (161)) m_161 rn_0))) trivial (fun _ _ _ h => h) (i_X1 (Px := fun _ => True) (b := 125) ⟨3, by decide, by decide⟩ (nin5 (by decide +kernel))) (fun S E N1 gq hG hU hcl hq => ?_)
  obtain ⟨hN1, frg68, wf⟩ := hq
  subst hN1
  have hS := hG.1
  have hb := hU _ hb
  have m_2 := hU _ m_2
  have m_13 := hU _ m_13
  have m_159 := hU _ m_159
  have m_160 := hU _ m_160
  have m_161 := hU _ m_161
  have m_143 := hU _ m_143
  have m_148 := hU _ m_148
  have m_152 := hU _ m_152
  have m_155 := hU _ m_155
  have m_156 := hU _ m_156
  have m_157 := hU _ m_157
  have m_158 := hU _ m_158
  have m_24 := hU _ m_24
  have m_35 := hU _ m_35
  have m_46 := hU _ m_46
  have m_57 := hU _ m_57
  have m_101 := hU _ m_101
  have m_103 := hU _ m_103
  have m_105 := hU _ m_105
  have m_107 := hU _ m_107
  have m_113 := hU _ m_113
  have m_119 := hU _ m_119
  have m_125 := hU _ m_125
  obtain ⟨g68, eg68⟩ : ∃ x : Mm, x = gq := ⟨_, rfl⟩
  subst eg68
  have r1 : g68 1 = (upd (upd (upd (upd (upd (upd (upd (upd (upd (upd (upd (upd (upd (upd (upd (upd (upd (upd (g 1) 0 (nI (2))) 1 (nI (13))) 2 (nI (159))) 3 (nI (160))) 4 (nI (161))) 5 (nI (143))) 6 (nI (148))) 7 (nI (152))) 8 (nI (155))) 9 (nI (156))) 10 (nI (157))) 11 (nI (158))) 12 (0)) 13 ((-1))) 14 (0)) 15 (0)) 16 ((-1))) 17 (0)) := (frg68 1 (by decide +kernel) (by decide)).trans r1
  have r159 : g68 159 = (upd (upd (upd (upd (fun _ => 0) 0 (nI 24)) 1 (nI 35)) 2 (nI 46)) 3 (nI 57)) := (frg68 159 (by decide +kernel) (by decide)).trans r159
  have r160 : g68 160 = (upd (upd (upd (fun _ => 0) 0 (nI 101)) 1 (nI 103)) 2 (nI 105)) := (frg68 160 (by decide +kernel) (by decide)).trans r160
  have r161 : g68 161 = (upd (upd (upd (fun _ => 0) 0 (nI 107)) 1 (nI 113)) 2 (nI 119)) := (frg68 161 (by decide +kernel) (by decide)).trans r161
  have F51 := Fq.call (N := (((((((((((((((((((((((((((((((((((((([1] ++ [2]) ++ [3, 4, 5, 6, 7, 8, 9, 10, 11, 12]) ++ [13]) ++ [14, 15, 16, 17, 18, 19, 20, 21, 22, 23]) ++ [159]) ++ [160]) ++ [161]) ++ [143]) ++ [144, 145, 146, 147]) ++ [148]) ++ [149, 150, 151]) ++ [152]) ++ [153, 154]) ++ [155]) ++ []) ++ [156]) ++ [157]) ++ [158]) ++ [24]) ++ [25, 26, 27, 28, 29, 30, 31, 32, 33, 34]) ++ [35]) ++ [36, 37, 38, 39, 40, 41, 42, 43, 44, 45]) ++ [46]) ++ [47, 48, 49, 50, 51, 52, 53, 54, 55, 56]) ++ [57]) ++ [58, 59, 60, 61, 62, 63, 64, 65, 66, 67]) ++ [101]) ++ [68, 69, 70, 71, 72, 73, 74, 75, 76, 77, 78, 102]) ++ [103]) ++ [79, 80, 81, 82, 83, 84, 85, 86, 87, 88, 89, 104]) ++ [105]) ++ [90, 91, 92, 93, 94, 95, 96, 97, 98, 99, 100, 106]) ++ [107]) ++ [108, 109, 110, 111, 112]) ++ [113]) ++ [114, 115, 116, 117, 118]) ++ [119]) ++ [120, 121, 122, 123, 124])) eg67 (by decide +kernel) frg68
  have K19 := wf
  refine J_astQ (t0 := 5) (ci := 1) (T := TX1) hS dX7_init_222 m_161 (lg_a aq161.2.1) rfl (fun _ => rfl) rfl ⟨m_125, lgL (b := 125) ⟨3, by decide, by decide⟩⟩ (by decide) (by decide) (by unfold vp_in; decide) (fun g69 eg69 => ?_)
  have eg69 : g69 = u2 g68 161 3 (nI 125) := eg69
  have hcl := Cl.putQ (k := 3) (t := 125) hcl (lg_a aq161.2.1) rfl m_125 (by decide)
  rw [← eg69] at hcl
  have r1 : g69 1 = (upd (upd (upd (upd (upd (upd (upd (upd (upd (upd (upd (upd (upd (upd (upd (upd (upd (upd (g 1) 0 (nI (2))) 1 (nI (13))) 2 (nI (159))) 3 (nI (160))) 4 (nI (161))) 5 (nI (143))) 6 (nI (148))) 7 (nI (152))) 8 (nI (155))) 9 (nI (156))) 10 (nI (157))) 11 (nI (158))) 12 (0)) 13 ((-1))) 14 (0)) 15 (0)) 16 ((-1))) 17 (0)) := by rw [eg69, u2_ne _ (by decide), r1]
  have r159 : g69 159 = (upd (upd (upd (upd (fun _ => 0) 0 (nI 24)) 1 (nI 35)) 2 (nI 46)) 3 (nI 57)) := by rw [eg69, u2_ne _ (by decide), r159]
  have r160 : g69 160 = (upd (upd (upd (fun _ => 0) 0 (nI 101)) 1 (nI 103)) 2 (nI 105)) := by rw [eg69, u2_ne _ (by decide), r160]
  have r161 : g69 161 = (upd (upd (upd (upd (fun _ => 0) 0 (nI 107)) 1 (nI 113)) 2 (nI 119)) 3 (nI 125)) := by rw [eg69, u2_row, r161]
  have F52 := Fq.put (N := (((((((((((((((((((((((((((((((((((((((([1] ++ [2]) ++ [3, 4, 5, 6, 7, 8, 9, 10, 11, 12]) ++ [13]) ++ [14, 15, 16, 17, 18, 19, 20, 21, 22, 23]) ++ [159]) ++ [160]) ++ [161]) ++ [143]) ++ [144, 145, 146, 147]) ++ [148]) ++ [149, 150, 151]) ++ [152]) ++ [153, 154]) ++ [155]) ++ []) ++ [156]) ++ [157]) ++ [158]) ++ [24]) ++ [25, 26, 27, 28, 29, 30, 31, 32, 33, 34]) ++ [35]) ++ [36, 37, 38, 39, 40, 41, 42, 43, 44, 45]) ++ [46]) ++ [47, 48, 49, 50, 51, 52, 53, 54, 55, 56]) ++ [57]) ++ [58, 59, 60, 61, 62, 63, 64, 65, 66, 67]) ++ [101]) ++ [68, 69, 70, 71, 72, 73, 74, 75, 76, 77, 78, 102]) ++ [103]) ++ [79, 80, 81, 82, 83, 84, 85, 86, 87, 88, 89, 104]) ++ [105]) ++ [90, 91, 92, 93, 94, 95, 96, 97, 98, 99, 100, 106]) ++ [107]) ++ [108, 109, 110, 111, 112]) ++ [113]) ++ [114, 115, 116, 117, 118]) ++ [119]) ++ [120, 121, 122, 123, 124]) ++ [125]) ++ [126, 127, 128, 129, 130])) eg69 (by decide)
  refine J_iinc (lt := fun z => [some (.ref 1), some (.int z)]) (v := 1) hS dX7_init_223 rfl (by decide) (fun _ => rfl) (fun z ez => ?_)
  have ez : z = 4 := ez.trans (by decide)
  subst ez
  refine J_goto (tgt := 204) hS dX7_init_226 (by decide) ?_
  refine J_iload_n hS dX7_init_204 rfl ?_
  refine J_bipush (v := 6) hS dX7_init_205 (by decide) ?_
  refine J_icmp_ge (tgt := 229) hS dX7_init_207 (by decide) (fun c => absurd c (by decide)) (fun _ => ?_)
  refine J_aload_n hS dX7_init_210 rfl ?_
  refine J_getD hS dX7_init_211 flX7_31 ⟨hb, lg_o ob1.2⟩ rfl (v := .ref 161) (by rw [show g69 1 4 = nI 161 by rw [r1]; rfl]; exact ab2 (by decide) (by decide)) ?_
  refine J_iload_n hS dX7_init_214 rfl ?_
  refine J_newO hG hcl (131) (by decide +kernel) (by omega) dX7_init_215 noX7_29 (lgL (b := 131) ⟨4, by decide, by decide⟩) (rl_c (v := .ref (1)) hb (rl_c (v := .int 4) trivial rl_0)) (rn_c (v := .int 4) trivial (rn_c (v := .ref (161)) m_161 rn_0)) (by decide) (by decide) (fun S E hG hcl => ?_)
  have hS := hG.1
  obtain ⟨g70, eg70⟩ : ∃ x : Mm, x = zrM g69 (131) := ⟨_, rfl⟩
  rw [← eg70] at hcl ⊢
  have hb := mi_a (x := 131) hb
  have m_2 := mi_a (x := 131) m_2
  have m_13 := mi_a (x := 131) m_13
  have m_159 := mi_a (x := 131) m_159
  have m_160 := mi_a (x := 131) m_160
  have m_161 := mi_a (x := 131) m_161
  have m_143 := mi_a (x := 131) m_143
  have m_148 := mi_a (x := 131) m_148
  have m_152 := mi_a (x := 131) m_152
  have m_155 := mi_a (x := 131) m_155
  have m_156 := mi_a (x := 131) m_156
  have m_157 := mi_a (x := 131) m_157
  have m_158 := mi_a (x := 131) m_158
  have m_24 := mi_a (x := 131) m_24
  have m_35 := mi_a (x := 131) m_35
  have m_46 := mi_a (x := 131) m_46
  have m_57 := mi_a (x := 131) m_57
  have m_101 := mi_a (x := 131) m_101
  have m_103 := mi_a (x := 131) m_103
  have m_105 := mi_a (x := 131) m_105
  have m_107 := mi_a (x := 131) m_107
  have m_113 := mi_a (x := 131) m_113
  have m_119 := mi_a (x := 131) m_119
  have m_125 := mi_a (x := 131) m_125
  have m_131 := mi_s (x := 131) (N := (((((((((((((((((((((((((((((((((((((((([1] ++ [2]) ++ [3, 4, 5, 6, 7, 8, 9, 10, 11, 12]) ++ [13]) ++ [14, 15, 16, 17, 18, 19, 20, 21, 22, 23]) ++ [159]) ++ [160]) ++ [161]) ++ [143]) ++ [144, 145, 146, 147]) ++ [148]) ++ [149, 150, 151]) ++ [152]) ++ [153, 154]) ++ [155]) ++ []) ++ [156]) ++ [157]) ++ [158]) ++ [24]) ++ [25, 26, 27, 28, 29, 30, 31, 32, 33, 34]) ++ [35]) ++ [36, 37, 38, 39, 40, 41, 42, 43, 44, 45]) ++ [46]) ++ [47, 48, 49, 50, 51, 52, 53, 54, 55, 56]) ++ [57]) ++ [58, 59, 60, 61, 62, 63, 64, 65, 66, 67]) ++ [101]) ++ [68, 69, 70, 71, 72, 73, 74, 75, 76, 77, 78, 102]) ++ [103]) ++ [79, 80, 81, 82, 83, 84, 85, 86, 87, 88, 89, 104]) ++ [105]) ++ [90, 91, 92, 93, 94, 95, 96, 97, 98, 99, 100, 106]) ++ [107]) ++ [108, 109, 110, 111, 112]) ++ [113]) ++ [114, 115, 116, 117, 118]) ++ [119]) ++ [120, 121, 122, 123, 124]) ++ [125]) ++ [126, 127, 128, 129, 130]))
  have r1 : g70 1 = (upd (upd (upd (upd (upd (upd (upd (upd (upd (upd (upd (upd (upd (upd (upd (upd (upd (upd (g 1) 0 (nI (2))) 1 (nI (13))) 2 (nI (159))) 3 (nI (160))) 4 (nI (161))) 5 (nI (143))) 6 (nI (148))) 7 (nI (152))) 8 (nI (155))) 9 (nI (156))) 10 (nI (157))) 11 (nI (158))) 12 (0)) 13 ((-1))) 14 (0)) 15 (0)) 16 ((-1))) 17 (0)) := by rw [eg70, zrM_ne (by decide), r1]
  have r159 : g70 159 = (upd (upd (upd (upd (fun _ => 0) 0 (nI 24)) 1 (nI 35)) 2 (nI 46)) 3 (nI 57)) := by rw [eg70, zrM_ne (by decide), r159]
  have r160 : g70 160 = (upd (upd (upd (fun _ => 0) 0 (nI 101)) 1 (nI 103)) 2 (nI 105)) := by rw [eg70, zrM_ne (by decide), r160]
  have r161 : g70 161 = (upd (upd (upd (upd (fun _ => 0) 0 (nI 107)) 1 (nI 113)) 2 (nI 119)) 3 (nI 125)) := by rw [eg70, zrM_ne (by decide), r161]
  refine J_dup hS dX7_init_218 rfl ?_
  refine J_callI (Px := fun _ => True) hG hcl dX7_init_219 miX7_93 m_131 rfl (by decide) (by decide) (Nat.le_of_ble_eq_true rfl) (by decide) (by decide) (rl_c (v := .ref (1)) hb (rl_c (v := .int 4) trivial rl_0)) (rn_c (v := .ref (131)) m_131 (rn_c (v := .int 4) trivial (rn_c (v := .ref (161)) m_161 rn_0))) trivial (fun _ _ _ h => h) (i_X1 (Px := fun _ => True) (b := 131) ⟨4, by decide, by decide⟩ (nin5 (by decide +kernel))) (fun S E N1 gq hG hU hcl hq => ?_)
  obtain ⟨hN1, frg71, wf⟩ := hq
  subst hN1
  have hS := hG.1
  have hb := hU _ hb
  have m_2 := hU _ m_2
  have m_13 := hU _ m_13
  have m_159 := hU _ m_159
  have m_160 := hU _ m_160
  have m_161 := hU _ m_161
  have m_143 := hU _ m_143
  have m_148 := hU _ m_148
  have m_152 := hU _ m_152
  have m_155 := hU _ m_155
  have m_156 := hU _ m_156
  have m_157 := hU _ m_157
  have m_158 := hU _ m_158
  have m_24 := hU _ m_24
  have m_35 := hU _ m_35
  have m_46 := hU _ m_46
  have m_57 := hU _ m_57
  have m_101 := hU _ m_101
  have m_103 := hU _ m_103
  have m_105 := hU _ m_105
  have m_107 := hU _ m_107
  have m_113 := hU _ m_113
  have m_119 := hU _ m_119
  have m_125 := hU _ m_125
  have m_131 := hU _ m_131
  obtain ⟨g71, eg71⟩ : ∃ x : Mm, x = gq := ⟨_, rfl⟩
  subst eg71
  have r1 : g71 1 = (upd (upd (upd (upd (upd (upd (upd (upd (upd (upd (upd (upd (upd (upd (upd (upd (upd (upd (g 1) 0 (nI (2))) 1 (nI (13))) 2 (nI (159))) 3 (nI (160))) 4 (nI (161))) 5 (nI (143))) 6 (nI (148))) 7 (nI (152))) 8 (nI (155))) 9 (nI (156))) 10 (nI (157))) 11 (nI (158))) 12 (0)) 13 ((-1))) 14 (0)) 15 (0)) 16 ((-1))) 17 (0)) := (frg71 1 (by decide +kernel) (by decide)).trans r1
  have r159 : g71 159 = (upd (upd (upd (upd (fun _ => 0) 0 (nI 24)) 1 (nI 35)) 2 (nI 46)) 3 (nI 57)) := (frg71 159 (by decide +kernel) (by decide)).trans r159
  have r160 : g71 160 = (upd (upd (upd (fun _ => 0) 0 (nI 101)) 1 (nI 103)) 2 (nI 105)) := (frg71 160 (by decide +kernel) (by decide)).trans r160
  have r161 : g71 161 = (upd (upd (upd (upd (fun _ => 0) 0 (nI 107)) 1 (nI 113)) 2 (nI 119)) 3 (nI 125)) := (frg71 161 (by decide +kernel) (by decide)).trans r161
  have F53 := Fq.call (N := (((((((((((((((((((((((((((((((((((((((([1] ++ [2]) ++ [3, 4, 5, 6, 7, 8, 9, 10, 11, 12]) ++ [13]) ++ [14, 15, 16, 17, 18, 19, 20, 21, 22, 23]) ++ [159]) ++ [160]) ++ [161]) ++ [143]) ++ [144, 145, 146, 147]) ++ [148]) ++ [149, 150, 151]) ++ [152]) ++ [153, 154]) ++ [155]) ++ []) ++ [156]) ++ [157]) ++ [158]) ++ [24]) ++ [25, 26, 27, 28, 29, 30, 31, 32, 33, 34]) ++ [35]) ++ [36, 37, 38, 39, 40, 41, 42, 43, 44, 45]) ++ [46]) ++ [47, 48, 49, 50, 51, 52, 53, 54, 55, 56]) ++ [57]) ++ [58, 59, 60, 61, 62, 63, 64, 65, 66, 67]) ++ [101]) ++ [68, 69, 70, 71, 72, 73, 74, 75, 76, 77, 78, 102]) ++ [103]) ++ [79, 80, 81, 82, 83, 84, 85, 86, 87, 88, 89, 104]) ++ [105]) ++ [90, 91, 92, 93, 94, 95, 96, 97, 98, 99, 100, 106]) ++ [107]) ++ [108, 109, 110, 111, 112]) ++ [113]) ++ [114, 115, 116, 117, 118]) ++ [119]) ++ [120, 121, 122, 123, 124]) ++ [125]) ++ [126, 127, 128, 129, 130])) eg70 (by decide +kernel) frg71
  have K20 := wf
  refine J_astQ (t0 := 5) (ci := 1) (T := TX1) hS dX7_init_222 m_161 (lg_a aq161.2.1) rfl (fun _ => rfl) rfl ⟨m_131, lgL (b := 131) ⟨4, by decide, by decide⟩⟩ (by decide) (by decide) (by unfold vp_in; decide) (fun g72 eg72 => ?_)
  have eg72 : g72 = u2 g71 161 4 (nI 131) := eg72
  have hcl := Cl.putQ (k := 4) (t := 131) hcl (lg_a aq161.2.1) rfl m_131 (by decide)
  rw [← eg72] at hcl
  have r1 : g72 1 = (upd (upd (upd (upd (upd (upd (upd (upd (upd (upd (upd (upd (upd (upd (upd (upd (upd (upd (g 1) 0 (nI (2))) 1 (nI (13))) 2 (nI (159))) 3 (nI (160))) 4 (nI (161))) 5 (nI (143))) 6 (nI (148))) 7 (nI (152))) 8 (nI (155))) 9 (nI (156))) 10 (nI (157))) 11 (nI (158))) 12 (0)) 13 ((-1))) 14 (0)) 15 (0)) 16 ((-1))) 17 (0)) := by rw [eg72, u2_ne _ (by decide), r1]
  have r159 : g72 159 = (upd (upd (upd (upd (fun _ => 0) 0 (nI 24)) 1 (nI 35)) 2 (nI 46)) 3 (nI 57)) := by rw [eg72, u2_ne _ (by decide), r159]
  have r160 : g72 160 = (upd (upd (upd (fun _ => 0) 0 (nI 101)) 1 (nI 103)) 2 (nI 105)) := by rw [eg72, u2_ne _ (by decide), r160]
  have r161 : g72 161 = (upd (upd (upd (upd (upd (fun _ => 0) 0 (nI 107)) 1 (nI 113)) 2 (nI 119)) 3 (nI 125)) 4 (nI 131)) := by rw [eg72, u2_row, r161]
  have F54 := Fq.put (N := (((((((((((((((((((((((((((((((((((((((((([1] ++ [2]) ++ [3, 4, 5, 6, 7, 8, 9, 10, 11, 12]) ++ [13]) ++ [14, 15, 16, 17, 18, 19, 20, 21, 22, 23]) ++ [159]) ++ [160]) ++ [161]) ++ [143]) ++ [144, 145, 146, 147]) ++ [148]) ++ [149, 150, 151]) ++ [152]) ++ [153, 154]) ++ [155]) ++ []) ++ [156]) ++ [157]) ++ [158]) ++ [24]) ++ [25, 26, 27, 28, 29, 30, 31, 32, 33, 34]) ++ [35]) ++ [36, 37, 38, 39, 40, 41, 42, 43, 44, 45]) ++ [46]) ++ [47, 48, 49, 50, 51, 52, 53, 54, 55, 56]) ++ [57]) ++ [58, 59, 60, 61, 62, 63, 64, 65, 66, 67]) ++ [101]) ++ [68, 69, 70, 71, 72, 73, 74, 75, 76, 77, 78, 102]) ++ [103]) ++ [79, 80, 81, 82, 83, 84, 85, 86, 87, 88, 89, 104]) ++ [105]) ++ [90, 91, 92, 93, 94, 95, 96, 97, 98, 99, 100, 106]) ++ [107]) ++ [108, 109, 110, 111, 112]) ++ [113]) ++ [114, 115, 116, 117, 118]) ++ [119]) ++ [120, 121, 122, 123, 124]) ++ [125]) ++ [126, 127, 128, 129, 130]) ++ [131]) ++ [132, 133, 134, 135, 136])) eg72 (by decide)
  refine J_iinc (lt := fun z => [some (.ref 1), some (.int z)]) (v := 1) hS dX7_init_223 rfl (by decide) (fun _ => rfl) (fun z ez => ?_)
  have ez : z = 5 := ez.trans (by decide)
  subst ez
  refine J_goto (tgt := 204) hS dX7_init_226 (by decide) ?_
  refine J_iload_n hS dX7_init_204 rfl ?_
  refine J_bipush (v := 6) hS dX7_init_205 (by decide) ?_
  refine J_icmp_ge (tgt := 229) hS dX7_init_207 (by decide) (fun c => absurd c (by decide)) (fun _ => ?_)
  refine J_aload_n hS dX7_init_210 rfl ?_
  refine J_getD hS dX7_init_211 flX7_31 ⟨hb, lg_o ob1.2⟩ rfl (v := .ref 161) (by rw [show g72 1 4 = nI 161 by rw [r1]; rfl]; exact ab2 (by decide) (by decide)) ?_
  refine J_iload_n hS dX7_init_214 rfl ?_
  refine J_newO hG hcl (137) (by decide +kernel) (by omega) dX7_init_215 noX7_29 (lgL (b := 137) ⟨5, by decide, by decide⟩) (rl_c (v := .ref (1)) hb (rl_c (v := .int 5) trivial rl_0)) (rn_c (v := .int 5) trivial (rn_c (v := .ref (161)) m_161 rn_0)) (by decide) (by decide) (fun S E hG hcl => ?_)
  have hS := hG.1
  obtain ⟨g73, eg73⟩ : ∃ x : Mm, x = zrM g72 (137) := ⟨_, rfl⟩
  rw [← eg73] at hcl ⊢
  have hb := mi_a (x := 137) hb
  have m_2 := mi_a (x := 137) m_2
  have m_13 := mi_a (x := 137) m_13
  have m_159 := mi_a (x := 137) m_159
  have m_160 := mi_a (x := 137) m_160
  have m_161 := mi_a (x := 137) m_161
  have m_143 := mi_a (x := 137) m_143
  have m_148 := mi_a (x := 137) m_148
  have m_152 := mi_a (x := 137) m_152
  have m_155 := mi_a (x := 137) m_155
  have m_156 := mi_a (x := 137) m_156
  have m_157 := mi_a (x := 137) m_157
  have m_158 := mi_a (x := 137) m_158
  have m_24 := mi_a (x := 137) m_24
  have m_35 := mi_a (x := 137) m_35
  have m_46 := mi_a (x := 137) m_46
  have m_57 := mi_a (x := 137) m_57
  have m_101 := mi_a (x := 137) m_101
  have m_103 := mi_a (x := 137) m_103
  have m_105 := mi_a (x := 137) m_105
  have m_107 := mi_a (x := 137) m_107
  have m_113 := mi_a (x := 137) m_113
  have m_119 := mi_a (x := 137) m_119
  have m_125 := mi_a (x := 137) m_125
  have m_131 := mi_a (x := 137) m_131
  have m_137 := mi_s (x := 137) (N := (((((((((((((((((((((((((((((((((((((((((([1] ++ [2]) ++ [3, 4, 5, 6, 7, 8, 9, 10, 11, 12]) ++ [13]) ++ [14, 15, 16, 17, 18, 19, 20, 21, 22, 23]) ++ [159]) ++ [160]) ++ [161]) ++ [143]) ++ [144, 145, 146, 147]) ++ [148]) ++ [149, 150, 151]) ++ [152]) ++ [153, 154]) ++ [155]) ++ []) ++ [156]) ++ [157]) ++ [158]) ++ [24]) ++ [25, 26, 27, 28, 29, 30, 31, 32, 33, 34]) ++ [35]) ++ [36, 37, 38, 39, 40, 41, 42, 43, 44, 45]) ++ [46]) ++ [47, 48, 49, 50, 51, 52, 53, 54, 55, 56]) ++ [57]) ++ [58, 59, 60, 61, 62, 63, 64, 65, 66, 67]) ++ [101]) ++ [68, 69, 70, 71, 72, 73, 74, 75, 76, 77, 78, 102]) ++ [103]) ++ [79, 80, 81, 82, 83, 84, 85, 86, 87, 88, 89, 104]) ++ [105]) ++ [90, 91, 92, 93, 94, 95, 96, 97, 98, 99, 100, 106]) ++ [107]) ++ [108, 109, 110, 111, 112]) ++ [113]) ++ [114, 115, 116, 117, 118]) ++ [119]) ++ [120, 121, 122, 123, 124]) ++ [125]) ++ [126, 127, 128, 129, 130]) ++ [131]) ++ [132, 133, 134, 135, 136]))
  have r1 : g73 1 = (upd (upd (upd (upd (upd (upd (upd (upd (upd (upd (upd (upd (upd (upd (upd (upd (upd (upd (g 1) 0 (nI (2))) 1 (nI (13))) 2 (nI (159))) 3 (nI (160))) 4 (nI (161))) 5 (nI (143))) 6 (nI (148))) 7 (nI (152))) 8 (nI (155))) 9 (nI (156))) 10 (nI (157))) 11 (nI (158))) 12 (0)) 13 ((-1))) 14 (0)) 15 (0)) 16 ((-1))) 17 (0)) := by rw [eg73, zrM_ne (by decide), r1]
  have r159 : g73 159 = (upd (upd (upd (upd (fun _ => 0) 0 (nI 24)) 1 (nI 35)) 2 (nI 46)) 3 (nI 57)) := by rw [eg73, zrM_ne (by decide), r159]
  have r160 : g73 160 = (upd (upd (upd (fun _ => 0) 0 (nI 101)) 1 (nI 103)) 2 (nI 105)) := by rw [eg73, zrM_ne (by decide), r160]
  have r161 : g73 161 = (upd (upd (upd (upd (upd (fun _ => 0) 0 (nI 107)) 1 (nI 113)) 2 (nI 119)) 3 (nI 125)) 4 (nI 131)) := by rw [eg73, zrM_ne (by decide), r161]
  refine J_dup hS dX7_init_218 rfl ?_
  refine J_callI (Px := fun _ => True) hG hcl dX7_init_219 miX7_93 m_137 rfl (by decide) (by decide) (Nat.le_of_ble_eq_true rfl) (by decide) (by decide) (rl_c (v := .ref (1)) hb (rl_c (v := .int 5) trivial rl_0)) (rn_c (v := .ref (137)) m_137 (rn_c (v := .int 5) trivial (rn_c (v := .ref (161)) m_161 rn_0))) trivial (fun _ _ _ h => h) (i_X1 (Px := fun _ => True) (b := 137) ⟨5, by decide, by decide⟩ (nin5 (by decide +kernel))) (fun S E N1 gq hG hU hcl hq => ?_)
  obtain ⟨hN1, frg74, wf⟩ := hq
  subst hN1
  have hS := hG.1
  have hb := hU _ hb
  have m_2 := hU _ m_2
  have m_13 := hU _ m_13
  have m_159 := hU _ m_159
  have m_160 := hU _ m_160
  have m_161 := hU _ m_161
  have m_143 := hU _ m_143
  have m_148 := hU _ m_148
  have m_152 := hU _ m_152
  have m_155 := hU _ m_155
  have m_156 := hU _ m_156
  have m_157 := hU _ m_157
  have m_158 := hU _ m_158
  have m_24 := hU _ m_24
  have m_35 := hU _ m_35
  have m_46 := hU _ m_46
  have m_57 := hU _ m_57
  have m_101 := hU _ m_101
  have m_103 := hU _ m_103
  have m_105 := hU _ m_105
  have m_107 := hU _ m_107
  have m_113 := hU _ m_113
  have m_119 := hU _ m_119
  have m_125 := hU _ m_125
  have m_131 := hU _ m_131
  have m_137 := hU _ m_137
  obtain ⟨g74, eg74⟩ : ∃ x : Mm, x = gq := ⟨_, rfl⟩
  subst eg74
  have r1 : g74 1 = (upd (upd (upd (upd (upd (upd (upd (upd (upd (upd (upd (upd (upd (upd (upd (upd (upd (upd (g 1) 0 (nI (2))) 1 (nI (13))) 2 (nI (159))) 3 (nI (160))) 4 (nI (161))) 5 (nI (143))) 6 (nI (148))) 7 (nI (152))) 8 (nI (155))) 9 (nI (156))) 10 (nI (157))) 11 (nI (158))) 12 (0)) 13 ((-1))) 14 (0)) 15 (0)) 16 ((-1))) 17 (0)) := (frg74 1 (by decide +kernel) (by decide)).trans r1
  have r159 : g74 159 = (upd (upd (upd (upd (fun _ => 0) 0 (nI 24)) 1 (nI 35)) 2 (nI 46)) 3 (nI 57)) := (frg74 159 (by decide +kernel) (by decide)).trans r159
  have r160 : g74 160 = (upd (upd (upd (fun _ => 0) 0 (nI 101)) 1 (nI 103)) 2 (nI 105)) := (frg74 160 (by decide +kernel) (by decide)).trans r160
  have r161 : g74 161 = (upd (upd (upd (upd (upd (fun _ => 0) 0 (nI 107)) 1 (nI 113)) 2 (nI 119)) 3 (nI 125)) 4 (nI 131)) := (frg74 161 (by decide +kernel) (by decide)).trans r161
  have F55 := Fq.call (N := (((((((((((((((((((((((((((((((((((((((((([1] ++ [2]) ++ [3, 4, 5, 6, 7, 8, 9, 10, 11, 12]) ++ [13]) ++ [14, 15, 16, 17, 18, 19, 20, 21, 22, 23]) ++ [159]) ++ [160]) ++ [161]) ++ [143]) ++ [144, 145, 146, 147]) ++ [148]) ++ [149, 150, 151]) ++ [152]) ++ [153, 154]) ++ [155]) ++ []) ++ [156]) ++ [157]) ++ [158]) ++ [24]) ++ [25, 26, 27, 28, 29, 30, 31, 32, 33, 34]) ++ [35]) ++ [36, 37, 38, 39, 40, 41, 42, 43, 44, 45]) ++ [46]) ++ [47, 48, 49, 50, 51, 52, 53, 54, 55, 56]) ++ [57]) ++ [58, 59, 60, 61, 62, 63, 64, 65, 66, 67]) ++ [101]) ++ [68, 69, 70, 71, 72, 73, 74, 75, 76, 77, 78, 102]) ++ [103]) ++ [79, 80, 81, 82, 83, 84, 85, 86, 87, 88, 89, 104]) ++ [105]) ++ [90, 91, 92, 93, 94, 95, 96, 97, 98, 99, 100, 106]) ++ [107]) ++ [108, 109, 110, 111, 112]) ++ [113]) ++ [114, 115, 116, 117, 118]) ++ [119]) ++ [120, 121, 122, 123, 124]) ++ [125]) ++ [126, 127, 128, 129, 130]) ++ [131]) ++ [132, 133, 134, 135, 136])) eg73 (by decide +kernel) frg74
  have K21 := wf
  refine J_astQ (t0 := 5) (ci := 1) (T := TX1) hS dX7_init_222 m_161 (lg_a aq161.2.1) rfl (fun _ => rfl) rfl ⟨m_137, lgL (b := 137) ⟨5, by decide, by decide⟩⟩ (by decide) (by decide) (by unfold vp_in; decide) (fun g75 eg75 => ?_)
  have eg75 : g75 = u2 g74 161 5 (nI 137) := eg75
  have hcl := Cl.putQ (k := 5) (t := 137) hcl (lg_a aq161.2.1) rfl m_137 (by decide)
  rw [← eg75] at hcl
  have r1 : g75 1 = (upd (upd (upd (upd (upd (upd (upd (upd (upd (upd (upd (upd (upd (upd (upd (upd (upd (upd (g 1) 0 (nI (2))) 1 (nI (13))) 2 (nI (159))) 3 (nI (160))) 4 (nI (161))) 5 (nI (143))) 6 (nI (148))) 7 (nI (152))) 8 (nI (155))) 9 (nI (156))) 10 (nI (157))) 11 (nI (158))) 12 (0)) 13 ((-1))) 14 (0)) 15 (0)) 16 ((-1))) 17 (0)) := by rw [eg75, u2_ne _ (by decide), r1]
  have r159 : g75 159 = (upd (upd (upd (upd (fun _ => 0) 0 (nI 24)) 1 (nI 35)) 2 (nI 46)) 3 (nI 57)) := by rw [eg75, u2_ne _ (by decide), r159]
  have r160 : g75 160 = (upd (upd (upd (fun _ => 0) 0 (nI 101)) 1 (nI 103)) 2 (nI 105)) := by rw [eg75, u2_ne _ (by decide), r160]
  have r161 : g75 161 = (upd (upd (upd (upd (upd (upd (fun _ => 0) 0 (nI 107)) 1 (nI 113)) 2 (nI 119)) 3 (nI 125)) 4 (nI 131)) 5 (nI 137)) := by rw [eg75, u2_row, r161]
  have F56 := Fq.put (N := (((((((((((((((((((((((((((((((((((((((((((([1] ++ [2]) ++ [3, 4, 5, 6, 7, 8, 9, 10, 11, 12]) ++ [13]) ++ [14, 15, 16, 17, 18, 19, 20, 21, 22, 23]) ++ [159]) ++ [160]) ++ [161]) ++ [143]) ++ [144, 145, 146, 147]) ++ [148]) ++ [149, 150, 151]) ++ [152]) ++ [153, 154]) ++ [155]) ++ []) ++ [156]) ++ [157]) ++ [158]) ++ [24]) ++ [25, 26, 27, 28, 29, 30, 31, 32, 33, 34]) ++ [35]) ++ [36, 37, 38, 39, 40, 41, 42, 43, 44, 45]) ++ [46]) ++ [47, 48, 49, 50, 51, 52, 53, 54, 55, 56]) ++ [57]) ++ [58, 59, 60, 61, 62, 63, 64, 65, 66, 67]) ++ [101]) ++ [68, 69, 70, 71, 72, 73, 74, 75, 76, 77, 78, 102]) ++ [103]) ++ [79, 80, 81, 82, 83, 84, 85, 86, 87, 88, 89, 104]) ++ [105]) ++ [90, 91, 92, 93, 94, 95, 96, 97, 98, 99, 100, 106]) ++ [107]) ++ [108, 109, 110, 111, 112]) ++ [113]) ++ [114, 115, 116, 117, 118]) ++ [119]) ++ [120, 121, 122, 123, 124]) ++ [125]) ++ [126, 127, 128, 129, 130]) ++ [131]) ++ [132, 133, 134, 135, 136]) ++ [137]) ++ [138, 139, 140, 141, 142])) eg75 (by decide)
  refine J_iinc (lt := fun z => [some (.ref 1), some (.int z)]) (v := 1) hS dX7_init_223 rfl (by decide) (fun _ => rfl) (fun z ez => ?_)
  have ez : z = 6 := ez.trans (by decide)
  subst ez
  refine J_goto (tgt := 204) hS dX7_init_226 (by decide) ?_
  refine J_iload_n hS dX7_init_204 rfl ?_
  refine J_bipush (v := 6) hS dX7_init_205 (by decide) ?_
  refine J_icmp_ge (tgt := 229) hS dX7_init_207 (by decide) (fun _ => ?_) (fun c => absurd (by decide) c)
  refine J_vretG hG hcl hZ hr dX7_init_229 (by decide) (by decide) ?_
  have T56 : ∀ c ∈ (((((((((((((((((((((((((((((((((((((((((((([1] ++ [2]) ++ [3, 4, 5, 6, 7, 8, 9, 10, 11, 12]) ++ [13]) ++ [14, 15, 16, 17, 18, 19, 20, 21, 22, 23]) ++ [159]) ++ [160]) ++ [161]) ++ [143]) ++ [144, 145, 146, 147]) ++ [148]) ++ [149, 150, 151]) ++ [152]) ++ [153, 154]) ++ [155]) ++ []) ++ [156]) ++ [157]) ++ [158]) ++ [24]) ++ [25, 26, 27, 28, 29, 30, 31, 32, 33, 34]) ++ [35]) ++ [36, 37, 38, 39, 40, 41, 42, 43, 44, 45]) ++ [46]) ++ [47, 48, 49, 50, 51, 52, 53, 54, 55, 56]) ++ [57]) ++ [58, 59, 60, 61, 62, 63, 64, 65, 66, 67]) ++ [101]) ++ [68, 69, 70, 71, 72, 73, 74, 75, 76, 77, 78, 102]) ++ [103]) ++ [79, 80, 81, 82, 83, 84, 85, 86, 87, 88, 89, 104]) ++ [105]) ++ [90, 91, 92, 93, 94, 95, 96, 97, 98, 99, 100, 106]) ++ [107]) ++ [108, 109, 110, 111, 112]) ++ [113]) ++ [114, 115, 116, 117, 118]) ++ [119]) ++ [120, 121, 122, 123, 124]) ++ [125]) ++ [126, 127, 128, 129, 130]) ++ [131]) ++ [132, 133, 134, 135, 136]) ++ [137]) ++ [138, 139, 140, 141, 142]), c ∈ (((((((((((((((((((((((((((((((((((((((((((([1] ++ [2]) ++ [3, 4, 5, 6, 7, 8, 9, 10, 11, 12]) ++ [13]) ++ [14, 15, 16, 17, 18, 19, 20, 21, 22, 23]) ++ [159]) ++ [160]) ++ [161]) ++ [143]) ++ [144, 145, 146, 147]) ++ [148]) ++ [149, 150, 151]) ++ [152]) ++ [153, 154]) ++ [155]) ++ []) ++ [156]) ++ [157]) ++ [158]) ++ [24]) ++ [25, 26, 27, 28, 29, 30, 31, 32, 33, 34]) ++ [35]) ++ [36, 37, 38, 39, 40, 41, 42, 43, 44, 45]) ++ [46]) ++ [47, 48, 49, 50, 51, 52, 53, 54, 55, 56]) ++ [57]) ++ [58, 59, 60, 61, 62, 63, 64, 65, 66, 67]) ++ [101]) ++ [68, 69, 70, 71, 72, 73, 74, 75, 76, 77, 78, 102]) ++ [103]) ++ [79, 80, 81, 82, 83, 84, 85, 86, 87, 88, 89, 104]) ++ [105]) ++ [90, 91, 92, 93, 94, 95, 96, 97, 98, 99, 100, 106]) ++ [107]) ++ [108, 109, 110, 111, 112]) ++ [113]) ++ [114, 115, 116, 117, 118]) ++ [119]) ++ [120, 121, 122, 123, 124]) ++ [125]) ++ [126, 127, 128, 129, 130]) ++ [131]) ++ [132, 133, 134, 135, 136]) ++ [137]) ++ [138, 139, 140, 141, 142]) := fun _ h => h
  have Q56 : Fq (((((((((((((((((((((((((((((((((((((((((((([1] ++ [2]) ++ [3, 4, 5, 6, 7, 8, 9, 10, 11, 12]) ++ [13]) ++ [14, 15, 16, 17, 18, 19, 20, 21, 22, 23]) ++ [159]) ++ [160]) ++ [161]) ++ [143]) ++ [144, 145, 146, 147]) ++ [148]) ++ [149, 150, 151]) ++ [152]) ++ [153, 154]) ++ [155]) ++ []) ++ [156]) ++ [157]) ++ [158]) ++ [24]) ++ [25, 26, 27, 28, 29, 30, 31, 32, 33, 34]) ++ [35]) ++ [36, 37, 38, 39, 40, 41, 42, 43, 44, 45]) ++ [46]) ++ [47, 48, 49, 50, 51, 52, 53, 54, 55, 56]) ++ [57]) ++ [58, 59, 60, 61, 62, 63, 64, 65, 66, 67]) ++ [101]) ++ [68, 69, 70, 71, 72, 73, 74, 75, 76, 77, 78, 102]) ++ [103]) ++ [79, 80, 81, 82, 83, 84, 85, 86, 87, 88, 89, 104]) ++ [105]) ++ [90, 91, 92, 93, 94, 95, 96, 97, 98, 99, 100, 106]) ++ [107]) ++ [108, 109, 110, 111, 112]) ++ [113]) ++ [114, 115, 116, 117, 118]) ++ [119]) ++ [120, 121, 122, 123, 124]) ++ [125]) ++ [126, 127, 128, 129, 130]) ++ [131]) ++ [132, 133, 134, 135, 136]) ++ [137]) ++ [138, 139, 140, 141, 142]) g75 g75 := fun _ _ _ _ _ _ => rfl
  have Q55 := Fq.trans F56 (fun c h => by first | exact h | exact List.mem_append_left _ h | exact List.mem_append_left _ (List.mem_append_left _ h)) Q56
  have Q54 := Fq.trans F55 (fun c h => by first | exact h | exact List.mem_append_left _ h | exact List.mem_append_left _ (List.mem_append_left _ h)) Q55
  have Q53 := Fq.trans F54 (fun c h => by first | exact h | exact List.mem_append_left _ h | exact List.mem_append_left _ (List.mem_append_left _ h)) Q54
  have Q52 := Fq.trans F53 (fun c h => by first | exact h | exact List.mem_append_left _ h | exact List.mem_append_left _ (List.mem_append_left _ h)) Q53
  have Q51 := Fq.trans F52 (fun c h => by first | exact h | exact List.mem_append_left _ h | exact List.mem_append_left _ (List.mem_append_left _ h)) Q52
  have Q50 := Fq.trans F51 (fun c h => by first | exact h | exact List.mem_append_left _ h | exact List.mem_append_left _ (List.mem_append_left _ h)) Q51
  have Q49 := Fq.trans F50 (fun c h => by first | exact h | exact List.mem_append_left _ h | exact List.mem_append_left _ (List.mem_append_left _ h)) Q50
  have Q48 := Fq.trans F49 (fun c h => by first | exact h | exact List.mem_append_left _ h | exact List.mem_append_left _ (List.mem_append_left _ h)) Q49
  have Q47 := Fq.trans F48 (fun c h => by first | exact h | exact List.mem_append_left _ h | exact List.mem_append_left _ (List.mem_append_left _ h)) Q48
  have Q46 := Fq.trans F47 (fun c h => by first | exact h | exact List.mem_append_left _ h | exact List.mem_append_left _ (List.mem_append_left _ h)) Q47
  have Q45 := Fq.trans F46 (fun c h => by first | exact h | exact List.mem_append_left _ h | exact List.mem_append_left _ (List.mem_append_left _ h)) Q46
  have Q44 := Fq.trans F45 (fun c h => by first | exact h | exact List.mem_append_left _ h | exact List.mem_append_left _ (List.mem_append_left _ h)) Q45
  have Q43 := Fq.trans F44 (fun c h => by first | exact h | exact List.mem_append_left _ h | exact List.mem_append_left _ (List.mem_append_left _ h)) Q44
  have Q42 := Fq.trans F43 (fun c h => by first | exact h | exact List.mem_append_left _ h | exact List.mem_append_left _ (List.mem_append_left _ h)) Q43
  have Q41 := Fq.trans F42 (fun c h => by first | exact h | exact List.mem_append_left _ h | exact List.mem_append_left _ (List.mem_append_left _ h)) Q42
  have Q40 := Fq.trans F41 (fun c h => by first | exact h | exact List.mem_append_left _ h | exact List.mem_append_left _ (List.mem_append_left _ h)) Q41
  have Q39 := Fq.trans F40 (fun c h => by first | exact h | exact List.mem_append_left _ h | exact List.mem_append_left _ (List.mem_append_left _ h)) Q40
  have Q38 := Fq.trans F39 (fun c h => by first | exact h | exact List.mem_append_left _ h | exact List.mem_append_left _ (List.mem_append_left _ h)) Q39
  have Q37 := Fq.trans F38 (fun c h => by first | exact h | exact List.mem_append_left _ h | exact List.mem_append_left _ (List.mem_append_left _ h)) Q38
  have Q36 := Fq.trans F37 (fun c h => by first | exact h | exact List.mem_append_left _ h | exact List.mem_append_left _ (List.mem_append_left _ h)) Q37
  have Q35 := Fq.trans F36 (fun c h => by first | exact h | exact List.mem_append_left _ h | exact List.mem_append_left _ (List.mem_append_left _ h)) Q36
  have Q34 := Fq.trans F35 (fun c h => by first | exact h | exact List.mem_append_left _ h | exact List.mem_append_left _ (List.mem_append_left _ h)) Q35
  have Q33 := Fq.trans F34 (fun c h => by first | exact h | exact List.mem_append_left _ h | exact List.mem_append_left _ (List.mem_append_left _ h)) Q34
  have Q32 := Fq.trans F33 (fun c h => by first | exact h | exact List.mem_append_left _ h | exact List.mem_append_left _ (List.mem_append_left _ h)) Q33
  have Q31 := Fq.trans F32 (fun c h => by first | exact h | exact List.mem_append_left _ h | exact List.mem_append_left _ (List.mem_append_left _ h)) Q32
  have Q30 := Fq.trans F31 (fun c h => by first | exact h | exact List.mem_append_left _ h | exact List.mem_append_left _ (List.mem_append_left _ h)) Q31
  have Q29 := Fq.trans F30 (fun c h => by first | exact h | exact List.mem_append_left _ h | exact List.mem_append_left _ (List.mem_append_left _ h)) Q30
  have Q28 := Fq.trans F29 (fun c h => by first | exact h | exact List.mem_append_left _ h | exact List.mem_append_left _ (List.mem_append_left _ h)) Q29
  have Q27 := Fq.trans F28 (fun c h => by first | exact h | exact List.mem_append_left _ h | exact List.mem_append_left _ (List.mem_append_left _ h)) Q28
  have Q26 := Fq.trans F27 (fun c h => by first | exact h | exact List.mem_append_left _ h | exact List.mem_append_left _ (List.mem_append_left _ h)) Q27
  have Q25 := Fq.trans F26 (fun c h => by first | exact h | exact List.mem_append_left _ h | exact List.mem_append_left _ (List.mem_append_left _ h)) Q26
  have Q24 := Fq.trans F25 (fun c h => by first | exact h | exact List.mem_append_left _ h | exact List.mem_append_left _ (List.mem_append_left _ h)) Q25
  have Q23 := Fq.trans F24 (fun c h => by first | exact h | exact List.mem_append_left _ h | exact List.mem_append_left _ (List.mem_append_left _ h)) Q24
  have Q22 := Fq.trans F23 (fun c h => by first | exact h | exact List.mem_append_left _ h | exact List.mem_append_left _ (List.mem_append_left _ h)) Q23
  have Q21 := Fq.trans F22 (fun c h => by first | exact h | exact List.mem_append_left _ h | exact List.mem_append_left _ (List.mem_append_left _ h)) Q22
  have Q20 := Fq.trans F21 (fun c h => by first | exact h | exact List.mem_append_left _ h | exact List.mem_append_left _ (List.mem_append_left _ h)) Q21
  have Q19 := Fq.trans F20 (fun c h => by first | exact h | exact List.mem_append_left _ h | exact List.mem_append_left _ (List.mem_append_left _ h)) Q20
  have Q18 := Fq.trans F19 (fun c h => by first | exact h | exact List.mem_append_left _ h | exact List.mem_append_left _ (List.mem_append_left _ h)) Q19
  have Q17 := Fq.trans F18 (fun c h => by first | exact h | exact List.mem_append_left _ h | exact List.mem_append_left _ (List.mem_append_left _ h)) Q18
  have Q16 := Fq.trans F17 (fun c h => by first | exact h | exact List.mem_append_left _ h | exact List.mem_append_left _ (List.mem_append_left _ h)) Q17
  have Q15 := Fq.trans F16 (fun c h => by first | exact h | exact List.mem_append_left _ h | exact List.mem_append_left _ (List.mem_append_left _ h)) Q16
  have Q14 := Fq.trans F15 (fun c h => by first | exact h | exact List.mem_append_left _ h | exact List.mem_append_left _ (List.mem_append_left _ h)) Q15
  have Q13 := Fq.trans F14 (fun c h => by first | exact h | exact List.mem_append_left _ h | exact List.mem_append_left _ (List.mem_append_left _ h)) Q14
  have Q12 := Fq.trans F13 (fun c h => by first | exact h | exact List.mem_append_left _ h | exact List.mem_append_left _ (List.mem_append_left _ h)) Q13
  have Q11 := Fq.trans F12 (fun c h => by first | exact h | exact List.mem_append_left _ h | exact List.mem_append_left _ (List.mem_append_left _ h)) Q12
  have Q10 := Fq.trans F11 (fun c h => by first | exact h | exact List.mem_append_left _ h | exact List.mem_append_left _ (List.mem_append_left _ h)) Q11
  have Q9 := Fq.trans F10 (fun c h => by first | exact h | exact List.mem_append_left _ h | exact List.mem_append_left _ (List.mem_append_left _ h)) Q10
  have Q8 := Fq.trans F9 (fun c h => by first | exact h | exact List.mem_append_left _ h | exact List.mem_append_left _ (List.mem_append_left _ h)) Q9
  have Q7 := Fq.trans F8 (fun c h => by first | exact h | exact List.mem_append_left _ h | exact List.mem_append_left _ (List.mem_append_left _ h)) Q8
  have Q6 := Fq.trans F7 (fun c h => by first | exact h | exact List.mem_append_left _ h | exact List.mem_append_left _ (List.mem_append_left _ h)) Q7
  have Q5 := Fq.trans F6 (fun c h => by first | exact h | exact List.mem_append_left _ h | exact List.mem_append_left _ (List.mem_append_left _ h)) Q6
  have Q4 := Fq.trans F5 (fun c h => by first | exact h | exact List.mem_append_left _ h | exact List.mem_append_left _ (List.mem_append_left _ h)) Q5
  have Q3 := Fq.trans F4 (fun c h => by first | exact h | exact List.mem_append_left _ h | exact List.mem_append_left _ (List.mem_append_left _ h)) Q4
  have Q2 := Fq.trans F3 (fun c h => by first | exact h | exact List.mem_append_left _ h | exact List.mem_append_left _ (List.mem_append_left _ h)) Q3
  have Q1 := Fq.trans F2 (fun c h => by first | exact h | exact List.mem_append_left _ h | exact List.mem_append_left _ (List.mem_append_left _ h)) Q2
  have Q0 := Fq.trans F1 (fun c h => by first | exact h | exact List.mem_append_left _ h | exact List.mem_append_left _ (List.mem_append_left _ h)) Q1
  have hall : ∀ c : Nat, c ∈ _ → c ∈ _ := T56
  refine ⟨rfl, ⟨⟨fun k hk => ?_, by rw [r1]; rfl, by rw [r1]; rfl, by rw [r1]; rfl, by rw [r1]; rfl, by rw [r1]; rfl, by rw [r1]; rfl⟩, ⟨fun j hj => ?_, fun j hj => ?_, fun j hj => ?_⟩, (List.forall_mem_cons.mpr ⟨K0.fq (by decide +kernel) Q1 (by decide) (by decide), (List.forall_mem_cons.mpr ⟨K1.fq (by decide +kernel) Q3 (by decide) (by decide), (List.forall_mem_cons.mpr ⟨K9.fq (by decide +kernel) Q31 (by decide) (by decide), (List.forall_mem_cons.mpr ⟨K10.fq (by decide +kernel) Q33 (by decide) (by decide), (List.forall_mem_cons.mpr ⟨K11.fq (by decide +kernel) Q35 (by decide) (by decide), (List.forall_mem_cons.mpr ⟨K12.fq (by decide +kernel) Q37 (by decide) (by decide), (fun _ h => absurd h List.not_mem_nil)⟩)⟩)⟩)⟩)⟩)⟩), (List.forall_mem_cons.mpr ⟨K13.fq (by decide +kernel) Q39 (by decide), (List.forall_mem_cons.mpr ⟨K14.fq (by decide +kernel) Q41 (by decide), (List.forall_mem_cons.mpr ⟨K15.fq (by decide +kernel) Q43 (by decide), (fun _ h => absurd h List.not_mem_nil)⟩)⟩)⟩), (List.forall_mem_cons.mpr ⟨K16.fq (by decide +kernel) Q45 (by decide) (by decide), (List.forall_mem_cons.mpr ⟨K17.fq (by decide +kernel) Q47 (by decide) (by decide), (List.forall_mem_cons.mpr ⟨K18.fq (by decide +kernel) Q49 (by decide) (by decide), (List.forall_mem_cons.mpr ⟨K19.fq (by decide +kernel) Q51 (by decide) (by decide), (List.forall_mem_cons.mpr ⟨K20.fq (by decide +kernel) Q53 (by decide) (by decide), (List.forall_mem_cons.mpr ⟨K21.fq (by decide +kernel) Q55 (by decide) (by decide), (fun _ h => absurd h List.not_mem_nil)⟩)⟩)⟩)⟩)⟩)⟩), K2.fq (by decide +kernel) Q11, K3.fq (by decide +kernel) Q13, K4.fq (by decide +kernel) Q15, (by rw [Q17 155 (by decide +kernel) (by decide) (by decide) (by decide) (by decide)]; exact K5), (by rw [Q19 156 (by decide +kernel) (by decide) (by decide) (by decide) (by decide)]; exact K6), (by rw [Q21 157 (by decide +kernel) (by decide) (by decide) (by decide) (by decide)]; exact K7), (by rw [Q23 158 (by decide +kernel) (by decide) (by decide) (by decide) (by decide)]; exact K8)⟩⟩
  · rw [r1]
    have : k = 0 ∨ k = 1 ∨ k = 2 ∨ k = 3 ∨ k = 4 ∨ k = 5 ∨ k = 6 ∨ k = 7 ∨ k = 8 ∨ k = 9 ∨ k = 10 ∨ k = 11 := by omega
    rcases this with e | e | e | e | e | e | e | e | e | e | e | e <;> subst e <;> rfl
  · rw [r159]
    have : j = 0 ∨ j = 1 ∨ j = 2 ∨ j = 3 := by omega
    rcases this with e | e | e | e <;> subst e <;> rfl
  · rw [r160]
    have : j = 0 ∨ j = 1 ∨ j = 2 := by omega
    rcases this with e | e | e <;> subst e <;> rfl
  · rw [r161]
    have : j = 0 ∨ j = 1 ∨ j = 2 ∨ j = 3 ∨ j = 4 ∨ j = 5 := by omega
    rcases this with e | e | e | e | e | e <;> subst e <;> rfl
end Ctors

/-! CONSTRUCTORS: Film, Notes -/
/-- a film as it is made -/
def FiF (N : List Nat) (g : Mm) (i : Nat) : Prop := 101 + 2 * i ∈ N ∧ 101 + 2 * i + 1 ∈ N ∧ g (101 + 2 * i) 0 = nI (68 + 11 * i) ∧ g (101 + 2 * i) 1 = nI (101 + 2 * i + 1) ∧ g (101 + 2 * i) 2 = 0 ∧ g (101 + 2 * i) 3 = 0 ∧ (g (101 + 2 * i + 1) = fun _ => 0) ∧ WF N g (68 + 11 * i)
theorem WF.mono {N N' : List Nat} {g g' : Mm} {b : Nat} (h : WF N g b) (hN : ∀ c ∈ N, c ∈ N') (hg : ∀ j, j ≤ 10 → g' (b + j) = g (b + j)) : WF N' g' b :=
  ⟨fun j hj => hN _ (h.1 j hj), fun k hk => by rw [show g' b = g b from hg 0 (by omega)]; exact h.2.1 k hk, fun j h1 h2 => by rw [hg j h2]; exact h.2.2 j h1 h2⟩
section Ctors
variable {l : Launch} {E : Ey} {N : List Nat} {g : Mm} {Px : State → Prop}
theorem i_X0 {i : Nat} (hi : i < 3) (hN : ∀ a ∈ ([68 + 11 * i, 68 + 11 * i + 1, 68 + 11 * i + 2, 68 + 11 * i + 3, 68 + 11 * i + 4, 68 + 11 * i + 5, 68 + 11 * i + 6, 68 + 11 * i + 7, 68 + 11 * i + 8, 68 + 11 * i + 9, 68 + 11 * i + 10, 101 + 2 * i + 1] : List Nat), a ∉ N) : CtG l E layG N 2 12 3549 yX0_init (101 + 2 * i) g Px (fun N' g' => N' = N ++ [68 + 11 * i, 68 + 11 * i + 1, 68 + 11 * i + 2, 68 + 11 * i + 3, 68 + 11 * i + 4, 68 + 11 * i + 5, 68 + 11 * i + 6, 68 + 11 * i + 7, 68 + 11 * i + 8, 68 + 11 * i + 9, 68 + 11 * i + 10, 101 + 2 * i + 1] ∧ (∀ c ∈ N, c ≠ 101 + 2 * i → g' c = g c) ∧ FiF N' g' i) := by
  refine CtG_of (by decide) rfl k_yX0_init (by decide) (fun S0 hG hZ hr hnm hpx hcl hb => ?_)
  have hS := hG.1
  have hF : Fm (101 + 2 * i) := ⟨i, hi, rfl⟩
  have hW : Wo (68 + 11 * i) := ⟨6 + i, by omega, by omega⟩
  refine J_aload_n hS dX0_init_0 rfl ?_
  refine J_obj hS dX0_init_1 mlX0_3 ob_i ob_c rfl (by decide) (Nat.le_of_ble_eq_true rfl) ?_
  refine J_aload_n hS dX0_init_4 rfl ?_
  refine J_newO hG hcl (68 + 11 * i) (hN (68 + 11 * i) (by simp)) (by omega) dX0_init_5 noX0_9 (lgW hW) (rl_c (v := .ref (101 + 2 * i)) hb rl_0) (rn_c (v := .ref (101 + 2 * i)) hb rn_0) (by decide) (by decide) (fun S E hG hcl => ?_)
  have hS := hG.1
  obtain ⟨g1, eg1⟩ : ∃ x : Mm, x = zrM g (68 + 11 * i) := ⟨_, rfl⟩
  rw [← eg1] at hcl ⊢
  have hb := mi_a (x := 68 + 11 * i) hb
  have m_68_11_i := mi_s (x := 68 + 11 * i) (N := N)
  refine J_dup hS dX0_init_8 rfl ?_
  refine J_callI (Px := fun _ => True) hG hcl dX0_init_9 miX0_11 m_68_11_i rfl (by decide) (by decide) (Nat.le_of_ble_eq_true rfl) (by decide) (by decide) (rl_c (v := .ref (101 + 2 * i)) hb rl_0) (rn_c (v := .ref (68 + 11 * i)) m_68_11_i (rn_c (v := .ref (101 + 2 * i)) hb rn_0)) trivial (fun _ _ _ h => h) (i_X6 (Px := fun _ => True) hW (fun j h1 h2 => ni_a (hN _ (by simp; omega)) (by omega))) (fun S E N1 gq hG hU hcl hq => ?_)
  obtain ⟨hN1, frg2, wf⟩ := hq
  subst hN1
  have hS := hG.1
  have hb := hU _ hb
  have m_68_11_i := hU _ m_68_11_i
  obtain ⟨g2, eg2⟩ : ∃ x : Mm, x = gq := ⟨_, rfl⟩
  subst eg2
  refine J_putFR (t := 68 + 11 * i) hS (by rw [hG.2.1]; exact hnm) dX0_init_12 ffX0_12 (Or.inl ⟨_, rfl⟩) ⟨hb, lgF hF⟩ rfl (by omega) (by omega) (fun g3 eg3 => ?_)
  have hcl := Cl.putR (k := 0) (t := 68 + 11 * i) hcl (lgF hF) rfl m_68_11_i (by omega)
  rw [← eg3] at hcl
  refine J_aload_n hS dX0_init_15 rfl ?_
  refine J_bipush (v := 100) hS dX0_init_16 (by decide) ?_
  refine J_newA hG hcl (101 + 2 * i + 1) (ni_l (ni_a (hN (101 + 2 * i + 1) (by simp)) (by omega)) (by simp; omega)) (by omega) dX0_init_18 rfl ac_Z (lgFa hF) (Or.inl ⟨rfl, Or.inr rfl⟩) (by decide) (by decide) (by decide) (rl_c (v := .ref (101 + 2 * i)) hb rl_0) (rn_c (v := .ref (101 + 2 * i)) hb rn_0) (by decide) (by decide) (fun S E hG hcl => ?_)
  have hS := hG.1
  obtain ⟨g4, eg4⟩ : ∃ x : Mm, x = zrM g3 (101 + 2 * i + 1) := ⟨_, rfl⟩
  rw [← eg4] at hcl ⊢
  have hb := mi_a (x := 101 + 2 * i + 1) hb
  have m_68_11_i := mi_a (x := 101 + 2 * i + 1) m_68_11_i
  have m_101_2_i_1 := mi_s (x := 101 + 2 * i + 1) (N := ((N ++ [68 + 11 * i]) ++ [68 + 11 * i + 1, 68 + 11 * i + 2, 68 + 11 * i + 3, 68 + 11 * i + 4, 68 + 11 * i + 5, 68 + 11 * i + 6, 68 + 11 * i + 7, 68 + 11 * i + 8, 68 + 11 * i + 9, 68 + 11 * i + 10]))
  refine J_putFR (t := 101 + 2 * i + 1) hS (by rw [hG.2.1]; exact hnm) dX0_init_20 ffX0_18 (Or.inr ⟨_, rfl⟩) ⟨hb, lgF hF⟩ rfl (by omega) (by omega) (fun g5 eg5 => ?_)
  have hcl := Cl.putR (k := 1) (t := 101 + 2 * i + 1) hcl (lgF hF) rfl m_101_2_i_1 (by omega)
  rw [← eg5] at hcl
  refine J_aload_n hS dX0_init_23 rfl ?_
  refine J_iconst (v := 0) hS dX0_init_24 (by decide) ?_
  refine J_putI hS dX0_init_25 fpX0_22 ⟨hb, lgF hF⟩ rfl (fun g6 eg6 => ?_)
  have hcl := Cl.putI (k := 2) (v := 0) hcl (lgF hF) rfl
  rw [← eg6] at hcl
  refine J_aload_n hS dX0_init_28 rfl ?_
  refine J_iconst (v := 0) hS dX0_init_29 (by decide) ?_
  refine J_putI hS dX0_init_30 fpX0_26 ⟨hb, lgF hF⟩ rfl (fun g7 eg7 => ?_)
  have hcl := Cl.putI (k := 3) (v := 0) hcl (lgF hF) rfl
  rw [← eg7] at hcl
  refine J_vretG hG hcl hZ hr dX0_init_33 (by decide) (by decide) ?_
  have key : ∀ c, c ≠ 101 + 2 * i → c ≠ 101 + 2 * i + 1 → g7 c = g2 c := fun c h1 h2 => by subst eg7 eg6 eg5 eg4 eg3; funext k; simp [u2, zrM, h1, h2]
  refine ⟨by simp, fun c hc hcb => ?_, ⟨hb, m_101_2_i_1, by subst eg7 eg6 eg5 eg4 eg3; simp [u2, zrM], by subst eg7 eg6 eg5 eg4 eg3; simp [u2, zrM], by subst eg7 eg6 eg5 eg4 eg3; simp [u2, zrM], by subst eg7 eg6 eg5 eg4 eg3; simp [u2, zrM], by subst eg7 eg6 eg5 eg4 eg3; funext k; simp [u2, zrM], wf.mono (fun c hc => mi_a hc) (fun j hj => key _ (by omega) (by omega))⟩⟩
  have hx : ∀ a ∈ ([68 + 11 * i, 68 + 11 * i + 1, 68 + 11 * i + 2, 68 + 11 * i + 3, 68 + 11 * i + 4, 68 + 11 * i + 5, 68 + 11 * i + 6, 68 + 11 * i + 7, 68 + 11 * i + 8, 68 + 11 * i + 9, 68 + 11 * i + 10, 101 + 2 * i + 1] : List Nat), c ≠ a := fun a ha e => hN a ha (by rw [← e]; exact hc)
  rw [key c hcb (hx _ (by simp)), frg2 c (mi_a hc) (hx _ (by simp)), eg1, zrM_ne (hx _ (by simp))]
def NoF (N : List Nat) (g : Mm) : Prop := (143 ∈ N ∧ 144 ∈ N ∧ 145 ∈ N ∧ 146 ∈ N ∧ 147 ∈ N) ∧ g 143 0 = 0 ∧ g 143 1 = nI 144 ∧ g 143 2 = nI 145 ∧ g 143 3 = nI 146 ∧ g 143 4 = nI 147 ∧ (g 144 = fun _ => 0) ∧ (∀ j, j < 6 → g 145 j = -1) ∧ (∀ j, j < 6 → g 146 j = -1) ∧ ∀ j, j < 144 → g 147 j = -1
theorem i_X3 (hN : ∀ a ∈ ([144, 145, 146, 147] : List Nat), a ∉ N) : CtG l E layG N 1 4 28656 yX3_init 143 g Px (fun N' g' => N' = N ++ [144, 145, 146, 147] ∧ (∀ c ∈ N, c ≠ 143 → g' c = g c) ∧ NoF N' g') := by
  refine CtG_of (by decide) rfl k_yX3_init (by decide) (fun S0 hG hZ hr hnm hpx hcl hb => ?_)
  have hS := hG.1
  refine J_aload_n hS dX3_init_0 rfl ?_
  refine J_obj hS dX3_init_1 mlX3_3 ob_i ob_c rfl (by decide) (Nat.le_of_ble_eq_true rfl) ?_
  refine J_aload_n hS dX3_init_4 rfl ?_
  refine J_iconst (v := 0) hS dX3_init_5 (by decide) ?_
  refine J_putI hS dX3_init_6 fpX3_9 ⟨hb, lg_o ob143.2⟩ rfl (fun g1 eg1 => ?_)
  have hcl := Cl.putI (k := 0) (v := 0) hcl (lg_o ob143.2) rfl
  rw [← eg1] at hcl
  refine J_aload_n hS dX3_init_9 rfl ?_
  refine J_sipush (v := 28500) hS dX3_init_10 (by decide) ?_
  refine J_newA hG hcl (144) (hN 144 (by decide)) (by omega) dX3_init_13 rfl ac_I (lg_r ar144) (Or.inl ⟨rfl, Or.inl rfl⟩) (by decide) (by decide) (by decide) (rl_c (v := .ref (143)) hb (rl_n rl_0)) (rn_c (v := .ref (143)) hb rn_0) (by decide) (by decide) (fun S E hG hcl => ?_)
  have hS := hG.1
  obtain ⟨g2, eg2⟩ : ∃ x : Mm, x = zrM g1 (144) := ⟨_, rfl⟩
  rw [← eg2] at hcl ⊢
  have hb := mi_a (x := 144) hb
  have m_144 := mi_s (x := 144) (N := N)
  refine J_putFR (t := 144) hS (by rw [hG.2.1]; exact hnm) dX3_init_15 ffX3_15 (Or.inr ⟨_, rfl⟩) ⟨hb, lg_o ob143.2⟩ rfl (by omega) (by omega) (fun g3 eg3 => ?_)
  have hcl := Cl.putR (k := 1) (t := 144) hcl (lg_o ob143.2) rfl m_144 (by omega)
  rw [← eg3] at hcl
  refine J_aload_n hS dX3_init_18 rfl ?_
  refine J_bipush (v := 6) hS dX3_init_19 (by decide) ?_
  refine J_newA hG hcl (145) (ni_a (hN 145 (by decide)) (by decide)) (by omega) dX3_init_21 rfl ac_I (lg_r ar145) (Or.inl ⟨rfl, Or.inl rfl⟩) (by decide) (by decide) (by decide) (rl_c (v := .ref (143)) hb (rl_n rl_0)) (rn_c (v := .ref (143)) hb rn_0) (by decide) (by decide) (fun S E hG hcl => ?_)
  have hS := hG.1
  obtain ⟨g4, eg4⟩ : ∃ x : Mm, x = zrM g3 (145) := ⟨_, rfl⟩
  rw [← eg4] at hcl ⊢
  have hb := mi_a (x := 145) hb
  have m_144 := mi_a (x := 145) m_144
  have m_145 := mi_s (x := 145) (N := (N ++ [144]))
  refine J_dup hS dX3_init_23 rfl ?_
  refine J_iconst (v := 0) hS dX3_init_24 (by decide) ?_
  refine J_iconst (v := (-1)) hS dX3_init_25 (by decide) ?_
  refine J_iast hS dX3_init_26 ⟨m_145, _, lg_r ar145, rfl⟩ (by unfold vp_in; decide) (fun g5 eg5 => ?_)
  have hcl := Cl.putA (k := (0 : Int32).toNatClampNeg) (v := (-1)) hcl (lg_r ar145) rfl
  rw [← eg5] at hcl
  refine J_dup hS dX3_init_27 rfl ?_
  refine J_iconst (v := 1) hS dX3_init_28 (by decide) ?_
  refine J_iconst (v := (-1)) hS dX3_init_29 (by decide) ?_
  refine J_iast hS dX3_init_30 ⟨m_145, _, lg_r ar145, rfl⟩ (by unfold vp_in; decide) (fun g6 eg6 => ?_)
  have hcl := Cl.putA (k := (1 : Int32).toNatClampNeg) (v := (-1)) hcl (lg_r ar145) rfl
  rw [← eg6] at hcl
  refine J_dup hS dX3_init_31 rfl ?_
  refine J_iconst (v := 2) hS dX3_init_32 (by decide) ?_
  refine J_iconst (v := (-1)) hS dX3_init_33 (by decide) ?_
  refine J_iast hS dX3_init_34 ⟨m_145, _, lg_r ar145, rfl⟩ (by unfold vp_in; decide) (fun g7 eg7 => ?_)
  have hcl := Cl.putA (k := (2 : Int32).toNatClampNeg) (v := (-1)) hcl (lg_r ar145) rfl
  rw [← eg7] at hcl
  refine J_dup hS dX3_init_35 rfl ?_
  refine J_iconst (v := 3) hS dX3_init_36 (by decide) ?_
  refine J_iconst (v := (-1)) hS dX3_init_37 (by decide) ?_
  refine J_iast hS dX3_init_38 ⟨m_145, _, lg_r ar145, rfl⟩ (by unfold vp_in; decide) (fun g8 eg8 => ?_)
  have hcl := Cl.putA (k := (3 : Int32).toNatClampNeg) (v := (-1)) hcl (lg_r ar145) rfl
  rw [← eg8] at hcl
  refine J_dup hS dX3_init_39 rfl ?_
  refine J_iconst (v := 4) hS dX3_init_40 (by decide) ?_
  refine J_iconst (v := (-1)) hS dX3_init_41 (by decide) ?_
  refine J_iast hS dX3_init_42 ⟨m_145, _, lg_r ar145, rfl⟩ (by unfold vp_in; decide) (fun g9 eg9 => ?_)
  have hcl := Cl.putA (k := (4 : Int32).toNatClampNeg) (v := (-1)) hcl (lg_r ar145) rfl
  rw [← eg9] at hcl
  refine J_dup hS dX3_init_43 rfl ?_
  refine J_iconst (v := 5) hS dX3_init_44 (by decide) ?_
  refine J_iconst (v := (-1)) hS dX3_init_45 (by decide) ?_
  refine J_iast hS dX3_init_46 ⟨m_145, _, lg_r ar145, rfl⟩ (by unfold vp_in; decide) (fun g10 eg10 => ?_)
  have hcl := Cl.putA (k := (5 : Int32).toNatClampNeg) (v := (-1)) hcl (lg_r ar145) rfl
  rw [← eg10] at hcl
  refine J_putFR (t := 145) hS (by rw [hG.2.1]; exact hnm) dX3_init_47 ffX3_19 (Or.inr ⟨_, rfl⟩) ⟨hb, lg_o ob143.2⟩ rfl (by omega) (by omega) (fun g11 eg11 => ?_)
  have hcl := Cl.putR (k := 2) (t := 145) hcl (lg_o ob143.2) rfl m_145 (by omega)
  rw [← eg11] at hcl
  refine J_aload_n hS dX3_init_50 rfl ?_
  refine J_bipush (v := 6) hS dX3_init_51 (by decide) ?_
  refine J_newA hG hcl (146) (ni_a (ni_a (hN 146 (by decide)) (by decide)) (by decide)) (by omega) dX3_init_53 rfl ac_I (lg_r ar146) (Or.inl ⟨rfl, Or.inl rfl⟩) (by decide) (by decide) (by decide) (rl_c (v := .ref (143)) hb (rl_n rl_0)) (rn_c (v := .ref (143)) hb rn_0) (by decide) (by decide) (fun S E hG hcl => ?_)
  have hS := hG.1
  obtain ⟨g12, eg12⟩ : ∃ x : Mm, x = zrM g11 (146) := ⟨_, rfl⟩
  rw [← eg12] at hcl ⊢
  have hb := mi_a (x := 146) hb
  have m_144 := mi_a (x := 146) m_144
  have m_145 := mi_a (x := 146) m_145
  have m_146 := mi_s (x := 146) (N := ((N ++ [144]) ++ [145]))
  refine J_dup hS dX3_init_55 rfl ?_
  refine J_iconst (v := 0) hS dX3_init_56 (by decide) ?_
  refine J_iconst (v := (-1)) hS dX3_init_57 (by decide) ?_
  refine J_iast hS dX3_init_58 ⟨m_146, _, lg_r ar146, rfl⟩ (by unfold vp_in; decide) (fun g13 eg13 => ?_)
  have hcl := Cl.putA (k := (0 : Int32).toNatClampNeg) (v := (-1)) hcl (lg_r ar146) rfl
  rw [← eg13] at hcl
  refine J_dup hS dX3_init_59 rfl ?_
  refine J_iconst (v := 1) hS dX3_init_60 (by decide) ?_
  refine J_iconst (v := (-1)) hS dX3_init_61 (by decide) ?_
  refine J_iast hS dX3_init_62 ⟨m_146, _, lg_r ar146, rfl⟩ (by unfold vp_in; decide) (fun g14 eg14 => ?_)
  have hcl := Cl.putA (k := (1 : Int32).toNatClampNeg) (v := (-1)) hcl (lg_r ar146) rfl
  rw [← eg14] at hcl
  refine J_dup hS dX3_init_63 rfl ?_
  refine J_iconst (v := 2) hS dX3_init_64 (by decide) ?_
  refine J_iconst (v := (-1)) hS dX3_init_65 (by decide) ?_
  refine J_iast hS dX3_init_66 ⟨m_146, _, lg_r ar146, rfl⟩ (by unfold vp_in; decide) (fun g15 eg15 => ?_)
  have hcl := Cl.putA (k := (2 : Int32).toNatClampNeg) (v := (-1)) hcl (lg_r ar146) rfl
  rw [← eg15] at hcl
  refine J_dup hS dX3_init_67 rfl ?_
  refine J_iconst (v := 3) hS dX3_init_68 (by decide) ?_
  refine J_iconst (v := (-1)) hS dX3_init_69 (by decide) ?_
  refine J_iast hS dX3_init_70 ⟨m_146, _, lg_r ar146, rfl⟩ (by unfold vp_in; decide) (fun g16 eg16 => ?_)
  have hcl := Cl.putA (k := (3 : Int32).toNatClampNeg) (v := (-1)) hcl (lg_r ar146) rfl
  rw [← eg16] at hcl
  refine J_dup hS dX3_init_71 rfl ?_
  refine J_iconst (v := 4) hS dX3_init_72 (by decide) ?_
  refine J_iconst (v := (-1)) hS dX3_init_73 (by decide) ?_
  refine J_iast hS dX3_init_74 ⟨m_146, _, lg_r ar146, rfl⟩ (by unfold vp_in; decide) (fun g17 eg17 => ?_)
  have hcl := Cl.putA (k := (4 : Int32).toNatClampNeg) (v := (-1)) hcl (lg_r ar146) rfl
  rw [← eg17] at hcl
  refine J_dup hS dX3_init_75 rfl ?_
  refine J_iconst (v := 5) hS dX3_init_76 (by decide) ?_
  refine J_iconst (v := (-1)) hS dX3_init_77 (by decide) ?_
  refine J_iast hS dX3_init_78 ⟨m_146, _, lg_r ar146, rfl⟩ (by unfold vp_in; decide) (fun g18 eg18 => ?_)
  have hcl := Cl.putA (k := (5 : Int32).toNatClampNeg) (v := (-1)) hcl (lg_r ar146) rfl
  rw [← eg18] at hcl
  refine J_putFR (t := 146) hS (by rw [hG.2.1]; exact hnm) dX3_init_79 ffX3_22 (Or.inr ⟨_, rfl⟩) ⟨hb, lg_o ob143.2⟩ rfl (by omega) (by omega) (fun g19 eg19 => ?_)
  have hcl := Cl.putR (k := 3) (t := 146) hcl (lg_o ob143.2) rfl m_146 (by omega)
  rw [← eg19] at hcl
  refine J_aload_n hS dX3_init_82 rfl ?_
  refine J_sipush (v := 144) hS dX3_init_83 (by decide) ?_
  refine J_newA hG hcl (147) (ni_a (ni_a (ni_a (hN 147 (by decide)) (by decide)) (by decide)) (by decide)) (by omega) dX3_init_86 rfl ac_I (lg_r ar147) (Or.inl ⟨rfl, Or.inl rfl⟩) (by decide) (by decide) (by decide) (rl_c (v := .ref (143)) hb (rl_n rl_0)) (rn_c (v := .ref (143)) hb rn_0) (by decide) (by decide) (fun S E hG hcl => ?_)
  have hS := hG.1
  obtain ⟨g20, eg20⟩ : ∃ x : Mm, x = zrM g19 (147) := ⟨_, rfl⟩
  rw [← eg20] at hcl ⊢
  have hb := mi_a (x := 147) hb
  have m_144 := mi_a (x := 147) m_144
  have m_145 := mi_a (x := 147) m_145
  have m_146 := mi_a (x := 147) m_146
  have m_147 := mi_s (x := 147) (N := (((N ++ [144]) ++ [145]) ++ [146]))
  refine J_putFR (t := 147) hS (by rw [hG.2.1]; exact hnm) dX3_init_88 ffX3_25 (Or.inr ⟨_, rfl⟩) ⟨hb, lg_o ob143.2⟩ rfl (by omega) (by omega) (fun g21 eg21 => ?_)
  have hcl := Cl.putR (k := 4) (t := 147) hcl (lg_o ob143.2) rfl m_147 (by omega)
  rw [← eg21] at hcl
  refine J_iconst (v := 0) hS dX3_init_91 (by decide) ?_
  refine J_istore_n (lt := fun x => [some (.ref 143), some (.int x)]) hS dX3_init_92 (Nat.le_of_ble_eq_true rfl) (fun _ => rfl) (fun x ex => ?_)
  have h4 : g21 143 4 = nI 147 := by subst eg21 eg20 eg19 eg18 eg17 eg16 eg15 eg14 eg13 eg12 eg11 eg10 eg9 eg8 eg7 eg6 eg5 eg4 eg3 eg2 eg1; simp [u2, zrM]
  have loop : ∀ r i (x : Int32) (G : Mm), i + r = 144 → x = nI i → Cl layG (N ++ [144] ++ [145] ++ [146] ++ [147]) G → (∀ c, c ≠ 147 → G c = g21 c) → (∀ j, j < i → G 147 j = -1) → J S 4 28656 G 93 [some (.ref 143), some (.int x)] [] := by
    intro r
    induction r with
    | zero =>
      intro i x G hi ex hcl hG2 hG3
      refine J_iload_n hS dX3_init_93 rfl ?_
      refine J_sipush (v := 144) hS dX3_init_94 (by decide) ?_
      refine J_icmp_ge (tgt := 113) hS dX3_init_97 (by decide) (fun c => ?_) (fun c => ?_)
      · refine J_vretG hG hcl hZ hr dX3_init_113 (by decide) (by decide) ?_
        have b : ∀ c, c ≠ 147 → G c = g21 c := hG2
        refine ⟨by simp, fun c hc hcb => ?_, ⟨hb, m_144, m_145, m_146, m_147⟩, ?_, ?_, ?_, ?_, ?_, ?_, ?_, ?_, fun j hj => hG3 j (by omega)⟩
        · have x144 : c ≠ 144 := fun e => hN 144 (by decide) (by rw [← e]; exact hc)
          have x145 : c ≠ 145 := fun e => hN 145 (by decide) (by rw [← e]; exact hc)
          have x146 : c ≠ 146 := fun e => hN 146 (by decide) (by rw [← e]; exact hc)
          have x147 : c ≠ 147 := fun e => hN 147 (by decide) (by rw [← e]; exact hc)
          rw [b c x147]
          clear h4 hG2 b
          subst eg21 eg20 eg19 eg18 eg17 eg16 eg15 eg14 eg13 eg12 eg11 eg10 eg9 eg8 eg7 eg6 eg5 eg4 eg3 eg2 eg1
          funext k; simp [u2, zrM, hcb, x144, x145, x146, x147]
        · rw [b 143 (by decide)]; clear h4 hG2 b; subst eg21 eg20 eg19 eg18 eg17 eg16 eg15 eg14 eg13 eg12 eg11 eg10 eg9 eg8 eg7 eg6 eg5 eg4 eg3 eg2 eg1; simp [u2, zrM]
        · rw [b 143 (by decide)]; clear h4 hG2 b; subst eg21 eg20 eg19 eg18 eg17 eg16 eg15 eg14 eg13 eg12 eg11 eg10 eg9 eg8 eg7 eg6 eg5 eg4 eg3 eg2 eg1; simp [u2, zrM]
        · rw [b 143 (by decide)]; clear h4 hG2 b; subst eg21 eg20 eg19 eg18 eg17 eg16 eg15 eg14 eg13 eg12 eg11 eg10 eg9 eg8 eg7 eg6 eg5 eg4 eg3 eg2 eg1; simp [u2, zrM]
        · rw [b 143 (by decide)]; clear h4 hG2 b; subst eg21 eg20 eg19 eg18 eg17 eg16 eg15 eg14 eg13 eg12 eg11 eg10 eg9 eg8 eg7 eg6 eg5 eg4 eg3 eg2 eg1; simp [u2, zrM]
        · rw [b 143 (by decide)]; exact h4
        · rw [b 144 (by decide)]; clear h4 hG2 b; subst eg21 eg20 eg19 eg18 eg17 eg16 eg15 eg14 eg13 eg12 eg11 eg10 eg9 eg8 eg7 eg6 eg5 eg4 eg3 eg2 eg1; funext k; simp [u2, zrM]
        · intro j hj; rw [b 145 (by decide)]; clear h4 hG2 b; subst eg21 eg20 eg19 eg18 eg17 eg16 eg15 eg14 eg13 eg12 eg11 eg10 eg9 eg8 eg7 eg6 eg5 eg4 eg3 eg2 eg1
          have : j = 0 ∨ j = 1 ∨ j = 2 ∨ j = 3 ∨ j = 4 ∨ j = 5 := by omega
          rcases this with e | e | e | e | e | e <;> subst e <;> simp [u2, zrM]
        · intro j hj; rw [b 146 (by decide)]; clear h4 hG2 b; subst eg21 eg20 eg19 eg18 eg17 eg16 eg15 eg14 eg13 eg12 eg11 eg10 eg9 eg8 eg7 eg6 eg5 eg4 eg3 eg2 eg1
          have : j = 0 ∨ j = 1 ∨ j = 2 ∨ j = 3 ∨ j = 4 ∨ j = 5 := by omega
          rcases this with e | e | e | e | e | e <;> subst e <;> simp [u2, zrM]
      · exfalso; apply c; rw [ex, show i = 144 by omega]; decide
    | succ r ih =>
      intro i x G hi ex hcl hG2 hG3
      refine J_iload_n hS dX3_init_93 rfl ?_
      refine J_sipush (v := 144) hS dX3_init_94 (by decide) ?_
      refine J_icmp_ge (tgt := 113) hS dX3_init_97 (by decide) (fun c => ?_) (fun c => ?_)
      · exfalso
        rw [ex, show (144 : Int32) = nI 144 from rfl] at c
        have := (nI_leI (by omega) (by omega)).mp c
        omega
      · refine J_aload_n hS dX3_init_100 rfl ?_
        refine J_getD hS dX3_init_101 flX3_25 ⟨hb, lg_o ob143.2⟩ rfl (v := .ref 147) (by rw [hG2 143 (by decide), h4]; exact ab2 (by decide) (by decide)) ?_
        refine J_iload_n hS dX3_init_104 rfl ?_
        refine J_iconst (v := (-1)) hS dX3_init_105 (by decide) ?_
        have ec : x.toNatClampNeg = i := by rw [ex, nI_clamp (by omega)]
        refine J_iast hS dX3_init_106 ⟨m_147, _, lg_r ar147, rfl⟩ (vpi i ex (by omega) (by decide)) (fun G2 eG2 => ?_)
        have hcl := Cl.putA (k := x.toNatClampNeg) (v := -1) hcl (lg_r ar147) rfl
        rw [← eG2] at hcl
        refine J_iinc (lt := fun z => [some (.ref 143), some (.int z)]) (v := 1) hS dX3_init_107 rfl (by decide) (fun _ => rfl) (fun z ez => ?_)
        refine J_goto (tgt := 93) hS dX3_init_110 (by decide) ?_
        refine ih (i + 1) z G2 (by omega) (by rw [ez, ex, show (1 : Int32) = nI 1 from rfl, nI_add]) hcl (fun c hc => by rw [eG2, u2_ne c hc]; exact hG2 c hc) (fun j hj => ?_)
        rw [eG2, ec, u2_row]
        by_cases e : j = i
        · subst e; simp [upd]
        · simp only [upd, if_neg e]; exact hG3 j (by omega)
  exact loop 144 0 x g21 (by omega) ex hcl (fun _ _ => rfl) (fun j hj => absurd hj (by omega))
end Ctors

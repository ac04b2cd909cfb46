/-! CONSTRUCTORS, the small ones -/
def wR (b k : Nat) : Int32 := if k < 7 then ([1, 1, 0, 1000, 50, -1, 0] : List Int32).getD k 0 else nI (b + (k - 6))
/-- a world as it is made -/
def WF (N : List Nat) (g : Mm) (b : Nat) : Prop := (∀ j, j ≤ 10 → b + j ∈ N) ∧ (∀ k, k < 17 → g b k = wR b k) ∧ ∀ j, 1 ≤ j → j ≤ 10 → g (b + j) = fun _ => 0
def LF (N : List Nat) (g : Mm) (b : Nat) : Prop := (∀ j, j ≤ 5 → b + j ∈ N) ∧ g b 0 = 0 ∧ g b 6 = 0 ∧ (∀ k, 1 ≤ k → k ≤ 5 → g b k = nI (b + k)) ∧ ∀ j, 1 ≤ j → j ≤ 5 → g (b + j) = fun _ => 0
section Ctors
variable {l : Launch} {E : Ey} {N : List Nat} {g : Mm} {Px : State → Prop}
theorem i_X6 {b : Nat} (hW : Wo b) (hN : ∀ j, 1 ≤ j → j ≤ 10 → b + j ∉ N) : CtG l E layG N 1 10 3432 yX6_init b g Px (fun N' g' => N' = N ++ [b + 1, b + 2, b + 3, b + 4, b + 5, b + 6, b + 7, b + 8, b + 9, b + 10] ∧ (∀ c ∈ N, c ≠ b → g' c = g c) ∧ WF N' g' b) := by
  refine CtG_of (by decide) rfl k_yX6_init (by decide) (fun S0 hG hZ hr hnm hpx hcl hb => ?_)
  have hS := hG.1
  have hb9 : b < 900 := by obtain ⟨i, hi, e⟩ := hW; omega
  have hb0 : 2 ≤ b := by obtain ⟨i, hi, e⟩ := hW; omega
  refine J_aload_n hS dX6_init_0 rfl ?_
  refine J_obj hS dX6_init_1 mlX6_3 ob_i ob_c rfl (by decide) (Nat.le_of_ble_eq_true rfl) ?_
  refine J_aload_n hS dX6_init_4 rfl ?_
  refine J_iconst (v := 1) hS dX6_init_5 (by decide) ?_
  refine J_putI hS dX6_init_6 fpX6_9 ⟨hb, lgW hW⟩ rfl (fun g1 eg1 => ?_)
  have hcl := Cl.putI (k := 0) (v := 1) hcl (lgW hW) rfl
  rw [← eg1] at hcl
  refine J_aload_n hS dX6_init_9 rfl ?_
  refine J_iconst (v := 1) hS dX6_init_10 (by decide) ?_
  refine J_putI hS dX6_init_11 fpX6_15 ⟨hb, lgW hW⟩ rfl (fun g2 eg2 => ?_)
  have hcl := Cl.putI (k := 1) (v := 1) hcl (lgW hW) rfl
  rw [← eg2] at hcl
  refine J_aload_n hS dX6_init_14 rfl ?_
  refine J_iconst (v := 0) hS dX6_init_15 (by decide) ?_
  refine J_putI hS dX6_init_16 fpX6_18 ⟨hb, lgW hW⟩ rfl (fun g3 eg3 => ?_)
  have hcl := Cl.putI (k := 2) (v := 0) hcl (lgW hW) rfl
  rw [← eg3] at hcl
  refine J_aload_n hS dX6_init_19 rfl ?_
  refine J_sipush (v := 1000) hS dX6_init_20 (by decide) ?_
  refine J_putI hS dX6_init_23 fpX6_21 ⟨hb, lgW hW⟩ rfl (fun g4 eg4 => ?_)
  have hcl := Cl.putI (k := 3) (v := 1000) hcl (lgW hW) rfl
  rw [← eg4] at hcl
  refine J_aload_n hS dX6_init_26 rfl ?_
  refine J_bipush (v := 50) hS dX6_init_27 (by decide) ?_
  refine J_putI hS dX6_init_29 fpX6_24 ⟨hb, lgW hW⟩ rfl (fun g5 eg5 => ?_)
  have hcl := Cl.putI (k := 4) (v := 50) hcl (lgW hW) rfl
  rw [← eg5] at hcl
  refine J_aload_n hS dX6_init_32 rfl ?_
  refine J_iconst (v := (-1)) hS dX6_init_33 (by decide) ?_
  refine J_putI hS dX6_init_34 fpX6_27 ⟨hb, lgW hW⟩ rfl (fun g6 eg6 => ?_)
  have hcl := Cl.putI (k := 5) (v := (-1)) hcl (lgW hW) rfl
  rw [← eg6] at hcl
  refine J_aload_n hS dX6_init_37 rfl ?_
  refine J_iconst (v := 0) hS dX6_init_38 (by decide) ?_
  refine J_putI hS dX6_init_39 fpX6_30 ⟨hb, lgW hW⟩ rfl (fun g7 eg7 => ?_)
  have hcl := Cl.putI (k := 6) (v := 0) hcl (lgW hW) rfl
  rw [← eg7] at hcl
  refine J_aload_n hS dX6_init_42 rfl ?_
  refine J_bipush (v := 24) hS dX6_init_43 (by decide) ?_
  refine J_newA hG hcl (b + 1) (hN 1 (by decide) (by decide)) (by omega) dX6_init_45 rfl ac_I (lgWa hW 1 _ (by decide) (by decide) rfl) (Or.inl ⟨rfl, Or.inl rfl⟩) (by decide) (by decide) (by decide) (rl_c (v := .ref (b)) hb rl_0) (rn_c (v := .ref (b)) hb rn_0) (by decide) (by decide) (fun S E hG hcl => ?_)
  have hS := hG.1
  obtain ⟨g8, eg8⟩ : ∃ x : Mm, x = zrM g7 (b + 1) := ⟨_, rfl⟩
  rw [← eg8] at hcl ⊢
  have hb := mi_a (x := b + 1) hb
  have m_b_1 := mi_s (x := b + 1) (N := N)
  refine J_putFR (t := b + 1) hS (by rw [hG.2.1]; exact hnm) dX6_init_47 ffX6_33 (Or.inr ⟨_, rfl⟩) ⟨hb, lgW hW⟩ rfl (by omega) (by omega) (fun g9 eg9 => ?_)
  have hcl := Cl.putR (k := 7) (t := b + 1) hcl (lgW hW) rfl m_b_1 (by omega)
  rw [← eg9] at hcl
  refine J_aload_n hS dX6_init_50 rfl ?_
  refine J_bipush (v := 24) hS dX6_init_51 (by decide) ?_
  refine J_newA hG hcl (b + 2) (ni_a (hN 2 (by decide) (by decide)) (by omega)) (by omega) dX6_init_53 rfl ac_I (lgWa hW 2 _ (by decide) (by decide) rfl) (Or.inl ⟨rfl, Or.inl rfl⟩) (by decide) (by decide) (by decide) (rl_c (v := .ref (b)) hb rl_0) (rn_c (v := .ref (b)) hb rn_0) (by decide) (by decide) (fun S E hG hcl => ?_)
  have hS := hG.1
  obtain ⟨g10, eg10⟩ : ∃ x : Mm, x = zrM g9 (b + 2) := ⟨_, rfl⟩
  rw [← eg10] at hcl ⊢
  have hb := mi_a (x := b + 2) hb
  have m_b_1 := mi_a (x := b + 2) m_b_1
  have m_b_2 := mi_s (x := b + 2) (N := (N ++ [b + 1]))
  refine J_putFR (t := b + 2) hS (by rw [hG.2.1]; exact hnm) dX6_init_55 ffX6_37 (Or.inr ⟨_, rfl⟩) ⟨hb, lgW hW⟩ rfl (by omega) (by omega) (fun g11 eg11 => ?_)
  have hcl := Cl.putR (k := 8) (t := b + 2) hcl (lgW hW) rfl m_b_2 (by omega)
  rw [← eg11] at hcl
  refine J_aload_n hS dX6_init_58 rfl ?_
  refine J_bipush (v := 24) hS dX6_init_59 (by decide) ?_
  refine J_newA hG hcl (b + 3) (ni_a (ni_a (hN 3 (by decide) (by decide)) (by omega)) (by omega)) (by omega) dX6_init_61 rfl ac_I (lgWa hW 3 _ (by decide) (by decide) rfl) (Or.inl ⟨rfl, Or.inl rfl⟩) (by decide) (by decide) (by decide) (rl_c (v := .ref (b)) hb rl_0) (rn_c (v := .ref (b)) hb rn_0) (by decide) (by decide) (fun S E hG hcl => ?_)
  have hS := hG.1
  obtain ⟨g12, eg12⟩ : ∃ x : Mm, x = zrM g11 (b + 3) := ⟨_, rfl⟩
  rw [← eg12] at hcl ⊢
  have hb := mi_a (x := b + 3) hb
  have m_b_1 := mi_a (x := b + 3) m_b_1
  have m_b_2 := mi_a (x := b + 3) m_b_2
  have m_b_3 := mi_s (x := b + 3) (N := ((N ++ [b + 1]) ++ [b + 2]))
  refine J_putFR (t := b + 3) hS (by rw [hG.2.1]; exact hnm) dX6_init_63 ffX6_40 (Or.inr ⟨_, rfl⟩) ⟨hb, lgW hW⟩ rfl (by omega) (by omega) (fun g13 eg13 => ?_)
  have hcl := Cl.putR (k := 9) (t := b + 3) hcl (lgW hW) rfl m_b_3 (by omega)
  rw [← eg13] at hcl
  refine J_aload_n hS dX6_init_66 rfl ?_
  refine J_bipush (v := 24) hS dX6_init_67 (by decide) ?_
  refine J_newA hG hcl (b + 4) (ni_a (ni_a (ni_a (hN 4 (by decide) (by decide)) (by omega)) (by omega)) (by omega)) (by omega) dX6_init_69 rfl ac_I (lgWa hW 4 _ (by decide) (by decide) rfl) (Or.inl ⟨rfl, Or.inl rfl⟩) (by decide) (by decide) (by decide) (rl_c (v := .ref (b)) hb rl_0) (rn_c (v := .ref (b)) hb rn_0) (by decide) (by decide) (fun S E hG hcl => ?_)
  have hS := hG.1
  obtain ⟨g14, eg14⟩ : ∃ x : Mm, x = zrM g13 (b + 4) := ⟨_, rfl⟩
  rw [← eg14] at hcl ⊢
  have hb := mi_a (x := b + 4) hb
  have m_b_1 := mi_a (x := b + 4) m_b_1
  have m_b_2 := mi_a (x := b + 4) m_b_2
  have m_b_3 := mi_a (x := b + 4) m_b_3
  have m_b_4 := mi_s (x := b + 4) (N := (((N ++ [b + 1]) ++ [b + 2]) ++ [b + 3]))
  refine J_putFR (t := b + 4) hS (by rw [hG.2.1]; exact hnm) dX6_init_71 ffX6_43 (Or.inr ⟨_, rfl⟩) ⟨hb, lgW hW⟩ rfl (by omega) (by omega) (fun g15 eg15 => ?_)
  have hcl := Cl.putR (k := 10) (t := b + 4) hcl (lgW hW) rfl m_b_4 (by omega)
  rw [← eg15] at hcl
  refine J_aload_n hS dX6_init_74 rfl ?_
  refine J_bipush (v := 24) hS dX6_init_75 (by decide) ?_
  refine J_newA hG hcl (b + 5) (ni_a (ni_a (ni_a (ni_a (hN 5 (by decide) (by decide)) (by omega)) (by omega)) (by omega)) (by omega)) (by omega) dX6_init_77 rfl ac_I (lgWa hW 5 _ (by decide) (by decide) rfl) (Or.inl ⟨rfl, Or.inl rfl⟩) (by decide) (by decide) (by decide) (rl_c (v := .ref (b)) hb rl_0) (rn_c (v := .ref (b)) hb rn_0) (by decide) (by decide) (fun S E hG hcl => ?_)
  have hS := hG.1
  obtain ⟨g16, eg16⟩ : ∃ x : Mm, x = zrM g15 (b + 5) := ⟨_, rfl⟩
  rw [← eg16] at hcl ⊢
  have hb := mi_a (x := b + 5) hb
  have m_b_1 := mi_a (x := b + 5) m_b_1
  have m_b_2 := mi_a (x := b + 5) m_b_2
  have m_b_3 := mi_a (x := b + 5) m_b_3
  have m_b_4 := mi_a (x := b + 5) m_b_4
  have m_b_5 := mi_s (x := b + 5) (N := ((((N ++ [b + 1]) ++ [b + 2]) ++ [b + 3]) ++ [b + 4]))
  refine J_putFR (t := b + 5) hS (by rw [hG.2.1]; exact hnm) dX6_init_79 ffX6_46 (Or.inr ⟨_, rfl⟩) ⟨hb, lgW hW⟩ rfl (by omega) (by omega) (fun g17 eg17 => ?_)
  have hcl := Cl.putR (k := 11) (t := b + 5) hcl (lgW hW) rfl m_b_5 (by omega)
  rw [← eg17] at hcl
  refine J_aload_n hS dX6_init_82 rfl ?_
  refine J_bipush (v := 24) hS dX6_init_83 (by decide) ?_
  refine J_newA hG hcl (b + 6) (ni_a (ni_a (ni_a (ni_a (ni_a (hN 6 (by decide) (by decide)) (by omega)) (by omega)) (by omega)) (by omega)) (by omega)) (by omega) dX6_init_85 rfl ac_I (lgWa hW 6 _ (by decide) (by decide) rfl) (Or.inl ⟨rfl, Or.inl rfl⟩) (by decide) (by decide) (by decide) (rl_c (v := .ref (b)) hb rl_0) (rn_c (v := .ref (b)) hb rn_0) (by decide) (by decide) (fun S E hG hcl => ?_)
  have hS := hG.1
  obtain ⟨g18, eg18⟩ : ∃ x : Mm, x = zrM g17 (b + 6) := ⟨_, rfl⟩
  rw [← eg18] at hcl ⊢
  have hb := mi_a (x := b + 6) hb
  have m_b_1 := mi_a (x := b + 6) m_b_1
  have m_b_2 := mi_a (x := b + 6) m_b_2
  have m_b_3 := mi_a (x := b + 6) m_b_3
  have m_b_4 := mi_a (x := b + 6) m_b_4
  have m_b_5 := mi_a (x := b + 6) m_b_5
  have m_b_6 := mi_s (x := b + 6) (N := (((((N ++ [b + 1]) ++ [b + 2]) ++ [b + 3]) ++ [b + 4]) ++ [b + 5]))
  refine J_putFR (t := b + 6) hS (by rw [hG.2.1]; exact hnm) dX6_init_87 ffX6_49 (Or.inr ⟨_, rfl⟩) ⟨hb, lgW hW⟩ rfl (by omega) (by omega) (fun g19 eg19 => ?_)
  have hcl := Cl.putR (k := 12) (t := b + 6) hcl (lgW hW) rfl m_b_6 (by omega)
  rw [← eg19] at hcl
  refine J_aload_n hS dX6_init_90 rfl ?_
  refine J_bipush (v := 24) hS dX6_init_91 (by decide) ?_
  refine J_newA hG hcl (b + 7) (ni_a (ni_a (ni_a (ni_a (ni_a (ni_a (hN 7 (by decide) (by decide)) (by omega)) (by omega)) (by omega)) (by omega)) (by omega)) (by omega)) (by omega) dX6_init_93 rfl ac_I (lgWa hW 7 _ (by decide) (by decide) rfl) (Or.inl ⟨rfl, Or.inl rfl⟩) (by decide) (by decide) (by decide) (rl_c (v := .ref (b)) hb rl_0) (rn_c (v := .ref (b)) hb rn_0) (by decide) (by decide) (fun S E hG hcl => ?_)
  have hS := hG.1
  obtain ⟨g20, eg20⟩ : ∃ x : Mm, x = zrM g19 (b + 7) := ⟨_, rfl⟩
  rw [← eg20] at hcl ⊢
  have hb := mi_a (x := b + 7) hb
  have m_b_1 := mi_a (x := b + 7) m_b_1
  have m_b_2 := mi_a (x := b + 7) m_b_2
  have m_b_3 := mi_a (x := b + 7) m_b_3
  have m_b_4 := mi_a (x := b + 7) m_b_4
  have m_b_5 := mi_a (x := b + 7) m_b_5
  have m_b_6 := mi_a (x := b + 7) m_b_6
  have m_b_7 := mi_s (x := b + 7) (N := ((((((N ++ [b + 1]) ++ [b + 2]) ++ [b + 3]) ++ [b + 4]) ++ [b + 5]) ++ [b + 6]))
  refine J_putFR (t := b + 7) hS (by rw [hG.2.1]; exact hnm) dX6_init_95 ffX6_52 (Or.inr ⟨_, rfl⟩) ⟨hb, lgW hW⟩ rfl (by omega) (by omega) (fun g21 eg21 => ?_)
  have hcl := Cl.putR (k := 13) (t := b + 7) hcl (lgW hW) rfl m_b_7 (by omega)
  rw [← eg21] at hcl
  refine J_aload_n hS dX6_init_98 rfl ?_
  refine J_sipush (v := 3072) hS dX6_init_99 (by decide) ?_
  refine J_newA hG hcl (b + 8) (ni_a (ni_a (ni_a (ni_a (ni_a (ni_a (ni_a (hN 8 (by decide) (by decide)) (by omega)) (by omega)) (by omega)) (by omega)) (by omega)) (by omega)) (by omega)) (by omega) dX6_init_102 rfl ac_I (lgWa hW 8 _ (by decide) (by decide) rfl) (Or.inl ⟨rfl, Or.inl rfl⟩) (by decide) (by decide) (by decide) (rl_c (v := .ref (b)) hb rl_0) (rn_c (v := .ref (b)) hb rn_0) (by decide) (by decide) (fun S E hG hcl => ?_)
  have hS := hG.1
  obtain ⟨g22, eg22⟩ : ∃ x : Mm, x = zrM g21 (b + 8) := ⟨_, rfl⟩
  rw [← eg22] at hcl ⊢
  have hb := mi_a (x := b + 8) hb
  have m_b_1 := mi_a (x := b + 8) m_b_1
  have m_b_2 := mi_a (x := b + 8) m_b_2
  have m_b_3 := mi_a (x := b + 8) m_b_3
  have m_b_4 := mi_a (x := b + 8) m_b_4
  have m_b_5 := mi_a (x := b + 8) m_b_5
  have m_b_6 := mi_a (x := b + 8) m_b_6
  have m_b_7 := mi_a (x := b + 8) m_b_7
  have m_b_8 := mi_s (x := b + 8) (N := (((((((N ++ [b + 1]) ++ [b + 2]) ++ [b + 3]) ++ [b + 4]) ++ [b + 5]) ++ [b + 6]) ++ [b + 7]))
  refine J_putFR (t := b + 8) hS (by rw [hG.2.1]; exact hnm) dX6_init_104 ffX6_55 (Or.inr ⟨_, rfl⟩) ⟨hb, lgW hW⟩ rfl (by omega) (by omega) (fun g23 eg23 => ?_)
  have hcl := Cl.putR (k := 14) (t := b + 8) hcl (lgW hW) rfl m_b_8 (by omega)
  rw [← eg23] at hcl
  refine J_aload_n hS dX6_init_107 rfl ?_
  refine J_sipush (v := 144) hS dX6_init_108 (by decide) ?_
  refine J_newA hG hcl (b + 9) (ni_a (ni_a (ni_a (ni_a (ni_a (ni_a (ni_a (ni_a (hN 9 (by decide) (by decide)) (by omega)) (by omega)) (by omega)) (by omega)) (by omega)) (by omega)) (by omega)) (by omega)) (by omega) dX6_init_111 rfl ac_I (lgWa hW 9 _ (by decide) (by decide) rfl) (Or.inl ⟨rfl, Or.inl rfl⟩) (by decide) (by decide) (by decide) (rl_c (v := .ref (b)) hb rl_0) (rn_c (v := .ref (b)) hb rn_0) (by decide) (by decide) (fun S E hG hcl => ?_)
  have hS := hG.1
  obtain ⟨g24, eg24⟩ : ∃ x : Mm, x = zrM g23 (b + 9) := ⟨_, rfl⟩
  rw [← eg24] at hcl ⊢
  have hb := mi_a (x := b + 9) hb
  have m_b_1 := mi_a (x := b + 9) m_b_1
  have m_b_2 := mi_a (x := b + 9) m_b_2
  have m_b_3 := mi_a (x := b + 9) m_b_3
  have m_b_4 := mi_a (x := b + 9) m_b_4
  have m_b_5 := mi_a (x := b + 9) m_b_5
  have m_b_6 := mi_a (x := b + 9) m_b_6
  have m_b_7 := mi_a (x := b + 9) m_b_7
  have m_b_8 := mi_a (x := b + 9) m_b_8
  have m_b_9 := mi_s (x := b + 9) (N := ((((((((N ++ [b + 1]) ++ [b + 2]) ++ [b + 3]) ++ [b + 4]) ++ [b + 5]) ++ [b + 6]) ++ [b + 7]) ++ [b + 8]))
  refine J_putFR (t := b + 9) hS (by rw [hG.2.1]; exact hnm) dX6_init_113 ffX6_58 (Or.inr ⟨_, rfl⟩) ⟨hb, lgW hW⟩ rfl (by omega) (by omega) (fun g25 eg25 => ?_)
  have hcl := Cl.putR (k := 15) (t := b + 9) hcl (lgW hW) rfl m_b_9 (by omega)
  rw [← eg25] at hcl
  refine J_aload_n hS dX6_init_116 rfl ?_
  refine J_bipush (v := 48) hS dX6_init_117 (by decide) ?_
  refine J_newA hG hcl (b + 10) (ni_a (ni_a (ni_a (ni_a (ni_a (ni_a (ni_a (ni_a (ni_a (hN 10 (by decide) (by decide)) (by omega)) (by omega)) (by omega)) (by omega)) (by omega)) (by omega)) (by omega)) (by omega)) (by omega)) (by omega) dX6_init_119 rfl ac_I (lgWa hW 10 _ (by decide) (by decide) rfl) (Or.inl ⟨rfl, Or.inl rfl⟩) (by decide) (by decide) (by decide) (rl_c (v := .ref (b)) hb rl_0) (rn_c (v := .ref (b)) hb rn_0) (by decide) (by decide) (fun S E hG hcl => ?_)
  have hS := hG.1
  obtain ⟨g26, eg26⟩ : ∃ x : Mm, x = zrM g25 (b + 10) := ⟨_, rfl⟩
  rw [← eg26] at hcl ⊢
  have hb := mi_a (x := b + 10) hb
  have m_b_1 := mi_a (x := b + 10) m_b_1
  have m_b_2 := mi_a (x := b + 10) m_b_2
  have m_b_3 := mi_a (x := b + 10) m_b_3
  have m_b_4 := mi_a (x := b + 10) m_b_4
  have m_b_5 := mi_a (x := b + 10) m_b_5
  have m_b_6 := mi_a (x := b + 10) m_b_6
  have m_b_7 := mi_a (x := b + 10) m_b_7
  have m_b_8 := mi_a (x := b + 10) m_b_8
  have m_b_9 := mi_a (x := b + 10) m_b_9
  have m_b_10 := mi_s (x := b + 10) (N := (((((((((N ++ [b + 1]) ++ [b + 2]) ++ [b + 3]) ++ [b + 4]) ++ [b + 5]) ++ [b + 6]) ++ [b + 7]) ++ [b + 8]) ++ [b + 9]))
  refine J_putFR (t := b + 10) hS (by rw [hG.2.1]; exact hnm) dX6_init_121 ffX6_61 (Or.inr ⟨_, rfl⟩) ⟨hb, lgW hW⟩ rfl (by omega) (by omega) (fun g27 eg27 => ?_)
  have hcl := Cl.putR (k := 16) (t := b + 10) hcl (lgW hW) rfl m_b_10 (by omega)
  rw [← eg27] at hcl
  refine J_vretG hG hcl hZ hr dX6_init_124 (by decide) (by decide) ?_
  refine ⟨by simp, fun c hc hcb => ?_, fun j hj => ?_, fun k hk => ?_, fun j h1 h2 => ?_⟩
  · have hx : ∀ j, 1 ≤ j → j ≤ 10 → c ≠ b + j := fun j h1 h2 e => hN j h1 h2 (by rw [← e]; exact hc)
    have x1 := hx 1 (by decide) (by decide)
    have x2 := hx 2 (by decide) (by decide)
    have x3 := hx 3 (by decide) (by decide)
    have x4 := hx 4 (by decide) (by decide)
    have x5 := hx 5 (by decide) (by decide)
    have x6 := hx 6 (by decide) (by decide)
    have x7 := hx 7 (by decide) (by decide)
    have x8 := hx 8 (by decide) (by decide)
    have x9 := hx 9 (by decide) (by decide)
    have x10 := hx 10 (by decide) (by decide)
    subst eg27 eg26 eg25 eg24 eg23 eg22 eg21 eg20 eg19 eg18 eg17 eg16 eg15 eg14 eg13 eg12 eg11 eg10 eg9 eg8 eg7 eg6 eg5 eg4 eg3 eg2 eg1
    funext k; simp [u2, zrM, hcb, x1, x2, x3, x4, x5, x6, x7, x8, x9, x10]
  · have : j = 0 ∨ 1 ≤ j := by omega
    rcases this with e | e
    · subst e; exact hb
    · have : j = 1 ∨ j = 2 ∨ j = 3 ∨ j = 4 ∨ j = 5 ∨ j = 6 ∨ j = 7 ∨ j = 8 ∨ j = 9 ∨ j = 10 := by omega
      rcases this with e | e | e | e | e | e | e | e | e | e <;> subst e <;> simp
  · subst eg27 eg26 eg25 eg24 eg23 eg22 eg21 eg20 eg19 eg18 eg17 eg16 eg15 eg14 eg13 eg12 eg11 eg10 eg9 eg8 eg7 eg6 eg5 eg4 eg3 eg2 eg1
    have : k = 0 ∨ k = 1 ∨ k = 2 ∨ k = 3 ∨ k = 4 ∨ k = 5 ∨ k = 6 ∨ k = 7 ∨ k = 8 ∨ k = 9 ∨ k = 10 ∨ k = 11 ∨ k = 12 ∨ k = 13 ∨ k = 14 ∨ k = 15 ∨ k = 16 := by omega
    rcases this with e | e | e | e | e | e | e | e | e | e | e | e | e | e | e | e | e <;> subst e <;> simp [u2, zrM, wR]
  · subst eg27 eg26 eg25 eg24 eg23 eg22 eg21 eg20 eg19 eg18 eg17 eg16 eg15 eg14 eg13 eg12 eg11 eg10 eg9 eg8 eg7 eg6 eg5 eg4 eg3 eg2 eg1
    have : j = 1 ∨ j = 2 ∨ j = 3 ∨ j = 4 ∨ j = 5 ∨ j = 6 ∨ j = 7 ∨ j = 8 ∨ j = 9 ∨ j = 10 := by omega
    rcases this with e | e | e | e | e | e | e | e | e | e <;> subst e <;> funext k <;> simp [u2, zrM]
theorem i_X1 {b : Nat} (hW : Lw b) (hN : ∀ j, 1 ≤ j → j ≤ 5 → b + j ∉ N) : CtG l E layG N 1 5 348 yX1_init b g Px (fun N' g' => N' = N ++ [b + 1, b + 2, b + 3, b + 4, b + 5] ∧ (∀ c ∈ N, c ≠ b → g' c = g c) ∧ LF N' g' b) := by
  refine CtG_of (by decide) rfl k_yX1_init (by decide) (fun S0 hG hZ hr hnm hpx hcl hb => ?_)
  have hS := hG.1
  have hb9 : b < 900 := by obtain ⟨i, hi, e⟩ := hW; omega
  have hb0 : 2 ≤ b := by obtain ⟨i, hi, e⟩ := hW; omega
  refine J_aload_n hS dX1_init_0 rfl ?_
  refine J_obj hS dX1_init_1 mlX1_3 ob_i ob_c rfl (by decide) (Nat.le_of_ble_eq_true rfl) ?_
  refine J_aload_n hS dX1_init_4 rfl ?_
  refine J_iconst (v := 0) hS dX1_init_5 (by decide) ?_
  refine J_putI hS dX1_init_6 fpX1_9 ⟨hb, lgL hW⟩ rfl (fun g1 eg1 => ?_)
  have hcl := Cl.putI (k := 0) (v := 0) hcl (lgL hW) rfl
  rw [← eg1] at hcl
  refine J_aload_n hS dX1_init_9 rfl ?_
  refine J_bipush (v := 12) hS dX1_init_10 (by decide) ?_
  refine J_newA hG hcl (b + 1) (hN 1 (by decide) (by decide)) (by omega) dX1_init_12 rfl ac_I (lgLa hW 1 _ (by decide) (by decide) rfl) (Or.inl ⟨rfl, Or.inl rfl⟩) (by decide) (by decide) (by decide) (rl_c (v := .ref (b)) hb rl_0) (rn_c (v := .ref (b)) hb rn_0) (by decide) (by decide) (fun S E hG hcl => ?_)
  have hS := hG.1
  obtain ⟨g2, eg2⟩ : ∃ x : Mm, x = zrM g1 (b + 1) := ⟨_, rfl⟩
  rw [← eg2] at hcl ⊢
  have hb := mi_a (x := b + 1) hb
  have m_b_1 := mi_s (x := b + 1) (N := N)
  refine J_putFR (t := b + 1) hS (by rw [hG.2.1]; exact hnm) dX1_init_14 ffX1_15 (Or.inr ⟨_, rfl⟩) ⟨hb, lgL hW⟩ rfl (by omega) (by omega) (fun g3 eg3 => ?_)
  have hcl := Cl.putR (k := 1) (t := b + 1) hcl (lgL hW) rfl m_b_1 (by omega)
  rw [← eg3] at hcl
  refine J_aload_n hS dX1_init_17 rfl ?_
  refine J_bipush (v := 12) hS dX1_init_18 (by decide) ?_
  refine J_newA hG hcl (b + 2) (ni_a (hN 2 (by decide) (by decide)) (by omega)) (by omega) dX1_init_20 rfl ac_I (lgLa hW 2 _ (by decide) (by decide) rfl) (Or.inl ⟨rfl, Or.inl rfl⟩) (by decide) (by decide) (by decide) (rl_c (v := .ref (b)) hb rl_0) (rn_c (v := .ref (b)) hb rn_0) (by decide) (by decide) (fun S E hG hcl => ?_)
  have hS := hG.1
  obtain ⟨g4, eg4⟩ : ∃ x : Mm, x = zrM g3 (b + 2) := ⟨_, rfl⟩
  rw [← eg4] at hcl ⊢
  have hb := mi_a (x := b + 2) hb
  have m_b_1 := mi_a (x := b + 2) m_b_1
  have m_b_2 := mi_s (x := b + 2) (N := (N ++ [b + 1]))
  refine J_putFR (t := b + 2) hS (by rw [hG.2.1]; exact hnm) dX1_init_22 ffX1_19 (Or.inr ⟨_, rfl⟩) ⟨hb, lgL hW⟩ rfl (by omega) (by omega) (fun g5 eg5 => ?_)
  have hcl := Cl.putR (k := 2) (t := b + 2) hcl (lgL hW) rfl m_b_2 (by omega)
  rw [← eg5] at hcl
  refine J_aload_n hS dX1_init_25 rfl ?_
  refine J_bipush (v := 12) hS dX1_init_26 (by decide) ?_
  refine J_newA hG hcl (b + 3) (ni_a (ni_a (hN 3 (by decide) (by decide)) (by omega)) (by omega)) (by omega) dX1_init_28 rfl ac_I (lgLa hW 3 _ (by decide) (by decide) rfl) (Or.inl ⟨rfl, Or.inl rfl⟩) (by decide) (by decide) (by decide) (rl_c (v := .ref (b)) hb rl_0) (rn_c (v := .ref (b)) hb rn_0) (by decide) (by decide) (fun S E hG hcl => ?_)
  have hS := hG.1
  obtain ⟨g6, eg6⟩ : ∃ x : Mm, x = zrM g5 (b + 3) := ⟨_, rfl⟩
  rw [← eg6] at hcl ⊢
  have hb := mi_a (x := b + 3) hb
  have m_b_1 := mi_a (x := b + 3) m_b_1
  have m_b_2 := mi_a (x := b + 3) m_b_2
  have m_b_3 := mi_s (x := b + 3) (N := ((N ++ [b + 1]) ++ [b + 2]))
  refine J_putFR (t := b + 3) hS (by rw [hG.2.1]; exact hnm) dX1_init_30 ffX1_22 (Or.inr ⟨_, rfl⟩) ⟨hb, lgL hW⟩ rfl (by omega) (by omega) (fun g7 eg7 => ?_)
  have hcl := Cl.putR (k := 3) (t := b + 3) hcl (lgL hW) rfl m_b_3 (by omega)
  rw [← eg7] at hcl
  refine J_aload_n hS dX1_init_33 rfl ?_
  refine J_bipush (v := 12) hS dX1_init_34 (by decide) ?_
  refine J_newA hG hcl (b + 4) (ni_a (ni_a (ni_a (hN 4 (by decide) (by decide)) (by omega)) (by omega)) (by omega)) (by omega) dX1_init_36 rfl ac_I (lgLa hW 4 _ (by decide) (by decide) rfl) (Or.inl ⟨rfl, Or.inl rfl⟩) (by decide) (by decide) (by decide) (rl_c (v := .ref (b)) hb rl_0) (rn_c (v := .ref (b)) hb rn_0) (by decide) (by decide) (fun S E hG hcl => ?_)
  have hS := hG.1
  obtain ⟨g8, eg8⟩ : ∃ x : Mm, x = zrM g7 (b + 4) := ⟨_, rfl⟩
  rw [← eg8] at hcl ⊢
  have hb := mi_a (x := b + 4) hb
  have m_b_1 := mi_a (x := b + 4) m_b_1
  have m_b_2 := mi_a (x := b + 4) m_b_2
  have m_b_3 := mi_a (x := b + 4) m_b_3
  have m_b_4 := mi_s (x := b + 4) (N := (((N ++ [b + 1]) ++ [b + 2]) ++ [b + 3]))
  refine J_putFR (t := b + 4) hS (by rw [hG.2.1]; exact hnm) dX1_init_38 ffX1_25 (Or.inr ⟨_, rfl⟩) ⟨hb, lgL hW⟩ rfl (by omega) (by omega) (fun g9 eg9 => ?_)
  have hcl := Cl.putR (k := 4) (t := b + 4) hcl (lgL hW) rfl m_b_4 (by omega)
  rw [← eg9] at hcl
  refine J_aload_n hS dX1_init_41 rfl ?_
  refine J_sipush (v := 300) hS dX1_init_42 (by decide) ?_
  refine J_newA hG hcl (b + 5) (ni_a (ni_a (ni_a (ni_a (hN 5 (by decide) (by decide)) (by omega)) (by omega)) (by omega)) (by omega)) (by omega) dX1_init_45 rfl ac_I (lgLa hW 5 _ (by decide) (by decide) rfl) (Or.inl ⟨rfl, Or.inl rfl⟩) (by decide) (by decide) (by decide) (rl_c (v := .ref (b)) hb rl_0) (rn_c (v := .ref (b)) hb rn_0) (by decide) (by decide) (fun S E hG hcl => ?_)
  have hS := hG.1
  obtain ⟨g10, eg10⟩ : ∃ x : Mm, x = zrM g9 (b + 5) := ⟨_, rfl⟩
  rw [← eg10] at hcl ⊢
  have hb := mi_a (x := b + 5) hb
  have m_b_1 := mi_a (x := b + 5) m_b_1
  have m_b_2 := mi_a (x := b + 5) m_b_2
  have m_b_3 := mi_a (x := b + 5) m_b_3
  have m_b_4 := mi_a (x := b + 5) m_b_4
  have m_b_5 := mi_s (x := b + 5) (N := ((((N ++ [b + 1]) ++ [b + 2]) ++ [b + 3]) ++ [b + 4]))
  refine J_putFR (t := b + 5) hS (by rw [hG.2.1]; exact hnm) dX1_init_47 ffX1_28 (Or.inr ⟨_, rfl⟩) ⟨hb, lgL hW⟩ rfl (by omega) (by omega) (fun g11 eg11 => ?_)
  have hcl := Cl.putR (k := 5) (t := b + 5) hcl (lgL hW) rfl m_b_5 (by omega)
  rw [← eg11] at hcl
  refine J_aload_n hS dX1_init_50 rfl ?_
  refine J_iconst (v := 0) hS dX1_init_51 (by decide) ?_
  refine J_putI hS dX1_init_52 fpX1_31 ⟨hb, lgL hW⟩ rfl (fun g12 eg12 => ?_)
  have hcl := Cl.putI (k := 6) (v := 0) hcl (lgL hW) rfl
  rw [← eg12] at hcl
  refine J_vretG hG hcl hZ hr dX1_init_55 (by decide) (by decide) ?_
  refine ⟨by simp, fun c hc hcb => ?_, fun j hj => ?_, ?_, ?_, fun k h1 h2 => ?_, fun j h1 h2 => ?_⟩
  · have hx : ∀ j, 1 ≤ j → j ≤ 5 → c ≠ b + j := fun j h1 h2 e => hN j h1 h2 (by rw [← e]; exact hc)
    have x1 := hx 1 (by decide) (by decide)
    have x2 := hx 2 (by decide) (by decide)
    have x3 := hx 3 (by decide) (by decide)
    have x4 := hx 4 (by decide) (by decide)
    have x5 := hx 5 (by decide) (by decide)
    subst eg12 eg11 eg10 eg9 eg8 eg7 eg6 eg5 eg4 eg3 eg2 eg1
    funext k; simp [u2, zrM, hcb, x1, x2, x3, x4, x5]
  · have : j = 0 ∨ 1 ≤ j := by omega
    rcases this with e | e
    · subst e; exact hb
    · have : j = 1 ∨ j = 2 ∨ j = 3 ∨ j = 4 ∨ j = 5 := by omega
      rcases this with e | e | e | e | e <;> subst e <;> simp
  · subst eg12 eg11 eg10 eg9 eg8 eg7 eg6 eg5 eg4 eg3 eg2 eg1; simp [u2, zrM]
  · subst eg12 eg11 eg10 eg9 eg8 eg7 eg6 eg5 eg4 eg3 eg2 eg1; simp [u2, zrM]
  · subst eg12 eg11 eg10 eg9 eg8 eg7 eg6 eg5 eg4 eg3 eg2 eg1
    have : k = 1 ∨ k = 2 ∨ k = 3 ∨ k = 4 ∨ k = 5 := by omega
    rcases this with e | e | e | e | e <;> subst e <;> simp [u2, zrM]
  · subst eg12 eg11 eg10 eg9 eg8 eg7 eg6 eg5 eg4 eg3 eg2 eg1
    have : j = 1 ∨ j = 2 ∨ j = 3 ∨ j = 4 ∨ j = 5 := by omega
    rcases this with e | e | e | e | e <;> subst e <;> funext k <;> simp [u2, zrM]
theorem i_X2 (hN : ∀ a ∈ ([] : List Nat), a ∉ N) : CtG l E layG N 1 0 0 yX2_init 155 g Px (fun N' g' => N' = N ++ [] ∧ (∀ c ∈ N, c ≠ 155 → g' c = g c) ∧ (∀ k, k < 9 → g' 155 k = if k = 8 then -1 else 0)) := by
  refine CtG_of (by decide) rfl k_yX2_init (by decide) (fun S0 hG hZ hr hnm hpx hcl hb => ?_)
  have hS := hG.1
  refine J_aload_n hS dX2_init_0 rfl ?_
  refine J_obj hS dX2_init_1 mlX2_3 ob_i ob_c rfl (by decide) (Nat.le_of_ble_eq_true rfl) ?_
  refine J_aload_n hS dX2_init_4 rfl ?_
  refine J_null hS dX2_init_5 ?_
  refine J_putD (x := 0) hS dX2_init_6 fpX2_9 (Or.inr ⟨_, rfl⟩) ⟨hb, lg_o ob155.2⟩ rfl rfl (Or.inl rfl) (fun g1 eg1 => ?_)
  have hcl := Cl.putN (k := 0) hcl (lg_o ob155.2) rfl
  rw [← eg1] at hcl
  refine J_aload_n hS dX2_init_9 rfl ?_
  refine J_iconst (v := 0) hS dX2_init_10 (by decide) ?_
  refine J_putI hS dX2_init_11 fpX2_15 ⟨hb, lg_o ob155.2⟩ rfl (fun g2 eg2 => ?_)
  have hcl := Cl.putI (k := 1) (v := 0) hcl (lg_o ob155.2) rfl
  rw [← eg2] at hcl
  refine J_aload_n hS dX2_init_14 rfl ?_
  refine J_null hS dX2_init_15 ?_
  refine J_putD (x := 0) hS dX2_init_16 fpX2_19 (Or.inl ⟨_, rfl⟩) ⟨hb, lg_o ob155.2⟩ rfl rfl (Or.inl rfl) (fun g3 eg3 => ?_)
  have hcl := Cl.putN (k := 2) hcl (lg_o ob155.2) rfl
  rw [← eg3] at hcl
  refine J_aload_n hS dX2_init_19 rfl ?_
  refine J_iconst (v := 0) hS dX2_init_20 (by decide) ?_
  refine J_putI hS dX2_init_21 fpX2_23 ⟨hb, lg_o ob155.2⟩ rfl (fun g4 eg4 => ?_)
  have hcl := Cl.putI (k := 3) (v := 0) hcl (lg_o ob155.2) rfl
  rw [← eg4] at hcl
  refine J_aload_n hS dX2_init_24 rfl ?_
  refine J_iconst (v := 0) hS dX2_init_25 (by decide) ?_
  refine J_putI hS dX2_init_26 fpX2_26 ⟨hb, lg_o ob155.2⟩ rfl (fun g5 eg5 => ?_)
  have hcl := Cl.putI (k := 4) (v := 0) hcl (lg_o ob155.2) rfl
  rw [← eg5] at hcl
  refine J_aload_n hS dX2_init_29 rfl ?_
  refine J_iconst (v := 0) hS dX2_init_30 (by decide) ?_
  refine J_putI hS dX2_init_31 fpX2_29 ⟨hb, lg_o ob155.2⟩ rfl (fun g6 eg6 => ?_)
  have hcl := Cl.putI (k := 5) (v := 0) hcl (lg_o ob155.2) rfl
  rw [← eg6] at hcl
  refine J_aload_n hS dX2_init_34 rfl ?_
  refine J_iconst (v := 0) hS dX2_init_35 (by decide) ?_
  refine J_putI hS dX2_init_36 fpX2_32 ⟨hb, lg_o ob155.2⟩ rfl (fun g7 eg7 => ?_)
  have hcl := Cl.putI (k := 6) (v := 0) hcl (lg_o ob155.2) rfl
  rw [← eg7] at hcl
  refine J_aload_n hS dX2_init_39 rfl ?_
  refine J_iconst (v := 0) hS dX2_init_40 (by decide) ?_
  refine J_putI hS dX2_init_41 fpX2_35 ⟨hb, lg_o ob155.2⟩ rfl (fun g8 eg8 => ?_)
  have hcl := Cl.putI (k := 7) (v := 0) hcl (lg_o ob155.2) rfl
  rw [← eg8] at hcl
  refine J_aload_n hS dX2_init_44 rfl ?_
  refine J_iconst (v := (-1)) hS dX2_init_45 (by decide) ?_
  refine J_putI hS dX2_init_46 fpX2_38 ⟨hb, lg_o ob155.2⟩ rfl (fun g9 eg9 => ?_)
  have hcl := Cl.putI (k := 8) (v := (-1)) hcl (lg_o ob155.2) rfl
  rw [← eg9] at hcl
  refine J_vretG hG hcl hZ hr dX2_init_49 (by decide) (by decide) ?_
  refine ⟨by simp, fun c hc hcb => ?_, (by subst eg9 eg8 eg7 eg6 eg5 eg4 eg3 eg2 eg1; intro k hk; have : k = 0 ∨ k = 1 ∨ k = 2 ∨ k = 3 ∨ k = 4 ∨ k = 5 ∨ k = 6 ∨ k = 7 ∨ k = 8 := (by omega); rcases this with e | e | e | e | e | e | e | e | e <;> subst e <;> simp [u2])⟩
  subst eg9 eg8 eg7 eg6 eg5 eg4 eg3 eg2 eg1
  funext k; simp [u2, zrM, hcb]
theorem i_X4 (hN : ∀ a ∈ ([153, 154] : List Nat), a ∉ N) : CtG l E layG N 1 2 306 yX4_init 152 g Px (fun N' g' => N' = N ++ [153, 154] ∧ (∀ c ∈ N, c ≠ 152 → g' c = g c) ∧ g' 152 0 = nI 153 ∧ g' 152 1 = nI 154 ∧ g' 152 2 = 0 ∧ g' 152 3 = -1 ∧ g' 153 = (fun _ => 0) ∧ g' 154 = fun _ => 0) := by
  refine CtG_of (by decide) rfl k_yX4_init (by decide) (fun S0 hG hZ hr hnm hpx hcl hb => ?_)
  have hS := hG.1
  refine J_aload_n hS dX4_init_0 rfl ?_
  refine J_obj hS dX4_init_1 mlX4_3 ob_i ob_c rfl (by decide) (Nat.le_of_ble_eq_true rfl) ?_
  refine J_aload_n hS dX4_init_4 rfl ?_
  refine J_bipush (v := 6) hS dX4_init_5 (by decide) ?_
  refine J_newA hG hcl (153) (hN 153 (by decide)) (by omega) dX4_init_7 rfl ac_I (lg_r ar153) (Or.inl ⟨rfl, Or.inl rfl⟩) (by decide) (by decide) (by decide) (rl_c (v := .ref (152)) hb rl_0) (rn_c (v := .ref (152)) hb rn_0) (by decide) (by decide) (fun S E hG hcl => ?_)
  have hS := hG.1
  obtain ⟨g1, eg1⟩ : ∃ x : Mm, x = zrM g (153) := ⟨_, rfl⟩
  rw [← eg1] at hcl ⊢
  have hb := mi_a (x := 153) hb
  have m_153 := mi_s (x := 153) (N := N)
  refine J_putFR (t := 153) hS (by rw [hG.2.1]; exact hnm) dX4_init_9 ffX4_11 (Or.inr ⟨_, rfl⟩) ⟨hb, lg_o ob152.2⟩ rfl (by omega) (by omega) (fun g2 eg2 => ?_)
  have hcl := Cl.putR (k := 0) (t := 153) hcl (lg_o ob152.2) rfl m_153 (by omega)
  rw [← eg2] at hcl
  refine J_aload_n hS dX4_init_12 rfl ?_
  refine J_sipush (v := 300) hS dX4_init_13 (by decide) ?_
  refine J_newA hG hcl (154) (ni_a (hN 154 (by decide)) (by decide)) (by omega) dX4_init_16 rfl ac_I (lg_r ar154) (Or.inl ⟨rfl, Or.inl rfl⟩) (by decide) (by decide) (by decide) (rl_c (v := .ref (152)) hb rl_0) (rn_c (v := .ref (152)) hb rn_0) (by decide) (by decide) (fun S E hG hcl => ?_)
  have hS := hG.1
  obtain ⟨g3, eg3⟩ : ∃ x : Mm, x = zrM g2 (154) := ⟨_, rfl⟩
  rw [← eg3] at hcl ⊢
  have hb := mi_a (x := 154) hb
  have m_153 := mi_a (x := 154) m_153
  have m_154 := mi_s (x := 154) (N := (N ++ [153]))
  refine J_putFR (t := 154) hS (by rw [hG.2.1]; exact hnm) dX4_init_18 ffX4_17 (Or.inr ⟨_, rfl⟩) ⟨hb, lg_o ob152.2⟩ rfl (by omega) (by omega) (fun g4 eg4 => ?_)
  have hcl := Cl.putR (k := 1) (t := 154) hcl (lg_o ob152.2) rfl m_154 (by omega)
  rw [← eg4] at hcl
  refine J_aload_n hS dX4_init_21 rfl ?_
  refine J_null hS dX4_init_22 ?_
  refine J_putD (x := 0) hS dX4_init_23 fpX4_20 (Or.inl ⟨_, rfl⟩) ⟨hb, lg_o ob152.2⟩ rfl rfl (Or.inl rfl) (fun g5 eg5 => ?_)
  have hcl := Cl.putN (k := 2) hcl (lg_o ob152.2) rfl
  rw [← eg5] at hcl
  refine J_aload_n hS dX4_init_26 rfl ?_
  refine J_iconst (v := (-1)) hS dX4_init_27 (by decide) ?_
  refine J_putI hS dX4_init_28 fpX4_24 ⟨hb, lg_o ob152.2⟩ rfl (fun g6 eg6 => ?_)
  have hcl := Cl.putI (k := 3) (v := (-1)) hcl (lg_o ob152.2) rfl
  rw [← eg6] at hcl
  refine J_vretG hG hcl hZ hr dX4_init_31 (by decide) (by decide) ?_
  refine ⟨by simp, fun c hc hcb => ?_, (by subst eg6 eg5 eg4 eg3 eg2 eg1; simp [u2, zrM]), (by subst eg6 eg5 eg4 eg3 eg2 eg1; simp [u2, zrM]), (by subst eg6 eg5 eg4 eg3 eg2 eg1; simp [u2, zrM]), (by subst eg6 eg5 eg4 eg3 eg2 eg1; simp [u2, zrM]), (by subst eg6 eg5 eg4 eg3 eg2 eg1; funext k; simp [u2, zrM]), (by subst eg6 eg5 eg4 eg3 eg2 eg1; funext k; simp [u2, zrM])⟩
  have x153 : c ≠ 153 := fun e => hN 153 (by decide) (by rw [← e]; exact hc)
  have x154 : c ≠ 154 := fun e => hN 154 (by decide) (by rw [← e]; exact hc)
  subst eg6 eg5 eg4 eg3 eg2 eg1
  funext k; simp [u2, zrM, hcb, x153, x154]
theorem i_X5 (hN : ∀ a ∈ ([149, 150, 151] : List Nat), a ∉ N) : CtG l E layG N 1 3 9 yX5_init 148 g Px (fun N' g' => N' = N ++ [149, 150, 151] ∧ (∀ c ∈ N, c ≠ 148 → g' c = g c) ∧ g' 148 2 = nI 149 ∧ g' 148 4 = nI 150 ∧ g' 148 6 = nI 151 ∧ g' 148 9 = -1 ∧ (∀ k ∈ ([0, 1, 3, 5, 7, 8] : List Nat), g' 148 k = 0) ∧ g' 149 = (fun _ => 0) ∧ g' 150 = (fun _ => 0) ∧ g' 151 = fun _ => 0) := by
  refine CtG_of (by decide) rfl k_yX5_init (by decide) (fun S0 hG hZ hr hnm hpx hcl hb => ?_)
  have hS := hG.1
  refine J_aload_n hS dX5_init_0 rfl ?_
  refine J_obj hS dX5_init_1 mlX5_3 ob_i ob_c rfl (by decide) (Nat.le_of_ble_eq_true rfl) ?_
  refine J_aload_n hS dX5_init_4 rfl ?_
  refine J_iconst (v := 0) hS dX5_init_5 (by decide) ?_
  refine J_putI hS dX5_init_6 fpX5_9 ⟨hb, lg_o ob148.2⟩ rfl (fun g1 eg1 => ?_)
  have hcl := Cl.putI (k := 0) (v := 0) hcl (lg_o ob148.2) rfl
  rw [← eg1] at hcl
  refine J_aload_n hS dX5_init_9 rfl ?_
  refine J_iconst (v := 0) hS dX5_init_10 (by decide) ?_
  refine J_putI hS dX5_init_11 fpX5_15 ⟨hb, lg_o ob148.2⟩ rfl (fun g2 eg2 => ?_)
  have hcl := Cl.putI (k := 1) (v := 0) hcl (lg_o ob148.2) rfl
  rw [← eg2] at hcl
  refine J_aload_n hS dX5_init_14 rfl ?_
  refine J_iconst (v := 3) hS dX5_init_15 (by decide) ?_
  refine J_newA hG hcl (149) (hN 149 (by decide)) (by omega) dX5_init_16 rfl ac_I (lg_r ar149) (Or.inl ⟨rfl, Or.inl rfl⟩) (by decide) (by decide) (by decide) (rl_c (v := .ref (148)) hb rl_0) (rn_c (v := .ref (148)) hb rn_0) (by decide) (by decide) (fun S E hG hcl => ?_)
  have hS := hG.1
  obtain ⟨g3, eg3⟩ : ∃ x : Mm, x = zrM g2 (149) := ⟨_, rfl⟩
  rw [← eg3] at hcl ⊢
  have hb := mi_a (x := 149) hb
  have m_149 := mi_s (x := 149) (N := N)
  refine J_putFR (t := 149) hS (by rw [hG.2.1]; exact hnm) dX5_init_18 ffX5_18 (Or.inr ⟨_, rfl⟩) ⟨hb, lg_o ob148.2⟩ rfl (by omega) (by omega) (fun g4 eg4 => ?_)
  have hcl := Cl.putR (k := 2) (t := 149) hcl (lg_o ob148.2) rfl m_149 (by omega)
  rw [← eg4] at hcl
  refine J_aload_n hS dX5_init_21 rfl ?_
  refine J_iconst (v := 0) hS dX5_init_22 (by decide) ?_
  refine J_putI hS dX5_init_23 fpX5_22 ⟨hb, lg_o ob148.2⟩ rfl (fun g5 eg5 => ?_)
  have hcl := Cl.putI (k := 3) (v := 0) hcl (lg_o ob148.2) rfl
  rw [← eg5] at hcl
  refine J_aload_n hS dX5_init_26 rfl ?_
  refine J_iconst (v := 3) hS dX5_init_27 (by decide) ?_
  refine J_newA hG hcl (150) (ni_a (hN 150 (by decide)) (by decide)) (by omega) dX5_init_28 rfl ac_I (lg_r ar150) (Or.inl ⟨rfl, Or.inl rfl⟩) (by decide) (by decide) (by decide) (rl_c (v := .ref (148)) hb rl_0) (rn_c (v := .ref (148)) hb rn_0) (by decide) (by decide) (fun S E hG hcl => ?_)
  have hS := hG.1
  obtain ⟨g6, eg6⟩ : ∃ x : Mm, x = zrM g5 (150) := ⟨_, rfl⟩
  rw [← eg6] at hcl ⊢
  have hb := mi_a (x := 150) hb
  have m_149 := mi_a (x := 150) m_149
  have m_150 := mi_s (x := 150) (N := (N ++ [149]))
  refine J_putFR (t := 150) hS (by rw [hG.2.1]; exact hnm) dX5_init_30 ffX5_25 (Or.inr ⟨_, rfl⟩) ⟨hb, lg_o ob148.2⟩ rfl (by omega) (by omega) (fun g7 eg7 => ?_)
  have hcl := Cl.putR (k := 4) (t := 150) hcl (lg_o ob148.2) rfl m_150 (by omega)
  rw [← eg7] at hcl
  refine J_aload_n hS dX5_init_33 rfl ?_
  refine J_iconst (v := 0) hS dX5_init_34 (by decide) ?_
  refine J_putI hS dX5_init_35 fpX5_28 ⟨hb, lg_o ob148.2⟩ rfl (fun g8 eg8 => ?_)
  have hcl := Cl.putI (k := 5) (v := 0) hcl (lg_o ob148.2) rfl
  rw [← eg8] at hcl
  refine J_aload_n hS dX5_init_38 rfl ?_
  refine J_iconst (v := 3) hS dX5_init_39 (by decide) ?_
  refine J_newA hG hcl (151) (ni_a (ni_a (hN 151 (by decide)) (by decide)) (by decide)) (by omega) dX5_init_40 rfl ac_I (lg_r ar151) (Or.inl ⟨rfl, Or.inl rfl⟩) (by decide) (by decide) (by decide) (rl_c (v := .ref (148)) hb rl_0) (rn_c (v := .ref (148)) hb rn_0) (by decide) (by decide) (fun S E hG hcl => ?_)
  have hS := hG.1
  obtain ⟨g9, eg9⟩ : ∃ x : Mm, x = zrM g8 (151) := ⟨_, rfl⟩
  rw [← eg9] at hcl ⊢
  have hb := mi_a (x := 151) hb
  have m_149 := mi_a (x := 151) m_149
  have m_150 := mi_a (x := 151) m_150
  have m_151 := mi_s (x := 151) (N := ((N ++ [149]) ++ [150]))
  refine J_putFR (t := 151) hS (by rw [hG.2.1]; exact hnm) dX5_init_42 ffX5_31 (Or.inr ⟨_, rfl⟩) ⟨hb, lg_o ob148.2⟩ rfl (by omega) (by omega) (fun g10 eg10 => ?_)
  have hcl := Cl.putR (k := 6) (t := 151) hcl (lg_o ob148.2) rfl m_151 (by omega)
  rw [← eg10] at hcl
  refine J_aload_n hS dX5_init_45 rfl ?_
  refine J_iconst (v := 0) hS dX5_init_46 (by decide) ?_
  refine J_putZ hS dX5_init_47 fpX5_34 ⟨hb, lg_o ob148.2⟩ rfl (Or.inl rfl) (fun g11 eg11 => ?_)
  have hcl := Cl.putI (k := 7) (v := 0) hcl (lg_o ob148.2) rfl
  rw [← eg11] at hcl
  refine J_aload_n hS dX5_init_50 rfl ?_
  refine J_iconst (v := 0) hS dX5_init_51 (by decide) ?_
  refine J_putZ hS dX5_init_52 fpX5_38 ⟨hb, lg_o ob148.2⟩ rfl (Or.inl rfl) (fun g12 eg12 => ?_)
  have hcl := Cl.putI (k := 8) (v := 0) hcl (lg_o ob148.2) rfl
  rw [← eg12] at hcl
  refine J_aload_n hS dX5_init_55 rfl ?_
  refine J_iconst (v := (-1)) hS dX5_init_56 (by decide) ?_
  refine J_putI hS dX5_init_57 fpX5_41 ⟨hb, lg_o ob148.2⟩ rfl (fun g13 eg13 => ?_)
  have hcl := Cl.putI (k := 9) (v := (-1)) hcl (lg_o ob148.2) rfl
  rw [← eg13] at hcl
  refine J_vretG hG hcl hZ hr dX5_init_60 (by decide) (by decide) ?_
  refine ⟨by simp, fun c hc hcb => ?_, (by subst eg13 eg12 eg11 eg10 eg9 eg8 eg7 eg6 eg5 eg4 eg3 eg2 eg1; simp [u2, zrM]), (by subst eg13 eg12 eg11 eg10 eg9 eg8 eg7 eg6 eg5 eg4 eg3 eg2 eg1; simp [u2, zrM]), (by subst eg13 eg12 eg11 eg10 eg9 eg8 eg7 eg6 eg5 eg4 eg3 eg2 eg1; simp [u2, zrM]), (by subst eg13 eg12 eg11 eg10 eg9 eg8 eg7 eg6 eg5 eg4 eg3 eg2 eg1; simp [u2, zrM]), (by subst eg13 eg12 eg11 eg10 eg9 eg8 eg7 eg6 eg5 eg4 eg3 eg2 eg1; simp [u2, zrM]), (by subst eg13 eg12 eg11 eg10 eg9 eg8 eg7 eg6 eg5 eg4 eg3 eg2 eg1; funext k; simp [u2, zrM]), (by subst eg13 eg12 eg11 eg10 eg9 eg8 eg7 eg6 eg5 eg4 eg3 eg2 eg1; funext k; simp [u2, zrM]), (by subst eg13 eg12 eg11 eg10 eg9 eg8 eg7 eg6 eg5 eg4 eg3 eg2 eg1; funext k; simp [u2, zrM])⟩
  have x149 : c ≠ 149 := fun e => hN 149 (by decide) (by rw [← e]; exact hc)
  have x150 : c ≠ 150 := fun e => hN 150 (by decide) (by rw [← e]; exact hc)
  have x151 : c ≠ 151 := fun e => hN 151 (by decide) (by rw [← e]; exact hc)
  subst eg13 eg12 eg11 eg10 eg9 eg8 eg7 eg6 eg5 eg4 eg3 eg2 eg1
  funext k; simp [u2, zrM, hcb, x149, x150, x151]
end Ctors

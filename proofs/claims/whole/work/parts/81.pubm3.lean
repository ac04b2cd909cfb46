/-! THE REFERENCE: its public methods, 3 -/
theorem law_w {k : Nat} {v : Int32} (hk : k ≤ 6) : (-1 ≤ v ∧ v ≤ nI k - 1) ↔ isLw k v := by
  have e : (nI k - 1).toInt = (k : Int) - 1 := by
    cases k with
    | zero => decide
    | succ k => rw [nI_pred k, nI_toInt (by omega)]; omega
  have a : (-1 : Int32).toInt = -1 := by decide
  rw [Int32.le_iff_toInt_le, Int32.le_iff_toInt_le, e, a]
  constructor
  · rintro ⟨h1, h2⟩
    by_cases c : v.toInt = -1
    · exact Or.inl (Int32.toInt_inj.mp (c.trans a.symm))
    · refine Or.inr ⟨v.toInt.toNat, by omega, Int32.toInt_inj.mp ?_⟩
      rw [nI_toInt (by omega)]; omega
  · rintro (h | ⟨j, hj, h⟩)
    · subst h; rw [a]; omega
    · subst h; rw [nI_toInt (by omega)]; omega
theorem law_n {k : Nat} {v : Int32} (hk : k ≤ 6) : (v < -1 ∨ nI k ≤ v) ↔ ¬ isLw k v := by
  rw [← law_w hk]
  have e : (nI k - 1).toInt = (k : Int) - 1 := by
    cases k with
    | zero => decide
    | succ k => rw [nI_pred k, nI_toInt (by omega)]; omega
  have a : (-1 : Int32).toInt = -1 := by decide
  simp only [Int32.le_iff_toInt_le, Int32.lt_iff_toInt_lt, e, a, nI_toInt (show k < 2 ^ 31 by omega)]
  omega
section RefP3
variable {l : Launch} {E : Ey} {g : Mm} {Q : Option Value → Mm → Prop} {X : String → Mm → Prop} {w : Wr} {n : Nat}
theorem m_lawY {k : Nat} {v : Int32} (hk : k ≤ 6) (e11 : g 162 11 = nI k) (e0 : g 162 0 = 0) (hv : isLw k v) (q : Q (some (.int 1)) g) : Ct l E lay NC 1 0 0 yX8_isLawOrNone [.ref 162, .int v] g Q X := by
  refine Ct_in k_yX8_isLawOrNone (by decide) rfl (Nat.le_of_ble_eq_true rfl) rfl ?_
  intro S hS hZ hr ht hR
  show J S 0 0 (g) 0 [some (.ref 162), some (.int v)] []
  refine J_aload_n hS dX8_isLawOrNone_0 rfl ?_
  refine J_iload_n hS dX8_isLawOrNone_1 rfl ?_
  refine J_iconst (v := (-1)) hS dX8_isLawOrNone_2 (by decide) ?_
  refine J_aload_n hS dX8_isLawOrNone_3 rfl ?_
  refine J_getI hS dX8_isLawOrNone_4 flX8_168 ob162 rfl ?_
  show J S 0 0 (g) 7 [some (.ref 162), some (.int v)] [.int _, .int (-1), .int v, .ref 162]
  rw [e11]
  refine J_iconst (v := 1) hS dX8_isLawOrNone_7 (by decide) ?_
  refine J_isub hS dX8_isLawOrNone_8 ?_
  refine J_callS3 (X' := fun _ _ => False) hS dX8_isLawOrNone_9 msX8_106 rfl (by first | decide | omega) (by decide) (Nat.le_of_ble_eq_true rfl) ⟨Nat.le_trans (by decide) hR.1, Nat.le_trans (by decide) hR.2⟩ (fun _ _ q => q.elim) (m_winY ((law_w hk).mpr hv) ?_)
  refine J_iconst (v := 1) hS dX8_isLawOrNone_12 (by decide) ?_
  refine J_callV2 (X' := fun _ _ => False) hS dX8_isLawOrNone_13 mvX8_110 ob162 rfl (by first | decide | omega) (by decide) (Nat.le_of_ble_eq_true rfl) ⟨Nat.le_trans (by decide) hR.1, Nat.le_trans (by decide) hR.2⟩ (fun _ _ q => q.elim) (m_mayY e0 (by decide) ?_)
  refine J_zret hS hZ hr dX8_isLawOrNone_16 (by decide) (by omega) (by omega) ?_
  exact q
theorem m_lawN {k : Nat} {v : Int32} (hk : k ≤ 6) (e11 : g 162 11 = nI k) (e0 : g 162 0 = 0) (hv : ¬ isLw k v) (q : Q (some (.int 0)) (u2 g 162 0 1)) : Ct l E lay NC 1 0 0 yX8_isLawOrNone [.ref 162, .int v] g Q X := by
  refine Ct_in k_yX8_isLawOrNone (by decide) rfl (Nat.le_of_ble_eq_true rfl) rfl ?_
  intro S hS hZ hr ht hR
  show J S 0 0 (g) 0 [some (.ref 162), some (.int v)] []
  refine J_aload_n hS dX8_isLawOrNone_0 rfl ?_
  refine J_iload_n hS dX8_isLawOrNone_1 rfl ?_
  refine J_iconst (v := (-1)) hS dX8_isLawOrNone_2 (by decide) ?_
  refine J_aload_n hS dX8_isLawOrNone_3 rfl ?_
  refine J_getI hS dX8_isLawOrNone_4 flX8_168 ob162 rfl ?_
  show J S 0 0 (g) 7 [some (.ref 162), some (.int v)] [.int _, .int (-1), .int v, .ref 162]
  rw [e11]
  refine J_iconst (v := 1) hS dX8_isLawOrNone_7 (by decide) ?_
  refine J_isub hS dX8_isLawOrNone_8 ?_
  refine J_callS3 (X' := fun _ _ => False) hS dX8_isLawOrNone_9 msX8_106 rfl (by first | decide | omega) (by decide) (Nat.le_of_ble_eq_true rfl) ⟨Nat.le_trans (by decide) hR.1, Nat.le_trans (by decide) hR.2⟩ (fun _ _ q => q.elim) (m_winN (fun z => hv ((law_w hk).mp z)) ?_)
  refine J_iconst (v := 1) hS dX8_isLawOrNone_12 (by decide) ?_
  refine J_callV2 (X' := fun _ _ => False) hS dX8_isLawOrNone_13 mvX8_110 ob162 rfl (by first | decide | omega) (by decide) (Nat.le_of_ble_eq_true rfl) ⟨Nat.le_trans (by decide) hR.1, Nat.le_trans (by decide) hR.2⟩ (fun _ _ q => q.elim) (m_mayN e0 (by decide) ?_)
  refine J_zret hS hZ hr dX8_isLawOrNone_16 (by decide) (by omega) (by omega) ?_
  exact q
theorem m_filmY {k f : Nat} (hk : k ≤ 3) (e45 : g 162 45 = nI k) (e0 : g 162 0 = 0) (hf : f < k) (q : Q (some (.int 1)) g) : Ct l E lay NC 1 0 0 yX8_isFilm [.ref 162, .int (nI f)] g Q X := by
  refine Ct_in k_yX8_isFilm (by decide) rfl (Nat.le_of_ble_eq_true rfl) rfl ?_
  intro S hS hZ hr ht hR
  show J S 0 0 (g) 0 [some (.ref 162), some (.int (nI f))] []
  refine J_aload_n hS dX8_isFilm_0 rfl ?_
  refine J_iload_n hS dX8_isFilm_1 rfl ?_
  refine J_iconst (v := 0) hS dX8_isFilm_2 (by decide) ?_
  refine J_aload_n hS dX8_isFilm_3 rfl ?_
  refine J_getI hS dX8_isFilm_4 flX8_356 ob162 rfl ?_
  show J S 0 0 (g) 7 [some (.ref 162), some (.int (nI f))] [.int _, .int 0, .int (nI f), .ref 162]
  rw [e45]
  refine J_iconst (v := 1) hS dX8_isFilm_7 (by decide) ?_
  refine J_isub hS dX8_isFilm_8 ?_
  refine J_callS3 (X' := fun _ _ => False) hS dX8_isFilm_9 msX8_106 rfl (by first | decide | omega) (by decide) (Nat.le_of_ble_eq_true rfl) ⟨Nat.le_trans (by decide) hR.1, Nat.le_trans (by decide) hR.2⟩ (fun _ _ q => q.elim) (m_ouY (m := k) (by omega) rfl hf ?_)
  refine J_iconst (v := 1) hS dX8_isFilm_12 (by decide) ?_
  refine J_callV2 (X' := fun _ _ => False) hS dX8_isFilm_13 mvX8_110 ob162 rfl (by first | decide | omega) (by decide) (Nat.le_of_ble_eq_true rfl) ⟨Nat.le_trans (by decide) hR.1, Nat.le_trans (by decide) hR.2⟩ (fun _ _ q => q.elim) (m_mayY e0 (by decide) ?_)
  refine J_zret hS hZ hr dX8_isFilm_16 (by decide) (by omega) (by omega) ?_
  exact q
theorem m_filmN {k : Nat} {f : Int32} (hk : k ≤ 3) (e45 : g 162 45 = nI k) (e0 : g 162 0 = 0) (hf : ou k f) (q : Q (some (.int 0)) (u2 g 162 0 1)) : Ct l E lay NC 1 0 0 yX8_isFilm [.ref 162, .int f] g Q X := by
  refine Ct_in k_yX8_isFilm (by decide) rfl (Nat.le_of_ble_eq_true rfl) rfl ?_
  intro S hS hZ hr ht hR
  show J S 0 0 (g) 0 [some (.ref 162), some (.int f)] []
  refine J_aload_n hS dX8_isFilm_0 rfl ?_
  refine J_iload_n hS dX8_isFilm_1 rfl ?_
  refine J_iconst (v := 0) hS dX8_isFilm_2 (by decide) ?_
  refine J_aload_n hS dX8_isFilm_3 rfl ?_
  refine J_getI hS dX8_isFilm_4 flX8_356 ob162 rfl ?_
  show J S 0 0 (g) 7 [some (.ref 162), some (.int f)] [.int _, .int 0, .int f, .ref 162]
  rw [e45]
  refine J_iconst (v := 1) hS dX8_isFilm_7 (by decide) ?_
  refine J_isub hS dX8_isFilm_8 ?_
  refine J_callS3 (X' := fun _ _ => False) hS dX8_isFilm_9 msX8_106 rfl (by first | decide | omega) (by decide) (Nat.le_of_ble_eq_true rfl) ⟨Nat.le_trans (by decide) hR.1, Nat.le_trans (by decide) hR.2⟩ (fun _ _ q => q.elim) (m_ouN (m := k) (by omega) rfl hf ?_)
  refine J_iconst (v := 1) hS dX8_isFilm_12 (by decide) ?_
  refine J_callV2 (X' := fun _ _ => False) hS dX8_isFilm_13 mvX8_110 ob162 rfl (by first | decide | omega) (by decide) (Nat.le_of_ble_eq_true rfl) ⟨Nat.le_trans (by decide) hR.1, Nat.le_trans (by decide) hR.2⟩ (fun _ _ q => q.elim) (m_mayN e0 (by decide) ?_)
  refine J_zret hS hZ hr dX8_isFilm_16 (by decide) (by omega) (by omega) ?_
  exact q
theorem m_runY {y m o : Nat} (hy : y < 3) (hm : m < 201) (ho : o < 6) (q : Q (some (.int 1)) g) : Ct l E lay NC 2 0 0 yX8_isRun [.int (nI y), .int (nI m), .int (nI o)] g Q X := by
  refine Ct_in k_yX8_isRun (by decide) rfl (Nat.le_of_ble_eq_true rfl) rfl ?_
  intro S hS hZ hr ht hR
  show J S 0 0 (g) 0 [some (.int (nI y)), some (.int (nI m)), some (.int (nI o))] []
  refine J_iload_n hS dX8_isRun_0 rfl ?_
  refine J_callS1 (X' := fun _ _ => False) hS dX8_isRun_1 msX8_117 rfl (by first | decide | omega) (by decide) (Nat.le_of_ble_eq_true rfl) ⟨Nat.le_trans (by decide) hR.1, Nat.le_trans (by decide) hR.2⟩ (fun _ _ q => q.elim) (m_yardY hy ?_)
  refine J_if_eq (tgt := 29) hS dX8_isRun_4 (by decide) (fun c1 => ?_) (fun c1 => ?_)
  · exact absurd c1 (by decide)
  ·
    refine J_iload_n hS dX8_isRun_7 rfl ?_
    refine J_iconst (v := 0) hS dX8_isRun_8 (by decide) ?_
    refine J_sipush (v := 200) hS dX8_isRun_9 (by decide) ?_
    refine J_callS3 (X' := fun _ _ => False) hS dX8_isRun_12 msX8_106 rfl (by first | decide | omega) (by decide) (Nat.le_of_ble_eq_true rfl) ⟨Nat.le_trans (by decide) hR.1, Nat.le_trans (by decide) hR.2⟩ (fun _ _ q => q.elim) (m_ouY (m := 201) (by decide) (by decide) hm ?_)
    refine J_if_eq (tgt := 29) hS dX8_isRun_15 (by decide) (fun c2 => ?_) (fun c2 => ?_)
    · exact absurd c2 (by decide)
    ·
      refine J_iload_n hS dX8_isRun_18 rfl ?_
      refine J_callS1 (X' := fun _ _ => False) hS dX8_isRun_19 msX8_132 rfl (by first | decide | omega) (by decide) (Nat.le_of_ble_eq_true rfl) ⟨Nat.le_trans (by decide) hR.1, Nat.le_trans (by decide) hR.2⟩ (fun _ _ q => q.elim) (m_ordY ho ?_)
      refine J_if_eq (tgt := 29) hS dX8_isRun_22 (by decide) (fun c3 => ?_) (fun c3 => ?_)
      · exact absurd c3 (by decide)
      ·
        refine J_iconst (v := 1) hS dX8_isRun_25 (by decide) ?_
        refine J_goto (tgt := 30) hS dX8_isRun_26 (by decide) ?_
        refine J_zret hS hZ hr dX8_isRun_30 (by decide) (by omega) (by omega) ?_
        exact q
theorem m_yardY' {v : Int32} (hk : ¬ ou 3 v) (q : Q (some (.int 1)) g) : Ct l E lay NC 1 0 0 yX8_isYard [.int v] g Q X := m_isYard (fun x _ h => by rw [h.mpr hk]; exact q)
theorem m_runN {y m o : Int32} (h : ou 3 y ∨ ou 201 m ∨ ou 6 o) (q : Q (some (.int 0)) g) : Ct l E lay NC 2 0 0 yX8_isRun [.int y, .int m, .int o] g Q X := by
  refine Ct_in k_yX8_isRun (by decide) rfl (Nat.le_of_ble_eq_true rfl) rfl ?_
  intro S hS hZ hr ht hR
  show J S 0 0 (g) 0 [some (.int y), some (.int m), some (.int o)] []
  have fin : J S 0 0 g 29 [some (.int y), some (.int m), some (.int o)] [] := by
    refine J_iconst (v := 0) hS dX8_isRun_29 (by decide) ?_
    refine J_zret hS hZ hr dX8_isRun_30 (by decide) (by omega) (by omega) ?_
    exact q
  by_cases hy : ou 3 y
  ·
    refine J_iload_n hS dX8_isRun_0 rfl ?_
    refine J_callS1 (X' := fun _ _ => False) hS dX8_isRun_1 msX8_117 rfl (by first | decide | omega) (by decide) (Nat.le_of_ble_eq_true rfl) ⟨Nat.le_trans (by decide) hR.1, Nat.le_trans (by decide) hR.2⟩ (fun _ _ q => q.elim) (m_yardN hy ?_)
    refine J_if_eq (tgt := 29) hS dX8_isRun_4 (by decide) (fun c1 => ?_) (fun c1 => ?_)
    · exact fin
    · exact absurd rfl c1
  ·
    refine J_iload_n hS dX8_isRun_0 rfl ?_
    refine J_callS1 (X' := fun _ _ => False) hS dX8_isRun_1 msX8_117 rfl (by first | decide | omega) (by decide) (Nat.le_of_ble_eq_true rfl) ⟨Nat.le_trans (by decide) hR.1, Nat.le_trans (by decide) hR.2⟩ (fun _ _ q => q.elim) (m_yardY' hy ?_)
    refine J_if_eq (tgt := 29) hS dX8_isRun_4 (by decide) (fun c1 => ?_) (fun c1 => ?_)
    · exact absurd c1 (by decide)
    · by_cases hm : ou 201 m
      ·
        refine J_iload_n hS dX8_isRun_7 rfl ?_
        refine J_iconst (v := 0) hS dX8_isRun_8 (by decide) ?_
        refine J_sipush (v := 200) hS dX8_isRun_9 (by decide) ?_
        refine J_callS3 (X' := fun _ _ => False) hS dX8_isRun_12 msX8_106 rfl (by first | decide | omega) (by decide) (Nat.le_of_ble_eq_true rfl) ⟨Nat.le_trans (by decide) hR.1, Nat.le_trans (by decide) hR.2⟩ (fun _ _ q => q.elim) (m_ouN (m := 201) (by decide) (by decide) hm ?_)
        refine J_if_eq (tgt := 29) hS dX8_isRun_15 (by decide) (fun c2 => ?_) (fun c2 => ?_)
        · exact fin
        · exact absurd rfl c2
      ·
        refine J_iload_n hS dX8_isRun_7 rfl ?_
        refine J_iconst (v := 0) hS dX8_isRun_8 (by decide) ?_
        refine J_sipush (v := 200) hS dX8_isRun_9 (by decide) ?_
        refine J_callS3 (X' := fun _ _ => False) hS dX8_isRun_12 msX8_106 rfl (by first | decide | omega) (by decide) (Nat.le_of_ble_eq_true rfl) ⟨Nat.le_trans (by decide) hR.1, Nat.le_trans (by decide) hR.2⟩ (fun _ _ q => q.elim) (m_winY ((ou_w (n := 201) (by decide) (by decide)).mpr hm) ?_)
        refine J_if_eq (tgt := 29) hS dX8_isRun_15 (by decide) (fun c2 => ?_) (fun c2 => ?_)
        · exact absurd c2 (by decide)
        · have ho := (h.resolve_left hy).resolve_left hm
          refine J_iload_n hS dX8_isRun_18 rfl ?_
          refine J_callS1 (X' := fun _ _ => False) hS dX8_isRun_19 msX8_132 rfl (by first | decide | omega) (by decide) (Nat.le_of_ble_eq_true rfl) ⟨Nat.le_trans (by decide) hR.1, Nat.le_trans (by decide) hR.2⟩ (fun _ _ q => q.elim) (m_ordN ho ?_)
          refine J_if_eq (tgt := 29) hS dX8_isRun_22 (by decide) (fun c3 => ?_) (fun c3 => ?_)
          · exact fin
          · exact absurd rfl c3
theorem m_force {v : Int32} {k : Nat} (hI : RI g w n) (hk : k ≤ 6) (e11 : g 162 11 = nI k) (x : ¬ isLw k v → ∀ g', FrZ g g' → g' 162 0 = 1 → Q (some (.int 0)) g') (q : isLw k v → ∀ g', FrRm g g' → (∀ i, i < 3464 → g' 164 i = upd w 5 v i) → Q (some (.int (w 5))) g') : Ct l E lay NC 2 0 0 yX8_force [.ref 162, .int v] g Q X := by
  refine Ct_in k_yX8_force (by decide) rfl (Nat.le_of_ble_eq_true rfl) rfl ?_
  intro S hS hZ hr ht hR
  show J S 0 0 (g) 0 [some (.ref 162), some (.int v), none] []
  refine J_aload_n hS dX8_force_0 rfl ?_
  refine J_iconst (v := 0) hS dX8_force_1 (by decide) ?_
  refine J_putI hS dX8_force_2 fpX8_1 ob162 rfl (fun g2 eg2 => ?_)
  have z2 : FrZ g g2 := by rw [eg2]; exact FrZ_thr
  have t2 : g2 162 0 = 0 := by rw [eg2, u2_self]
  have i2 := hI.fr z2
  have e2 : g2 162 11 = nI k := by rw [z2.2 11 (by decide)]; exact e11
  by_cases hv : isLw k v
  ·
    refine J_aload_n hS dX8_force_5 rfl ?_
    refine J_iload_n hS dX8_force_6 rfl ?_
    refine J_callV1 (X' := fun _ _ => False) hS dX8_force_7 mvX8_237 ob162 rfl (by first | decide | omega) (by decide) (Nat.le_of_ble_eq_true rfl) ⟨Nat.le_trans (by decide) hR.1, Nat.le_trans (by decide) hR.2⟩ (fun _ _ q => q.elim) (m_lawY hk e2 t2 hv ?_)
    refine J_if_ne (tgt := 15) hS dX8_force_10 (by decide) (fun c1 => ?_) (fun c1 => ?_)
    ·
      refine J_aload_n hS dX8_force_15 rfl ?_
      refine J_getR (t := 164) hS dX8_force_16 flX8_13 ob162 rfl ?_
      refine J_iconst (v := 5) hS dX8_force_19 (by decide) ?_
      refine J_ialdN hS (5) dX8_force_20 (show Ar lay NC .int 164 3464 from arM 1 3464 (by decide) (by decide) rfl) (by first | rfl | (simp only [n0, n1, n2, n3, n4, n5, n6, n7, n8, n9, n10, n11, n12, n13, n14, n15, n16, n17, n18, n19, n20, n24, n32, n56, n60, n64, n72, n99, n100, n128, n136, n142, n144, n200, n300, n999, n1000, n1500, n3464, nI_add, pk_mul] <;> first | rfl | (congr 1; omega))) (by decide) (by decide) ?_
      show J S 0 0 (g2) 21 [some (.ref 162), some (.int v), none] [.int _]
      rw [i2.row _ (by decide)]
      refine J_istore_n (lt := fun x2 => [some (.ref 162), some (.int v), some (.int x2)]) hS dX8_force_21 (Nat.le_of_ble_eq_true rfl) (fun _ => rfl) (fun x2 ex2 => ?_)
      refine J_aload_n hS dX8_force_22 rfl ?_
      refine J_getR (t := 164) hS dX8_force_23 flX8_13 ob162 rfl ?_
      refine J_iconst (v := 5) hS dX8_force_26 (by decide) ?_
      refine J_iload_n hS dX8_force_27 rfl ?_
      refine J_iastN hS (5) dX8_force_28 (show Ar lay NC .int 164 3464 from arM 1 3464 (by decide) (by decide) rfl) (by first | rfl | (simp only [n0, n1, n2, n3, n4, n5, n6, n7, n8, n9, n10, n11, n12, n13, n14, n15, n16, n17, n18, n19, n20, n24, n32, n56, n60, n64, n72, n99, n100, n128, n136, n142, n144, n200, n300, n999, n1000, n1500, n3464, nI_add, pk_mul] <;> first | rfl | (congr 1; omega))) (by decide) (by decide) (fun g28 eg28 => ?_)
      refine J_aload_n hS dX8_force_29 rfl ?_
      refine J_callV0 (X' := fun _ _ => False) hS dX8_force_30 mvX8_114 ob162 rfl (by first | decide | omega) (by decide) (Nat.le_of_ble_eq_true rfl) ⟨Nat.le_trans (by decide) hR.1, Nat.le_trans (by decide) hR.2⟩ (fun _ _ q => q.elim) (m_ends ?_)
      refine J_iload_n hS dX8_force_33 rfl ?_
      refine J_iret hS hZ hr dX8_force_34 (by omega) (by omega) ?_
      rw [eg28, show x2 = _ from ex2]
      exact q hv _ (FrRm_put eg2) (row_put i2)
    · exact absurd c1 (by decide)
  ·
    refine J_aload_n hS dX8_force_5 rfl ?_
    refine J_iload_n hS dX8_force_6 rfl ?_
    refine J_callV1 (X' := fun _ _ => False) hS dX8_force_7 mvX8_237 ob162 rfl (by first | decide | omega) (by decide) (Nat.le_of_ble_eq_true rfl) ⟨Nat.le_trans (by decide) hR.1, Nat.le_trans (by decide) hR.2⟩ (fun _ _ q => q.elim) (m_lawN hk e2 t2 hv ?_)
    refine J_if_ne (tgt := 15) hS dX8_force_10 (by decide) (fun c1 => ?_) (fun c1 => ?_)
    · exact absurd rfl c1
    ·
      refine J_iconst (v := 0) hS dX8_force_13 (by decide) ?_
      refine J_iret hS hZ hr dX8_force_14 (by omega) (by omega) ?_
      exact x hv _ (z2.trans FrZ_thr) (u2_self ..)
theorem m_fault (q : ∀ g', FrZ g g' → g' 162 0 = 0 → Q (some (.int (g 162 12))) g') : Ct l E lay NC 0 0 0 yX8_fault [.ref 162] g Q X := by
  refine Ct_in k_yX8_fault (by decide) rfl (Nat.le_of_ble_eq_true rfl) rfl ?_
  intro S hS hZ hr ht hR
  show J S 0 0 (g) 0 [some (.ref 162)] []
  refine J_aload_n hS dX8_fault_0 rfl ?_
  refine J_iconst (v := 0) hS dX8_fault_1 (by decide) ?_
  refine J_putI hS dX8_fault_2 fpX8_1 ob162 rfl (fun g2 eg2 => ?_)
  refine J_aload_n hS dX8_fault_5 rfl ?_
  refine J_getI hS dX8_fault_6 flX8_23 ob162 rfl ?_
  have z2 : FrZ g g2 := by rw [eg2]; exact FrZ_thr
  show J S 0 0 (g2) 9 [some (.ref 162)] [.int _]
  rw [z2.2 12 (by decide)]
  refine J_iret hS hZ hr dX8_fault_9 (by omega) (by omega) ?_
  exact q g2 z2 (by rw [eg2, u2_self])
/-- one check of two parts -/
theorem m_first {o v : Int32} (x : ou 6 o ∨ ou 2 v → ∀ g', FrZ g g' → g' 162 0 = 1 → Q (some (.int 0)) g') (q : ∀ j k, j < 6 → o = nI j → k < 2 → v = nI k → ∀ g', FrZ g g' → g' 162 0 = 0 → Q (some (.int (g 202 (2 * j + k)))) g') : Ct l E lay NC 2 0 0 yX8_first [.ref 162, .int o, .int v] g Q X := by
  refine Ct_in k_yX8_first (by decide) rfl (Nat.le_of_ble_eq_true rfl) rfl ?_
  intro S hS hZ hr ht hR
  show J S 0 0 (g) 0 [some (.ref 162), some (.int o), some (.int v)] []
  refine J_aload_n hS dX8_first_0 rfl ?_
  refine J_iconst (v := 0) hS dX8_first_1 (by decide) ?_
  refine J_putI hS dX8_first_2 fpX8_1 ob162 rfl (fun g2 eg2 => ?_)
  have z2 : FrZ g g2 := by rw [eg2]; exact FrZ_thr
  have t2 : g2 162 0 = 0 := by rw [eg2, u2_self]
  have bad : ou 6 o ∨ ou 2 v → J S 0 0 g2 26 [some (.ref 162), some (.int o), some (.int v)] [.ref 162] := by
    intro b1
    refine J_iconst (v := 0) hS dX8_first_26 (by decide) ?_
    refine J_iconst (v := 1) hS dX8_first_27 (by decide) ?_
    refine J_callV2 (X' := fun _ _ => False) hS dX8_first_28 mvX8_110 ob162 rfl (by first | decide | omega) (by decide) (Nat.le_of_ble_eq_true rfl) ⟨Nat.le_trans (by decide) hR.1, Nat.le_trans (by decide) hR.2⟩ (fun _ _ q => q.elim) (m_mayN t2 (by decide) ?_)
    refine J_if_ne (tgt := 36) hS dX8_first_31 (by decide) (fun c2 => ?_) (fun c2 => ?_)
    · exact absurd rfl c2
    ·
      refine J_iconst (v := 0) hS dX8_first_34 (by decide) ?_
      refine J_iret hS hZ hr dX8_first_35 (by omega) (by omega) ?_
      exact x b1 _ (z2.trans FrZ_thr) (u2_self ..)
  rcases in_or (y := o) (b := 6) (by first | decide | omega) with ⟨j, hj, ej⟩ | hbj
  ·
    subst ej
    refine J_aload_n hS dX8_first_5 rfl ?_
    refine J_iload_n hS dX8_first_6 rfl ?_
    refine J_callS1 (X' := fun _ _ => False) hS dX8_first_7 msX8_132 rfl (by first | decide | omega) (by decide) (Nat.le_of_ble_eq_true rfl) ⟨Nat.le_trans (by decide) hR.1, Nat.le_trans (by decide) hR.2⟩ (fun _ _ q => q.elim) (m_ordY hj ?_)
    refine J_if_eq (tgt := 26) hS dX8_first_10 (by decide) (fun c1 => ?_) (fun c1 => ?_)
    · exact absurd c1 (by decide)
    ·
      rcases in_or (y := v) (b := 2) (by first | decide | omega) with ⟨k, hk, ek⟩ | hbk
      ·
        subst ek
        refine J_iload_n hS dX8_first_13 rfl ?_
        refine J_iconst (v := 0) hS dX8_first_14 (by decide) ?_
        refine J_iconst (v := 1) hS dX8_first_15 (by decide) ?_
        refine J_callS3 (X' := fun _ _ => False) hS dX8_first_16 msX8_106 rfl (by first | decide | omega) (by decide) (Nat.le_of_ble_eq_true rfl) ⟨Nat.le_trans (by decide) hR.1, Nat.le_trans (by decide) hR.2⟩ (fun _ _ q => q.elim) (m_ouY (m := 2) (by decide) (by decide) hk ?_)
        refine J_if_eq (tgt := 26) hS dX8_first_19 (by decide) (fun c2 => ?_) (fun c2 => ?_)
        · exact absurd c2 (by decide)
        ·
          refine J_iconst (v := 1) hS dX8_first_22 (by decide) ?_
          refine J_goto (tgt := 27) hS dX8_first_23 (by decide) ?_
          refine J_iconst (v := 1) hS dX8_first_27 (by decide) ?_
          refine J_callV2 (X' := fun _ _ => False) hS dX8_first_28 mvX8_110 ob162 rfl (by first | decide | omega) (by decide) (Nat.le_of_ble_eq_true rfl) ⟨Nat.le_trans (by decide) hR.1, Nat.le_trans (by decide) hR.2⟩ (fun _ _ q => q.elim) (m_mayY t2 (by decide) ?_)
          refine J_if_ne (tgt := 36) hS dX8_first_31 (by decide) (fun c3 => ?_) (fun c3 => ?_)
          ·
            refine J_aload_n hS dX8_first_36 rfl ?_
            refine J_getR (t := 202) hS dX8_first_37 flX8_68 ob162 rfl ?_
            refine J_iconst (v := 2) hS dX8_first_40 (by decide) ?_
            refine J_iload_n hS dX8_first_41 rfl ?_
            refine J_imul hS dX8_first_42 ?_
            refine J_iload_n hS dX8_first_43 rfl ?_
            refine J_iadd hS dX8_first_44 ?_
            refine J_ialdN hS (2 * j + k) dX8_first_45 (show Ar lay NC .int 202 12 from arM 39 12 (by decide) (by decide) rfl) (by rw [n2, pk_mul, nI_add]) (by omega) (by decide) ?_
            show J S 0 0 (g2) 46 [some (.ref 162), some (.int (nI j)), some (.int (nI k))] [.int _]
            rw [z2.1 202 (by decide) (by decide) (by decide) (by decide) (by decide) (by decide) (by decide) (by decide) (by decide) (by decide)]
            refine J_iret hS hZ hr dX8_first_46 (by omega) (by omega) ?_
            exact q j k hj rfl hk rfl g2 z2 t2
          · exact absurd c3 (by decide)
      ·
        refine J_iload_n hS dX8_first_13 rfl ?_
        refine J_iconst (v := 0) hS dX8_first_14 (by decide) ?_
        refine J_iconst (v := 1) hS dX8_first_15 (by decide) ?_
        refine J_callS3 (X' := fun _ _ => False) hS dX8_first_16 msX8_106 rfl (by first | decide | omega) (by decide) (Nat.le_of_ble_eq_true rfl) ⟨Nat.le_trans (by decide) hR.1, Nat.le_trans (by decide) hR.2⟩ (fun _ _ q => q.elim) (m_ouN (m := 2) (by decide) (by decide) hbk ?_)
        refine J_if_eq (tgt := 26) hS dX8_first_19 (by decide) (fun c2 => ?_) (fun c2 => ?_)
        · exact bad (Or.inr hbk)
        · exact absurd rfl c2
  ·
    refine J_aload_n hS dX8_first_5 rfl ?_
    refine J_iload_n hS dX8_first_6 rfl ?_
    refine J_callS1 (X' := fun _ _ => False) hS dX8_first_7 msX8_132 rfl (by first | decide | omega) (by decide) (Nat.le_of_ble_eq_true rfl) ⟨Nat.le_trans (by decide) hR.1, Nat.le_trans (by decide) hR.2⟩ (fun _ _ q => q.elim) (m_ordN hbj ?_)
    refine J_if_eq (tgt := 26) hS dX8_first_10 (by decide) (fun c1 => ?_) (fun c1 => ?_)
    · exact bad (Or.inl hbj)
    · exact absurd rfl c1
theorem m_held {y o : Int32} {lw : Option (List Cls)} (hI : RI g w n) (hRl : RuleM g 164 lw) (x : ou 3 y ∨ ou 6 o → ∀ g', FrZ g g' → g' 162 0 = 1 → Q (some (.int 0)) g') (q : ∀ i j, i < 3 → y = nI i → j < 6 → o = nI j → ∀ g', FrZ g g' → g' 162 0 = 0 → Q (some (.int (nI (here (fun c => thrW w (nI i) c && hldB lw (-1) w c j) n).length))) g') : Ct l E lay NC 5 0 0 yX8_held [.ref 162, .int y, .int o] g Q X := by
  refine Ct_in k_yX8_held (by decide) rfl (Nat.le_of_ble_eq_true rfl) rfl ?_
  intro S hS hZ hr ht hR
  show J S 0 0 (g) 0 [some (.ref 162), some (.int y), some (.int o)] []
  refine J_aload_n hS dX8_held_0 rfl ?_
  refine J_iconst (v := 0) hS dX8_held_1 (by decide) ?_
  refine J_putI hS dX8_held_2 fpX8_1 ob162 rfl (fun g2 eg2 => ?_)
  have z2 : FrZ g g2 := by rw [eg2]; exact FrZ_thr
  have t2 : g2 162 0 = 0 := by rw [eg2, u2_self]
  have i2 := hI.fr z2
  have bad : ou 3 y ∨ ou 6 o → J S 0 0 g2 24 [some (.ref 162), some (.int y), some (.int o)] [.ref 162] := by
    intro b1
    refine J_iconst (v := 0) hS dX8_held_24 (by decide) ?_
    refine J_iconst (v := 1) hS dX8_held_25 (by decide) ?_
    refine J_callV2 (X' := fun _ _ => False) hS dX8_held_26 mvX8_110 ob162 rfl (by first | decide | omega) (by decide) (Nat.le_of_ble_eq_true rfl) ⟨Nat.le_trans (by decide) hR.1, Nat.le_trans (by decide) hR.2⟩ (fun _ _ q => q.elim) (m_mayN t2 (by decide) ?_)
    refine J_if_ne (tgt := 34) hS dX8_held_29 (by decide) (fun c2 => ?_) (fun c2 => ?_)
    · exact absurd rfl c2
    ·
      refine J_iconst (v := 0) hS dX8_held_32 (by decide) ?_
      refine J_iret hS hZ hr dX8_held_33 (by omega) (by omega) ?_
      exact x b1 _ (z2.trans FrZ_thr) (u2_self ..)
  rcases in_or (y := y) (b := 3) (by first | decide | omega) with ⟨i, hi, ei⟩ | hbi
  ·
    subst ei
    refine J_aload_n hS dX8_held_5 rfl ?_
    refine J_iload_n hS dX8_held_6 rfl ?_
    refine J_callS1 (X' := fun _ _ => False) hS dX8_held_7 msX8_117 rfl (by first | decide | omega) (by decide) (Nat.le_of_ble_eq_true rfl) ⟨Nat.le_trans (by decide) hR.1, Nat.le_trans (by decide) hR.2⟩ (fun _ _ q => q.elim) (m_yardY hi ?_)
    refine J_if_eq (tgt := 24) hS dX8_held_10 (by decide) (fun c1 => ?_) (fun c1 => ?_)
    · exact absurd c1 (by decide)
    ·
      rcases in_or (y := o) (b := 6) (by first | decide | omega) with ⟨j, hj, ej⟩ | hbj
      ·
        subst ej
        refine J_iload_n hS dX8_held_13 rfl ?_
        refine J_callS1 (X' := fun _ _ => False) hS dX8_held_14 msX8_132 rfl (by first | decide | omega) (by decide) (Nat.le_of_ble_eq_true rfl) ⟨Nat.le_trans (by decide) hR.1, Nat.le_trans (by decide) hR.2⟩ (fun _ _ q => q.elim) (m_ordY hj ?_)
        refine J_if_eq (tgt := 24) hS dX8_held_17 (by decide) (fun c2 => ?_) (fun c2 => ?_)
        · exact absurd c2 (by decide)
        ·
          refine J_iconst (v := 1) hS dX8_held_20 (by decide) ?_
          refine J_goto (tgt := 25) hS dX8_held_21 (by decide) ?_
          refine J_iconst (v := 1) hS dX8_held_25 (by decide) ?_
          refine J_callV2 (X' := fun _ _ => False) hS dX8_held_26 mvX8_110 ob162 rfl (by first | decide | omega) (by decide) (Nat.le_of_ble_eq_true rfl) ⟨Nat.le_trans (by decide) hR.1, Nat.le_trans (by decide) hR.2⟩ (fun _ _ q => q.elim) (m_mayY t2 (by decide) ?_)
          refine J_if_ne (tgt := 34) hS dX8_held_29 (by decide) (fun c3 => ?_) (fun c3 => ?_)
          · have rul2 : RuleM g2 164 lw := hRl.fr (by rw [eg2, u2_ne _ (by decide)]) (fun z z1 z2 => by rw [eg2, u2_ne _ (by omega)])
            refine J_aload_n hS dX8_held_34 rfl ?_
            refine J_iload_n hS dX8_held_35 rfl ?_
            refine J_iload_n hS dX8_held_36 rfl ?_
            refine J_callV2 (X' := fun _ _ => False) hS dX8_held_37 mvX8_353 ob162 rfl (by first | decide | omega) (by decide) (Nat.le_of_ble_eq_true rfl) ⟨Nat.le_trans (by decide) hR.1, Nat.le_trans (by decide) hR.2⟩ (fun _ _ q => q.elim) (m_heldIn Rw4 i2.w3 i2.hn i2.m6 i2.tm i2.rw hj i2.lo rul2 (fun g3 b1 b2 _ => ?_))
            refine J_iret hS hZ hr dX8_held_40 (by omega) (by omega) ?_
            exact q i j hi rfl hj rfl g3 (z2.trans ⟨fun z z1 _ z3 _ _ _ z7 _ _ _ => b1 z z1 z3 z7, fun j hj => b2 j (by omega) (by omega)⟩) (by rw [b2 0 (by decide) (by decide)]; exact t2)
          · exact absurd c3 (by decide)
      ·
        refine J_iload_n hS dX8_held_13 rfl ?_
        refine J_callS1 (X' := fun _ _ => False) hS dX8_held_14 msX8_132 rfl (by first | decide | omega) (by decide) (Nat.le_of_ble_eq_true rfl) ⟨Nat.le_trans (by decide) hR.1, Nat.le_trans (by decide) hR.2⟩ (fun _ _ q => q.elim) (m_ordN hbj ?_)
        refine J_if_eq (tgt := 24) hS dX8_held_17 (by decide) (fun c2 => ?_) (fun c2 => ?_)
        · exact bad (Or.inr hbj)
        · exact absurd rfl c2
  ·
    refine J_aload_n hS dX8_held_5 rfl ?_
    refine J_iload_n hS dX8_held_6 rfl ?_
    refine J_callS1 (X' := fun _ _ => False) hS dX8_held_7 msX8_117 rfl (by first | decide | omega) (by decide) (Nat.le_of_ble_eq_true rfl) ⟨Nat.le_trans (by decide) hR.1, Nat.le_trans (by decide) hR.2⟩ (fun _ _ q => q.elim) (m_yardN hbi ?_)
    refine J_if_eq (tgt := 24) hS dX8_held_10 (by decide) (fun c1 => ?_) (fun c1 => ?_)
    · exact bad (Or.inl hbi)
    · exact absurd rfl c1
theorem m_note {m : Nat} {t v : Int32} (hm : m ≤ 1500) (em : g 162 37 = nI m) (x : ou m t → ∀ g', FrZ g g' → g' 162 0 = 1 → Q (some (.int 0)) g') (x2 : ¬ ou m t → ou 17 v → ∀ g', FrZ g g' → g' 162 0 = 2 → Q (some (.int 0)) g') (q : ∀ i j, i < m → t = nI i → j < 17 → v = nI j → ∀ g', FrZ g g' → g' 162 0 = 0 → Q (some (.int (g 201 (20 * i + j)))) g') : Ct l E lay NC 1 0 0 yX8_note [.ref 162, .int t, .int v] g Q X := by
  refine Ct_in k_yX8_note (by decide) rfl (Nat.le_of_ble_eq_true rfl) rfl ?_
  intro S hS hZ hr ht hR
  show J S 0 0 (g) 0 [some (.ref 162), some (.int t), some (.int v)] []
  refine J_aload_n hS dX8_note_0 rfl ?_
  refine J_iconst (v := 0) hS dX8_note_1 (by decide) ?_
  refine J_putI hS dX8_note_2 fpX8_1 ob162 rfl (fun g2 eg2 => ?_)
  have z2 : FrZ g g2 := by rw [eg2]; exact FrZ_thr
  have t2 : g2 162 0 = 0 := by rw [eg2, u2_self]
  have m2 : g2 162 37 = nI m := by rw [z2.2 37 (by decide)]; exact em
  refine J_aload_n hS dX8_note_5 rfl ?_
  refine J_iload_n hS dX8_note_6 rfl ?_
  refine J_iconst (v := 0) hS dX8_note_7 (by decide) ?_
  refine J_aload_n hS dX8_note_8 rfl ?_
  refine J_getI hS dX8_note_9 flX8_329 ob162 rfl ?_
  show J S 0 0 (g2) 12 [some (.ref 162), some (.int t), some (.int v)] [.int _, .int 0, .int t, .ref 162]
  rw [m2]
  rcases in_or (y := t) (b := m) (by first | decide | omega) with ⟨i, hi, ei⟩ | hbi
  ·
    subst ei
    refine J_iconst (v := 1) hS dX8_note_12 (by decide) ?_
    refine J_isub hS dX8_note_13 ?_
    refine J_callS3 (X' := fun _ _ => False) hS dX8_note_14 msX8_106 rfl (by first | decide | omega) (by decide) (Nat.le_of_ble_eq_true rfl) ⟨Nat.le_trans (by decide) hR.1, Nat.le_trans (by decide) hR.2⟩ (fun _ _ q => q.elim) (m_ouY (m := m) (by omega) rfl hi ?_)
    refine J_iconst (v := 1) hS dX8_note_17 (by decide) ?_
    refine J_callV2 (X' := fun _ _ => False) hS dX8_note_18 mvX8_110 ob162 rfl (by first | decide | omega) (by decide) (Nat.le_of_ble_eq_true rfl) ⟨Nat.le_trans (by decide) hR.1, Nat.le_trans (by decide) hR.2⟩ (fun _ _ q => q.elim) (m_mayY t2 (by decide) ?_)
    refine J_if_eq (tgt := 39) hS dX8_note_21 (by decide) (fun c1 => ?_) (fun c1 => ?_)
    · exact absurd c1 (by decide)
    ·
      rcases in_or (y := v) (b := 17) (by first | decide | omega) with ⟨j, hj, ej⟩ | hbj
      ·
        subst ej
        refine J_aload_n hS dX8_note_24 rfl ?_
        refine J_iload_n hS dX8_note_25 rfl ?_
        refine J_iconst (v := 0) hS dX8_note_26 (by decide) ?_
        refine J_bipush (v := 16) hS dX8_note_27 (by decide) ?_
        refine J_callS3 (X' := fun _ _ => False) hS dX8_note_29 msX8_106 rfl (by first | decide | omega) (by decide) (Nat.le_of_ble_eq_true rfl) ⟨Nat.le_trans (by decide) hR.1, Nat.le_trans (by decide) hR.2⟩ (fun _ _ q => q.elim) (m_ouY (m := 17) (by decide) (by decide) hj ?_)
        refine J_iconst (v := 2) hS dX8_note_32 (by decide) ?_
        refine J_callV2 (X' := fun _ _ => False) hS dX8_note_33 mvX8_110 ob162 rfl (by first | decide | omega) (by decide) (Nat.le_of_ble_eq_true rfl) ⟨Nat.le_trans (by decide) hR.1, Nat.le_trans (by decide) hR.2⟩ (fun _ _ q => q.elim) (m_mayY t2 (by decide) ?_)
        refine J_if_ne (tgt := 41) hS dX8_note_36 (by decide) (fun c2 => ?_) (fun c2 => ?_)
        ·
          refine J_aload_n hS dX8_note_41 rfl ?_
          refine J_getR (t := 201) hS dX8_note_42 flX8_65 ob162 rfl ?_
          refine J_bipush (v := 20) hS dX8_note_45 (by decide) ?_
          refine J_iload_n hS dX8_note_47 rfl ?_
          refine J_imul hS dX8_note_48 ?_
          refine J_iload_n hS dX8_note_49 rfl ?_
          refine J_iadd hS dX8_note_50 ?_
          refine J_ialdN hS (20 * i + j) dX8_note_51 (show Ar lay NC .int 201 30000 from arM 38 30000 (by decide) (by decide) rfl) (by rw [n20, pk_mul, nI_add]) (by omega) (by decide) ?_
          show J S 0 0 (g2) 52 [some (.ref 162), some (.int (nI i)), some (.int (nI j))] [.int _]
          rw [z2.1 201 (by decide) (by decide) (by decide) (by decide) (by decide) (by decide) (by decide) (by decide) (by decide) (by decide)]
          refine J_iret hS hZ hr dX8_note_52 (by omega) (by omega) ?_
          exact q i j hi rfl hj rfl g2 z2 t2
        · exact absurd c2 (by decide)
      ·
        refine J_aload_n hS dX8_note_24 rfl ?_
        refine J_iload_n hS dX8_note_25 rfl ?_
        refine J_iconst (v := 0) hS dX8_note_26 (by decide) ?_
        refine J_bipush (v := 16) hS dX8_note_27 (by decide) ?_
        refine J_callS3 (X' := fun _ _ => False) hS dX8_note_29 msX8_106 rfl (by first | decide | omega) (by decide) (Nat.le_of_ble_eq_true rfl) ⟨Nat.le_trans (by decide) hR.1, Nat.le_trans (by decide) hR.2⟩ (fun _ _ q => q.elim) (m_ouN (m := 17) (by decide) (by decide) hbj ?_)
        refine J_iconst (v := 2) hS dX8_note_32 (by decide) ?_
        refine J_callV2 (X' := fun _ _ => False) hS dX8_note_33 mvX8_110 ob162 rfl (by first | decide | omega) (by decide) (Nat.le_of_ble_eq_true rfl) ⟨Nat.le_trans (by decide) hR.1, Nat.le_trans (by decide) hR.2⟩ (fun _ _ q => q.elim) (m_mayN t2 (by decide) ?_)
        refine J_if_ne (tgt := 41) hS dX8_note_36 (by decide) (fun c2 => ?_) (fun c2 => ?_)
        · exact absurd rfl c2
        ·
          refine J_iconst (v := 0) hS dX8_note_39 (by decide) ?_
          refine J_iret hS hZ hr dX8_note_40 (by omega) (by omega) ?_
          exact x2 (nou hi (by omega)) hbj _ (z2.trans FrZ_thr) (u2_self ..)
  ·
    refine J_iconst (v := 1) hS dX8_note_12 (by decide) ?_
    refine J_isub hS dX8_note_13 ?_
    refine J_callS3 (X' := fun _ _ => False) hS dX8_note_14 msX8_106 rfl (by first | decide | omega) (by decide) (Nat.le_of_ble_eq_true rfl) ⟨Nat.le_trans (by decide) hR.1, Nat.le_trans (by decide) hR.2⟩ (fun _ _ q => q.elim) (m_ouN (m := m) (by omega) rfl hbi ?_)
    refine J_iconst (v := 1) hS dX8_note_17 (by decide) ?_
    refine J_callV2 (X' := fun _ _ => False) hS dX8_note_18 mvX8_110 ob162 rfl (by first | decide | omega) (by decide) (Nat.le_of_ble_eq_true rfl) ⟨Nat.le_trans (by decide) hR.1, Nat.le_trans (by decide) hR.2⟩ (fun _ _ q => q.elim) (m_mayN t2 (by decide) ?_)
    refine J_if_eq (tgt := 39) hS dX8_note_21 (by decide) (fun c1 => ?_) (fun c1 => ?_)
    ·
      refine J_iconst (v := 0) hS dX8_note_39 (by decide) ?_
      refine J_iret hS hZ hr dX8_note_40 (by omega) (by omega) ?_
      exact x hbi _ (z2.trans FrZ_thr) (u2_self ..)
    · exact absurd rfl c1
theorem m_since {c o : Int32} (hI : RI g w n) (x : ou n c → ∀ g', FrZ g g' → g' 162 0 = 1 → Q (some (.int 0)) g') (x2 : ¬ ou n c → ou 6 o → ∀ g', FrZ g g' → g' 162 0 = 2 → Q (some (.int 0)) g') (q : ∀ i j, i < n → c = nI i → j < 6 → o = nI j → ∀ g', FrZ g g' → g' 162 0 = 0 → Q (some (.int (g 203 (6 * i + j)))) g') : Ct l E lay NC 2 0 0 yX8_since [.ref 162, .int c, .int o] g Q X := by
  have hn := hI.hn
  refine Ct_in k_yX8_since (by decide) rfl (Nat.le_of_ble_eq_true rfl) rfl ?_
  intro S hS hZ hr ht hR
  show J S 0 0 (g) 0 [some (.ref 162), some (.int c), some (.int o)] []
  refine J_aload_n hS dX8_since_0 rfl ?_
  refine J_iconst (v := 0) hS dX8_since_1 (by decide) ?_
  refine J_putI hS dX8_since_2 fpX8_1 ob162 rfl (fun g2 eg2 => ?_)
  have z2 : FrZ g g2 := by rw [eg2]; exact FrZ_thr
  have t2 : g2 162 0 = 0 := by rw [eg2, u2_self]
  have i2 := hI.fr z2
  rcases in_or (y := c) (b := n) (by first | decide | omega) with ⟨k, hk, ek⟩ | hbk
  ·
    subst ek
    have nk := nou hk (show n < 2 ^ 31 by omega)
    refine J_aload_n hS dX8_since_5 rfl ?_
    refine J_iload_n hS dX8_since_6 rfl ?_
    refine J_callV1 (X' := fun _ _ => False) hS dX8_since_7 mvX8_125 ob162 rfl (by first | decide | omega) (by decide) (Nat.le_of_ble_eq_true rfl) ⟨Nat.le_trans (by decide) hR.1, Nat.le_trans (by decide) hR.2⟩ (fun _ _ q => q.elim) (m_childY i2 t2 hk ?_)
    refine J_if_eq (tgt := 25) hS dX8_since_10 (by decide) (fun c1 => ?_) (fun c1 => ?_)
    · exact absurd c1 (by decide)
    ·
      rcases in_or (y := o) (b := 6) (by first | decide | omega) with ⟨j, hj, ej⟩ | hbj
      ·
        subst ej
        refine J_aload_n hS dX8_since_13 rfl ?_
        refine J_iload_n hS dX8_since_14 rfl ?_
        refine J_callS1 (X' := fun _ _ => False) hS dX8_since_15 msX8_132 rfl (by first | decide | omega) (by decide) (Nat.le_of_ble_eq_true rfl) ⟨Nat.le_trans (by decide) hR.1, Nat.le_trans (by decide) hR.2⟩ (fun _ _ q => q.elim) (m_ordY hj ?_)
        refine J_iconst (v := 2) hS dX8_since_18 (by decide) ?_
        refine J_callV2 (X' := fun _ _ => False) hS dX8_since_19 mvX8_110 ob162 rfl (by first | decide | omega) (by decide) (Nat.le_of_ble_eq_true rfl) ⟨Nat.le_trans (by decide) hR.1, Nat.le_trans (by decide) hR.2⟩ (fun _ _ q => q.elim) (m_mayY t2 (by decide) ?_)
        refine J_if_ne (tgt := 27) hS dX8_since_22 (by decide) (fun c2 => ?_) (fun c2 => ?_)
        ·
          refine J_aload_n hS dX8_since_27 rfl ?_
          refine J_getR (t := 203) hS dX8_since_28 flX8_71 ob162 rfl ?_
          refine J_bipush (v := 6) hS dX8_since_31 (by decide) ?_
          refine J_iload_n hS dX8_since_33 rfl ?_
          refine J_imul hS dX8_since_34 ?_
          refine J_iload_n hS dX8_since_35 rfl ?_
          refine J_iadd hS dX8_since_36 ?_
          refine J_ialdN hS (6 * k + j) dX8_since_37 (show Ar lay NC .int 203 144 from arM 40 144 (by decide) (by decide) rfl) (by rw [n6, pk_mul, nI_add]) (by omega) (by decide) ?_
          show J S 0 0 (g2) 38 [some (.ref 162), some (.int (nI k)), some (.int (nI j))] [.int _]
          rw [z2.1 203 (by decide) (by decide) (by decide) (by decide) (by decide) (by decide) (by decide) (by decide) (by decide) (by decide)]
          refine J_iret hS hZ hr dX8_since_38 (by omega) (by omega) ?_
          exact q k j hk rfl hj rfl g2 z2 t2
        · exact absurd c2 (by decide)
      ·
        refine J_aload_n hS dX8_since_13 rfl ?_
        refine J_iload_n hS dX8_since_14 rfl ?_
        refine J_callS1 (X' := fun _ _ => False) hS dX8_since_15 msX8_132 rfl (by first | decide | omega) (by decide) (Nat.le_of_ble_eq_true rfl) ⟨Nat.le_trans (by decide) hR.1, Nat.le_trans (by decide) hR.2⟩ (fun _ _ q => q.elim) (m_ordN hbj ?_)
        refine J_iconst (v := 2) hS dX8_since_18 (by decide) ?_
        refine J_callV2 (X' := fun _ _ => False) hS dX8_since_19 mvX8_110 ob162 rfl (by first | decide | omega) (by decide) (Nat.le_of_ble_eq_true rfl) ⟨Nat.le_trans (by decide) hR.1, Nat.le_trans (by decide) hR.2⟩ (fun _ _ q => q.elim) (m_mayN t2 (by decide) ?_)
        refine J_if_ne (tgt := 27) hS dX8_since_22 (by decide) (fun c2 => ?_) (fun c2 => ?_)
        · exact absurd rfl c2
        ·
          refine J_iconst (v := 0) hS dX8_since_25 (by decide) ?_
          refine J_iret hS hZ hr dX8_since_26 (by omega) (by omega) ?_
          exact x2 nk hbj _ (z2.trans FrZ_thr) (u2_self ..)
  ·
    refine J_aload_n hS dX8_since_5 rfl ?_
    refine J_iload_n hS dX8_since_6 rfl ?_
    refine J_callV1 (X' := fun _ _ => False) hS dX8_since_7 mvX8_125 ob162 rfl (by first | decide | omega) (by decide) (Nat.le_of_ble_eq_true rfl) ⟨Nat.le_trans (by decide) hR.1, Nat.le_trans (by decide) hR.2⟩ (fun _ _ q => q.elim) (m_childN i2 t2 hbk ?_)
    refine J_if_eq (tgt := 25) hS dX8_since_10 (by decide) (fun c1 => ?_) (fun c1 => ?_)
    ·
      refine J_iconst (v := 0) hS dX8_since_25 (by decide) ?_
      refine J_iret hS hZ hr dX8_since_26 (by omega) (by omega) ?_
      exact x hbk _ (z2.trans FrZ_thr) (u2_self ..)
    · exact absurd rfl c1
theorem m_uses {y s : Int32} (hI : RI g w n) (x : ou 3 y ∨ ou 16 s → ∀ g', FrZ g g' → g' 162 0 = 1 → Q (some (.int 0)) g') (q : ∀ i j, i < 3 → y = nI i → j < 16 → s = nI j → ∀ g', FrZ g g' → g' 162 0 = 0 → Q (some (.int (w (8 + 16 * i + j)))) g') : Ct l E lay NC 2 0 0 yX8_uses [.ref 162, .int y, .int s] g Q X := by
  refine Ct_in k_yX8_uses (by decide) rfl (Nat.le_of_ble_eq_true rfl) rfl ?_
  intro S hS hZ hr ht hR
  show J S 0 0 (g) 0 [some (.ref 162), some (.int y), some (.int s)] []
  refine J_aload_n hS dX8_uses_0 rfl ?_
  refine J_iconst (v := 0) hS dX8_uses_1 (by decide) ?_
  refine J_putI hS dX8_uses_2 fpX8_1 ob162 rfl (fun g2 eg2 => ?_)
  have z2 : FrZ g g2 := by rw [eg2]; exact FrZ_thr
  have t2 : g2 162 0 = 0 := by rw [eg2, u2_self]
  have i2 := hI.fr z2
  have bad : ou 3 y ∨ ou 16 s → J S 0 0 g2 27 [some (.ref 162), some (.int y), some (.int s)] [.ref 162] := by
    intro b1
    refine J_iconst (v := 0) hS dX8_uses_27 (by decide) ?_
    refine J_iconst (v := 1) hS dX8_uses_28 (by decide) ?_
    refine J_callV2 (X' := fun _ _ => False) hS dX8_uses_29 mvX8_110 ob162 rfl (by first | decide | omega) (by decide) (Nat.le_of_ble_eq_true rfl) ⟨Nat.le_trans (by decide) hR.1, Nat.le_trans (by decide) hR.2⟩ (fun _ _ q => q.elim) (m_mayN t2 (by decide) ?_)
    refine J_if_ne (tgt := 37) hS dX8_uses_32 (by decide) (fun c2 => ?_) (fun c2 => ?_)
    · exact absurd rfl c2
    ·
      refine J_iconst (v := 0) hS dX8_uses_35 (by decide) ?_
      refine J_iret hS hZ hr dX8_uses_36 (by omega) (by omega) ?_
      exact x b1 _ (z2.trans FrZ_thr) (u2_self ..)
  rcases in_or (y := y) (b := 3) (by first | decide | omega) with ⟨i, hi, ei⟩ | hbi
  ·
    subst ei
    refine J_aload_n hS dX8_uses_5 rfl ?_
    refine J_iload_n hS dX8_uses_6 rfl ?_
    refine J_callS1 (X' := fun _ _ => False) hS dX8_uses_7 msX8_117 rfl (by first | decide | omega) (by decide) (Nat.le_of_ble_eq_true rfl) ⟨Nat.le_trans (by decide) hR.1, Nat.le_trans (by decide) hR.2⟩ (fun _ _ q => q.elim) (m_yardY hi ?_)
    refine J_if_eq (tgt := 27) hS dX8_uses_10 (by decide) (fun c1 => ?_) (fun c1 => ?_)
    · exact absurd c1 (by decide)
    ·
      rcases in_or (y := s) (b := 16) (by first | decide | omega) with ⟨j, hj, ej⟩ | hbj
      ·
        subst ej
        refine J_iload_n hS dX8_uses_13 rfl ?_
        refine J_iconst (v := 0) hS dX8_uses_14 (by decide) ?_
        refine J_bipush (v := 15) hS dX8_uses_15 (by decide) ?_
        refine J_callS3 (X' := fun _ _ => False) hS dX8_uses_17 msX8_106 rfl (by first | decide | omega) (by decide) (Nat.le_of_ble_eq_true rfl) ⟨Nat.le_trans (by decide) hR.1, Nat.le_trans (by decide) hR.2⟩ (fun _ _ q => q.elim) (m_ouY (m := 16) (by decide) (by decide) hj ?_)
        refine J_if_eq (tgt := 27) hS dX8_uses_20 (by decide) (fun c2 => ?_) (fun c2 => ?_)
        · exact absurd c2 (by decide)
        ·
          refine J_iconst (v := 1) hS dX8_uses_23 (by decide) ?_
          refine J_goto (tgt := 28) hS dX8_uses_24 (by decide) ?_
          refine J_iconst (v := 1) hS dX8_uses_28 (by decide) ?_
          refine J_callV2 (X' := fun _ _ => False) hS dX8_uses_29 mvX8_110 ob162 rfl (by first | decide | omega) (by decide) (Nat.le_of_ble_eq_true rfl) ⟨Nat.le_trans (by decide) hR.1, Nat.le_trans (by decide) hR.2⟩ (fun _ _ q => q.elim) (m_mayY t2 (by decide) ?_)
          refine J_if_ne (tgt := 37) hS dX8_uses_32 (by decide) (fun c3 => ?_) (fun c3 => ?_)
          ·
            refine J_aload_n hS dX8_uses_37 rfl ?_
            refine J_getR (t := 164) hS dX8_uses_38 flX8_13 ob162 rfl ?_
            refine J_bipush (v := 8) hS dX8_uses_41 (by decide) ?_
            refine J_bipush (v := 16) hS dX8_uses_43 (by decide) ?_
            refine J_iload_n hS dX8_uses_45 rfl ?_
            refine J_imul hS dX8_uses_46 ?_
            refine J_iadd hS dX8_uses_47 ?_
            refine J_iload_n hS dX8_uses_48 rfl ?_
            refine J_iadd hS dX8_uses_49 ?_
            refine J_ialdN hS (8 + 16 * i + j) dX8_uses_50 (show Ar lay NC .int 164 3464 from arM 1 3464 (by decide) (by decide) rfl) (by rw [n8, n16, pk_mul, nI_add, nI_add]) (by omega) (by decide) ?_
            show J S 0 0 (g2) 51 [some (.ref 162), some (.int (nI i)), some (.int (nI j))] [.int _]
            rw [i2.row _ (by omega)]
            refine J_iret hS hZ hr dX8_uses_51 (by omega) (by omega) ?_
            exact q i j hi rfl hj rfl g2 z2 t2
          · exact absurd c3 (by decide)
      ·
        refine J_iload_n hS dX8_uses_13 rfl ?_
        refine J_iconst (v := 0) hS dX8_uses_14 (by decide) ?_
        refine J_bipush (v := 15) hS dX8_uses_15 (by decide) ?_
        refine J_callS3 (X' := fun _ _ => False) hS dX8_uses_17 msX8_106 rfl (by first | decide | omega) (by decide) (Nat.le_of_ble_eq_true rfl) ⟨Nat.le_trans (by decide) hR.1, Nat.le_trans (by decide) hR.2⟩ (fun _ _ q => q.elim) (m_ouN (m := 16) (by decide) (by decide) hbj ?_)
        refine J_if_eq (tgt := 27) hS dX8_uses_20 (by decide) (fun c2 => ?_) (fun c2 => ?_)
        · exact bad (Or.inr hbj)
        · exact absurd rfl c2
  ·
    refine J_aload_n hS dX8_uses_5 rfl ?_
    refine J_iload_n hS dX8_uses_6 rfl ?_
    refine J_callS1 (X' := fun _ _ => False) hS dX8_uses_7 msX8_117 rfl (by first | decide | omega) (by decide) (Nat.le_of_ble_eq_true rfl) ⟨Nat.le_trans (by decide) hR.1, Nat.le_trans (by decide) hR.2⟩ (fun _ _ q => q.elim) (m_yardN hbi ?_)
    refine J_if_eq (tgt := 27) hS dX8_uses_10 (by decide) (fun c1 => ?_) (fun c1 => ?_)
    · exact bad (Or.inl hbi)
    · exact absurd rfl c1
theorem m_seen {y s : Int32} (hI : RI g w n) (x : ou 3 y ∨ ou 16 s → ∀ g', FrZ g g' → g' 162 0 = 1 → Q (some (.int 0)) g') (q : ∀ i j, i < 3 → y = nI i → j < 16 → s = nI j → ∀ g', FrZ g g' → g' 162 0 = 0 → Q (some (.int (nI (snW w i j)))) g') : Ct l E lay NC 2 0 0 yX8_seen [.ref 162, .int y, .int s] g Q X := by
  refine Ct_in k_yX8_seen (by decide) rfl (Nat.le_of_ble_eq_true rfl) rfl ?_
  intro S hS hZ hr ht hR
  show J S 0 0 (g) 0 [some (.ref 162), some (.int y), some (.int s)] []
  refine J_aload_n hS dX8_seen_0 rfl ?_
  refine J_iconst (v := 0) hS dX8_seen_1 (by decide) ?_
  refine J_putI hS dX8_seen_2 fpX8_1 ob162 rfl (fun g2 eg2 => ?_)
  have z2 : FrZ g g2 := by rw [eg2]; exact FrZ_thr
  have t2 : g2 162 0 = 0 := by rw [eg2, u2_self]
  have i2 := hI.fr z2
  have bad : ou 3 y ∨ ou 16 s → J S 0 0 g2 27 [some (.ref 162), some (.int y), some (.int s)] [.ref 162] := by
    intro b1
    refine J_iconst (v := 0) hS dX8_seen_27 (by decide) ?_
    refine J_iconst (v := 1) hS dX8_seen_28 (by decide) ?_
    refine J_callV2 (X' := fun _ _ => False) hS dX8_seen_29 mvX8_110 ob162 rfl (by first | decide | omega) (by decide) (Nat.le_of_ble_eq_true rfl) ⟨Nat.le_trans (by decide) hR.1, Nat.le_trans (by decide) hR.2⟩ (fun _ _ q => q.elim) (m_mayN t2 (by decide) ?_)
    refine J_if_ne (tgt := 37) hS dX8_seen_32 (by decide) (fun c2 => ?_) (fun c2 => ?_)
    · exact absurd rfl c2
    ·
      refine J_iconst (v := 0) hS dX8_seen_35 (by decide) ?_
      refine J_iret hS hZ hr dX8_seen_36 (by omega) (by omega) ?_
      exact x b1 _ (z2.trans FrZ_thr) (u2_self ..)
  rcases in_or (y := y) (b := 3) (by first | decide | omega) with ⟨i, hi, ei⟩ | hbi
  ·
    subst ei
    refine J_aload_n hS dX8_seen_5 rfl ?_
    refine J_iload_n hS dX8_seen_6 rfl ?_
    refine J_callS1 (X' := fun _ _ => False) hS dX8_seen_7 msX8_117 rfl (by first | decide | omega) (by decide) (Nat.le_of_ble_eq_true rfl) ⟨Nat.le_trans (by decide) hR.1, Nat.le_trans (by decide) hR.2⟩ (fun _ _ q => q.elim) (m_yardY hi ?_)
    refine J_if_eq (tgt := 27) hS dX8_seen_10 (by decide) (fun c1 => ?_) (fun c1 => ?_)
    · exact absurd c1 (by decide)
    ·
      rcases in_or (y := s) (b := 16) (by first | decide | omega) with ⟨j, hj, ej⟩ | hbj
      ·
        subst ej
        refine J_iload_n hS dX8_seen_13 rfl ?_
        refine J_iconst (v := 0) hS dX8_seen_14 (by decide) ?_
        refine J_bipush (v := 15) hS dX8_seen_15 (by decide) ?_
        refine J_callS3 (X' := fun _ _ => False) hS dX8_seen_17 msX8_106 rfl (by first | decide | omega) (by decide) (Nat.le_of_ble_eq_true rfl) ⟨Nat.le_trans (by decide) hR.1, Nat.le_trans (by decide) hR.2⟩ (fun _ _ q => q.elim) (m_ouY (m := 16) (by decide) (by decide) hj ?_)
        refine J_if_eq (tgt := 27) hS dX8_seen_20 (by decide) (fun c2 => ?_) (fun c2 => ?_)
        · exact absurd c2 (by decide)
        ·
          refine J_iconst (v := 1) hS dX8_seen_23 (by decide) ?_
          refine J_goto (tgt := 28) hS dX8_seen_24 (by decide) ?_
          refine J_iconst (v := 1) hS dX8_seen_28 (by decide) ?_
          refine J_callV2 (X' := fun _ _ => False) hS dX8_seen_29 mvX8_110 ob162 rfl (by first | decide | omega) (by decide) (Nat.le_of_ble_eq_true rfl) ⟨Nat.le_trans (by decide) hR.1, Nat.le_trans (by decide) hR.2⟩ (fun _ _ q => q.elim) (m_mayY t2 (by decide) ?_)
          refine J_if_ne (tgt := 37) hS dX8_seen_32 (by decide) (fun c3 => ?_) (fun c3 => ?_)
          ·
            refine J_aload_n hS dX8_seen_37 rfl ?_
            refine J_iload_n hS dX8_seen_38 rfl ?_
            refine J_iload_n hS dX8_seen_39 rfl ?_
            refine J_callV2 (X' := fun _ _ => False) hS dX8_seen_40 mvX8_314 ob162 rfl (by first | decide | omega) (by decide) (Nat.le_of_ble_eq_true rfl) ⟨Nat.le_trans (by decide) hR.1, Nat.le_trans (by decide) hR.2⟩ (fun _ _ q => q.elim) (m_seenAs Rw4 i2.w3 i2.rw hi hj ?_)
            refine J_iret hS hZ hr dX8_seen_43 (by omega) (by omega) ?_
            exact q i j hi rfl hj rfl g2 z2 t2
          · exact absurd c3 (by decide)
      ·
        refine J_iload_n hS dX8_seen_13 rfl ?_
        refine J_iconst (v := 0) hS dX8_seen_14 (by decide) ?_
        refine J_bipush (v := 15) hS dX8_seen_15 (by decide) ?_
        refine J_callS3 (X' := fun _ _ => False) hS dX8_seen_17 msX8_106 rfl (by first | decide | omega) (by decide) (Nat.le_of_ble_eq_true rfl) ⟨Nat.le_trans (by decide) hR.1, Nat.le_trans (by decide) hR.2⟩ (fun _ _ q => q.elim) (m_ouN (m := 16) (by decide) (by decide) hbj ?_)
        refine J_if_eq (tgt := 27) hS dX8_seen_20 (by decide) (fun c2 => ?_) (fun c2 => ?_)
        · exact bad (Or.inr hbj)
        · exact absurd rfl c2
  ·
    refine J_aload_n hS dX8_seen_5 rfl ?_
    refine J_iload_n hS dX8_seen_6 rfl ?_
    refine J_callS1 (X' := fun _ _ => False) hS dX8_seen_7 msX8_117 rfl (by first | decide | omega) (by decide) (Nat.le_of_ble_eq_true rfl) ⟨Nat.le_trans (by decide) hR.1, Nat.le_trans (by decide) hR.2⟩ (fun _ _ q => q.elim) (m_yardN hbi ?_)
    refine J_if_eq (tgt := 27) hS dX8_seen_10 (by decide) (fun c1 => ?_) (fun c1 => ?_)
    · exact bad (Or.inl hbi)
    · exact absurd rfl c1
end RefP3


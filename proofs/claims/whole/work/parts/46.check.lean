/-! THE CLASS: the checks -/
theorem in_or {y : Int32} {b : Nat} (hb : b < 2 ^ 31) : (∃ n, n < b ∧ y = nI n) ∨ (y < 0 ∨ nI b ≤ y) := by
  rcases Int32.lt_or_le y 0 with h | h
  · exact Or.inr (Or.inl h)
  · rcases Int32.lt_or_le y (nI b) with h2 | h2
    · refine Or.inl ⟨y.toInt.toNat, ?_, ?_⟩
      · have e := nI_toInt hb
        rw [Int32.lt_iff_toInt_lt] at h2
        rw [Int32.le_iff_toInt_le] at h
        have z : (0 : Int32).toInt = 0 := rfl
        omega
      · have e := nI_toInt hb
        rw [Int32.lt_iff_toInt_lt] at h2
        rw [Int32.le_iff_toInt_le] at h
        have z : (0 : Int32).toInt = 0 := rfl
        apply Int32.toInt_inj.mp
        rw [nI_toInt (by omega)]
        omega
    · exact Or.inr (Or.inr h2)
theorem nI_npos {n : Nat} (hn : n < 2 ^ 31) : ¬ nI n < 0 := nI_nlt (Nat.zero_le n) hn
section ClsC
variable {l : Launch} {E : Ey} {g : Mm} {Q : Option Value → Mm → Prop} {X : String → Mm → Prop} {h : Nat}
theorem c_checkYardOk {y : Nat} (hy : y < 3) (q : Q none g) : Ct l E lay NC 0 0 0 yX7_checkYard [.int (nI y)] g Q X := by
  refine Ct_in k_yX7_checkYard (by decide) rfl (Nat.le_of_ble_eq_true rfl) rfl ?_
  intro S hS hZ hr ht hR
  show J S 0 0 g 0 [some (.int (nI y))] []
  refine J_iload_n hS dX7_checkYard_0 rfl ?_
  refine J_if_lt (tgt := 9) hS dX7_checkYard_1 (by decide) (fun c1 => ?_) (fun c1 => ?_)
  · exact absurd c1 (nI_npos (by omega))
  ·
    refine J_iload_n hS dX7_checkYard_4 rfl ?_
    refine J_iconst (v := 3) hS dX7_checkYard_5 (by decide) ?_
    refine J_icmp_lt (tgt := 20) hS dX7_checkYard_6 (by decide) (fun c2 => ?_) (fun c2 => ?_)
    ·
      refine J_vret hS hZ hr dX7_checkYard_20 (by omega) (by omega) ?_
      exact q
    · exact absurd (nI_lt hy (by decide)) c2
theorem c_checkYardBad {y : Int32} (hb : y < 0 ∨ nI 3 ≤ y) (x : X "java/lang/IllegalArgumentException" g) : Ct l E lay NC 6 1 6 yX7_checkYard [.int y] g Q X := by
  refine Ct_in k_yX7_checkYard (by decide) rfl (Nat.le_of_ble_eq_true rfl) rfl ?_
  intro S hS hZ hr ht hR
  show J S 0 0 g 0 [some (.int y)] []
  refine J_iload_n hS dX7_checkYard_0 rfl ?_
  refine J_if_lt (tgt := 9) hS dX7_checkYard_1 (by decide) (fun c1 => ?_) (fun c1 => ?_)
  ·
    exact J_thAW hS hZ ht hR (by decide) (List.mem_of_getElem? (i := 0) rfl) rfl dX7_checkYard_9 dX7_checkYard_12 dX7_checkYard_13 dX7_checkYard_16 dX7_checkYard_19 (by omega) (by omega) (x)
  ·
    refine J_iload_n hS dX7_checkYard_4 rfl ?_
    refine J_iconst (v := 3) hS dX7_checkYard_5 (by decide) ?_
    refine J_icmp_lt (tgt := 20) hS dX7_checkYard_6 (by decide) (fun c2 => ?_) (fun c2 => ?_)
    · rcases hb with z | z
      · exact absurd z c1
      · exact absurd c2 (Int32.not_lt.mpr z)
    ·
      exact J_thAW hS hZ ht hR (by decide) (List.mem_of_getElem? (i := 0) rfl) rfl dX7_checkYard_9 dX7_checkYard_12 dX7_checkYard_13 dX7_checkYard_16 dX7_checkYard_19 (by omega) (by omega) (x)
theorem c_checkConceptOk {y : Nat} (hy : y < 8) (q : Q none g) : Ct l E lay NC 0 0 0 yX7_checkConcept [.int (nI y)] g Q X := by
  refine Ct_in k_yX7_checkConcept (by decide) rfl (Nat.le_of_ble_eq_true rfl) rfl ?_
  intro S hS hZ hr ht hR
  show J S 0 0 g 0 [some (.int (nI y))] []
  refine J_iload_n hS dX7_checkConcept_0 rfl ?_
  refine J_if_lt (tgt := 10) hS dX7_checkConcept_1 (by decide) (fun c1 => ?_) (fun c1 => ?_)
  · exact absurd c1 (nI_npos (by omega))
  ·
    refine J_iload_n hS dX7_checkConcept_4 rfl ?_
    refine J_bipush (v := 8) hS dX7_checkConcept_5 (by decide) ?_
    refine J_icmp_lt (tgt := 21) hS dX7_checkConcept_7 (by decide) (fun c2 => ?_) (fun c2 => ?_)
    ·
      refine J_vret hS hZ hr dX7_checkConcept_21 (by omega) (by omega) ?_
      exact q
    · exact absurd (nI_lt hy (by decide)) c2
theorem c_checkConceptBad {y : Int32} (hb : y < 0 ∨ nI 8 ≤ y) (x : X "java/lang/IllegalArgumentException" g) : Ct l E lay NC 6 1 6 yX7_checkConcept [.int y] g Q X := by
  refine Ct_in k_yX7_checkConcept (by decide) rfl (Nat.le_of_ble_eq_true rfl) rfl ?_
  intro S hS hZ hr ht hR
  show J S 0 0 g 0 [some (.int y)] []
  refine J_iload_n hS dX7_checkConcept_0 rfl ?_
  refine J_if_lt (tgt := 10) hS dX7_checkConcept_1 (by decide) (fun c1 => ?_) (fun c1 => ?_)
  ·
    exact J_thAW hS hZ ht hR (by decide) (List.mem_of_getElem? (i := 4) rfl) rfl dX7_checkConcept_10 dX7_checkConcept_13 dX7_checkConcept_14 dX7_checkConcept_17 dX7_checkConcept_20 (by omega) (by omega) (x)
  ·
    refine J_iload_n hS dX7_checkConcept_4 rfl ?_
    refine J_bipush (v := 8) hS dX7_checkConcept_5 (by decide) ?_
    refine J_icmp_lt (tgt := 21) hS dX7_checkConcept_7 (by decide) (fun c2 => ?_) (fun c2 => ?_)
    · rcases hb with z | z
      · exact absurd z c1
      · exact absurd c2 (Int32.not_lt.mpr z)
    ·
      exact J_thAW hS hZ ht hR (by decide) (List.mem_of_getElem? (i := 4) rfl) rfl dX7_checkConcept_10 dX7_checkConcept_13 dX7_checkConcept_14 dX7_checkConcept_17 dX7_checkConcept_20 (by omega) (by omega) (x)
theorem c_checkSignOk {y : Nat} (hy : y < 16) (q : Q none g) : Ct l E lay NC 0 0 0 yX7_checkSign [.int (nI y)] g Q X := by
  refine Ct_in k_yX7_checkSign (by decide) rfl (Nat.le_of_ble_eq_true rfl) rfl ?_
  intro S hS hZ hr ht hR
  show J S 0 0 g 0 [some (.int (nI y))] []
  refine J_iload_n hS dX7_checkSign_0 rfl ?_
  refine J_if_lt (tgt := 10) hS dX7_checkSign_1 (by decide) (fun c1 => ?_) (fun c1 => ?_)
  · exact absurd c1 (nI_npos (by omega))
  ·
    refine J_iload_n hS dX7_checkSign_4 rfl ?_
    refine J_bipush (v := 16) hS dX7_checkSign_5 (by decide) ?_
    refine J_icmp_lt (tgt := 21) hS dX7_checkSign_7 (by decide) (fun c2 => ?_) (fun c2 => ?_)
    ·
      refine J_vret hS hZ hr dX7_checkSign_21 (by omega) (by omega) ?_
      exact q
    · exact absurd (nI_lt hy (by decide)) c2
theorem c_checkSignBad {y : Int32} (hb : y < 0 ∨ nI 16 ≤ y) (x : X "java/lang/IllegalArgumentException" g) : Ct l E lay NC 6 1 6 yX7_checkSign [.int y] g Q X := by
  refine Ct_in k_yX7_checkSign (by decide) rfl (Nat.le_of_ble_eq_true rfl) rfl ?_
  intro S hS hZ hr ht hR
  show J S 0 0 g 0 [some (.int y)] []
  refine J_iload_n hS dX7_checkSign_0 rfl ?_
  refine J_if_lt (tgt := 10) hS dX7_checkSign_1 (by decide) (fun c1 => ?_) (fun c1 => ?_)
  ·
    exact J_thAW hS hZ ht hR (by decide) (List.mem_of_getElem? (i := 5) rfl) rfl dX7_checkSign_10 dX7_checkSign_13 dX7_checkSign_14 dX7_checkSign_17 dX7_checkSign_20 (by omega) (by omega) (x)
  ·
    refine J_iload_n hS dX7_checkSign_4 rfl ?_
    refine J_bipush (v := 16) hS dX7_checkSign_5 (by decide) ?_
    refine J_icmp_lt (tgt := 21) hS dX7_checkSign_7 (by decide) (fun c2 => ?_) (fun c2 => ?_)
    · rcases hb with z | z
      · exact absurd z c1
      · exact absurd c2 (Int32.not_lt.mpr z)
    ·
      exact J_thAW hS hZ ht hR (by decide) (List.mem_of_getElem? (i := 5) rfl) rfl dX7_checkSign_10 dX7_checkSign_13 dX7_checkSign_14 dX7_checkSign_17 dX7_checkSign_20 (by omega) (by omega) (x)
theorem c_checkOrderOk {y : Nat} (hy : y < 6) (q : Q none g) : Ct l E lay NC 0 0 0 yX7_checkOrder [.int (nI y)] g Q X := by
  refine Ct_in k_yX7_checkOrder (by decide) rfl (Nat.le_of_ble_eq_true rfl) rfl ?_
  intro S hS hZ hr ht hR
  show J S 0 0 g 0 [some (.int (nI y))] []
  refine J_iload_n hS dX7_checkOrder_0 rfl ?_
  refine J_if_lt (tgt := 10) hS dX7_checkOrder_1 (by decide) (fun c1 => ?_) (fun c1 => ?_)
  · exact absurd c1 (nI_npos (by omega))
  ·
    refine J_iload_n hS dX7_checkOrder_4 rfl ?_
    refine J_bipush (v := 6) hS dX7_checkOrder_5 (by decide) ?_
    refine J_icmp_lt (tgt := 21) hS dX7_checkOrder_7 (by decide) (fun c2 => ?_) (fun c2 => ?_)
    ·
      refine J_vret hS hZ hr dX7_checkOrder_21 (by omega) (by omega) ?_
      exact q
    · exact absurd (nI_lt hy (by decide)) c2
theorem c_checkOrderBad {y : Int32} (hb : y < 0 ∨ nI 6 ≤ y) (x : X "java/lang/IllegalArgumentException" g) : Ct l E lay NC 6 1 6 yX7_checkOrder [.int y] g Q X := by
  refine Ct_in k_yX7_checkOrder (by decide) rfl (Nat.le_of_ble_eq_true rfl) rfl ?_
  intro S hS hZ hr ht hR
  show J S 0 0 g 0 [some (.int y)] []
  refine J_iload_n hS dX7_checkOrder_0 rfl ?_
  refine J_if_lt (tgt := 10) hS dX7_checkOrder_1 (by decide) (fun c1 => ?_) (fun c1 => ?_)
  ·
    exact J_thAW hS hZ ht hR (by decide) (List.mem_of_getElem? (i := 6) rfl) rfl dX7_checkOrder_10 dX7_checkOrder_13 dX7_checkOrder_14 dX7_checkOrder_17 dX7_checkOrder_20 (by omega) (by omega) (x)
  ·
    refine J_iload_n hS dX7_checkOrder_4 rfl ?_
    refine J_bipush (v := 6) hS dX7_checkOrder_5 (by decide) ?_
    refine J_icmp_lt (tgt := 21) hS dX7_checkOrder_7 (by decide) (fun c2 => ?_) (fun c2 => ?_)
    · rcases hb with z | z
      · exact absurd z c1
      · exact absurd c2 (Int32.not_lt.mpr z)
    ·
      exact J_thAW hS hZ ht hR (by decide) (List.mem_of_getElem? (i := 6) rfl) rfl dX7_checkOrder_10 dX7_checkOrder_13 dX7_checkOrder_14 dX7_checkOrder_17 dX7_checkOrder_20 (by omega) (by omega) (x)
theorem c_checkRunLengthOk {y : Nat} (hy : y < 201) (q : Q none g) : Ct l E lay NC 0 0 0 yX7_checkRunLength [.int (nI y)] g Q X := by
  refine Ct_in k_yX7_checkRunLength (by decide) rfl (Nat.le_of_ble_eq_true rfl) rfl ?_
  intro S hS hZ hr ht hR
  show J S 0 0 g 0 [some (.int (nI y))] []
  refine J_iload_n hS dX7_checkRunLength_0 rfl ?_
  refine J_if_lt (tgt := 11) hS dX7_checkRunLength_1 (by decide) (fun c1 => ?_) (fun c1 => ?_)
  · exact absurd c1 (nI_npos (by omega))
  ·
    refine J_iload_n hS dX7_checkRunLength_4 rfl ?_
    refine J_sipush (v := 200) hS dX7_checkRunLength_5 (by decide) ?_
    refine J_icmp_le (tgt := 22) hS dX7_checkRunLength_8 (by decide) (fun c2 => ?_) (fun c2 => ?_)
    ·
      refine J_vret hS hZ hr dX7_checkRunLength_22 (by omega) (by omega) ?_
      exact q
    · exact absurd (Int32.not_lt.mp (nI_nlt (show y ≤ 200 by omega) (by decide))) c2
theorem c_checkRunLengthBad {y : Int32} (hb : y < 0 ∨ nI 201 ≤ y) (x : X "java/lang/IllegalArgumentException" g) : Ct l E lay NC 6 1 6 yX7_checkRunLength [.int y] g Q X := by
  refine Ct_in k_yX7_checkRunLength (by decide) rfl (Nat.le_of_ble_eq_true rfl) rfl ?_
  intro S hS hZ hr ht hR
  show J S 0 0 g 0 [some (.int y)] []
  refine J_iload_n hS dX7_checkRunLength_0 rfl ?_
  refine J_if_lt (tgt := 11) hS dX7_checkRunLength_1 (by decide) (fun c1 => ?_) (fun c1 => ?_)
  ·
    exact J_thAW hS hZ ht hR (by decide) (List.mem_of_getElem? (i := 29) rfl) rfl dX7_checkRunLength_11 dX7_checkRunLength_14 dX7_checkRunLength_15 dX7_checkRunLength_18 dX7_checkRunLength_21 (by omega) (by omega) (x)
  ·
    refine J_iload_n hS dX7_checkRunLength_4 rfl ?_
    refine J_sipush (v := 200) hS dX7_checkRunLength_5 (by decide) ?_
    refine J_icmp_le (tgt := 22) hS dX7_checkRunLength_8 (by decide) (fun c2 => ?_) (fun c2 => ?_)
    · rcases hb with z | z
      · exact absurd z c1
      · exact absurd (Int32.lt_of_le_of_lt c2 (show (200 : Int32) < nI 201 by decide)) (Int32.not_lt.mpr z)
    ·
      exact J_thAW hS hZ ht hR (by decide) (List.mem_of_getElem? (i := 29) rfl) rfl dX7_checkRunLength_11 dX7_checkRunLength_14 dX7_checkRunLength_15 dX7_checkRunLength_18 dX7_checkRunLength_21 (by omega) (by omega) (x)
theorem c_checkKindOk {y : Int32} (h1 : ¬ y < -1) (h2 : y ≤ 3) (q : Q none g) : Ct l E lay NC 0 0 0 yX7_checkKind [.int y] g Q X := by
  refine Ct_in k_yX7_checkKind (by decide) rfl (Nat.le_of_ble_eq_true rfl) rfl ?_
  intro S hS hZ hr ht hR
  show J S 0 0 g 0 [some (.int y)] []
  refine J_iload_n hS dX7_checkKind_0 rfl ?_
  refine J_iconst (v := (-1)) hS dX7_checkKind_1 (by decide) ?_
  refine J_icmp_lt (tgt := 10) hS dX7_checkKind_2 (by decide) (fun c1 => ?_) (fun c1 => ?_)
  · exact absurd c1 h1
  ·
    refine J_iload_n hS dX7_checkKind_5 rfl ?_
    refine J_iconst (v := 3) hS dX7_checkKind_6 (by decide) ?_
    refine J_icmp_le (tgt := 21) hS dX7_checkKind_7 (by decide) (fun c2 => ?_) (fun c2 => ?_)
    ·
      refine J_vret hS hZ hr dX7_checkKind_21 (by omega) (by omega) ?_
      exact q
    · exact absurd h2 c2
theorem c_checkKindBad {y : Int32} (hb : y < -1 ∨ 3 < y) (x : X "java/lang/IllegalArgumentException" g) : Ct l E lay NC 6 1 6 yX7_checkKind [.int y] g Q X := by
  refine Ct_in k_yX7_checkKind (by decide) rfl (Nat.le_of_ble_eq_true rfl) rfl ?_
  intro S hS hZ hr ht hR
  show J S 0 0 g 0 [some (.int y)] []
  refine J_iload_n hS dX7_checkKind_0 rfl ?_
  refine J_iconst (v := (-1)) hS dX7_checkKind_1 (by decide) ?_
  refine J_icmp_lt (tgt := 10) hS dX7_checkKind_2 (by decide) (fun c1 => ?_) (fun c1 => ?_)
  ·
    exact J_thAW hS hZ ht hR (by decide) (List.mem_of_getElem? (i := 31) rfl) rfl dX7_checkKind_10 dX7_checkKind_13 dX7_checkKind_14 dX7_checkKind_17 dX7_checkKind_20 (by omega) (by omega) (x)
  ·
    refine J_iload_n hS dX7_checkKind_5 rfl ?_
    refine J_iconst (v := 3) hS dX7_checkKind_6 (by decide) ?_
    refine J_icmp_le (tgt := 21) hS dX7_checkKind_7 (by decide) (fun c2 => ?_) (fun c2 => ?_)
    · rcases hb with z | z
      · exact absurd z c1
      · exact absurd z (Int32.not_lt.mpr c2)
    ·
      exact J_thAW hS hZ ht hR (by decide) (List.mem_of_getElem? (i := 31) rfl) rfl dX7_checkKind_10 dX7_checkKind_13 dX7_checkKind_14 dX7_checkKind_17 dX7_checkKind_20 (by omega) (by omega) (x)
theorem c_checkLawOk {v : Int32} (h1 : ¬ v < -1) (h2 : v < g 1 14) (q : Q none g) : Ct l E lay NC 0 0 0 yX7_checkLaw [.ref 1, .int v] g Q X := by
  refine Ct_in k_yX7_checkLaw (by decide) rfl (Nat.le_of_ble_eq_true rfl) rfl ?_
  intro S hS hZ hr ht hR
  show J S 0 0 g 0 [some (.ref 1), some (.int v)] []
  refine J_iload_n hS dX7_checkLaw_0 rfl ?_
  refine J_iconst (v := (-1)) hS dX7_checkLaw_1 (by decide) ?_
  refine J_icmp_lt (tgt := 13) hS dX7_checkLaw_2 (by decide) (fun c1 => ?_) (fun c1 => ?_)
  · exact absurd c1 h1
  ·
    refine J_iload_n hS dX7_checkLaw_5 rfl ?_
    refine J_aload_n hS dX7_checkLaw_6 rfl ?_
    refine J_getI hS dX7_checkLaw_7 flX7_80 ob1 rfl ?_
    refine J_icmp_lt (tgt := 24) hS dX7_checkLaw_10 (by decide) (fun c2 => ?_) (fun c2 => ?_)
    ·
      refine J_vret hS hZ hr dX7_checkLaw_24 (by omega) (by omega) ?_
      exact q
    · exact absurd h2 c2
theorem c_checkLawBad {v : Int32} (hb : v < -1 ∨ g 1 14 ≤ v) (x : X "java/lang/IndexOutOfBoundsException" g) : Ct l E lay NC 6 1 6 yX7_checkLaw [.ref 1, .int v] g Q X := by
  refine Ct_in k_yX7_checkLaw (by decide) rfl (Nat.le_of_ble_eq_true rfl) rfl ?_
  intro S hS hZ hr ht hR
  show J S 0 0 g 0 [some (.ref 1), some (.int v)] []
  refine J_iload_n hS dX7_checkLaw_0 rfl ?_
  refine J_iconst (v := (-1)) hS dX7_checkLaw_1 (by decide) ?_
  refine J_icmp_lt (tgt := 13) hS dX7_checkLaw_2 (by decide) (fun c1 => ?_) (fun c1 => ?_)
  ·
    exact J_thBW hS hZ ht hR (by decide) (List.mem_of_getElem? (i := 27) rfl) rfl dX7_checkLaw_13 dX7_checkLaw_16 dX7_checkLaw_17 dX7_checkLaw_20 dX7_checkLaw_23 (by omega) (by omega) (x)
  ·
    refine J_iload_n hS dX7_checkLaw_5 rfl ?_
    refine J_aload_n hS dX7_checkLaw_6 rfl ?_
    refine J_getI hS dX7_checkLaw_7 flX7_80 ob1 rfl ?_
    refine J_icmp_lt (tgt := 24) hS dX7_checkLaw_10 (by decide) (fun c2 => ?_) (fun c2 => ?_)
    · rcases hb with z | z
      · exact absurd z c1
      · exact absurd c2 (Int32.not_lt.mpr z)
    ·
      exact J_thBW hS hZ ht hR (by decide) (List.mem_of_getElem? (i := 27) rfl) rfl dX7_checkLaw_13 dX7_checkLaw_16 dX7_checkLaw_17 dX7_checkLaw_20 dX7_checkLaw_23 (by omega) (by omega) (x)
theorem c_checkFilmOk {f fc : Nat} (efc : g 1 15 = nI fc) (hf : f < fc) (hfc : fc ≤ 3) (q : Q none g) : Ct l E lay NC 0 0 0 yX7_checkFilm [.ref 1, .int (nI f)] g Q X := by
  refine Ct_in k_yX7_checkFilm (by decide) rfl (Nat.le_of_ble_eq_true rfl) rfl ?_
  intro S hS hZ hr ht hR
  show J S 0 0 g 0 [some (.ref 1), some (.int (nI f))] []
  refine J_iload_n hS dX7_checkFilm_0 rfl ?_
  refine J_if_lt (tgt := 12) hS dX7_checkFilm_1 (by decide) (fun c1 => ?_) (fun c1 => ?_)
  · exact absurd c1 (nI_npos (by omega))
  ·
    refine J_iload_n hS dX7_checkFilm_4 rfl ?_
    refine J_aload_n hS dX7_checkFilm_5 rfl ?_
    refine J_getI hS dX7_checkFilm_6 flX7_83 ob1 rfl ?_
    refine J_icmp_lt (tgt := 23) hS dX7_checkFilm_9 (by decide) (fun c2 => ?_) (fun c2 => ?_)
    ·
      refine J_vret hS hZ hr dX7_checkFilm_23 (by omega) (by omega) ?_
      exact q
    · exact absurd (by rw [efc]; exact nI_lt hf (by omega)) c2
theorem c_checkFilmBad {v : Int32} (hb : v < 0 ∨ g 1 15 ≤ v) (x : X "java/lang/IndexOutOfBoundsException" g) : Ct l E lay NC 6 1 6 yX7_checkFilm [.ref 1, .int v] g Q X := by
  refine Ct_in k_yX7_checkFilm (by decide) rfl (Nat.le_of_ble_eq_true rfl) rfl ?_
  intro S hS hZ hr ht hR
  show J S 0 0 g 0 [some (.ref 1), some (.int v)] []
  refine J_iload_n hS dX7_checkFilm_0 rfl ?_
  refine J_if_lt (tgt := 12) hS dX7_checkFilm_1 (by decide) (fun c1 => ?_) (fun c1 => ?_)
  ·
    exact J_thBW hS hZ ht hR (by decide) (List.mem_of_getElem? (i := 32) rfl) rfl dX7_checkFilm_12 dX7_checkFilm_15 dX7_checkFilm_16 dX7_checkFilm_19 dX7_checkFilm_22 (by omega) (by omega) (x)
  ·
    refine J_iload_n hS dX7_checkFilm_4 rfl ?_
    refine J_aload_n hS dX7_checkFilm_5 rfl ?_
    refine J_getI hS dX7_checkFilm_6 flX7_83 ob1 rfl ?_
    refine J_icmp_lt (tgt := 23) hS dX7_checkFilm_9 (by decide) (fun c2 => ?_) (fun c2 => ?_)
    · rcases hb with z | z
      · exact absurd z c1
      · exact absurd c2 (Int32.not_lt.mpr z)
    ·
      exact J_thBW hS hZ ht hR (by decide) (List.mem_of_getElem? (i := 32) rfl) rfl dX7_checkFilm_12 dX7_checkFilm_15 dX7_checkFilm_16 dX7_checkFilm_19 dX7_checkFilm_22 (by omega) (by omega) (x)
theorem c_checkChildOk {c n : Nat} (hm : g 2 6 = nI n) (hn : n ≤ 24) (hc : c < n) (q : Q none g) : Ct l E lay NC 0 0 0 yX7_checkChild [.ref 1, .int (nI c)] g Q X := by
  refine Ct_in k_yX7_checkChild (by decide) rfl (Nat.le_of_ble_eq_true rfl) rfl ?_
  intro S hS hZ hr ht hR
  show J S 0 0 g 0 [some (.ref 1), some (.int (nI c))] []
  refine J_iload_n hS dX7_checkChild_0 rfl ?_
  refine J_if_lt (tgt := 15) hS dX7_checkChild_1 (by decide) (fun c1 => ?_) (fun c1 => ?_)
  · exact absurd c1 (nI_npos (by omega))
  ·
    refine J_iload_n hS dX7_checkChild_4 rfl ?_
    refine J_aload_n hS dX7_checkChild_5 rfl ?_
    refine J_getR (t := 2) hS dX7_checkChild_6 flX7_10 ob1 rfl ?_
    refine J_getI hS dX7_checkChild_9 flX7_114 wo_now.ob rfl ?_
    refine J_icmp_lt (tgt := 26) hS dX7_checkChild_12 (by decide) (fun c2 => ?_) (fun c2 => ?_)
    ·
      refine J_vret hS hZ hr dX7_checkChild_26 (by omega) (by omega) ?_
      exact q
    · exact absurd (by rw [hm]; exact nI_lt hc (by omega)) c2
theorem c_checkChildBad {v : Int32} (hb : v < 0 ∨ g 2 6 ≤ v) (x : X "java/util/NoSuchElementException" g) : Ct l E lay NC 6 1 6 yX7_checkChild [.ref 1, .int v] g Q X := by
  refine Ct_in k_yX7_checkChild (by decide) rfl (Nat.le_of_ble_eq_true rfl) rfl ?_
  intro S hS hZ hr ht hR
  show J S 0 0 g 0 [some (.ref 1), some (.int v)] []
  refine J_iload_n hS dX7_checkChild_0 rfl ?_
  refine J_if_lt (tgt := 15) hS dX7_checkChild_1 (by decide) (fun c1 => ?_) (fun c1 => ?_)
  ·
    exact J_thNW hS hZ ht hR (by decide) (List.mem_of_getElem? (i := 2) rfl) rfl dX7_checkChild_15 dX7_checkChild_18 dX7_checkChild_19 dX7_checkChild_22 dX7_checkChild_25 (by omega) (by omega) (x)
  ·
    refine J_iload_n hS dX7_checkChild_4 rfl ?_
    refine J_aload_n hS dX7_checkChild_5 rfl ?_
    refine J_getR (t := 2) hS dX7_checkChild_6 flX7_10 ob1 rfl ?_
    refine J_getI hS dX7_checkChild_9 flX7_114 wo_now.ob rfl ?_
    refine J_icmp_lt (tgt := 26) hS dX7_checkChild_12 (by decide) (fun c2 => ?_) (fun c2 => ?_)
    · rcases hb with z | z
      · exact absurd z c1
      · exact absurd c2 (Int32.not_lt.mpr z)
    ·
      exact J_thNW hS hZ ht hR (by decide) (List.mem_of_getElem? (i := 2) rfl) rfl dX7_checkChild_15 dX7_checkChild_18 dX7_checkChild_19 dX7_checkChild_22 dX7_checkChild_25 (by omega) (by omega) (x)
theorem c_checkTrialOk {y m o : Nat} (hy : y < 3) (hm : m < 201) (ho : o < 6) (q : Q none g) : Ct l E lay NC 1 0 0 yX7_checkTrial [.int (nI y), .int (nI m), .int (nI o)] g Q X := by
  refine Ct_in k_yX7_checkTrial (by decide) rfl (Nat.le_of_ble_eq_true rfl) rfl ?_
  intro S hS hZ hr ht hR
  show J S 0 0 g 0 [some (.int (nI y)), some (.int (nI m)), some (.int (nI o))] []
  refine J_iload_n hS dX7_checkTrial_0 rfl ?_
  refine J_callS1 (X' := fun _ _ => False) hS dX7_checkTrial_1 msX7_103 rfl (by decide) (by decide) (Nat.le_of_ble_eq_true rfl) ⟨Nat.le_trans (by decide) hR.1, Nat.le_trans (by decide) hR.2⟩ (fun _ _ q => q.elim) (c_checkYardOk hy ?_)
  refine J_iload_n hS dX7_checkTrial_4 rfl ?_
  refine J_callS1 (X' := fun _ _ => False) hS dX7_checkTrial_5 msX7_232 rfl (by decide) (by decide) (Nat.le_of_ble_eq_true rfl) ⟨Nat.le_trans (by decide) hR.1, Nat.le_trans (by decide) hR.2⟩ (fun _ _ q => q.elim) (c_checkRunLengthOk hm ?_)
  refine J_iload_n hS dX7_checkTrial_8 rfl ?_
  refine J_callS1 (X' := fun _ _ => False) hS dX7_checkTrial_9 msX7_161 rfl (by decide) (by decide) (Nat.le_of_ble_eq_true rfl) ⟨Nat.le_trans (by decide) hR.1, Nat.le_trans (by decide) hR.2⟩ (fun _ _ q => q.elim) (c_checkOrderOk ho ?_)
  refine J_vret hS hZ hr dX7_checkTrial_12 (by omega) (by omega) ?_
  exact q
theorem c_checkTrialBad {y m o : Int32} (hb : (y < 0 ∨ nI 3 ≤ y) ∨ (m < 0 ∨ nI 201 ≤ m) ∨ (o < 0 ∨ nI 6 ≤ o)) (x : X "java/lang/IllegalArgumentException" g) : Ct l E lay NC 7 1 6 yX7_checkTrial [.int y, .int m, .int o] g Q X := by
  rcases in_or (y := y) (b := 3) (by decide) with ⟨y', hy, e⟩ | hy
  · subst e
    rcases in_or (y := m) (b := 201) (by decide) with ⟨m', hm, e⟩ | hm
    · subst e
      have ho : o < 0 ∨ nI 6 ≤ o := by
        rcases hb with z | z | z
        · rcases z with z | z
          · exact absurd z (nI_npos (by omega))
          · exact absurd (nI_lt hy (by decide)) (Int32.not_lt.mpr z)
        · rcases z with z | z
          · exact absurd z (nI_npos (by omega))
          · exact absurd (nI_lt hm (by decide)) (Int32.not_lt.mpr z)
        · exact z
      refine Ct_in k_yX7_checkTrial (by decide) rfl (Nat.le_of_ble_eq_true rfl) rfl ?_
      intro S hS hZ hr ht hR
      show J S 0 0 g 0 [some (.int (nI y')), some (.int (nI m')), some (.int o)] []
      refine J_iload_n hS dX7_checkTrial_0 rfl ?_
      refine J_callS1 (X' := fun _ _ => False) hS dX7_checkTrial_1 msX7_103 rfl (by decide) (by decide) (Nat.le_of_ble_eq_true rfl) ⟨Nat.le_trans (by decide) hR.1, Nat.le_trans (by decide) hR.2⟩ (fun _ _ q => q.elim) (c_checkYardOk hy ?_)
      refine J_iload_n hS dX7_checkTrial_4 rfl ?_
      refine J_callS1 (X' := fun _ _ => False) hS dX7_checkTrial_5 msX7_232 rfl (by decide) (by decide) (Nat.le_of_ble_eq_true rfl) ⟨Nat.le_trans (by decide) hR.1, Nat.le_trans (by decide) hR.2⟩ (fun _ _ q => q.elim) (c_checkRunLengthOk hm ?_)
      refine J_iload_n hS dX7_checkTrial_8 rfl ?_
      refine J_callS1 hS dX7_checkTrial_9 msX7_161 rfl (by decide) (by decide) (Nat.le_of_ble_eq_true rfl) ⟨Nat.le_trans (by decide) hR.1, Nat.le_trans (by decide) hR.2⟩ (fun _ _ q => q) (c_checkOrderBad ho (JX_out hS hZ ht (by omega) (by omega) (x)))
    ·
      refine Ct_in k_yX7_checkTrial (by decide) rfl (Nat.le_of_ble_eq_true rfl) rfl ?_
      intro S hS hZ hr ht hR
      show J S 0 0 g 0 [some (.int (nI y')), some (.int m), some (.int o)] []
      refine J_iload_n hS dX7_checkTrial_0 rfl ?_
      refine J_callS1 (X' := fun _ _ => False) hS dX7_checkTrial_1 msX7_103 rfl (by decide) (by decide) (Nat.le_of_ble_eq_true rfl) ⟨Nat.le_trans (by decide) hR.1, Nat.le_trans (by decide) hR.2⟩ (fun _ _ q => q.elim) (c_checkYardOk hy ?_)
      refine J_iload_n hS dX7_checkTrial_4 rfl ?_
      refine J_callS1 hS dX7_checkTrial_5 msX7_232 rfl (by decide) (by decide) (Nat.le_of_ble_eq_true rfl) ⟨Nat.le_trans (by decide) hR.1, Nat.le_trans (by decide) hR.2⟩ (fun _ _ q => q) (c_checkRunLengthBad hm (JX_out hS hZ ht (by omega) (by omega) (x)))
  ·
    refine Ct_in k_yX7_checkTrial (by decide) rfl (Nat.le_of_ble_eq_true rfl) rfl ?_
    intro S hS hZ hr ht hR
    show J S 0 0 g 0 [some (.int y), some (.int m), some (.int o)] []
    refine J_iload_n hS dX7_checkTrial_0 rfl ?_
    refine J_callS1 hS dX7_checkTrial_1 msX7_103 rfl (by decide) (by decide) (Nat.le_of_ble_eq_true rfl) ⟨Nat.le_trans (by decide) hR.1, Nat.le_trans (by decide) hR.2⟩ (fun _ _ q => q) (c_checkYardBad hy (JX_out hS hZ ht (by omega) (by omega) (x)))
end ClsC


/-! THE READER: words of clauses and facts -/
section RdW
variable {l : Launch} {E : Ey} {g : Mm} {Q : Option Value → Mm → Prop} {X : String → Mm → Prop} {h : Nat} {T : Wr} {n : Nat}
theorem c_clauseWord {s : Nat} (hC : RdC g T n h s) (q : ∀ w, clN T n s = some w → Q (some (.int (nI w))) g) (q' : clN T n s = none → Q (some (.int (-1))) g) : Ct l E lay NC 5 0 0 yX2_clauseWord [.ref 155] g Q X := by
  refine Ct_in k_yX2_clauseWord (by decide) rfl (Nat.le_of_ble_eq_true rfl) rfl ?_
  intro S hS hZ hr ht hR
  show J S 0 0 (g) 0 [some (.ref 155)] []
  refine J_aload_n hS dX2_clauseWord_0 rfl ?_
  refine J_ldcS (i := 0) hS (List.mem_of_getElem? (i := 11) rfl) dX2_clauseWord_1 ?_
  refine J_callV1 (X' := fun _ _ => False) hS dX2_clauseWord_3 mvX2_96 ob155 rfl (by first | decide | omega) (by decide) (Nat.le_of_ble_eq_true rfl) ⟨Nat.le_trans (by decide) hR.1, Nat.le_trans (by decide) hR.2⟩ (fun _ _ q => q.elim) (c_isAtW (i := 0) (by decide) hC (fun r0 t0 u0 => ?_))
  refine J_if_eq (tgt := 11) hS dX2_clauseWord_6 (by decide) (fun c0 => ?_) (fun c0 => ?_)
  · have n0 : ¬ isW T n s 0 = true := fun z => by rw [u0.mpr z] at c0; exact absurd c0 (by decide)
    refine J_aload_n hS dX2_clauseWord_11 rfl ?_
    refine J_ldcS (i := 1) hS (List.mem_of_getElem? (i := 12) rfl) dX2_clauseWord_12 ?_
    refine J_callV1 (X' := fun _ _ => False) hS dX2_clauseWord_14 mvX2_96 ob155 rfl (by first | decide | omega) (by decide) (Nat.le_of_ble_eq_true rfl) ⟨Nat.le_trans (by decide) hR.1, Nat.le_trans (by decide) hR.2⟩ (fun _ _ q => q.elim) (c_isAtW (i := 1) (by decide) hC (fun r1 t1 u1 => ?_))
    refine J_if_eq (tgt := 22) hS dX2_clauseWord_17 (by decide) (fun c1 => ?_) (fun c1 => ?_)
    · have n1 : ¬ isW T n s 1 = true := fun z => by rw [u1.mpr z] at c1; exact absurd c1 (by decide)
      refine J_aload_n hS dX2_clauseWord_22 rfl ?_
      refine J_ldcS (i := 2) hS (List.mem_of_getElem? (i := 13) rfl) dX2_clauseWord_23 ?_
      refine J_callV1 (X' := fun _ _ => False) hS dX2_clauseWord_25 mvX2_96 ob155 rfl (by first | decide | omega) (by decide) (Nat.le_of_ble_eq_true rfl) ⟨Nat.le_trans (by decide) hR.1, Nat.le_trans (by decide) hR.2⟩ (fun _ _ q => q.elim) (c_isAtW (i := 2) (by decide) hC (fun r2 t2 u2 => ?_))
      refine J_if_eq (tgt := 33) hS dX2_clauseWord_28 (by decide) (fun c2 => ?_) (fun c2 => ?_)
      · have n2 : ¬ isW T n s 2 = true := fun z => by rw [u2.mpr z] at c2; exact absurd c2 (by decide)
        refine J_aload_n hS dX2_clauseWord_33 rfl ?_
        refine J_ldcS (i := 3) hS (List.mem_of_getElem? (i := 14) rfl) dX2_clauseWord_34 ?_
        refine J_callV1 (X' := fun _ _ => False) hS dX2_clauseWord_36 mvX2_96 ob155 rfl (by first | decide | omega) (by decide) (Nat.le_of_ble_eq_true rfl) ⟨Nat.le_trans (by decide) hR.1, Nat.le_trans (by decide) hR.2⟩ (fun _ _ q => q.elim) (c_isAtW (i := 3) (by decide) hC (fun r3 t3 u3 => ?_))
        refine J_if_eq (tgt := 46) hS dX2_clauseWord_39 (by decide) (fun c3 => ?_) (fun c3 => ?_)
        · have n3 : ¬ isW T n s 3 = true := fun z => by rw [u3.mpr z] at c3; exact absurd c3 (by decide)
          refine J_iconst (v := (-1)) hS dX2_clauseWord_46 (by decide) ?_
          refine J_iret hS hZ hr dX2_clauseWord_47 (by omega) (by omega) ?_
          exact q' (by unfold clN; rw [if_neg n0, if_neg n1, if_neg n2, if_neg n3])
        · have y3 : isW T n s 3 = true := u3.mp (t3.resolve_left c3)
          refine J_iconst (v := 3) hS dX2_clauseWord_42 (by decide) ?_
          refine J_goto (tgt := 47) hS dX2_clauseWord_43 (by decide) ?_
          refine J_iret hS hZ hr dX2_clauseWord_47 (by omega) (by omega) ?_
          exact q 3 (by unfold clN; rw [if_neg n0, if_neg n1, if_neg n2, if_pos y3])
      · have y2 : isW T n s 2 = true := u2.mp (t2.resolve_left c2)
        refine J_iconst (v := 2) hS dX2_clauseWord_31 (by decide) ?_
        refine J_iret hS hZ hr dX2_clauseWord_32 (by omega) (by omega) ?_
        exact q 2 (by unfold clN; rw [if_neg n0, if_neg n1, if_pos y2])
    · have y1 : isW T n s 1 = true := u1.mp (t1.resolve_left c1)
      refine J_iconst (v := 1) hS dX2_clauseWord_20 (by decide) ?_
      refine J_iret hS hZ hr dX2_clauseWord_21 (by omega) (by omega) ?_
      exact q 1 (by unfold clN; rw [if_neg n0, if_pos y1])
  · have y0 : isW T n s 0 = true := u0.mp (t0.resolve_left c0)
    refine J_iconst (v := 0) hS dX2_clauseWord_9 (by decide) ?_
    refine J_iret hS hZ hr dX2_clauseWord_10 (by omega) (by omega) ?_
    exact q 0 (by unfold clN; rw [if_pos y0])
theorem c_factName {s : Nat} (hC : RdC g T n h s) (q : ∀ w, fcN T n s = some w → Q (some (.int (nI w))) g) (q' : fcN T n s = none → Q (some (.int (-1))) g) : Ct l E lay NC 5 0 0 yX2_factName [.ref 155] g Q X := by
  refine Ct_in k_yX2_factName (by decide) rfl (Nat.le_of_ble_eq_true rfl) rfl ?_
  intro S hS hZ hr ht hR
  show J S 0 0 (g) 0 [some (.ref 155)] []
  refine J_aload_n hS dX2_factName_0 rfl ?_
  refine J_ldcS (i := 7) hS (List.mem_of_getElem? (i := 17) rfl) dX2_factName_1 ?_
  refine J_callV1 (X' := fun _ _ => False) hS dX2_factName_3 mvX2_96 ob155 rfl (by first | decide | omega) (by decide) (Nat.le_of_ble_eq_true rfl) ⟨Nat.le_trans (by decide) hR.1, Nat.le_trans (by decide) hR.2⟩ (fun _ _ q => q.elim) (c_isAtW (i := 7) (by decide) hC (fun r0 t0 u0 => ?_))
  refine J_if_eq (tgt := 11) hS dX2_factName_6 (by decide) (fun c0 => ?_) (fun c0 => ?_)
  · have n0 : ¬ isW T n s 7 = true := fun z => by rw [u0.mpr z] at c0; exact absurd c0 (by decide)
    refine J_aload_n hS dX2_factName_11 rfl ?_
    refine J_ldcS (i := 8) hS (List.mem_of_getElem? (i := 18) rfl) dX2_factName_12 ?_
    refine J_callV1 (X' := fun _ _ => False) hS dX2_factName_14 mvX2_96 ob155 rfl (by first | decide | omega) (by decide) (Nat.le_of_ble_eq_true rfl) ⟨Nat.le_trans (by decide) hR.1, Nat.le_trans (by decide) hR.2⟩ (fun _ _ q => q.elim) (c_isAtW (i := 8) (by decide) hC (fun r1 t1 u1 => ?_))
    refine J_if_eq (tgt := 22) hS dX2_factName_17 (by decide) (fun c1 => ?_) (fun c1 => ?_)
    · have n1 : ¬ isW T n s 8 = true := fun z => by rw [u1.mpr z] at c1; exact absurd c1 (by decide)
      refine J_aload_n hS dX2_factName_22 rfl ?_
      refine J_ldcS (i := 9) hS (List.mem_of_getElem? (i := 19) rfl) dX2_factName_23 ?_
      refine J_callV1 (X' := fun _ _ => False) hS dX2_factName_25 mvX2_96 ob155 rfl (by first | decide | omega) (by decide) (Nat.le_of_ble_eq_true rfl) ⟨Nat.le_trans (by decide) hR.1, Nat.le_trans (by decide) hR.2⟩ (fun _ _ q => q.elim) (c_isAtW (i := 9) (by decide) hC (fun r2 t2 u2 => ?_))
      refine J_if_eq (tgt := 33) hS dX2_factName_28 (by decide) (fun c2 => ?_) (fun c2 => ?_)
      · have n2 : ¬ isW T n s 9 = true := fun z => by rw [u2.mpr z] at c2; exact absurd c2 (by decide)
        refine J_aload_n hS dX2_factName_33 rfl ?_
        refine J_ldcS (i := 10) hS (List.mem_of_getElem? (i := 20) rfl) dX2_factName_34 ?_
        refine J_callV1 (X' := fun _ _ => False) hS dX2_factName_36 mvX2_96 ob155 rfl (by first | decide | omega) (by decide) (Nat.le_of_ble_eq_true rfl) ⟨Nat.le_trans (by decide) hR.1, Nat.le_trans (by decide) hR.2⟩ (fun _ _ q => q.elim) (c_isAtW (i := 10) (by decide) hC (fun r3 t3 u3 => ?_))
        refine J_if_eq (tgt := 44) hS dX2_factName_39 (by decide) (fun c3 => ?_) (fun c3 => ?_)
        · have n3 : ¬ isW T n s 10 = true := fun z => by rw [u3.mpr z] at c3; exact absurd c3 (by decide)
          refine J_aload_n hS dX2_factName_44 rfl ?_
          refine J_ldcS (i := 11) hS (List.mem_of_getElem? (i := 21) rfl) dX2_factName_45 ?_
          refine J_callV1 (X' := fun _ _ => False) hS dX2_factName_47 mvX2_96 ob155 rfl (by first | decide | omega) (by decide) (Nat.le_of_ble_eq_true rfl) ⟨Nat.le_trans (by decide) hR.1, Nat.le_trans (by decide) hR.2⟩ (fun _ _ q => q.elim) (c_isAtW (i := 11) (by decide) hC (fun r4 t4 u4 => ?_))
          refine J_if_eq (tgt := 55) hS dX2_factName_50 (by decide) (fun c4 => ?_) (fun c4 => ?_)
          · have n4 : ¬ isW T n s 11 = true := fun z => by rw [u4.mpr z] at c4; exact absurd c4 (by decide)
            refine J_aload_n hS dX2_factName_55 rfl ?_
            refine J_ldcS (i := 12) hS (List.mem_of_getElem? (i := 22) rfl) dX2_factName_56 ?_
            refine J_callV1 (X' := fun _ _ => False) hS dX2_factName_58 mvX2_96 ob155 rfl (by first | decide | omega) (by decide) (Nat.le_of_ble_eq_true rfl) ⟨Nat.le_trans (by decide) hR.1, Nat.le_trans (by decide) hR.2⟩ (fun _ _ q => q.elim) (c_isAtW (i := 12) (by decide) hC (fun r5 t5 u5 => ?_))
            refine J_if_eq (tgt := 68) hS dX2_factName_61 (by decide) (fun c5 => ?_) (fun c5 => ?_)
            · have n5 : ¬ isW T n s 12 = true := fun z => by rw [u5.mpr z] at c5; exact absurd c5 (by decide)
              refine J_iconst (v := (-1)) hS dX2_factName_68 (by decide) ?_
              refine J_iret hS hZ hr dX2_factName_69 (by omega) (by omega) ?_
              exact q' (by unfold fcN; rw [if_neg n0, if_neg n1, if_neg n2, if_neg n3, if_neg n4, if_neg n5])
            · have y5 : isW T n s 12 = true := u5.mp (t5.resolve_left c5)
              refine J_iconst (v := 5) hS dX2_factName_64 (by decide) ?_
              refine J_goto (tgt := 69) hS dX2_factName_65 (by decide) ?_
              refine J_iret hS hZ hr dX2_factName_69 (by omega) (by omega) ?_
              exact q 5 (by unfold fcN; rw [if_neg n0, if_neg n1, if_neg n2, if_neg n3, if_neg n4, if_pos y5])
          · have y4 : isW T n s 11 = true := u4.mp (t4.resolve_left c4)
            refine J_iconst (v := 4) hS dX2_factName_53 (by decide) ?_
            refine J_iret hS hZ hr dX2_factName_54 (by omega) (by omega) ?_
            exact q 4 (by unfold fcN; rw [if_neg n0, if_neg n1, if_neg n2, if_neg n3, if_pos y4])
        · have y3 : isW T n s 10 = true := u3.mp (t3.resolve_left c3)
          refine J_iconst (v := 3) hS dX2_factName_42 (by decide) ?_
          refine J_iret hS hZ hr dX2_factName_43 (by omega) (by omega) ?_
          exact q 3 (by unfold fcN; rw [if_neg n0, if_neg n1, if_neg n2, if_pos y3])
      · have y2 : isW T n s 9 = true := u2.mp (t2.resolve_left c2)
        refine J_iconst (v := 2) hS dX2_factName_31 (by decide) ?_
        refine J_iret hS hZ hr dX2_factName_32 (by omega) (by omega) ?_
        exact q 2 (by unfold fcN; rw [if_neg n0, if_neg n1, if_pos y2])
    · have y1 : isW T n s 8 = true := u1.mp (t1.resolve_left c1)
      refine J_iconst (v := 1) hS dX2_factName_20 (by decide) ?_
      refine J_iret hS hZ hr dX2_factName_21 (by omega) (by omega) ?_
      exact q 1 (by unfold fcN; rw [if_neg n0, if_pos y1])
  · have y0 : isW T n s 7 = true := u0.mp (t0.resolve_left c0)
    refine J_iconst (v := 0) hS dX2_factName_9 (by decide) ?_
    refine J_iret hS hZ hr dX2_factName_10 (by omega) (by omega) ?_
    exact q 0 (by unfold fcN; rw [if_pos y0])
end RdW


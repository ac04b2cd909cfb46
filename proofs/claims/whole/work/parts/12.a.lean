/-! THE CLASS: its small static methods -/
section ClsA
variable {l : Launch} {E : Ey} {g : Mm} {Q : Option Value → Mm → Prop} {X : String → Mm → Prop}
set_option maxRecDepth 10000 in
theorem c_signIndex {c p s : Nat} (h : Q (some (.int (nI ((c * 8 + p) * 16 + s)))) g) : Ct l E lay NC 0 0 0 yX7_signIndex [.int (nI c), .int (nI p), .int (nI s)] g Q X := by
  refine Ct_in k_yX7_signIndex (by decide) rfl (Nat.le_of_ble_eq_true rfl) rfl ?_
  intro S hS hZ hr ht hR
  show J S 0 0 g 0 [some (.int (nI c)), some (.int (nI p)), some (.int (nI s))] []
  refine J_iload_n hS dX7_signIndex_0 rfl ?_
  refine J_bipush (v := 8) hS dX7_signIndex_1 (by decide) ?_
  refine J_imul hS dX7_signIndex_3 ?_
  refine J_iload_n hS dX7_signIndex_4 rfl ?_
  refine J_iadd hS dX7_signIndex_5 ?_
  refine J_bipush (v := 16) hS dX7_signIndex_6 (by decide) ?_
  refine J_imul hS dX7_signIndex_8 ?_
  refine J_iload_n hS dX7_signIndex_9 rfl ?_
  refine J_iadd hS dX7_signIndex_10 ?_
  refine J_top (y := nI ((c * 8 + p) * 16 + s)) ?_ ?_
  · simp only [n8, n16, pk_mul, nI_add]
  ·
    refine J_iret hS hZ hr dX7_signIndex_11 (by omega) (by omega) ?_
    exact h
end ClsA


/-! THE REFERENCE: a row of the world -/
/-- the words of a row that a talk may touch or read: all but the law in force and who is there -/
def Mk (i : Nat) : Prop := i ≠ 5 ∧ ¬ (56 ≤ i ∧ (i - 56) % 142 = 3)
def RowM (g : Mm) (r : Nat) (w b : Wr) : Prop := ∀ i, i < 3464 → (Mk i → g r i = w i) ∧ (¬ Mk i → g r i = b i)
theorem RowM.at {g : Mm} {r i : Nat} {w b : Wr} (h : RowM g r w b) (hi : i < 3464) (hk : Mk i) : g r i = w i := (h i hi).1 hk
theorem RowM.no {g : Mm} {r i : Nat} {w b : Wr} (h : RowM g r w b) (hi : i < 3464) (hk : ¬ Mk i) : g r i = b i := (h i hi).2 hk
theorem RowM.fr {g g' : Mm} {r : Nat} {w b : Wr} (h : RowM g r w b) (e : g' r = g r) : RowM g' r w b := fun i hi => by rw [e]; exact h i hi
theorem RowM.put {g : Mm} {r i : Nat} {w b : Wr} {x : Int32} (h : RowM g r w b) (hk : Mk i) : RowM (u2 g r i x) r (upd w i x) b := by
  intro j hj
  by_cases e : j = i
  · subst e
    exact ⟨fun _ => by rw [u2_self]; unfold upd; rw [if_pos rfl], fun z => absurd hk z⟩
  · have e1 : u2 g r i x r j = g r j := by show (if r = r ∧ j = i then x else g r j) = _; rw [if_neg (fun z => e z.2)]
    rw [e1]
    exact ⟨fun z => by rw [(h j hj).1 z]; unfold upd; rw [if_neg e], (h j hj).2⟩
theorem Mk_lo {i : Nat} (h : i < 56) (h5 : i ≠ 5) : Mk i := ⟨h5, fun z => by omega⟩
theorem Mk_blk {c k : Nat} (h1 : k < 142) (h2 : k ≠ 3) : Mk (56 + 142 * c + k) := ⟨by omega, fun z => by omega⟩
theorem Mk_od {c o : Nat} (h : o < 6) : Mk (odB c + o) := by unfold odB; rw [Nat.add_assoc]; exact Mk_blk (by omega) (by omega)
theorem Mk_sg {c p s : Nat} (hp : p < 8) (h : s < 16) : Mk (sgB c p + s) := by unfold sgB; rw [Nat.add_assoc, Nat.add_assoc]; exact Mk_blk (by omega) (by omega)
theorem xor1 : ∀ s, s < 16 → nI s ^^^ 1 = nI (if s % 2 = 0 then s + 1 else s - 1) := by decide
theorem and2 : ∀ s, s < 16 → nI s &&& (-2) = nI (s / 2 * 2) := by decide
section RefW
variable {l : Launch} {E : Ey} {g : Mm} {Q : Option Value → Mm → Prop} {X : String → Mm → Prop} {r : Nat} {w b : Wr}
theorem m_isWorn {y s : Nat} (hr1 : Rw r) (hw : g 162 3 = nI r) (hrow : RowM g r w b) (hy : y < 3) (hs : s < 16) (q : ∀ x : Int32, (x = 0 ∨ x = 1) → (x = 1 ↔ ¬ w (8 + 16 * y + s) < w 3) → Q (some (.int x)) g) : Ct l E lay NC 0 0 0 yX8_isWorn [.ref 162, .int (nI y), .int (nI s)] g Q X := by
  refine Ct_in k_yX8_isWorn (by decide) rfl (Nat.le_of_ble_eq_true rfl) rfl ?_
  intro S hS hZ hr ht hR
  show J S 0 0 (g) 0 [some (.ref 162), some (.int (nI y)), some (.int (nI s))] []
  refine J_aload_n hS dX8_isWorn_0 rfl ?_
  refine J_getD (v := .ref r) hS dX8_isWorn_1 flX8_20 ob162 rfl (wI hr1 hw) ?_
  refine J_bipush (v := 8) hS dX8_isWorn_4 (by decide) ?_
  refine J_bipush (v := 16) hS dX8_isWorn_6 (by decide) ?_
  refine J_iload_n hS dX8_isWorn_8 rfl ?_
  refine J_imul hS dX8_isWorn_9 ?_
  refine J_iadd hS dX8_isWorn_10 ?_
  refine J_iload_n hS dX8_isWorn_11 rfl ?_
  refine J_iadd hS dX8_isWorn_12 ?_
  refine J_ialdN hS (8 + 16 * y + s) dX8_isWorn_13 hr1.ar (by first | rfl | (simp only [n0, n1, n2, n3, n4, n5, n6, n7, n8, n9, n10, n11, n12, n13, n14, n15, n16, n17, n18, n19, n20, n24, n32, n56, n60, n64, n72, n99, n100, n128, n136, n142, n144, n200, n300, n999, n1000, n1500, n3464, nI_add, pk_mul] <;> first | rfl | (congr 1; omega))) (by omega) (by decide) ?_
  refine J_aload_n hS dX8_isWorn_14 rfl ?_
  refine J_getD (v := .ref r) hS dX8_isWorn_15 flX8_20 ob162 rfl (wI hr1 hw) ?_
  refine J_iconst (v := 3) hS dX8_isWorn_18 (by decide) ?_
  refine J_ialdN hS (3) dX8_isWorn_19 hr1.ar (by first | rfl | (simp only [n0, n1, n2, n3, n4, n5, n6, n7, n8, n9, n10, n11, n12, n13, n14, n15, n16, n17, n18, n19, n20, n24, n32, n56, n60, n64, n72, n99, n100, n128, n136, n142, n144, n200, n300, n999, n1000, n1500, n3464, nI_add, pk_mul] <;> first | rfl | (congr 1; omega))) (by decide) (by decide) ?_
  show J S 0 0 (g) 20 [some (.ref 162), some (.int (nI y)), some (.int (nI s))] [.int _, .int _]
  rw [hrow.at (i := 8 + 16 * y + s) (by omega) (Mk_lo (by omega) (by omega)), hrow.at (i := 3) (by omega) (Mk_lo (by omega) (by omega))]
  refine J_icmp_lt (tgt := 27) hS dX8_isWorn_20 (by decide) (fun c1 => ?_) (fun c1 => ?_)
  ·
    refine J_iconst (v := 0) hS dX8_isWorn_27 (by decide) ?_
    refine J_zret hS hZ hr dX8_isWorn_28 (by decide) (by omega) (by omega) ?_
    exact q 0 (Or.inl rfl) ⟨fun z => absurd z (by decide), fun z => absurd c1 z⟩
  ·
    refine J_iconst (v := 1) hS dX8_isWorn_23 (by decide) ?_
    refine J_goto (tgt := 28) hS dX8_isWorn_24 (by decide) ?_
    refine J_zret hS hZ hr dX8_isWorn_28 (by decide) (by omega) (by omega) ?_
    exact q 1 (Or.inr rfl) ⟨fun _ => c1, fun _ => rfl⟩
/-- both of a pair are worn: asked of either -/
theorem wr_ix {w : Wr} {y s : Nat} : wrW w y s = true ↔ ¬ w (8 + 16 * y + s) < w 3 ∧ ¬ w (8 + 16 * y + (if s % 2 = 0 then s + 1 else s - 1)) < w 3 := by
  unfold wrW
  rw [Bool.and_eq_true, decide_eq_true_eq, decide_eq_true_eq]
  by_cases e : s % 2 = 0
  · rw [if_pos e, show s / 2 * 2 = s by omega]
  · rw [if_neg e, show s / 2 * 2 = s - 1 by omega, show s - 1 + 1 = s by omega]
    exact And.comm
theorem m_seenAs {y s : Nat} (hr1 : Rw r) (hw : g 162 3 = nI r) (hrow : RowM g r w b) (hy : y < 3) (hs : s < 16) (q : Q (some (.int (nI (snW w y s)))) g) : Ct l E lay NC 1 0 0 yX8_seenAs [.ref 162, .int (nI y), .int (nI s)] g Q X := by
  have hs2 : (if s % 2 = 0 then s + 1 else s - 1) < 16 := by split <;> omega
  refine Ct_in k_yX8_seenAs (by decide) rfl (Nat.le_of_ble_eq_true rfl) rfl ?_
  intro S hS hZ hr ht hR
  show J S 0 0 (g) 0 [some (.ref 162), some (.int (nI y)), some (.int (nI s))] []
  have no : ¬ wrW w y s = true → J S 0 0 g 27 [some (.ref 162), some (.int (nI y)), some (.int (nI s))] [] := by
    intro hno
    refine J_iload_n hS dX8_seenAs_27 rfl ?_
    refine J_iret hS hZ hr dX8_seenAs_28 (by omega) (by omega) ?_
    unfold snW at q; rw [if_neg hno] at q; exact q
  refine J_aload_n hS dX8_seenAs_0 rfl ?_
  refine J_iload_n hS dX8_seenAs_1 rfl ?_
  refine J_iload_n hS dX8_seenAs_2 rfl ?_
  refine J_callV2 (X' := fun _ _ => False) hS dX8_seenAs_3 mvX8_282 ob162 rfl (by first | decide | omega) (by decide) (Nat.le_of_ble_eq_true rfl) ⟨Nat.le_trans (by decide) hR.1, Nat.le_trans (by decide) hR.2⟩ (fun _ _ q => q.elim) (m_isWorn hr1 hw hrow hy hs (fun x t1 t2 => ?_))
  refine J_if_eq (tgt := 27) hS dX8_seenAs_6 (by decide) (fun c1 => ?_) (fun c1 => ?_)
  · exact no (fun z => by rw [t2.mpr (wr_ix.mp z).1] at c1; exact absurd c1 (by decide))
  ·
    refine J_aload_n hS dX8_seenAs_9 rfl ?_
    refine J_iload_n hS dX8_seenAs_10 rfl ?_
    refine J_iload_n hS dX8_seenAs_11 rfl ?_
    refine J_iconst (v := 1) hS dX8_seenAs_12 (by decide) ?_
    refine J_ixor hS dX8_seenAs_13 ?_
    show J S 0 0 (g) 14 [some (.ref 162), some (.int (nI y)), some (.int (nI s))] [.int _, .int (nI y), .ref 162]
    rw [xor1 s hs]
    refine J_callV2 (X' := fun _ _ => False) hS dX8_seenAs_14 mvX8_282 ob162 rfl (by first | decide | omega) (by decide) (Nat.le_of_ble_eq_true rfl) ⟨Nat.le_trans (by decide) hR.1, Nat.le_trans (by decide) hR.2⟩ (fun _ _ q => q.elim) (m_isWorn hr1 hw hrow hy hs2 (fun x2 t3 t4 => ?_))
    refine J_if_eq (tgt := 27) hS dX8_seenAs_17 (by decide) (fun c2 => ?_) (fun c2 => ?_)
    · exact no (fun z => by rw [t4.mpr (wr_ix.mp z).2] at c2; exact absurd c2 (by decide))
    · have hyes : wrW w y s = true := wr_ix.mpr ⟨t2.mp (t1.resolve_left c1), t4.mp (t3.resolve_left c2)⟩
      refine J_iload_n hS dX8_seenAs_20 rfl ?_
      refine J_bipush (v := (-2)) hS dX8_seenAs_21 (by decide) ?_
      refine J_iand hS dX8_seenAs_23 ?_
      show J S 0 0 (g) 24 [some (.ref 162), some (.int (nI y)), some (.int (nI s))] [.int _]
      rw [and2 s hs]
      refine J_goto (tgt := 28) hS dX8_seenAs_24 (by decide) ?_
      refine J_iret hS hZ hr dX8_seenAs_28 (by omega) (by omega) ?_
      unfold snW at q; rw [if_pos hyes] at q; exact q
theorem ws_ix {w : Wr} {y c p s : Nat} (h : wrW w y s = true) : w (sgB c p + s) + w (sgB c p + (if s % 2 = 0 then s + 1 else s - 1)) = wsW w y c p s := by
  unfold wsW
  rw [if_pos h]
  by_cases e : s % 2 = 0
  · rw [if_pos e, show s / 2 * 2 = s by omega]
  · rw [if_neg e, show s / 2 * 2 = s - 1 by omega, show s - 1 + 1 = s by omega, Int32.add_comm]
theorem m_weightSeen {c p y s : Nat} (hr1 : Rw r) (hw : g 162 3 = nI r) (hrow : RowM g r w b) (hc : c < 24) (hp : p < 8) (hy : y < 3) (hs : s < 16) (q : Q (some (.int (wsW w y c p s))) g) : Ct l E lay NC 1 0 0 yX8_weightSeen [.ref 162, .int (nI c), .int (nI p), .int (nI y), .int (nI s)] g Q X := by
  have hs2 : (if s % 2 = 0 then s + 1 else s - 1) < 16 := by split <;> omega
  refine Ct_in k_yX8_weightSeen (by decide) rfl (Nat.le_of_ble_eq_true rfl) rfl ?_
  intro S hS hZ hr ht hR
  show J S 0 0 (g) 0 [some (.ref 162), some (.int (nI c)), some (.int (nI p)), some (.int (nI y)), some (.int (nI s)), none, none] []
  refine J_iload_n hS dX8_weightSeen_0 rfl ?_
  refine J_callS1 (X' := fun _ _ => False) hS dX8_weightSeen_1 msX8_121 rfl (by first | decide | omega) (by decide) (Nat.le_of_ble_eq_true rfl) ⟨Nat.le_trans (by decide) hR.1, Nat.le_trans (by decide) hR.2⟩ (fun _ _ q => q.elim) (m_at ?_)
  refine J_bipush (v := 8) hS dX8_weightSeen_4 (by decide) ?_
  refine J_iadd hS dX8_weightSeen_6 ?_
  refine J_bipush (v := 16) hS dX8_weightSeen_7 (by decide) ?_
  refine J_iload_n hS dX8_weightSeen_9 rfl ?_
  refine J_imul hS dX8_weightSeen_10 ?_
  refine J_iadd hS dX8_weightSeen_11 ?_
  show J S 0 0 (g) 12 [some (.ref 162), some (.int (nI c)), some (.int (nI p)), some (.int (nI y)), some (.int (nI s)), none, none] [.int _]
  rw [show nI (56 + 142 * c) + 8 + 16 * nI p = nI (sgB c p) by rw [n8, n16, pk_mul, nI_add, nI_add]; rfl]
  refine J_istore (lt := fun x5 => [some (.ref 162), some (.int (nI c)), some (.int (nI p)), some (.int (nI y)), some (.int (nI s)), some (.int x5), none]) hS dX8_weightSeen_12 (Nat.le_of_ble_eq_true rfl) (fun _ => rfl) (fun x5 ex5 => ?_)
  rw [show x5 = nI (sgB c p) from ex5]
  have hB : sgB c p + 16 ≤ 3464 := by unfold sgB; omega
  have fin : ∀ v : Int32, (v = 0 ∨ v = 1) → (v = 1 ↔ wrW w y s = true) → J S 0 0 g 41 [some (.ref 162), some (.int (nI c)), some (.int (nI p)), some (.int (nI y)), some (.int (nI s)), some (.int (nI (sgB c p))), none] [.int v] := by
    intro v hv1 hv2
    refine J_istore (lt := fun x6 => [some (.ref 162), some (.int (nI c)), some (.int (nI p)), some (.int (nI y)), some (.int (nI s)), some (.int (nI (sgB c p))), some (.int x6)]) hS dX8_weightSeen_41 (Nat.le_of_ble_eq_true rfl) (fun _ => rfl) (fun x6 ex6 => ?_)
    refine J_iload hS dX8_weightSeen_43 rfl ?_
    rw [show x6 = v from ex6]
    refine J_if_eq (tgt := 74) hS dX8_weightSeen_45 (by decide) (fun c1 => ?_) (fun c1 => ?_)
    · have hno : ¬ wrW w y s = true := fun z => by rw [hv2.mpr z] at c1; exact absurd c1 (by decide)
      refine J_aload_n hS dX8_weightSeen_74 rfl ?_
      refine J_getD (v := .ref r) hS dX8_weightSeen_75 flX8_20 ob162 rfl (wI hr1 hw) ?_
      refine J_iload hS dX8_weightSeen_78 rfl ?_
      refine J_iload hS dX8_weightSeen_80 rfl ?_
      refine J_iadd hS dX8_weightSeen_82 ?_
      refine J_ialdN hS (sgB c p + s) dX8_weightSeen_83 hr1.ar (by first | rfl | (simp only [n0, n1, n2, n3, n4, n5, n6, n7, n8, n9, n10, n11, n12, n13, n14, n15, n16, n17, n18, n19, n20, n24, n32, n56, n60, n64, n72, n99, n100, n128, n136, n142, n144, n200, n300, n999, n1000, n1500, n3464, nI_add, pk_mul] <;> first | rfl | (congr 1; omega))) (by omega) (by decide) ?_
      refine J_iret hS hZ hr dX8_weightSeen_84 (by omega) (by omega) ?_
      rw [hrow.at (by omega) (Mk_sg hp hs)]
      unfold wsW at q; rw [if_neg hno] at q; exact q
    · have hyes : wrW w y s = true := hv2.mp (hv1.resolve_left c1)
      refine J_aload_n hS dX8_weightSeen_48 rfl ?_
      refine J_getD (v := .ref r) hS dX8_weightSeen_49 flX8_20 ob162 rfl (wI hr1 hw) ?_
      refine J_iload hS dX8_weightSeen_52 rfl ?_
      refine J_iload hS dX8_weightSeen_54 rfl ?_
      refine J_iadd hS dX8_weightSeen_56 ?_
      refine J_ialdN hS (sgB c p + s) dX8_weightSeen_57 hr1.ar (by first | rfl | (simp only [n0, n1, n2, n3, n4, n5, n6, n7, n8, n9, n10, n11, n12, n13, n14, n15, n16, n17, n18, n19, n20, n24, n32, n56, n60, n64, n72, n99, n100, n128, n136, n142, n144, n200, n300, n999, n1000, n1500, n3464, nI_add, pk_mul] <;> first | rfl | (congr 1; omega))) (by omega) (by decide) ?_
      refine J_aload_n hS dX8_weightSeen_58 rfl ?_
      refine J_getD (v := .ref r) hS dX8_weightSeen_59 flX8_20 ob162 rfl (wI hr1 hw) ?_
      refine J_iload hS dX8_weightSeen_62 rfl ?_
      refine J_iload hS dX8_weightSeen_64 rfl ?_
      refine J_iconst (v := 1) hS dX8_weightSeen_66 (by decide) ?_
      refine J_ixor hS dX8_weightSeen_67 ?_
      show J S 0 0 (g) 68 [some (.ref 162), some (.int (nI c)), some (.int (nI p)), some (.int (nI y)), some (.int (nI s)), some (.int (nI (sgB c p))), some (.int v)] [.int _, .int (nI (sgB c p)), .ref r, .int _]
      rw [xor1 s hs]
      refine J_iadd hS dX8_weightSeen_68 ?_
      refine J_ialdN hS (sgB c p + (if s % 2 = 0 then s + 1 else s - 1)) dX8_weightSeen_69 hr1.ar (by first | rfl | (simp only [n0, n1, n2, n3, n4, n5, n6, n7, n8, n9, n10, n11, n12, n13, n14, n15, n16, n17, n18, n19, n20, n24, n32, n56, n60, n64, n72, n99, n100, n128, n136, n142, n144, n200, n300, n999, n1000, n1500, n3464, nI_add, pk_mul] <;> first | rfl | (congr 1; omega))) (by omega) (by decide) ?_
      refine J_iadd hS dX8_weightSeen_70 ?_
      refine J_goto (tgt := 84) hS dX8_weightSeen_71 (by decide) ?_
      refine J_iret hS hZ hr dX8_weightSeen_84 (by omega) (by omega) ?_
      rw [hrow.at (by omega) (Mk_sg hp hs), hrow.at (i := sgB c p + (if s % 2 = 0 then s + 1 else s - 1)) (by omega) (Mk_sg hp hs2), ws_ix hyes]
      exact q
  have no : ¬ wrW w y s = true → J S 0 0 g 40 [some (.ref 162), some (.int (nI c)), some (.int (nI p)), some (.int (nI y)), some (.int (nI s)), some (.int (nI (sgB c p))), none] [] := by
    intro hno
    refine J_iconst (v := 0) hS dX8_weightSeen_40 (by decide) ?_
    exact fin 0 (Or.inl rfl) ⟨fun z => absurd z (by decide), fun z => absurd z hno⟩
  refine J_aload_n hS dX8_weightSeen_14 rfl ?_
  refine J_iload_n hS dX8_weightSeen_15 rfl ?_
  refine J_iload hS dX8_weightSeen_16 rfl ?_
  refine J_callV2 (X' := fun _ _ => False) hS dX8_weightSeen_18 mvX8_282 ob162 rfl (by first | decide | omega) (by decide) (Nat.le_of_ble_eq_true rfl) ⟨Nat.le_trans (by decide) hR.1, Nat.le_trans (by decide) hR.2⟩ (fun _ _ q => q.elim) (m_isWorn hr1 hw hrow hy hs (fun x t1 t2 => ?_))
  refine J_if_eq (tgt := 40) hS dX8_weightSeen_21 (by decide) (fun c1 => ?_) (fun c1 => ?_)
  · exact no (fun z => by rw [t2.mpr (wr_ix.mp z).1] at c1; exact absurd c1 (by decide))
  ·
    refine J_aload_n hS dX8_weightSeen_24 rfl ?_
    refine J_iload_n hS dX8_weightSeen_25 rfl ?_
    refine J_iload hS dX8_weightSeen_26 rfl ?_
    refine J_iconst (v := 1) hS dX8_weightSeen_28 (by decide) ?_
    refine J_ixor hS dX8_weightSeen_29 ?_
    show J S 0 0 (g) 30 [some (.ref 162), some (.int (nI c)), some (.int (nI p)), some (.int (nI y)), some (.int (nI s)), some (.int (nI (sgB c p))), none] [.int _, .int (nI y), .ref 162]
    rw [xor1 s hs]
    refine J_callV2 (X' := fun _ _ => False) hS dX8_weightSeen_30 mvX8_282 ob162 rfl (by first | decide | omega) (by decide) (Nat.le_of_ble_eq_true rfl) ⟨Nat.le_trans (by decide) hR.1, Nat.le_trans (by decide) hR.2⟩ (fun _ _ q => q.elim) (m_isWorn hr1 hw hrow hy hs2 (fun x2 t3 t4 => ?_))
    refine J_if_eq (tgt := 40) hS dX8_weightSeen_33 (by decide) (fun c2 => ?_) (fun c2 => ?_)
    · exact no (fun z => by rw [t4.mpr (wr_ix.mp z).2] at c2; exact absurd c2 (by decide))
    · have hyes : wrW w y s = true := wr_ix.mpr ⟨t2.mp (t1.resolve_left c1), t4.mp (t3.resolve_left c2)⟩
      refine J_iconst (v := 1) hS dX8_weightSeen_36 (by decide) ?_
      refine J_goto (tgt := 41) hS dX8_weightSeen_37 (by decide) ?_
      exact fin 1 (Or.inr rfl) ⟨fun _ => hyes, fun _ => rfl⟩
theorem pickO_eq {f : Nat → Int32} {n : Nat} {ch : Int32} (h0 : 0 ≤ f (bst f n)) : pickO f n ch = if f (bst f n) = 0 then (dr (adv ch) n, adv ch) else (bst f n, ch) := by
  unfold pickO
  by_cases e : f (bst f n) = 0
  · rw [if_pos e, if_neg (by rw [e]; decide)]
  · rw [if_neg e, if_pos ?_]
    rcases Int32.lt_or_le 0 (f (bst f n)) with z | z
    · exact z
    · exact absurd (Int32.le_antisymm z h0) e
set_option maxRecDepth 10000 in
theorem m_orderOf {c : Nat} (hr1 : Rw r) (hw : g 162 3 = nI r) (hrow : RowM g r w b) (hc : c < 24) (hwt : Wt w c) (q : ∀ g', (∀ z, z ≠ r → g' z = g z) → RowM g' r (upd w 1 (ordP w c).2) b → Q (some (.int (nI (ordP w c).1))) g') : Ct l E lay NC 1 0 0 yX8_orderOf [.ref 162, .int (nI c)] g Q X := by
  have hr2 : r = 164 ∨ r = 165 := hr1
  obtain ⟨f, hf⟩ : ∃ f : Nat → Int32, f = fun s => w (odB c + s) := ⟨_, rfl⟩
  have hB : odB c + 6 ≤ 3464 := by unfold odB; omega
  have rd : ∀ s, s < 6 → g r (odB c + s) = f s := fun s hs => by rw [hf]; exact hrow.at (by omega) (Mk_od hs)
  refine Ct_in k_yX8_orderOf (by decide) rfl (Nat.le_of_ble_eq_true rfl) rfl ?_
  intro S hS hZ hr ht hR
  show J S 0 0 (g) 0 [some (.ref 162), some (.int (nI c)), none, none, none] []
  refine J_iload_n hS dX8_orderOf_0 rfl ?_
  refine J_callS1 (X' := fun _ _ => False) hS dX8_orderOf_1 msX8_121 rfl (by first | decide | omega) (by decide) (Nat.le_of_ble_eq_true rfl) ⟨Nat.le_trans (by decide) hR.1, Nat.le_trans (by decide) hR.2⟩ (fun _ _ q => q.elim) (m_at ?_)
  refine J_sipush (v := 136) hS dX8_orderOf_4 (by decide) ?_
  refine J_iadd hS dX8_orderOf_7 ?_
  show J S 0 0 (g) 8 [some (.ref 162), some (.int (nI c)), none, none, none] [.int _]
  rw [show nI (56 + 142 * c) + 136 = nI (odB c) by rw [n136, nI_add]; rfl]
  refine J_istore_n (lt := fun x2 => [some (.ref 162), some (.int (nI c)), some (.int x2), none, none]) hS dX8_orderOf_8 (Nat.le_of_ble_eq_true rfl) (fun _ => rfl) (fun x2 ex2 => ?_)
  refine J_iconst (v := 0) hS dX8_orderOf_9 (by decide) ?_
  refine J_istore_n (lt := fun x3 => [some (.ref 162), some (.int (nI c)), some (.int x2), some (.int x3), none]) hS dX8_orderOf_10 (Nat.le_of_ble_eq_true rfl) (fun _ => rfl) (fun x3 ex3 => ?_)
  refine J_iconst (v := 1) hS dX8_orderOf_11 (by decide) ?_
  refine J_istore (lt := fun x4 => [some (.ref 162), some (.int (nI c)), some (.int x2), some (.int x3), some (.int x4)]) hS dX8_orderOf_12 (Nat.le_of_ble_eq_true rfl) (fun _ => rfl) (fun x4 ex4 => ?_)
  rw [show x2 = nI (odB c) from ex2]
  suffices H : ∀ (t k : Nat) (v i : Int32), k + t = 6 → 1 ≤ k → i = nI k → v = nI (bst f k) → J S 0 0 g 14 [some (.ref 162), some (.int (nI c)), some (.int (nI (odB c))), some (.int v), some (.int i)] [] by
    exact H 5 1 x3 x4 (by omega) (by omega) ex4 (by rw [ex3]; unfold bst; split <;> rfl)
  intro t
  induction t with
  | zero =>
    intro k v i hk hk1 hi hv
    have ek : k = 6 := by omega
    subst ek; subst hi; subst hv
    have hb := bst_lt (f := f) (n := 6) (by decide)
    refine J_iload hS dX8_orderOf_14 rfl ?_
    refine J_bipush (v := 6) hS dX8_orderOf_16 (by decide) ?_
    refine J_icmp_ge (tgt := 50) hS dX8_orderOf_18 (by decide) (fun c1 => ?_) (fun c1 => ?_)
    ·
      refine J_aload_n hS dX8_orderOf_50 rfl ?_
      refine J_getD (v := .ref r) hS dX8_orderOf_51 flX8_20 ob162 rfl (wI hr1 hw) ?_
      refine J_iload_n hS dX8_orderOf_54 rfl ?_
      refine J_iload_n hS dX8_orderOf_55 rfl ?_
      refine J_iadd hS dX8_orderOf_56 ?_
      refine J_ialdN hS (odB c + bst f 6) dX8_orderOf_57 hr1.ar (by first | rfl | (simp only [n0, n1, n2, n3, n4, n5, n6, n7, n8, n9, n10, n11, n12, n13, n14, n15, n16, n17, n18, n19, n20, n24, n32, n56, n60, n64, n72, n99, n100, n128, n136, n142, n144, n200, n300, n999, n1000, n1500, n3464, nI_add, pk_mul] <;> first | rfl | (congr 1; omega))) (by omega) (by decide) ?_
      show J S 0 0 (g) 58 [some (.ref 162), some (.int (nI c)), some (.int (nI (odB c))), some (.int (nI (bst f 6))), some (.int (nI 6))] [.int _]
      rw [rd _ hb]
      have h0 : 0 ≤ f (bst f 6) := by rw [hf]; exact (hwt.od (o := bst (fun s => w (odB c + s)) 6) (by rw [hf] at hb; exact hb)).1
      have eo : ordP w c = if f (bst f 6) = 0 then (dr (adv (w 1)) 6, adv (w 1)) else (bst f 6, w 1) := by
        unfold ordP; rw [← hf]; exact pickO_eq h0
      refine J_if_ne (tgt := 71) hS dX8_orderOf_58 (by decide) (fun c2 => ?_) (fun c2 => ?_)
      · rw [if_neg c2] at eo
        refine J_iload_n hS dX8_orderOf_71 rfl ?_
        refine J_iret hS hZ hr dX8_orderOf_72 (by omega) (by omega) ?_
        have := q g (fun _ _ => rfl) (by rw [eo]; intro i hi; refine ⟨fun z => ?_, (hrow i hi).2⟩; rw [(hrow i hi).1 z]; unfold upd; split; rename_i e; rw [e]; rfl)
        rw [eo] at this; exact this
      · rw [if_pos c2] at eo
        refine J_aload_n hS dX8_orderOf_61 rfl ?_
        refine J_iconst (v := 1) hS dX8_orderOf_62 (by decide) ?_
        refine J_bipush (v := 6) hS dX8_orderOf_63 (by decide) ?_
        refine J_callV2 (X' := fun _ _ => False) hS dX8_orderOf_65 mvX8_279 ob162 rfl (by first | decide | omega) (by decide) (Nat.le_of_ble_eq_true rfl) ⟨Nat.le_trans (by decide) hR.1, Nat.le_trans (by decide) hR.2⟩ (fun _ _ q => q.elim) (m_draw (i := 1) (m := 6) hr1 hw (by decide) (by decide) (by decide) (fun g1 e1 => ?_))
        have w1 : g r 1 = w 1 := hrow.at (by decide) (Mk_lo (by decide) (by decide))
        rw [w1] at e1
        rw [w1]
        refine J_goto (tgt := 72) hS dX8_orderOf_68 (by decide) ?_
        refine J_iret hS hZ hr dX8_orderOf_72 (by omega) (by omega) ?_
        have := q g1 (fun z hz => by rw [e1, u2_ne z hz]) (by rw [eo, e1]; exact hrow.put (Mk_lo (by decide) (by decide)))
        rw [eo] at this; exact this
    · exact absurd (Int32.le_refl _) c1
  | succ t ih =>
    intro k v i hk hk1 hi hv
    subst hi; subst hv
    have hb := bst_lt (f := f) (n := k) (by omega)
    have hst : bst f (k + 1) = if f (bst f k) < f k then k else bst f k := rfl
    refine J_iload hS dX8_orderOf_14 rfl ?_
    refine J_bipush (v := 6) hS dX8_orderOf_16 (by decide) ?_
    refine J_icmp_ge (tgt := 50) hS dX8_orderOf_18 (by decide) (fun c1 => ?_) (fun c1 => ?_)
    · exact absurd c1 (nI_ge (show k < 6 by omega) (by decide))
    ·
      refine J_aload_n hS dX8_orderOf_21 rfl ?_
      refine J_getD (v := .ref r) hS dX8_orderOf_22 flX8_20 ob162 rfl (wI hr1 hw) ?_
      refine J_iload_n hS dX8_orderOf_25 rfl ?_
      refine J_iload hS dX8_orderOf_26 rfl ?_
      refine J_iadd hS dX8_orderOf_28 ?_
      refine J_ialdN hS (odB c + k) dX8_orderOf_29 hr1.ar (by first | rfl | (simp only [n0, n1, n2, n3, n4, n5, n6, n7, n8, n9, n10, n11, n12, n13, n14, n15, n16, n17, n18, n19, n20, n24, n32, n56, n60, n64, n72, n99, n100, n128, n136, n142, n144, n200, n300, n999, n1000, n1500, n3464, nI_add, pk_mul] <;> first | rfl | (congr 1; omega))) (by omega) (by decide) ?_
      refine J_aload_n hS dX8_orderOf_30 rfl ?_
      refine J_getD (v := .ref r) hS dX8_orderOf_31 flX8_20 ob162 rfl (wI hr1 hw) ?_
      refine J_iload_n hS dX8_orderOf_34 rfl ?_
      refine J_iload_n hS dX8_orderOf_35 rfl ?_
      refine J_iadd hS dX8_orderOf_36 ?_
      refine J_ialdN hS (odB c + bst f k) dX8_orderOf_37 hr1.ar (by first | rfl | (simp only [n0, n1, n2, n3, n4, n5, n6, n7, n8, n9, n10, n11, n12, n13, n14, n15, n16, n17, n18, n19, n20, n24, n32, n56, n60, n64, n72, n99, n100, n128, n136, n142, n144, n200, n300, n999, n1000, n1500, n3464, nI_add, pk_mul] <;> first | rfl | (congr 1; omega))) (by omega) (by decide) ?_
      show J S 0 0 (g) 38 [some (.ref 162), some (.int (nI c)), some (.int (nI (odB c))), some (.int (nI (bst f k))), some (.int (nI k))] [.int _, .int _]
      rw [rd k (by omega), rd _ (show bst f k < 6 by omega)]
      refine J_icmp_le (tgt := 44) hS dX8_orderOf_38 (by decide) (fun c2 => ?_) (fun c2 => ?_)
      ·
        refine J_iinc (lt := fun i2 => [some (.ref 162), some (.int (nI c)), some (.int (nI (odB c))), some (.int (nI (bst f k))), some (.int i2)]) (v := 1) hS dX8_orderOf_44 rfl (by decide) (fun _ => rfl) (fun i2 ei2 => ?_)
        refine J_goto (tgt := 14) hS dX8_orderOf_47 (by decide) ?_
        exact ih (k + 1) _ i2 (by omega) (by omega) (by rw [ei2]; exact nI_1 k) (by rw [hst, if_neg (Int32.not_lt.mpr c2)])
      ·
        refine J_iload hS dX8_orderOf_41 rfl ?_
        refine J_istore_n (lt := fun v2 => [some (.ref 162), some (.int (nI c)), some (.int (nI (odB c))), some (.int v2), some (.int (nI k))]) hS dX8_orderOf_43 (Nat.le_of_ble_eq_true rfl) (fun _ => rfl) (fun v2 ev2 => ?_)
        refine J_iinc (lt := fun i2 => [some (.ref 162), some (.int (nI c)), some (.int (nI (odB c))), some (.int v2), some (.int i2)]) (v := 1) hS dX8_orderOf_44 rfl (by decide) (fun _ => rfl) (fun i2 ei2 => ?_)
        refine J_goto (tgt := 14) hS dX8_orderOf_47 (by decide) ?_
        exact ih (k + 1) v2 i2 (by omega) (by omega) (by rw [ei2]; exact nI_1 k) (by rw [ev2, hst, if_pos (Int32.not_le.mp c2)])
set_option maxRecDepth 10000 in
theorem m_signOf {c p : Nat} (hr1 : Rw r) (hw : g 162 3 = nI r) (hrow : RowM g r w b) (hc : c < 24) (hp : p < 8) (hwt : Wt w c) (q : ∀ g', (∀ z, z ≠ r → g' z = g z) → RowM g' r (upd w 1 (sgnP w c p).2) b → Q (some (.int (nI (sgnP w c p).1))) g') : Ct l E lay NC 1 0 0 yX8_signOf [.ref 162, .int (nI c), .int (nI p)] g Q X := by
  have hr2 : r = 164 ∨ r = 165 := hr1
  obtain ⟨f, hf⟩ : ∃ f : Nat → Int32, f = fun s => w (sgB c p + s) := ⟨_, rfl⟩
  have hB : sgB c p + 16 ≤ 3464 := by unfold sgB; omega
  have rd : ∀ s, s < 16 → g r (sgB c p + s) = f s := fun s hs => by rw [hf]; exact hrow.at (by omega) (Mk_sg hp hs)
  refine Ct_in k_yX8_signOf (by decide) rfl (Nat.le_of_ble_eq_true rfl) rfl ?_
  intro S hS hZ hr ht hR
  show J S 0 0 (g) 0 [some (.ref 162), some (.int (nI c)), some (.int (nI p)), none, none, none] []
  refine J_iload_n hS dX8_signOf_0 rfl ?_
  refine J_callS1 (X' := fun _ _ => False) hS dX8_signOf_1 msX8_121 rfl (by first | decide | omega) (by decide) (Nat.le_of_ble_eq_true rfl) ⟨Nat.le_trans (by decide) hR.1, Nat.le_trans (by decide) hR.2⟩ (fun _ _ q => q.elim) (m_at ?_)
  refine J_bipush (v := 8) hS dX8_signOf_4 (by decide) ?_
  refine J_iadd hS dX8_signOf_6 ?_
  refine J_bipush (v := 16) hS dX8_signOf_7 (by decide) ?_
  refine J_iload_n hS dX8_signOf_9 rfl ?_
  refine J_imul hS dX8_signOf_10 ?_
  refine J_iadd hS dX8_signOf_11 ?_
  show J S 0 0 (g) 12 [some (.ref 162), some (.int (nI c)), some (.int (nI p)), none, none, none] [.int _]
  rw [show nI (56 + 142 * c) + 8 + 16 * nI p = nI (sgB c p) by rw [n8, n16, pk_mul, nI_add, nI_add]; rfl]
  refine J_istore_n (lt := fun x2 => [some (.ref 162), some (.int (nI c)), some (.int (nI p)), some (.int x2), none, none]) hS dX8_signOf_12 (Nat.le_of_ble_eq_true rfl) (fun _ => rfl) (fun x2 ex2 => ?_)
  refine J_iconst (v := 0) hS dX8_signOf_13 (by decide) ?_
  refine J_istore (lt := fun x3 => [some (.ref 162), some (.int (nI c)), some (.int (nI p)), some (.int x2), some (.int x3), none]) hS dX8_signOf_14 (Nat.le_of_ble_eq_true rfl) (fun _ => rfl) (fun x3 ex3 => ?_)
  refine J_iconst (v := 1) hS dX8_signOf_16 (by decide) ?_
  refine J_istore (lt := fun x4 => [some (.ref 162), some (.int (nI c)), some (.int (nI p)), some (.int x2), some (.int x3), some (.int x4)]) hS dX8_signOf_17 (Nat.le_of_ble_eq_true rfl) (fun _ => rfl) (fun x4 ex4 => ?_)
  rw [show x2 = nI (sgB c p) from ex2]
  suffices H : ∀ (t k : Nat) (v i : Int32), k + t = 16 → 1 ≤ k → i = nI k → v = nI (bst f k) → J S 0 0 g 19 [some (.ref 162), some (.int (nI c)), some (.int (nI p)), some (.int (nI (sgB c p))), some (.int v), some (.int i)] [] by
    exact H 15 1 x3 x4 (by omega) (by omega) ex4 (by rw [ex3]; unfold bst; split <;> rfl)
  intro t
  induction t with
  | zero =>
    intro k v i hk hk1 hi hv
    have ek : k = 16 := by omega
    subst ek; subst hi; subst hv
    have hb := bst_lt (f := f) (n := 16) (by decide)
    refine J_iload hS dX8_signOf_19 rfl ?_
    refine J_bipush (v := 16) hS dX8_signOf_21 (by decide) ?_
    refine J_icmp_ge (tgt := 57) hS dX8_signOf_23 (by decide) (fun c1 => ?_) (fun c1 => ?_)
    ·
      refine J_aload_n hS dX8_signOf_57 rfl ?_
      refine J_getD (v := .ref r) hS dX8_signOf_58 flX8_20 ob162 rfl (wI hr1 hw) ?_
      refine J_iload_n hS dX8_signOf_61 rfl ?_
      refine J_iload hS dX8_signOf_62 rfl ?_
      refine J_iadd hS dX8_signOf_64 ?_
      refine J_ialdN hS (sgB c p + bst f 16) dX8_signOf_65 hr1.ar (by first | rfl | (simp only [n0, n1, n2, n3, n4, n5, n6, n7, n8, n9, n10, n11, n12, n13, n14, n15, n16, n17, n18, n19, n20, n24, n32, n56, n60, n64, n72, n99, n100, n128, n136, n142, n144, n200, n300, n999, n1000, n1500, n3464, nI_add, pk_mul] <;> first | rfl | (congr 1; omega))) (by omega) (by decide) ?_
      show J S 0 0 (g) 66 [some (.ref 162), some (.int (nI c)), some (.int (nI p)), some (.int (nI (sgB c p))), some (.int (nI (bst f 16))), some (.int (nI 16))] [.int _]
      rw [rd _ hb]
      have h0 : 0 ≤ f (bst f 16) := by rw [hf]; exact (hwt.sg hp (s := bst (fun s => w (sgB c p + s)) 16) (by rw [hf] at hb; exact hb)).1
      have eo : sgnP w c p = if f (bst f 16) = 0 then (dr (adv (w 1)) 16, adv (w 1)) else (bst f 16, w 1) := by
        unfold sgnP; rw [← hf]; exact pickO_eq h0
      refine J_if_ne (tgt := 79) hS dX8_signOf_66 (by decide) (fun c2 => ?_) (fun c2 => ?_)
      · rw [if_neg c2] at eo
        refine J_iload hS dX8_signOf_79 rfl ?_
        refine J_iret hS hZ hr dX8_signOf_81 (by omega) (by omega) ?_
        have := q g (fun _ _ => rfl) (by rw [eo]; intro i hi; refine ⟨fun z => ?_, (hrow i hi).2⟩; rw [(hrow i hi).1 z]; unfold upd; split; rename_i e; rw [e]; rfl)
        rw [eo] at this; exact this
      · rw [if_pos c2] at eo
        refine J_aload_n hS dX8_signOf_69 rfl ?_
        refine J_iconst (v := 1) hS dX8_signOf_70 (by decide) ?_
        refine J_bipush (v := 16) hS dX8_signOf_71 (by decide) ?_
        refine J_callV2 (X' := fun _ _ => False) hS dX8_signOf_73 mvX8_279 ob162 rfl (by first | decide | omega) (by decide) (Nat.le_of_ble_eq_true rfl) ⟨Nat.le_trans (by decide) hR.1, Nat.le_trans (by decide) hR.2⟩ (fun _ _ q => q.elim) (m_draw (i := 1) (m := 16) hr1 hw (by decide) (by decide) (by decide) (fun g1 e1 => ?_))
        have w1 : g r 1 = w 1 := hrow.at (by decide) (Mk_lo (by decide) (by decide))
        rw [w1] at e1
        rw [w1]
        refine J_goto (tgt := 81) hS dX8_signOf_76 (by decide) ?_
        refine J_iret hS hZ hr dX8_signOf_81 (by omega) (by omega) ?_
        have := q g1 (fun z hz => by rw [e1, u2_ne z hz]) (by rw [eo, e1]; exact hrow.put (Mk_lo (by decide) (by decide)))
        rw [eo] at this; exact this
    · exact absurd (Int32.le_refl _) c1
  | succ t ih =>
    intro k v i hk hk1 hi hv
    subst hi; subst hv
    have hb := bst_lt (f := f) (n := k) (by omega)
    have hst : bst f (k + 1) = if f (bst f k) < f k then k else bst f k := rfl
    refine J_iload hS dX8_signOf_19 rfl ?_
    refine J_bipush (v := 16) hS dX8_signOf_21 (by decide) ?_
    refine J_icmp_ge (tgt := 57) hS dX8_signOf_23 (by decide) (fun c1 => ?_) (fun c1 => ?_)
    · exact absurd c1 (nI_ge (show k < 16 by omega) (by decide))
    ·
      refine J_aload_n hS dX8_signOf_26 rfl ?_
      refine J_getD (v := .ref r) hS dX8_signOf_27 flX8_20 ob162 rfl (wI hr1 hw) ?_
      refine J_iload_n hS dX8_signOf_30 rfl ?_
      refine J_iload hS dX8_signOf_31 rfl ?_
      refine J_iadd hS dX8_signOf_33 ?_
      refine J_ialdN hS (sgB c p + k) dX8_signOf_34 hr1.ar (by first | rfl | (simp only [n0, n1, n2, n3, n4, n5, n6, n7, n8, n9, n10, n11, n12, n13, n14, n15, n16, n17, n18, n19, n20, n24, n32, n56, n60, n64, n72, n99, n100, n128, n136, n142, n144, n200, n300, n999, n1000, n1500, n3464, nI_add, pk_mul] <;> first | rfl | (congr 1; omega))) (by omega) (by decide) ?_
      refine J_aload_n hS dX8_signOf_35 rfl ?_
      refine J_getD (v := .ref r) hS dX8_signOf_36 flX8_20 ob162 rfl (wI hr1 hw) ?_
      refine J_iload_n hS dX8_signOf_39 rfl ?_
      refine J_iload hS dX8_signOf_40 rfl ?_
      refine J_iadd hS dX8_signOf_42 ?_
      refine J_ialdN hS (sgB c p + bst f k) dX8_signOf_43 hr1.ar (by first | rfl | (simp only [n0, n1, n2, n3, n4, n5, n6, n7, n8, n9, n10, n11, n12, n13, n14, n15, n16, n17, n18, n19, n20, n24, n32, n56, n60, n64, n72, n99, n100, n128, n136, n142, n144, n200, n300, n999, n1000, n1500, n3464, nI_add, pk_mul] <;> first | rfl | (congr 1; omega))) (by omega) (by decide) ?_
      show J S 0 0 (g) 44 [some (.ref 162), some (.int (nI c)), some (.int (nI p)), some (.int (nI (sgB c p))), some (.int (nI (bst f k))), some (.int (nI k))] [.int _, .int _]
      rw [rd k (by omega), rd _ (show bst f k < 16 by omega)]
      refine J_icmp_le (tgt := 51) hS dX8_signOf_44 (by decide) (fun c2 => ?_) (fun c2 => ?_)
      ·
        refine J_iinc (lt := fun i2 => [some (.ref 162), some (.int (nI c)), some (.int (nI p)), some (.int (nI (sgB c p))), some (.int (nI (bst f k))), some (.int i2)]) (v := 1) hS dX8_signOf_51 rfl (by decide) (fun _ => rfl) (fun i2 ei2 => ?_)
        refine J_goto (tgt := 19) hS dX8_signOf_54 (by decide) ?_
        exact ih (k + 1) _ i2 (by omega) (by omega) (by rw [ei2]; exact nI_1 k) (by rw [hst, if_neg (Int32.not_lt.mpr c2)])
      ·
        refine J_iload hS dX8_signOf_47 rfl ?_
        refine J_istore (lt := fun v2 => [some (.ref 162), some (.int (nI c)), some (.int (nI p)), some (.int (nI (sgB c p))), some (.int v2), some (.int (nI k))]) hS dX8_signOf_49 (Nat.le_of_ble_eq_true rfl) (fun _ => rfl) (fun v2 ev2 => ?_)
        refine J_iinc (lt := fun i2 => [some (.ref 162), some (.int (nI c)), some (.int (nI p)), some (.int (nI (sgB c p))), some (.int v2), some (.int i2)]) (v := 1) hS dX8_signOf_51 rfl (by decide) (fun _ => rfl) (fun i2 ei2 => ?_)
        refine J_goto (tgt := 19) hS dX8_signOf_54 (by decide) ?_
        exact ih (k + 1) v2 i2 (by omega) (by omega) (by rw [ei2]; exact nI_1 k) (by rw [ev2, hst, if_pos (Int32.not_le.mp c2)])
end RefW


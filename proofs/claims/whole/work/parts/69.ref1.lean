/-! THE REFERENCE: the small ones. Its rows real and copy: cells 164, 165; w moves -/
def Rw (r : Nat) : Prop := r = 164 ∨ r = 165
theorem Rw.ar {r : Nat} (h : Rw r) : Ar lay NC .int r 3464 := by
  rcases h with e | e
  · subst e; exact arM 1 3464 (by decide) (by decide) rfl
  · subst e; exact arM 2 3464 (by decide) (by decide) rfl
theorem Rw.ab {r : Nat} (h : Rw r) : ab 2 (nI r) = .ref r := by
  rcases h with e | e
  · subst e; exact ab_nI (by decide) (by decide)
  · subst e; exact ab_nI (by decide) (by decide)
theorem wI {g : Mm} {r : Nat} (h : Rw r) (e : g 162 3 = nI r) : ab 2 (g 162 3) = .ref r := by rw [e]; exact h.ab
section RefA
variable {l : Launch} {E : Ey} {g : Mm} {Q : Option Value → Mm → Prop} {X : String → Mm → Prop} {r : Nat}
theorem m_thrown (q : Q (some (.int (g 162 0))) g) : Ct l E lay NC 0 0 0 yX8_thrown [.ref 162] g Q X := by
  refine Ct_in k_yX8_thrown (by decide) rfl (Nat.le_of_ble_eq_true rfl) rfl ?_
  intro S hS hZ hr ht hR
  show J S 0 0 (g) 0 [some (.ref 162)] []
  refine J_aload_n hS dX8_thrown_0 rfl ?_
  refine J_getI hS dX8_thrown_1 flX8_1 ob162 rfl ?_
  refine J_iret hS hZ hr dX8_thrown_4 (by omega) (by omega) ?_
  exact q
theorem m_may {a c : Int32} (e0 : g 162 0 = 0) (hc : ¬ c = 0) (q1 : ¬ a = 0 → Q (some (.int 1)) g) (q0 : a = 0 → Q (some (.int 0)) (u2 g 162 0 c)) : Ct l E lay NC 0 0 0 yX8_may [.ref 162, .int a, .int c] g Q X := by
  refine Ct_in k_yX8_may (by decide) rfl (Nat.le_of_ble_eq_true rfl) rfl ?_
  intro S hS hZ hr ht hR
  show J S 0 0 (g) 0 [some (.ref 162), some (.int a), some (.int c)] []
  refine J_iload_n hS dX8_may_0 rfl ?_
  refine J_if_ne (tgt := 16) hS dX8_may_1 (by decide) (fun c1 => ?_) (fun c1 => ?_)
  ·
    refine J_aload_n hS dX8_may_16 rfl ?_
    refine J_getI hS dX8_may_17 flX8_1 ob162 rfl ?_
    show J S 0 0 (g) 20 [some (.ref 162), some (.int a), some (.int c)] [.int _]
    rw [e0]
    refine J_if_ne (tgt := 27) hS dX8_may_20 (by decide) (fun c2 => ?_) (fun c2 => ?_)
    · exact absurd rfl c2
    ·
      refine J_iconst (v := 1) hS dX8_may_23 (by decide) ?_
      refine J_goto (tgt := 28) hS dX8_may_24 (by decide) ?_
      refine J_zret hS hZ hr dX8_may_28 (by decide) (by omega) (by omega) ?_
      exact q1 c1
  ·
    refine J_aload_n hS dX8_may_4 rfl ?_
    refine J_getI hS dX8_may_5 flX8_1 ob162 rfl ?_
    show J S 0 0 (g) 8 [some (.ref 162), some (.int a), some (.int c)] [.int _]
    rw [e0]
    refine J_if_ne (tgt := 16) hS dX8_may_8 (by decide) (fun c2 => ?_) (fun c2 => ?_)
    · exact absurd rfl c2
    ·
      refine J_aload_n hS dX8_may_11 rfl ?_
      refine J_iload_n hS dX8_may_12 rfl ?_
      refine J_putI hS dX8_may_13 fpX8_1 ob162 rfl (fun g13 eg13 => ?_)
      refine J_aload_n hS dX8_may_16 rfl ?_
      refine J_getI hS dX8_may_17 flX8_1 ob162 rfl ?_
      show J S 0 0 (g13) 20 [some (.ref 162), some (.int a), some (.int c)] [.int _]
      rw [show g13 162 0 = c by rw [eg13, u2_self]]
      refine J_if_ne (tgt := 27) hS dX8_may_20 (by decide) (fun c3 => ?_) (fun c3 => ?_)
      ·
        refine J_iconst (v := 0) hS dX8_may_27 (by decide) ?_
        refine J_zret hS hZ hr dX8_may_28 (by decide) (by omega) (by omega) ?_
        rw [eg13]; exact q0 c1
      · exact absurd c3 hc
theorem m_within {v a b : Int32} (q : ∀ x : Int32, (x = 0 ∨ x = 1) → (x = 1 ↔ a ≤ v ∧ v ≤ b) → Q (some (.int x)) g) : Ct l E lay NC 0 0 0 yX8_within [.int v, .int a, .int b] g Q X := by
  refine Ct_in k_yX8_within (by decide) rfl (Nat.le_of_ble_eq_true rfl) rfl ?_
  intro S hS hZ hr ht hR
  show J S 0 0 (g) 0 [some (.int v), some (.int a), some (.int b)] []
  refine J_iload_n hS dX8_within_0 rfl ?_
  refine J_iload_n hS dX8_within_1 rfl ?_
  refine J_icmp_lt (tgt := 14) hS dX8_within_2 (by decide) (fun c1 => ?_) (fun c1 => ?_)
  ·
    refine J_iconst (v := 0) hS dX8_within_14 (by decide) ?_
    refine J_zret hS hZ hr dX8_within_15 (by decide) (by omega) (by omega) ?_
    exact q 0 (Or.inl rfl) ⟨fun z => absurd z (by decide), fun z => absurd c1 (Int32.not_lt.mpr z.1)⟩
  ·
    refine J_iload_n hS dX8_within_5 rfl ?_
    refine J_iload_n hS dX8_within_6 rfl ?_
    refine J_icmp_gt (tgt := 14) hS dX8_within_7 (by decide) (fun c2 => ?_) (fun c2 => ?_)
    ·
      refine J_iconst (v := 0) hS dX8_within_14 (by decide) ?_
      refine J_zret hS hZ hr dX8_within_15 (by decide) (by omega) (by omega) ?_
      exact q 0 (Or.inl rfl) ⟨fun z => absurd z (by decide), fun z => absurd c2 (Int32.not_lt.mpr z.2)⟩
    ·
      refine J_iconst (v := 1) hS dX8_within_10 (by decide) ?_
      refine J_goto (tgt := 15) hS dX8_within_11 (by decide) ?_
      refine J_zret hS hZ hr dX8_within_15 (by decide) (by omega) (by omega) ?_
      exact q 1 (Or.inr rfl) ⟨fun _ => ⟨Int32.not_lt.mp c1, Int32.not_lt.mp c2⟩, fun _ => rfl⟩
/-- 0 to b - 1, as 'within' asks it -/
theorem ou_w {n : Nat} {v b : Int32} (hn : n < 2 ^ 31) (hb : b = nI n - 1) : (0 ≤ v ∧ v ≤ b) ↔ ¬ ou n v := by
  subst hb
  have e : (nI n - 1).toInt = (n : Int) - 1 := by
    cases n with
    | zero => decide
    | succ k => rw [nI_pred k, nI_toInt (by omega)]; omega
  have a : (0 : Int32).toInt = 0 := by decide
  unfold ou
  rw [Int32.le_iff_toInt_le, Int32.le_iff_toInt_le, Int32.lt_iff_toInt_lt, Int32.le_iff_toInt_le, e, a, nI_toInt hn]
  omega
theorem m_isYard {y : Int32} (q : ∀ x : Int32, (x = 0 ∨ x = 1) → (x = 1 ↔ ¬ ou 3 y) → Q (some (.int x)) g) : Ct l E lay NC 1 0 0 yX8_isYard [.int y] g Q X := by
  refine Ct_in k_yX8_isYard (by decide) rfl (Nat.le_of_ble_eq_true rfl) rfl ?_
  intro S hS hZ hr ht hR
  show J S 0 0 (g) 0 [some (.int y)] []
  refine J_iload_n hS dX8_isYard_0 rfl ?_
  refine J_iconst (v := 0) hS dX8_isYard_1 (by decide) ?_
  refine J_iconst (v := 2) hS dX8_isYard_2 (by decide) ?_
  refine J_callS3 (X' := fun _ _ => False) hS dX8_isYard_3 msX8_106 rfl (by first | decide | omega) (by decide) (Nat.le_of_ble_eq_true rfl) ⟨Nat.le_trans (by decide) hR.1, Nat.le_trans (by decide) hR.2⟩ (fun _ _ q => q.elim) (m_within (fun x t1 t2 => ?_))
  refine J_zret hS hZ hr dX8_isYard_6 t1 (by omega) (by omega) ?_
  exact q x t1 (t2.trans (ou_w (by decide) (by decide)))
theorem m_isOrder {y : Int32} (q : ∀ x : Int32, (x = 0 ∨ x = 1) → (x = 1 ↔ ¬ ou 6 y) → Q (some (.int x)) g) : Ct l E lay NC 1 0 0 yX8_isOrder [.int y] g Q X := by
  refine Ct_in k_yX8_isOrder (by decide) rfl (Nat.le_of_ble_eq_true rfl) rfl ?_
  intro S hS hZ hr ht hR
  show J S 0 0 (g) 0 [some (.int y)] []
  refine J_iload_n hS dX8_isOrder_0 rfl ?_
  refine J_iconst (v := 0) hS dX8_isOrder_1 (by decide) ?_
  refine J_iconst (v := 5) hS dX8_isOrder_2 (by decide) ?_
  refine J_callS3 (X' := fun _ _ => False) hS dX8_isOrder_3 msX8_106 rfl (by first | decide | omega) (by decide) (Nat.le_of_ble_eq_true rfl) ⟨Nat.le_trans (by decide) hR.1, Nat.le_trans (by decide) hR.2⟩ (fun _ _ q => q.elim) (m_within (fun x t1 t2 => ?_))
  refine J_zret hS hZ hr dX8_isOrder_6 t1 (by omega) (by omega) ?_
  exact q x t1 (t2.trans (ou_w (by decide) (by decide)))
theorem m_isKind {y : Int32} (q : ∀ x : Int32, (x = 0 ∨ x = 1) → (x = 1 ↔ ¬ (y < -1 ∨ 3 < y)) → Q (some (.int x)) g) : Ct l E lay NC 1 0 0 yX8_isKind [.int y] g Q X := by
  refine Ct_in k_yX8_isKind (by decide) rfl (Nat.le_of_ble_eq_true rfl) rfl ?_
  intro S hS hZ hr ht hR
  show J S 0 0 (g) 0 [some (.int y)] []
  refine J_iload_n hS dX8_isKind_0 rfl ?_
  refine J_iconst (v := (-1)) hS dX8_isKind_1 (by decide) ?_
  refine J_iconst (v := 3) hS dX8_isKind_2 (by decide) ?_
  refine J_callS3 (X' := fun _ _ => False) hS dX8_isKind_3 msX8_106 rfl (by first | decide | omega) (by decide) (Nat.le_of_ble_eq_true rfl) ⟨Nat.le_trans (by decide) hR.1, Nat.le_trans (by decide) hR.2⟩ (fun _ _ q => q.elim) (m_within (fun x t1 t2 => ?_))
  refine J_zret hS hZ hr dX8_isKind_6 t1 (by omega) (by omega) ?_
  refine q x t1 (t2.trans ⟨fun z w => w.elim (fun w => absurd w (Int32.not_lt.mpr z.1)) (fun w => absurd w (Int32.not_lt.mpr z.2)), fun z => ⟨Int32.not_lt.mp (fun w => z (Or.inl w)), Int32.not_lt.mp (fun w => z (Or.inr w))⟩⟩)
theorem m_isChild {n : Nat} {c : Int32} (hn : n ≤ 24) (em : g 164 6 = nI n) (e0 : g 162 0 = 0) (q1 : ¬ ou n c → Q (some (.int 1)) g) (q0 : ou n c → Q (some (.int 0)) (u2 g 162 0 1)) : Ct l E lay NC 1 0 0 yX8_isChild [.ref 162, .int c] g Q X := by
  refine Ct_in k_yX8_isChild (by decide) rfl (Nat.le_of_ble_eq_true rfl) rfl ?_
  intro S hS hZ hr ht hR
  show J S 0 0 (g) 0 [some (.ref 162), some (.int c)] []
  refine J_aload_n hS dX8_isChild_0 rfl ?_
  refine J_iload_n hS dX8_isChild_1 rfl ?_
  refine J_iconst (v := 0) hS dX8_isChild_2 (by decide) ?_
  refine J_aload_n hS dX8_isChild_3 rfl ?_
  refine J_getR (t := 164) hS dX8_isChild_4 flX8_13 ob162 rfl ?_
  refine J_bipush (v := 6) hS dX8_isChild_7 (by decide) ?_
  refine J_ialdN hS (6) dX8_isChild_9 (arM 1 _ (by decide) (by decide) rfl) (by first | rfl | (simp only [n0, n1, n2, n3, n4, n5, n6, n7, n8, n9, n10, n11, n12, n13, n14, n15, n16, n17, n18, n19, n20, n24, n32, n56, n60, n64, n72, n99, n100, n128, n136, n142, n144, n200, n300, n999, n1000, n1500, n3464, nI_add, pk_mul] <;> first | rfl | (congr 1; omega))) (by decide) (by decide) ?_
  show J S 0 0 (g) 10 [some (.ref 162), some (.int c)] [.int _, .int 0, .int c, .ref 162]
  rw [em]
  refine J_iconst (v := 1) hS dX8_isChild_10 (by decide) ?_
  refine J_isub hS dX8_isChild_11 ?_
  refine J_callS3 (X' := fun _ _ => False) hS dX8_isChild_12 msX8_106 rfl (by first | decide | omega) (by decide) (Nat.le_of_ble_eq_true rfl) ⟨Nat.le_trans (by decide) hR.1, Nat.le_trans (by decide) hR.2⟩ (fun _ _ q => q.elim) (m_within (fun x t1 t2 => ?_))
  have t3 := t2.trans (ou_w (show n < 2 ^ 31 by omega) rfl)
  refine J_iconst (v := 1) hS dX8_isChild_15 (by decide) ?_
  refine J_callV2 (X' := fun _ _ => False) hS dX8_isChild_16 mvX8_110 ob162 rfl (by first | decide | omega) (by decide) (Nat.le_of_ble_eq_true rfl) ⟨Nat.le_trans (by decide) hR.1, Nat.le_trans (by decide) hR.2⟩ (fun _ _ q => q.elim) (m_may e0 (by decide) (fun z => ?_) (fun z => ?_))
  ·
    refine J_zret hS hZ hr dX8_isChild_19 (by decide) (by omega) (by omega) ?_
    exact q1 (t3.mp (t1.resolve_left z))
  ·
    refine J_zret hS hZ hr dX8_isChild_19 (by decide) (by omega) (by omega) ?_
    refine q0 ?_
    by_cases w : ou n c
    · exact w
    · rw [t3.mpr w] at z; exact absurd z (by decide)
theorem m_ends (q : Q none (u2 g 162 46 (-1))) : Ct l E lay NC 0 0 0 yX8_ends [.ref 162] g Q X := by
  refine Ct_in k_yX8_ends (by decide) rfl (Nat.le_of_ble_eq_true rfl) rfl ?_
  intro S hS hZ hr ht hR
  show J S 0 0 (g) 0 [some (.ref 162)] []
  refine J_aload_n hS dX8_ends_0 rfl ?_
  refine J_iconst (v := (-1)) hS dX8_ends_1 (by decide) ?_
  refine J_putI hS dX8_ends_2 fpX8_77 ob162 rfl (fun g2 eg2 => ?_)
  refine J_vret hS hZ hr dX8_ends_5 (by omega) (by omega) ?_
  rw [eg2]; exact q
theorem m_at {c : Nat} (q : Q (some (.int (nI (56 + 142 * c)))) g) : Ct l E lay NC 0 0 0 yX8_at [.int (nI c)] g Q X := by
  refine Ct_in k_yX8_at (by decide) rfl (Nat.le_of_ble_eq_true rfl) rfl ?_
  intro S hS hZ hr ht hR
  show J S 0 0 (g) 0 [some (.int (nI c))] []
  refine J_bipush (v := 56) hS dX8_at_0 (by decide) ?_
  refine J_sipush (v := 142) hS dX8_at_2 (by decide) ?_
  refine J_iload_n hS dX8_at_5 rfl ?_
  refine J_imul hS dX8_at_6 ?_
  refine J_iadd hS dX8_at_7 ?_
  show J S 0 0 (g) 8 [some (.int (nI c))] [.int _]
  rw [n56, n142, pk_mul, nI_add]
  refine J_iret hS hZ hr dX8_at_8 (by omega) (by omega) ?_
  exact q
theorem m_concept {a v : Nat} (ha : a < 2 ^ 31) (q : Q (some (.int (nI (con a v)))) g) : Ct l E lay NC 0 0 0 yX8_concept [.int (nI a), .int (nI v)] g Q X := by
  refine Ct_in k_yX8_concept (by decide) rfl (Nat.le_of_ble_eq_true rfl) rfl ?_
  intro S hS hZ hr ht hR
  show J S 0 0 (g) 0 [some (.int (nI a)), some (.int (nI v))] []
  refine J_iload_n hS dX8_concept_0 rfl ?_
  refine J_iconst (v := 1) hS dX8_concept_1 (by decide) ?_
  refine J_icmp_ne (tgt := 11) hS dX8_concept_2 (by decide) (fun c1 => ?_) (fun c1 => ?_)
  ·
    refine J_iload_n hS dX8_concept_11 rfl ?_
    refine J_iret hS hZ hr dX8_concept_12 (by omega) (by omega) ?_
    unfold con at q; rw [if_neg (fun z => c1 (by rw [z]; rfl))] at q; exact q
  ·
    refine J_iconst (v := 4) hS dX8_concept_5 (by decide) ?_
    refine J_iload_n hS dX8_concept_6 rfl ?_
    refine J_iadd hS dX8_concept_7 ?_
    refine J_goto (tgt := 12) hS dX8_concept_8 (by decide) ?_
    show J S 0 0 (g) 12 [some (.int (nI a)), some (.int (nI v))] [.int _]
    rw [n4, nI_add]
    refine J_iret hS hZ hr dX8_concept_12 (by omega) (by omega) ?_
    unfold con at q; rw [if_pos ((nI_eq ha (by decide)).mp c1)] at q; exact q
theorem sh16 (x : Int32) : (x >>> ((16 : Int32) &&& 31)) &&& 32767 = nI (x.toBitVec.toNat / 65536 % 32768) := by
  rw [← dr_u x]
  apply Int32.toBitVec_inj.mp
  simp only [Int32.toBitVec_and]
  apply BitVec.eq_of_getLsbD_eq
  intro i hi
  simp only [BitVec.getLsbD_and]
  by_cases h : i < 15
  · congr 1
    have e1 : (x >>> ((16 : Int32) &&& 31)).toBitVec = x.toBitVec.sshiftRight 16 := by
      show x.toBitVec.sshiftRight' (((16 : Int32) &&& 31).toBitVec.smod 32) = _
      show x.toBitVec.sshiftRight (((16 : Int32) &&& 31).toBitVec.smod 32).toNat = _
      congr 1
    have e2 : ((x.toUInt32 >>> ((16 : Int32).toUInt32 &&& Int32.toUInt32 31)).toInt32).toBitVec = x.toBitVec >>> 16 := by
      show x.toBitVec.ushiftRight ((((16 : Int32).toUInt32 &&& Int32.toUInt32 31).mod 32).toBitVec).toNat = _
      rfl
    rw [e1, e2, BitVec.getLsbD_sshiftRight, BitVec.getLsbD_ushiftRight]
    have : 16 + i < 32 := by omega
    simp [this, show ¬ 32 ≤ i by omega]
  · have z : ∀ i, i < 32 → (15 ≤ i → (32767 : Int32).toBitVec.getLsbD i = false) := by decide
    rw [z i hi (by omega)]; simp
theorem m_draw {i m : Nat} (hr1 : Rw r) (hw : g 162 3 = nI r) (hi : i < 2) (hm : 0 < m) (hm2 : m < 2 ^ 31) (q : ∀ g', g' = u2 g r i (adv (g r i)) → Q (some (.int (nI (dr (adv (g r i)) m)))) g') : Ct l E lay NC 0 0 0 yX8_draw [.ref 162, .int (nI i), .int (nI m)] g Q X := by
  have hr2 : r = 164 ∨ r = 165 := hr1
  refine Ct_in k_yX8_draw (by decide) rfl (Nat.le_of_ble_eq_true rfl) rfl ?_
  intro S hS hZ hr ht hR
  show J S 0 0 (g) 0 [some (.ref 162), some (.int (nI i)), some (.int (nI m))] []
  refine J_aload_n hS dX8_draw_0 rfl ?_
  refine J_getD (v := .ref r) hS dX8_draw_1 flX8_20 ob162 rfl (wI hr1 hw) ?_
  refine J_iload_n hS dX8_draw_4 rfl ?_
  refine J_aload_n hS dX8_draw_5 rfl ?_
  refine J_getD (v := .ref r) hS dX8_draw_6 flX8_20 ob162 rfl (wI hr1 hw) ?_
  refine J_iload_n hS dX8_draw_9 rfl ?_
  refine J_ialdN hS (i) dX8_draw_10 hr1.ar (by first | rfl | (simp only [n0, n1, n2, n3, n4, n5, n6, n7, n8, n9, n10, n11, n12, n13, n14, n15, n16, n17, n18, n19, n20, n24, n32, n56, n60, n64, n72, n99, n100, n128, n136, n142, n144, n200, n300, n999, n1000, n1500, n3464, nI_add, pk_mul] <;> first | rfl | (congr 1; omega))) (by omega) (by decide) ?_
  refine J_ldc hS dX8_draw_11 ctX8_105 ?_
  refine J_imul hS dX8_draw_13 ?_
  refine J_sipush (v := 12345) hS dX8_draw_14 (by decide) ?_
  refine J_iadd hS dX8_draw_17 ?_
  refine J_iastN hS (i) dX8_draw_18 hr1.ar (by first | rfl | (simp only [n0, n1, n2, n3, n4, n5, n6, n7, n8, n9, n10, n11, n12, n13, n14, n15, n16, n17, n18, n19, n20, n24, n32, n56, n60, n64, n72, n99, n100, n128, n136, n142, n144, n200, n300, n999, n1000, n1500, n3464, nI_add, pk_mul] <;> first | rfl | (congr 1; omega))) (by omega) (by decide) (fun g18 eg18 => ?_)
  refine J_aload_n hS dX8_draw_19 rfl ?_
  refine J_getD (v := .ref r) hS dX8_draw_20 flX8_20 ob162 rfl (by rw [eg18, u2_ne _ (by omega)]; exact wI hr1 hw) ?_
  refine J_iload_n hS dX8_draw_23 rfl ?_
  refine J_ialdN hS (i) dX8_draw_24 hr1.ar (by first | rfl | (simp only [n0, n1, n2, n3, n4, n5, n6, n7, n8, n9, n10, n11, n12, n13, n14, n15, n16, n17, n18, n19, n20, n24, n32, n56, n60, n64, n72, n99, n100, n128, n136, n142, n144, n200, n300, n999, n1000, n1500, n3464, nI_add, pk_mul] <;> first | rfl | (congr 1; omega))) (by omega) (by decide) ?_
  show J S 0 0 (g18) 25 [some (.ref 162), some (.int (nI i)), some (.int (nI m))] [.int _]
  rw [show g18 r i = adv (g r i) by rw [eg18, u2_self]; rfl]
  refine J_bipush (v := 16) hS dX8_draw_25 (by decide) ?_
  refine J_ishr hS dX8_draw_27 ?_
  refine J_sipush (v := 32767) hS dX8_draw_28 (by decide) ?_
  refine J_iand hS dX8_draw_31 ?_
  show J S 0 0 (g18) 32 [some (.ref 162), some (.int (nI i)), some (.int (nI m))] [.int _]
  rw [sh16]
  refine J_iload_n hS dX8_draw_32 rfl ?_
  refine J_irem hS dX8_draw_33 (fun z => absurd ((nI_eq hm2 (by decide)).mp (z.trans n0)) (by omega)) ?_
  show J S 0 0 (g18) 34 [some (.ref 162), some (.int (nI i)), some (.int (nI m))] [.int _]
  rw [pk_rem (by omega) hm hm2]
  refine J_iret hS hZ hr dX8_draw_34 (by omega) (by omega) ?_
  exact q g18 (by rw [eg18]; rfl)
end RefA


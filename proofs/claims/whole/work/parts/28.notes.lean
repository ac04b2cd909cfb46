/-! THE CLASS: Notes -/
def hldB (lw : Option (List Cls)) (lo : Int32) (w : Wr) (c o : Nat) : Bool := decide (rval lw lo (fac w c 0 0 (w (56 + 142 * c + 136 + o))) 3 ≤ w (56 + 142 * c + 136 + o))
theorem hldB_iff {lw : Option (List Cls)} {lo : Int32} {w : Wr} {c o : Nat} : hldB lw lo w c o = true ↔ hld lw lo w c o := by unfold hldB hld; simp
section ClsM
variable {l : Launch} {E : Ey} {g : Mm} {Q : Option Value → Mm → Prop} {X : String → Mm → Prop} {h : Nat}
set_option maxRecDepth 10000 in
theorem c_at {t c : Nat} (ht1 : t < 1500) (hc : c < 19) (q : Q (some (.int (g 144 (t * 19 + c)))) g) : Ct l E lay NC 0 0 0 yX3_at [.ref 143, .int (nI t), .int (nI c)] g Q X := by
  refine Ct_in k_yX3_at (by decide) rfl (Nat.le_of_ble_eq_true rfl) rfl ?_
  intro S hS hZ hr ht hR
  show J S 0 0 g 0 [some (.ref 143), some (.int (nI t)), some (.int (nI c))] []
  refine J_aload_n hS dX3_at_0 rfl ?_
  refine J_getR (t := 144) hS dX3_at_1 flX3_15 ob143 rfl ?_
  refine J_iload_n hS dX3_at_4 rfl ?_
  refine J_bipush (v := 19) hS dX3_at_5 (by decide) ?_
  refine J_imul hS dX3_at_7 ?_
  refine J_iload_n hS dX3_at_8 rfl ?_
  refine J_iadd hS dX3_at_9 ?_
  refine J_ialdN hS (t * 19 + c) dX3_at_10 ar144 (by first | rfl | (simp only [n0, n1, n2, n3, n4, n5, n6, n7, n8, n9, n10, n11, n12, n13, n14, n15, n16, n17, n18, n19, n20, n24, n32, n56, n60, n64, n72, n99, n100, n128, n136, n142, n144, n200, n300, n999, n1000, n1500, n3464, nI_add, pk_mul] <;> first | rfl | (congr 1; omega))) (by omega) (by decide) ?_
  refine J_iret hS hZ hr dX3_at_11 (by omega) (by omega) ?_
  exact q
set_option maxRecDepth 10000 in
theorem c_isLearnt {t : Nat} {x y : Int32} (ht1 : t < 1500) (q : Q (some (.int (b01 (g 144 (t * 19 + 2) = x ∧ g 144 (t * 19 + 16) = y)))) g) : Ct l E lay NC 1 0 0 yX3_isLearnt [.ref 143, .int (nI t), .int x, .int y] g Q X := by
  refine Ct_in k_yX3_isLearnt (by decide) rfl (Nat.le_of_ble_eq_true rfl) rfl ?_
  intro S hS hZ hr ht hR
  show J S 0 0 g 0 [some (.ref 143), some (.int (nI t)), some (.int x), some (.int y)] []
  refine J_aload_n hS dX3_isLearnt_0 rfl ?_
  refine J_iload_n hS dX3_isLearnt_1 rfl ?_
  refine J_iconst (v := 2) hS dX3_isLearnt_2 (by decide) ?_
  refine J_callV2 (X' := fun _ _ => False) hS dX3_isLearnt_3 mvX3_69 ob143 rfl (by decide) (by decide) (Nat.le_of_ble_eq_true rfl) hR (fun _ _ q => q.elim) (c_at (c := 2) ht1 (by decide) ?_)
  refine J_iload_n hS dX3_isLearnt_6 rfl ?_
  refine J_icmp_ne (tgt := 25) hS dX3_isLearnt_7 (by decide) (fun c1 => ?_) (fun c1 => ?_)
  ·
    refine J_iconst (v := 0) hS dX3_isLearnt_25 (by decide) ?_
    refine J_zret hS hZ hr dX3_isLearnt_26 (by decide) (by omega) (by omega) ?_
    rw [b01_f (by intro z; exact c1 z.1)] at q; exact q
  ·
    refine J_aload_n hS dX3_isLearnt_10 rfl ?_
    refine J_iload_n hS dX3_isLearnt_11 rfl ?_
    refine J_bipush (v := 16) hS dX3_isLearnt_12 (by decide) ?_
    refine J_callV2 (X' := fun _ _ => False) hS dX3_isLearnt_14 mvX3_69 ob143 rfl (by decide) (by decide) (Nat.le_of_ble_eq_true rfl) hR (fun _ _ q => q.elim) (c_at (c := 16) ht1 (by decide) ?_)
    refine J_iload_n hS dX3_isLearnt_17 rfl ?_
    refine J_icmp_ne (tgt := 25) hS dX3_isLearnt_18 (by decide) (fun c2 => ?_) (fun c2 => ?_)
    ·
      refine J_iconst (v := 0) hS dX3_isLearnt_25 (by decide) ?_
      refine J_zret hS hZ hr dX3_isLearnt_26 (by decide) (by omega) (by omega) ?_
      rw [b01_f (by intro z; exact c2 z.2)] at q; exact q
    ·
      refine J_iconst (v := 1) hS dX3_isLearnt_21 (by decide) ?_
      refine J_goto (tgt := 26) hS dX3_isLearnt_22 (by decide) ?_
      refine J_zret hS hZ hr dX3_isLearnt_26 (by decide) (by omega) (by omega) ?_
      rw [b01_t ⟨c1, c2⟩] at q; exact q
set_option maxRecDepth 10000 in
theorem c_hasSigns {t : Nat} (ht1 : t < 1500) (q : Q (some (.int (b01 (g 144 (t * 19 + 7) = g 150 0 ∧ g 144 (t * 19 + 8) = g 150 1 ∧ g 144 (t * 19 + 9) = g 150 2)))) g) : Ct l E lay NC 1 0 0 yX3_hasSigns [.ref 143, .int (nI t), .ref 148] g Q X := by
  refine Ct_in k_yX3_hasSigns (by decide) rfl (Nat.le_of_ble_eq_true rfl) rfl ?_
  intro S hS hZ hr ht hR
  show J S 0 0 g 0 [some (.ref 143), some (.int (nI t)), some (.ref 148), none] []
  refine J_iconst (v := 0) hS dX3_hasSigns_0 (by decide) ?_
  refine J_istore_n (lt := fun i1 => [some (.ref 143), some (.int (nI t)), some (.ref 148), some (.int i1)]) hS dX3_hasSigns_1 (Nat.le_of_ble_eq_true rfl) (fun _ => rfl) (fun i1 ei1 => ?_)
  suffices H : ∀ (n k : Nat) (i : Int32), k + n = 3 → i = nI k → (∀ j, j < k → g 144 (t * 19 + (7 + j)) = g 150 j) → J S 0 0 g 2 [some (.ref 143), some (.int (nI t)), some (.ref 148), some (.int i)] [] by
    exact H 3 0 i1 rfl ei1 (fun j hj => absurd hj (by omega))
  intro n
  induction n with
  | zero =>
    intro k i hk hi hj
    have hk3 : k = 3 := by omega
    subst hk3
    refine J_iload_n hS dX3_hasSigns_2 rfl ?_
    refine J_iconst (v := 3) hS dX3_hasSigns_3 (by decide) ?_
    refine J_icmp_ge (tgt := 33) hS dX3_hasSigns_4 (by decide) (fun c1 => ?_) (fun c1 => ?_)
    ·
      refine J_iconst (v := 1) hS dX3_hasSigns_33 (by decide) ?_
      refine J_zret hS hZ hr dX3_hasSigns_34 (by decide) (by omega) (by omega) ?_
      rw [b01_t ⟨hj 0 (by decide), hj 1 (by decide), hj 2 (by decide)⟩] at q; exact q
    · exact absurd (by rw [hi]; decide) c1
  | succ n ih =>
    intro k i hk hi hj
    subst hi
    refine J_iload_n hS dX3_hasSigns_2 rfl ?_
    refine J_iconst (v := 3) hS dX3_hasSigns_3 (by decide) ?_
    refine J_icmp_ge (tgt := 33) hS dX3_hasSigns_4 (by decide) (fun c1 => ?_) (fun c1 => ?_)
    · exact absurd c1 (nI_ge (show k < 3 by omega) (by decide))
    ·
      refine J_aload_n hS dX3_hasSigns_7 rfl ?_
      refine J_iload_n hS dX3_hasSigns_8 rfl ?_
      refine J_bipush (v := 7) hS dX3_hasSigns_9 (by decide) ?_
      refine J_iload_n hS dX3_hasSigns_11 rfl ?_
      refine J_iadd hS dX3_hasSigns_12 ?_
      refine J_top (y := nI (7 + k)) (by simp only [n7, nI_add]) ?_
      refine J_callV2 (X' := fun _ _ => False) hS dX3_hasSigns_13 mvX3_69 ob143 rfl (by decide) (by decide) (Nat.le_of_ble_eq_true rfl) hR (fun _ _ q => q.elim) (c_at (c := 7 + k) ht1 (by omega) ?_)
      refine J_aload_n hS dX3_hasSigns_16 rfl ?_
      refine J_getR (t := 150) hS dX3_hasSigns_17 flX3_50 ob148 rfl ?_
      refine J_iload_n hS dX3_hasSigns_20 rfl ?_
      refine J_ialdN hS (k) dX3_hasSigns_21 ar150 (by first | rfl | (simp only [n0, n1, n2, n3, n4, n5, n6, n7, n8, n9, n10, n11, n12, n13, n14, n15, n16, n17, n18, n19, n20, n24, n32, n56, n60, n64, n72, n99, n100, n128, n136, n142, n144, n200, n300, n999, n1000, n1500, n3464, nI_add, pk_mul] <;> first | rfl | (congr 1; omega))) (by omega) (by decide) ?_
      refine J_icmp_eq (tgt := 27) hS dX3_hasSigns_22 (by decide) (fun c2 => ?_) (fun c2 => ?_)
      ·
        refine J_iinc (lt := fun i2 => [some (.ref 143), some (.int (nI t)), some (.ref 148), some (.int i2)]) (v := 1) hS dX3_hasSigns_27 rfl (by decide) (fun _ => rfl) (fun i2 ei2 => ?_)
        refine J_goto (tgt := 2) hS dX3_hasSigns_30 (by decide) ?_
        refine ih (k + 1) i2 (by omega) (by rw [ei2]; exact nI_1 k) (fun j hj2 => ?_)
        by_cases e : j = k
        · subst e; exact c2
        · exact hj j (by omega)
      ·
        refine J_iconst (v := 0) hS dX3_hasSigns_25 (by decide) ?_
        refine J_zret hS hZ hr dX3_hasSigns_26 (by decide) (by omega) (by omega) ?_
        have hno : ¬ (g 144 (t * 19 + 7) = g 150 0 ∧ g 144 (t * 19 + 8) = g 150 1 ∧ g 144 (t * 19 + 9) = g 150 2) := by
          intro z
          have hk3 : k = 0 ∨ k = 1 ∨ k = 2 := by omega
          rcases hk3 with e | e | e
          · subst e; exact c2 z.1
          · subst e; exact c2 z.2.1
          · subst e; exact c2 z.2.2
        rw [b01_f hno] at q; exact q
set_option maxRecDepth 10000 in
set_option maxHeartbeats 4000000 in
theorem c_write (hW : Wo h) {a b m : Nat} {rt sh : Int32} (ha : a < 24) (hb : b < 24) (e0 : g 148 0 = nI a) (e1 : g 148 1 = nI b) (hm : m < 1500) (em : g 143 0 = nI m) (hrt : rt = 0 ∨ rt = 1) (hrt2 : g 148 7 = rt) (hsh : sh = 0 ∨ sh = 1) (hsh2 : g 148 8 = sh) (q : ∀ g', (∀ z, z ≠ 143 → z ≠ 144 → g' z = g z) → g' 143 0 = nI (m + 1) → (∀ j, j ≠ 0 → g' 143 j = g 143 j) → (∀ i, (i < m * 19 ∨ m * 19 + 19 ≤ i) → g' 144 i = g 144 i) → g' 144 (m * 19) = g h 2 → g' 144 (m * 19 + 1) = nI a → g' 144 (m * 19 + 2) = nI b → (∀ k, k < 3 → g' 144 (m * 19 + 3 + k) = g 149 k ∧ g' 144 (m * 19 + 7 + k) = g 150 k ∧ g' 144 (m * 19 + 11 + k) = g 151 k) → g' 144 (m * 19 + 6) = g 148 3 → g' 144 (m * 19 + 10) = g 148 5 → g' 144 (m * 19 + 14) = rt → g' 144 (m * 19 + 15) = sh → g' 144 (m * 19 + 16) = g 148 9 → g' 144 (m * 19 + 17) = g (h + 4) a → g' 144 (m * 19 + 18) = g (h + 4) b → Q none g') : Ct l E lay NC 0 0 0 yX3_write [.ref 143, .ref h, .ref 148] g Q X := by
  have hh : h + 10 < 107 := by obtain ⟨i, hi, e⟩ := hW; omega
  refine Ct_in k_yX3_write (by decide) rfl (Nat.le_of_ble_eq_true rfl) rfl ?_
  intro S hS hZ hr ht hR
  show J S 0 0 g 0 [some (.ref 143), some (.ref h), some (.ref 148), none, none] []
  refine J_aload_n hS dX3_write_0 rfl ?_
  refine J_getI hS dX3_write_1 flX3_9 ob143 rfl ?_
  refine J_sipush (v := 1500) hS dX3_write_4 (by decide) ?_
  show J S 0 0 g 7 [some (.ref 143), some (.ref h), some (.ref 148), none, none] [.int 1500, .int _]
  rw [em]
  refine J_icmp_lt (tgt := 11) hS dX3_write_7 (by decide) (fun c1 => ?_) (fun c1 => ?_)
  ·
    refine J_aload_n hS dX3_write_11 rfl ?_
    refine J_getI hS dX3_write_12 flX3_9 ob143 rfl ?_
    show J S 0 0 g 15 [some (.ref 143), some (.ref h), some (.ref 148), none, none] [.int _]
    rw [em]
    refine J_bipush (v := 19) hS dX3_write_15 (by decide) ?_
    refine J_imul hS dX3_write_17 ?_
    refine J_istore_n (lt := fun rw0 => [some (.ref 143), some (.ref h), some (.ref 148), some (.int rw0), none]) hS dX3_write_18 (Nat.le_of_ble_eq_true rfl) (fun _ => rfl) (fun rw0 erw0 => ?_)
    have erw' : rw0 = nI (m * 19) := by rw [erw0]; simp only [n19, pk_mul]
    subst erw'
    refine J_aload_n hS dX3_write_19 rfl ?_
    refine J_getR (t := 144) hS dX3_write_20 flX3_15 ob143 rfl ?_
    refine J_iload_n hS dX3_write_23 rfl ?_
    refine J_iconst (v := 0) hS dX3_write_24 (by decide) ?_
    refine J_iadd hS dX3_write_25 ?_
    refine J_aload_n hS dX3_write_26 rfl ?_
    refine J_getI hS dX3_write_27 flX3_28 hW.ob rfl ?_
    refine J_iastN hS (m * 19) dX3_write_30 ar144 (by first | rfl | (simp only [n0, n1, n2, n3, n4, n5, n6, n7, n8, n9, n10, n11, n12, n13, n14, n15, n16, n17, n18, n19, n20, n24, n32, n56, n60, n64, n72, n99, n100, n128, n136, n142, n144, n200, n300, n999, n1000, n1500, n3464, nI_add, pk_mul] <;> first | rfl | (congr 1; omega))) (by omega) (by decide) (fun g30 eg30 => ?_)
    refine J_aload_n hS dX3_write_31 rfl ?_
    refine J_getR (t := 144) hS dX3_write_32 flX3_15 ob143 rfl ?_
    refine J_iload_n hS dX3_write_35 rfl ?_
    refine J_iconst (v := 1) hS dX3_write_36 (by decide) ?_
    refine J_iadd hS dX3_write_37 ?_
    refine J_aload_n hS dX3_write_38 rfl ?_
    refine J_getI hS dX3_write_39 flX3_33 ob148 rfl ?_
    refine J_iastN hS (m * 19 + 1) dX3_write_42 ar144 (by first | rfl | (simp only [n0, n1, n2, n3, n4, n5, n6, n7, n8, n9, n10, n11, n12, n13, n14, n15, n16, n17, n18, n19, n20, n24, n32, n56, n60, n64, n72, n99, n100, n128, n136, n142, n144, n200, n300, n999, n1000, n1500, n3464, nI_add, pk_mul] <;> first | rfl | (congr 1; omega))) (by omega) (by decide) (fun g42 eg42 => ?_)
    refine J_aload_n hS dX3_write_43 rfl ?_
    refine J_getR (t := 144) hS dX3_write_44 flX3_15 ob143 rfl ?_
    refine J_iload_n hS dX3_write_47 rfl ?_
    refine J_iconst (v := 2) hS dX3_write_48 (by decide) ?_
    refine J_iadd hS dX3_write_49 ?_
    refine J_aload_n hS dX3_write_50 rfl ?_
    refine J_getI hS dX3_write_51 flX3_38 ob148 rfl ?_
    refine J_iastN hS (m * 19 + 2) dX3_write_54 ar144 (by first | rfl | (simp only [n0, n1, n2, n3, n4, n5, n6, n7, n8, n9, n10, n11, n12, n13, n14, n15, n16, n17, n18, n19, n20, n24, n32, n56, n60, n64, n72, n99, n100, n128, n136, n142, n144, n200, n300, n999, n1000, n1500, n3464, nI_add, pk_mul] <;> first | rfl | (congr 1; omega))) (by omega) (by decide) (fun g54 eg54 => ?_)
    refine J_aload_n hS dX3_write_55 rfl ?_
    refine J_getR (t := 144) hS dX3_write_56 flX3_15 ob143 rfl ?_
    refine J_iload_n hS dX3_write_59 rfl ?_
    refine J_bipush (v := 6) hS dX3_write_60 (by decide) ?_
    refine J_iadd hS dX3_write_62 ?_
    refine J_aload_n hS dX3_write_63 rfl ?_
    refine J_getI hS dX3_write_64 flX3_41 ob148 rfl ?_
    refine J_iastN hS (m * 19 + 6) dX3_write_67 ar144 (by first | rfl | (simp only [n0, n1, n2, n3, n4, n5, n6, n7, n8, n9, n10, n11, n12, n13, n14, n15, n16, n17, n18, n19, n20, n24, n32, n56, n60, n64, n72, n99, n100, n128, n136, n142, n144, n200, n300, n999, n1000, n1500, n3464, nI_add, pk_mul] <;> first | rfl | (congr 1; omega))) (by omega) (by decide) (fun g67 eg67 => ?_)
    refine J_aload_n hS dX3_write_68 rfl ?_
    refine J_getR (t := 144) hS dX3_write_69 flX3_15 ob143 rfl ?_
    refine J_iload_n hS dX3_write_72 rfl ?_
    refine J_bipush (v := 10) hS dX3_write_73 (by decide) ?_
    refine J_iadd hS dX3_write_75 ?_
    refine J_aload_n hS dX3_write_76 rfl ?_
    refine J_getI hS dX3_write_77 flX3_44 ob148 rfl ?_
    refine J_iastN hS (m * 19 + 10) dX3_write_80 ar144 (by first | rfl | (simp only [n0, n1, n2, n3, n4, n5, n6, n7, n8, n9, n10, n11, n12, n13, n14, n15, n16, n17, n18, n19, n20, n24, n32, n56, n60, n64, n72, n99, n100, n128, n136, n142, n144, n200, n300, n999, n1000, n1500, n3464, nI_add, pk_mul] <;> first | rfl | (congr 1; omega))) (by omega) (by decide) (fun g80 eg80 => ?_)
    refine J_iconst (v := 0) hS dX3_write_81 (by decide) ?_
    refine J_istore (lt := fun i1 => [some (.ref 143), some (.ref h), some (.ref 148), some (.int (nI (m * 19))), some (.int i1)]) hS dX3_write_82 (Nat.le_of_ble_eq_true rfl) (fun _ => rfl) (fun i1 ei1 => ?_)
    have f80 : ∀ z, z ≠ 144 → g80 z = g z := fun z hz => by rw [eg80, u2_ne z hz, eg67, u2_ne z hz, eg54, u2_ne z hz, eg42, u2_ne z hz, eg30, u2_ne z hz]
    have r80 : ∀ i, g80 144 i = if i = m * 19 + 10 then g 148 5 else if i = m * 19 + 6 then g 148 3 else if i = m * 19 + 2 then nI b else if i = m * 19 + 1 then nI a else if i = m * 19 then g h 2 else g 144 i := by
      intro i
      rw [eg80, eg67, eg54, eg42, eg30]
      simp only [u2, true_and, show ¬ (148 = 144) by decide, show ¬ (h = 144) by omega, false_and, if_false, e0, e1]
    suffices H : ∀ (n k : Nat) (i : Int32) (g1 : Mm), k + n = 3 → i = nI k → (∀ z, z ≠ 144 → g1 z = g z) → (∀ j, j < k → g1 144 (m * 19 + 3 + j) = g 149 j ∧ g1 144 (m * 19 + 7 + j) = g 150 j ∧ g1 144 (m * 19 + 11 + j) = g 151 j) → (∀ i, (i < m * 19 + 3 ∨ (m * 19 + 6 ≤ i ∧ i < m * 19 + 7) ∨ (m * 19 + 10 ≤ i ∧ i < m * 19 + 11) ∨ m * 19 + 14 ≤ i) → g1 144 i = g80 144 i) → J S 0 0 g1 84 [some (.ref 143), some (.ref h), some (.ref 148), some (.int (nI (m * 19))), some (.int i)] [] by
      exact H 3 0 i1 g80 rfl ei1 f80 (fun j hj => absurd hj (by omega)) (fun _ _ => rfl)
    intro n
    induction n with
    | zero =>
      intro k i g1 hk hi f1 t1 o1
      have hk3 : k = 3 := by omega
      subst hk3
      have lst : ∀ g2 : Mm, (∀ z, z ≠ 144 → g2 z = g z) → (∀ i, g2 144 i = if i = m * 19 + 15 then sh else if i = m * 19 + 14 then rt else g1 144 i) → J S 0 0 g2 194 [some (.ref 143), some (.ref h), some (.ref 148), some (.int (nI (m * 19))), some (.int i)] [] := by
        intro g2 f2 r2
        refine J_aload_n hS dX3_write_194 rfl ?_
        refine J_getR (t := 144) hS dX3_write_195 flX3_15 ob143 rfl ?_
        refine J_iload_n hS dX3_write_198 rfl ?_
        refine J_bipush (v := 16) hS dX3_write_199 (by decide) ?_
        refine J_iadd hS dX3_write_201 ?_
        refine J_aload_n hS dX3_write_202 rfl ?_
        refine J_getI hS dX3_write_203 flX3_63 ob148 rfl ?_
        refine J_iastN hS (m * 19 + 16) dX3_write_206 ar144 (by first | rfl | (simp only [n0, n1, n2, n3, n4, n5, n6, n7, n8, n9, n10, n11, n12, n13, n14, n15, n16, n17, n18, n19, n20, n24, n32, n56, n60, n64, n72, n99, n100, n128, n136, n142, n144, n200, n300, n999, n1000, n1500, n3464, nI_add, pk_mul] <;> first | rfl | (congr 1; omega))) (by omega) (by decide) (fun g206 eg206 => ?_)
        refine J_aload_n hS dX3_write_207 rfl ?_
        refine J_getR (t := 144) hS dX3_write_208 flX3_15 ob143 rfl ?_
        refine J_iload_n hS dX3_write_211 rfl ?_
        refine J_bipush (v := 17) hS dX3_write_212 (by decide) ?_
        refine J_iadd hS dX3_write_214 ?_
        refine J_aload_n hS dX3_write_215 rfl ?_
        refine J_getR (t := h + 4) hS dX3_write_216 flX3_66 hW.ob rfl ?_
        refine J_aload_n hS dX3_write_219 rfl ?_
        refine J_getI hS dX3_write_220 flX3_33 ob148 rfl ?_
        show J S 0 0 g206 223 [some (.ref 143), some (.ref h), some (.ref 148), some (.int (nI (m * 19))), some (.int i)] [.int _, .ref (h + 4), .int _, .ref (144)]
        rw [show g206 148 0 = nI a by rw [eg206, u2_ne 148 (by decide), f2 148 (by decide)]; exact e0]
        refine J_ialdN hS (a) dX3_write_223 (show Ar lay NC .int (h + 4) 24 from hW.ar 4 (by decide) (by decide)) (by first | rfl | (simp only [n0, n1, n2, n3, n4, n5, n6, n7, n8, n9, n10, n11, n12, n13, n14, n15, n16, n17, n18, n19, n20, n24, n32, n56, n60, n64, n72, n99, n100, n128, n136, n142, n144, n200, n300, n999, n1000, n1500, n3464, nI_add, pk_mul] <;> first | rfl | (congr 1; omega))) ha (by decide) ?_
        refine J_iastN hS (m * 19 + 17) dX3_write_224 ar144 (by first | rfl | (simp only [n0, n1, n2, n3, n4, n5, n6, n7, n8, n9, n10, n11, n12, n13, n14, n15, n16, n17, n18, n19, n20, n24, n32, n56, n60, n64, n72, n99, n100, n128, n136, n142, n144, n200, n300, n999, n1000, n1500, n3464, nI_add, pk_mul] <;> first | rfl | (congr 1; omega))) (by omega) (by decide) (fun g224 eg224 => ?_)
        refine J_aload_n hS dX3_write_225 rfl ?_
        refine J_getR (t := 144) hS dX3_write_226 flX3_15 ob143 rfl ?_
        refine J_iload_n hS dX3_write_229 rfl ?_
        refine J_bipush (v := 18) hS dX3_write_230 (by decide) ?_
        refine J_iadd hS dX3_write_232 ?_
        refine J_aload_n hS dX3_write_233 rfl ?_
        refine J_getR (t := h + 4) hS dX3_write_234 flX3_66 hW.ob rfl ?_
        refine J_aload_n hS dX3_write_237 rfl ?_
        refine J_getI hS dX3_write_238 flX3_38 ob148 rfl ?_
        show J S 0 0 g224 241 [some (.ref 143), some (.ref h), some (.ref 148), some (.int (nI (m * 19))), some (.int i)] [.int _, .ref (h + 4), .int _, .ref (144)]
        rw [show g224 148 1 = nI b by rw [eg224, u2_ne 148 (by decide), eg206, u2_ne 148 (by decide), f2 148 (by decide)]; exact e1]
        refine J_ialdN hS (b) dX3_write_241 (show Ar lay NC .int (h + 4) 24 from hW.ar 4 (by decide) (by decide)) (by first | rfl | (simp only [n0, n1, n2, n3, n4, n5, n6, n7, n8, n9, n10, n11, n12, n13, n14, n15, n16, n17, n18, n19, n20, n24, n32, n56, n60, n64, n72, n99, n100, n128, n136, n142, n144, n200, n300, n999, n1000, n1500, n3464, nI_add, pk_mul] <;> first | rfl | (congr 1; omega))) hb (by decide) ?_
        refine J_iastN hS (m * 19 + 18) dX3_write_242 ar144 (by first | rfl | (simp only [n0, n1, n2, n3, n4, n5, n6, n7, n8, n9, n10, n11, n12, n13, n14, n15, n16, n17, n18, n19, n20, n24, n32, n56, n60, n64, n72, n99, n100, n128, n136, n142, n144, n200, n300, n999, n1000, n1500, n3464, nI_add, pk_mul] <;> first | rfl | (congr 1; omega))) (by omega) (by decide) (fun g242 eg242 => ?_)
        refine J_aload_n hS dX3_write_243 rfl ?_
        refine J_dup hS dX3_write_244 rfl ?_
        refine J_getI hS dX3_write_245 flX3_9 ob143 rfl ?_
        show J S 0 0 g242 248 [some (.ref 143), some (.ref h), some (.ref 148), some (.int (nI (m * 19))), some (.int i)] [.int _, .ref 143]
        rw [show g242 143 0 = nI m by rw [eg242, u2_ne 143 (by decide), eg224, u2_ne 143 (by decide), eg206, u2_ne 143 (by decide), f2 143 (by decide)]; exact em]
        refine J_iconst (v := 1) hS dX3_write_248 (by decide) ?_
        refine J_iadd hS dX3_write_249 ?_
        refine J_putI hS dX3_write_250 fpX3_9 ob143 rfl (fun g250 eg250 => ?_)
        refine J_vret hS hZ hr dX3_write_253 (by omega) (by omega) ?_
        have r9 : ∀ i, g250 144 i = if i = m * 19 + 18 then g (h + 4) b else if i = m * 19 + 17 then g (h + 4) a else if i = m * 19 + 16 then g 148 9 else if i = m * 19 + 15 then sh else if i = m * 19 + 14 then rt else g1 144 i := by
          intro i
          rw [eg250, u2_ne 144 (by decide), eg242, eg224, eg206]
          simp only [u2, true_and, show ¬ (148 = 144) by decide, show ¬ (h + 4 = 144) by omega, false_and, if_false, f2 148 (by decide), f2 (h + 4) (by omega), r2]
        refine q g250 (fun z h1 h2 => by rw [eg250, u2_ne z h1, eg242, u2_ne z h2, eg224, u2_ne z h2, eg206, u2_ne z h2]; exact f2 z h2) ?_ ?_ ?_ ?_ ?_ ?_ ?_ ?_ ?_ ?_ ?_ ?_ ?_ ?_
        · rw [eg250]; simp only [u2, and_self, if_true]; exact nI_1 m
        · intro j hj
          rw [eg250]; simp only [u2, hj, and_false, if_false]
          rw [eg242, u2_ne 143 (by decide), eg224, u2_ne 143 (by decide), eg206, u2_ne 143 (by decide), f2 143 (by decide)]
        · intro i hi2
          rw [r9, if_neg (by omega), if_neg (by omega), if_neg (by omega), if_neg (by omega), if_neg (by omega), o1 i (by omega), r80, if_neg (by omega), if_neg (by omega), if_neg (by omega), if_neg (by omega), if_neg (by omega)]
        · rw [r9, if_neg (by omega), if_neg (by omega), if_neg (by omega), if_neg (by omega), if_neg (by omega), o1 _ (by omega), r80, if_neg (by omega), if_neg (by omega), if_neg (by omega), if_neg (by omega), if_pos rfl]
        · rw [r9, if_neg (by omega), if_neg (by omega), if_neg (by omega), if_neg (by omega), if_neg (by omega), o1 _ (by omega), r80, if_neg (by omega), if_neg (by omega), if_neg (by omega), if_pos rfl]
        · rw [r9, if_neg (by omega), if_neg (by omega), if_neg (by omega), if_neg (by omega), if_neg (by omega), o1 _ (by omega), r80, if_neg (by omega), if_neg (by omega), if_pos rfl]
        · intro k hk
          obtain ⟨z1, z2, z3⟩ := t1 k hk
          refine ⟨?_, ?_, ?_⟩
          · rw [r9, if_neg (by omega), if_neg (by omega), if_neg (by omega), if_neg (by omega), if_neg (by omega)]; exact z1
          · rw [r9, if_neg (by omega), if_neg (by omega), if_neg (by omega), if_neg (by omega), if_neg (by omega)]; exact z2
          · rw [r9, if_neg (by omega), if_neg (by omega), if_neg (by omega), if_neg (by omega), if_neg (by omega)]; exact z3
        · rw [r9, if_neg (by omega), if_neg (by omega), if_neg (by omega), if_neg (by omega), if_neg (by omega), o1 _ (by omega), r80, if_neg (by omega), if_pos rfl]
        · rw [r9, if_neg (by omega), if_neg (by omega), if_neg (by omega), if_neg (by omega), if_neg (by omega), o1 _ (by omega), r80, if_pos rfl]
        · rw [r9, if_neg (by omega), if_neg (by omega), if_neg (by omega), if_neg (by omega), if_pos rfl]
        · rw [r9, if_neg (by omega), if_neg (by omega), if_neg (by omega), if_pos rfl]
        · rw [r9, if_neg (by omega), if_neg (by omega), if_pos rfl]
        · rw [r9, if_neg (by omega), if_pos rfl]
        · rw [r9, if_pos rfl]
      have shn : ∀ g2 : Mm, (∀ z, z ≠ 144 → g2 z = g z) → (∀ i, g2 144 i = if i = m * 19 + 14 then rt else g1 144 i) → J S 0 0 g2 173 [some (.ref 143), some (.ref h), some (.ref 148), some (.int (nI (m * 19))), some (.int i)] [] := by
        intro g2 f2 r2
        refine J_aload_n hS dX3_write_173 rfl ?_
        refine J_getR (t := 144) hS dX3_write_174 flX3_15 ob143 rfl ?_
        refine J_iload_n hS dX3_write_177 rfl ?_
        refine J_bipush (v := 15) hS dX3_write_178 (by decide) ?_
        refine J_iadd hS dX3_write_180 ?_
        refine J_aload_n hS dX3_write_181 rfl ?_
        refine J_getI hS dX3_write_182 flX3_60 ob148 rfl ?_
        show J S 0 0 g2 185 [some (.ref 143), some (.ref h), some (.ref 148), some (.int (nI (m * 19))), some (.int i)] [.int _, .int _, .ref (144)]
        rw [f2 148 (by decide), hsh2]
        refine J_if_eq (tgt := 192) hS dX3_write_185 (by decide) (fun c3 => ?_) (fun c3 => ?_)
        ·
          refine J_iconst (v := 0) hS dX3_write_192 (by decide) ?_
          refine J_iastN hS (m * 19 + 15) dX3_write_193 ar144 (by first | rfl | (simp only [n0, n1, n2, n3, n4, n5, n6, n7, n8, n9, n10, n11, n12, n13, n14, n15, n16, n17, n18, n19, n20, n24, n32, n56, n60, n64, n72, n99, n100, n128, n136, n142, n144, n200, n300, n999, n1000, n1500, n3464, nI_add, pk_mul] <;> first | rfl | (congr 1; omega))) (by omega) (by decide) (fun g193 eg193 => ?_)
          exact lst g193 (fun z hz => by rw [eg193, u2_ne z hz]; exact f2 z hz) (fun i => by rw [eg193, c3]; simp only [u2, true_and, r2])
        ·
          refine J_iconst (v := 1) hS dX3_write_188 (by decide) ?_
          refine J_goto (tgt := 193) hS dX3_write_189 (by decide) ?_
          refine J_iastN hS (m * 19 + 15) dX3_write_193 ar144 (by first | rfl | (simp only [n0, n1, n2, n3, n4, n5, n6, n7, n8, n9, n10, n11, n12, n13, n14, n15, n16, n17, n18, n19, n20, n24, n32, n56, n60, n64, n72, n99, n100, n128, n136, n142, n144, n200, n300, n999, n1000, n1500, n3464, nI_add, pk_mul] <;> first | rfl | (congr 1; omega))) (by omega) (by decide) (fun g193 eg193 => ?_)
          exact lst g193 (fun z hz => by rw [eg193, u2_ne z hz]; exact f2 z hz) (fun i => by rw [eg193, hsh.resolve_left c3]; simp only [u2, true_and, r2])
      refine J_iload hS dX3_write_84 rfl ?_
      refine J_iconst (v := 3) hS dX3_write_86 (by decide) ?_
      refine J_icmp_ge (tgt := 152) hS dX3_write_87 (by decide) (fun c2 => ?_) (fun c2 => ?_)
      ·
        refine J_aload_n hS dX3_write_152 rfl ?_
        refine J_getR (t := 144) hS dX3_write_153 flX3_15 ob143 rfl ?_
        refine J_iload_n hS dX3_write_156 rfl ?_
        refine J_bipush (v := 14) hS dX3_write_157 (by decide) ?_
        refine J_iadd hS dX3_write_159 ?_
        refine J_aload_n hS dX3_write_160 rfl ?_
        refine J_getI hS dX3_write_161 flX3_56 ob148 rfl ?_
        show J S 0 0 g1 164 [some (.ref 143), some (.ref h), some (.ref 148), some (.int (nI (m * 19))), some (.int i)] [.int _, .int _, .ref (144)]
        rw [f1 148 (by decide), hrt2]
        refine J_if_eq (tgt := 171) hS dX3_write_164 (by decide) (fun c3 => ?_) (fun c3 => ?_)
        ·
          refine J_iconst (v := 0) hS dX3_write_171 (by decide) ?_
          refine J_iastN hS (m * 19 + 14) dX3_write_172 ar144 (by first | rfl | (simp only [n0, n1, n2, n3, n4, n5, n6, n7, n8, n9, n10, n11, n12, n13, n14, n15, n16, n17, n18, n19, n20, n24, n32, n56, n60, n64, n72, n99, n100, n128, n136, n142, n144, n200, n300, n999, n1000, n1500, n3464, nI_add, pk_mul] <;> first | rfl | (congr 1; omega))) (by omega) (by decide) (fun g172 eg172 => ?_)
          exact shn g172 (fun z hz => by rw [eg172, u2_ne z hz]; exact f1 z hz) (fun i => by rw [eg172, c3]; simp only [u2, true_and])
        ·
          refine J_iconst (v := 1) hS dX3_write_167 (by decide) ?_
          refine J_goto (tgt := 172) hS dX3_write_168 (by decide) ?_
          refine J_iastN hS (m * 19 + 14) dX3_write_172 ar144 (by first | rfl | (simp only [n0, n1, n2, n3, n4, n5, n6, n7, n8, n9, n10, n11, n12, n13, n14, n15, n16, n17, n18, n19, n20, n24, n32, n56, n60, n64, n72, n99, n100, n128, n136, n142, n144, n200, n300, n999, n1000, n1500, n3464, nI_add, pk_mul] <;> first | rfl | (congr 1; omega))) (by omega) (by decide) (fun g172 eg172 => ?_)
          exact shn g172 (fun z hz => by rw [eg172, u2_ne z hz]; exact f1 z hz) (fun i => by rw [eg172, hrt.resolve_left c3]; simp only [u2, true_and])
      · exact absurd (by rw [hi]; decide) c2
    | succ n ih =>
      intro k i g1 hk hi f1 t1 o1
      subst hi
      refine J_iload hS dX3_write_84 rfl ?_
      refine J_iconst (v := 3) hS dX3_write_86 (by decide) ?_
      refine J_icmp_ge (tgt := 152) hS dX3_write_87 (by decide) (fun c2 => ?_) (fun c2 => ?_)
      · exact absurd c2 (nI_ge (show k < 3 by omega) (by decide))
      ·
        refine J_aload_n hS dX3_write_90 rfl ?_
        refine J_getR (t := 144) hS dX3_write_91 flX3_15 ob143 rfl ?_
        refine J_iload_n hS dX3_write_94 rfl ?_
        refine J_iconst (v := 3) hS dX3_write_95 (by decide) ?_
        refine J_iadd hS dX3_write_96 ?_
        refine J_iload hS dX3_write_97 rfl ?_
        refine J_iadd hS dX3_write_99 ?_
        refine J_aload_n hS dX3_write_100 rfl ?_
        refine J_getR (t := 149) hS dX3_write_101 flX3_47 ob148 rfl ?_
        refine J_iload hS dX3_write_104 rfl ?_
        refine J_ialdN hS (k) dX3_write_106 ar149 (by first | rfl | (simp only [n0, n1, n2, n3, n4, n5, n6, n7, n8, n9, n10, n11, n12, n13, n14, n15, n16, n17, n18, n19, n20, n24, n32, n56, n60, n64, n72, n99, n100, n128, n136, n142, n144, n200, n300, n999, n1000, n1500, n3464, nI_add, pk_mul] <;> first | rfl | (congr 1; omega))) (by omega) (by decide) ?_
        refine J_iastN hS (m * 19 + 3 + k) dX3_write_107 ar144 (by first | rfl | (simp only [n0, n1, n2, n3, n4, n5, n6, n7, n8, n9, n10, n11, n12, n13, n14, n15, n16, n17, n18, n19, n20, n24, n32, n56, n60, n64, n72, n99, n100, n128, n136, n142, n144, n200, n300, n999, n1000, n1500, n3464, nI_add, pk_mul] <;> first | rfl | (congr 1; omega))) (by omega) (by decide) (fun g107 eg107 => ?_)
        refine J_aload_n hS dX3_write_108 rfl ?_
        refine J_getR (t := 144) hS dX3_write_109 flX3_15 ob143 rfl ?_
        refine J_iload_n hS dX3_write_112 rfl ?_
        refine J_bipush (v := 7) hS dX3_write_113 (by decide) ?_
        refine J_iadd hS dX3_write_115 ?_
        refine J_iload hS dX3_write_116 rfl ?_
        refine J_iadd hS dX3_write_118 ?_
        refine J_aload_n hS dX3_write_119 rfl ?_
        refine J_getR (t := 150) hS dX3_write_120 flX3_50 ob148 rfl ?_
        refine J_iload hS dX3_write_123 rfl ?_
        refine J_ialdN hS (k) dX3_write_125 ar150 (by first | rfl | (simp only [n0, n1, n2, n3, n4, n5, n6, n7, n8, n9, n10, n11, n12, n13, n14, n15, n16, n17, n18, n19, n20, n24, n32, n56, n60, n64, n72, n99, n100, n128, n136, n142, n144, n200, n300, n999, n1000, n1500, n3464, nI_add, pk_mul] <;> first | rfl | (congr 1; omega))) (by omega) (by decide) ?_
        refine J_iastN hS (m * 19 + 7 + k) dX3_write_126 ar144 (by first | rfl | (simp only [n0, n1, n2, n3, n4, n5, n6, n7, n8, n9, n10, n11, n12, n13, n14, n15, n16, n17, n18, n19, n20, n24, n32, n56, n60, n64, n72, n99, n100, n128, n136, n142, n144, n200, n300, n999, n1000, n1500, n3464, nI_add, pk_mul] <;> first | rfl | (congr 1; omega))) (by omega) (by decide) (fun g126 eg126 => ?_)
        refine J_aload_n hS dX3_write_127 rfl ?_
        refine J_getR (t := 144) hS dX3_write_128 flX3_15 ob143 rfl ?_
        refine J_iload_n hS dX3_write_131 rfl ?_
        refine J_bipush (v := 11) hS dX3_write_132 (by decide) ?_
        refine J_iadd hS dX3_write_134 ?_
        refine J_iload hS dX3_write_135 rfl ?_
        refine J_iadd hS dX3_write_137 ?_
        refine J_aload_n hS dX3_write_138 rfl ?_
        refine J_getR (t := 151) hS dX3_write_139 flX3_53 ob148 rfl ?_
        refine J_iload hS dX3_write_142 rfl ?_
        refine J_ialdN hS (k) dX3_write_144 ar151 (by first | rfl | (simp only [n0, n1, n2, n3, n4, n5, n6, n7, n8, n9, n10, n11, n12, n13, n14, n15, n16, n17, n18, n19, n20, n24, n32, n56, n60, n64, n72, n99, n100, n128, n136, n142, n144, n200, n300, n999, n1000, n1500, n3464, nI_add, pk_mul] <;> first | rfl | (congr 1; omega))) (by omega) (by decide) ?_
        refine J_iastN hS (m * 19 + 11 + k) dX3_write_145 ar144 (by first | rfl | (simp only [n0, n1, n2, n3, n4, n5, n6, n7, n8, n9, n10, n11, n12, n13, n14, n15, n16, n17, n18, n19, n20, n24, n32, n56, n60, n64, n72, n99, n100, n128, n136, n142, n144, n200, n300, n999, n1000, n1500, n3464, nI_add, pk_mul] <;> first | rfl | (congr 1; omega))) (by omega) (by decide) (fun g145 eg145 => ?_)
        refine J_iinc (lt := fun i2 => [some (.ref 143), some (.ref h), some (.ref 148), some (.int (nI (m * 19))), some (.int i2)]) (v := 1) hS dX3_write_146 rfl (by decide) (fun _ => rfl) (fun i2 ei2 => ?_)
        refine J_goto (tgt := 84) hS dX3_write_149 (by decide) ?_
        have r9 : ∀ i, g145 144 i = if i = m * 19 + 11 + k then g 151 k else if i = m * 19 + 7 + k then g 150 k else if i = m * 19 + 3 + k then g 149 k else g1 144 i := by
          intro i
          rw [eg145, eg126, eg107]
          simp only [u2, true_and, show ¬ (151 = 144) by decide, show ¬ (150 = 144) by decide, false_and, if_false, f1 151 (by decide), f1 150 (by decide), f1 149 (by decide)]
        refine ih (k + 1) i2 g145 (by omega) (by rw [ei2]; exact nI_1 k) (fun z hz => by rw [eg145, u2_ne z hz, eg126, u2_ne z hz, eg107, u2_ne z hz]; exact f1 z hz) ?_ ?_
        · intro j hj
          by_cases e : j = k
          · subst e
            refine ⟨?_, ?_, ?_⟩
            · rw [r9, if_neg (by omega), if_neg (by omega), if_pos rfl]
            · rw [r9, if_neg (by omega), if_pos rfl]
            · rw [r9, if_pos rfl]
          · obtain ⟨z1, z2, z3⟩ := t1 j (by omega)
            refine ⟨?_, ?_, ?_⟩
            · rw [r9, if_neg (by omega), if_neg (by omega), if_neg (by omega)]; exact z1
            · rw [r9, if_neg (by omega), if_neg (by omega), if_neg (by omega)]; exact z2
            · rw [r9, if_neg (by omega), if_neg (by omega), if_neg (by omega)]; exact z3
        · intro i hi2
          rw [r9, if_neg (by omega), if_neg (by omega), if_neg (by omega)]; exact o1 i hi2
  · exact absurd (nI_lt hm (by decide)) c1
end ClsM


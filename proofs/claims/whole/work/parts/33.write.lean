/-! THE CLASS: films begin; laws are written -/
section ClsR
variable {l : Launch} {E : Ey} {g : Mm} {Q : Option Value → Mm → Prop} {X : String → Mm → Prop} {h : Nat}
set_option maxRecDepth 10000 in
theorem c_clear (hL : Lw h) (q : Q none (u2 (u2 g h 0 0) h 6 0)) : Ct l E lay NC 0 0 0 yX1_clear [.ref h] g Q X := by
  refine Ct_in k_yX1_clear (by decide) rfl (Nat.le_of_ble_eq_true rfl) rfl ?_
  intro S hS hZ hr ht hR
  show J S 0 0 g 0 [some (.ref h)] []
  refine J_aload_n hS dX1_clear_0 rfl ?_
  refine J_iconst (v := 0) hS dX1_clear_1 (by decide) ?_
  refine J_putI hS dX1_clear_2 fpX1_9 hL.ob rfl (fun g2 eg2 => ?_)
  refine J_aload_n hS dX1_clear_5 rfl ?_
  refine J_iconst (v := 0) hS dX1_clear_6 (by decide) ?_
  refine J_putI hS dX1_clear_7 fpX1_31 hL.ob rfl (fun g7 eg7 => ?_)
  refine J_vret hS hZ hr dX1_clear_10 (by omega) (by omega) ?_
  rw [eg7, eg2]; exact q
set_option maxRecDepth 10000 in
theorem c_beginClause (hL : Lw h) {k : Nat} {w : Int32} (hk : k ≤ 12) (ek : g h 0 = nI k) (q : k < 12 → Q none (u2 (u2 g (h + 1) k w) (h + 2) k (g h 6))) (q' : k = 12 → Q none g) : Ct l E lay NC 0 0 0 yX1_beginClause [.ref h, .int w] g Q X := by
  refine Ct_in k_yX1_beginClause (by decide) rfl (Nat.le_of_ble_eq_true rfl) rfl ?_
  intro S hS hZ hr ht hR
  show J S 0 0 g 0 [some (.ref h), some (.int w)] []
  refine J_aload_n hS dX1_beginClause_0 rfl ?_
  refine J_getI hS dX1_beginClause_1 flX1_9 hL.ob rfl ?_
  refine J_bipush (v := 12) hS dX1_beginClause_4 (by decide) ?_
  show J S 0 0 g 6 [some (.ref h), some (.int w)] [.int 12, .int _]
  rw [ek]
  refine J_icmp_ge (tgt := 32) hS dX1_beginClause_6 (by decide) (fun c1 => ?_) (fun c1 => ?_)
  · have hk2 : k = 12 := by
      rcases Nat.lt_or_ge k 12 with z | z
      · exact absurd c1 (nI_ge z (by decide))
      · omega
    refine J_vret hS hZ hr dX1_beginClause_32 (by omega) (by omega) ?_
    exact q' hk2
  · have hk2 : k < 12 := by
      rcases Nat.lt_or_ge k 12 with z | z
      · exact z
      · have z2 : k = 12 := by omega
        subst z2; exact absurd (by decide) c1
    refine J_aload_n hS dX1_beginClause_9 rfl ?_
    refine J_getR (t := h + 1) hS dX1_beginClause_10 flX1_15 hL.ob rfl ?_
    refine J_aload_n hS dX1_beginClause_13 rfl ?_
    refine J_getI hS dX1_beginClause_14 flX1_9 hL.ob rfl ?_
    show J S 0 0 g 17 [some (.ref h), some (.int w)] [.int _, .ref (h + 1)]
    rw [ek]
    refine J_iload_n hS dX1_beginClause_17 rfl ?_
    refine J_iastN hS (k) dX1_beginClause_18 (show Ar lay NC .int (h + 1) 12 from hL.ar 1 (by decide) (by decide)) (by first | rfl | (simp only [n0, n1, n2, n3, n4, n5, n6, n7, n8, n9, n10, n11, n12, n13, n14, n15, n16, n17, n18, n19, n20, n24, n32, n56, n60, n64, n72, n99, n100, n128, n136, n142, n144, n200, n300, n999, n1000, n1500, n3464, nI_add, pk_mul] <;> first | rfl | (congr 1; omega))) hk2 (by decide) (fun g18 eg18 => ?_)
    refine J_aload_n hS dX1_beginClause_19 rfl ?_
    refine J_getR (t := h + 2) hS dX1_beginClause_20 flX1_19 hL.ob rfl ?_
    refine J_aload_n hS dX1_beginClause_23 rfl ?_
    refine J_getI hS dX1_beginClause_24 flX1_9 hL.ob rfl ?_
    show J S 0 0 g18 27 [some (.ref h), some (.int w)] [.int _, .ref (h + 2)]
    rw [show g18 h 0 = nI k by rw [eg18, u2_ne h (by omega)]; exact ek]
    refine J_aload_n hS dX1_beginClause_27 rfl ?_
    refine J_getI hS dX1_beginClause_28 flX1_31 hL.ob rfl ?_
    refine J_iastN hS (k) dX1_beginClause_31 (show Ar lay NC .int (h + 2) 12 from hL.ar 2 (by decide) (by decide)) (by first | rfl | (simp only [n0, n1, n2, n3, n4, n5, n6, n7, n8, n9, n10, n11, n12, n13, n14, n15, n16, n17, n18, n19, n20, n24, n32, n56, n60, n64, n72, n99, n100, n128, n136, n142, n144, n200, n300, n999, n1000, n1500, n3464, nI_add, pk_mul] <;> first | rfl | (congr 1; omega))) hk2 (by decide) (fun g31 eg31 => ?_)
    refine J_vret hS hZ hr dX1_beginClause_32 (by omega) (by omega) ?_
    rw [eg31, show g18 h 6 = g h 6 by rw [eg18, u2_ne h (by omega)], eg18]; exact q hk2
set_option maxRecDepth 10000 in
theorem c_closeValue (hL : Lw h) {k : Nat} (hk : k ≤ 12) (ek : g h 0 = nI k) (q : k < 12 → Q none (u2 g (h + 3) k (g h 6))) (q' : k = 12 → Q none g) : Ct l E lay NC 0 0 0 yX1_closeValue [.ref h] g Q X := by
  refine Ct_in k_yX1_closeValue (by decide) rfl (Nat.le_of_ble_eq_true rfl) rfl ?_
  intro S hS hZ hr ht hR
  show J S 0 0 g 0 [some (.ref h)] []
  refine J_aload_n hS dX1_closeValue_0 rfl ?_
  refine J_getI hS dX1_closeValue_1 flX1_9 hL.ob rfl ?_
  refine J_bipush (v := 12) hS dX1_closeValue_4 (by decide) ?_
  show J S 0 0 g 6 [some (.ref h)] [.int 12, .int _]
  rw [ek]
  refine J_icmp_ge (tgt := 22) hS dX1_closeValue_6 (by decide) (fun c1 => ?_) (fun c1 => ?_)
  · have hk2 : k = 12 := by
      rcases Nat.lt_or_ge k 12 with z | z
      · exact absurd c1 (nI_ge z (by decide))
      · omega
    refine J_vret hS hZ hr dX1_closeValue_22 (by omega) (by omega) ?_
    exact q' hk2
  · have hk2 : k < 12 := by
      rcases Nat.lt_or_ge k 12 with z | z
      · exact z
      · have z2 : k = 12 := by omega
        subst z2; exact absurd (by decide) c1
    refine J_aload_n hS dX1_closeValue_9 rfl ?_
    refine J_getR (t := h + 3) hS dX1_closeValue_10 flX1_22 hL.ob rfl ?_
    refine J_aload_n hS dX1_closeValue_13 rfl ?_
    refine J_getI hS dX1_closeValue_14 flX1_9 hL.ob rfl ?_
    show J S 0 0 g 17 [some (.ref h)] [.int _, .ref (h + 3)]
    rw [ek]
    refine J_aload_n hS dX1_closeValue_17 rfl ?_
    refine J_getI hS dX1_closeValue_18 flX1_31 hL.ob rfl ?_
    refine J_iastN hS (k) dX1_closeValue_21 (show Ar lay NC .int (h + 3) 12 from hL.ar 3 (by decide) (by decide)) (by first | rfl | (simp only [n0, n1, n2, n3, n4, n5, n6, n7, n8, n9, n10, n11, n12, n13, n14, n15, n16, n17, n18, n19, n20, n24, n32, n56, n60, n64, n72, n99, n100, n128, n136, n142, n144, n200, n300, n999, n1000, n1500, n3464, nI_add, pk_mul] <;> first | rfl | (congr 1; omega))) hk2 (by decide) (fun g21 eg21 => ?_)
    refine J_vret hS hZ hr dX1_closeValue_22 (by omega) (by omega) ?_
    rw [eg21]; exact q hk2
set_option maxRecDepth 10000 in
theorem c_closeClause (hL : Lw h) {k : Nat} (hk : k ≤ 12) (ek : g h 0 = nI k) (q : k < 12 → Q none (u2 (u2 g (h + 4) k (g h 6)) h 0 (nI (k + 1)))) (q' : k = 12 → Q none g) : Ct l E lay NC 0 0 0 yX1_closeClause [.ref h] g Q X := by
  refine Ct_in k_yX1_closeClause (by decide) rfl (Nat.le_of_ble_eq_true rfl) rfl ?_
  intro S hS hZ hr ht hR
  show J S 0 0 g 0 [some (.ref h)] []
  refine J_aload_n hS dX1_closeClause_0 rfl ?_
  refine J_getI hS dX1_closeClause_1 flX1_9 hL.ob rfl ?_
  refine J_bipush (v := 12) hS dX1_closeClause_4 (by decide) ?_
  show J S 0 0 g 6 [some (.ref h)] [.int 12, .int _]
  rw [ek]
  refine J_icmp_ge (tgt := 32) hS dX1_closeClause_6 (by decide) (fun c1 => ?_) (fun c1 => ?_)
  · have hk2 : k = 12 := by
      rcases Nat.lt_or_ge k 12 with z | z
      · exact absurd c1 (nI_ge z (by decide))
      · omega
    refine J_vret hS hZ hr dX1_closeClause_32 (by omega) (by omega) ?_
    exact q' hk2
  · have hk2 : k < 12 := by
      rcases Nat.lt_or_ge k 12 with z | z
      · exact z
      · have z2 : k = 12 := by omega
        subst z2; exact absurd (by decide) c1
    refine J_aload_n hS dX1_closeClause_9 rfl ?_
    refine J_getR (t := h + 4) hS dX1_closeClause_10 flX1_25 hL.ob rfl ?_
    refine J_aload_n hS dX1_closeClause_13 rfl ?_
    refine J_getI hS dX1_closeClause_14 flX1_9 hL.ob rfl ?_
    show J S 0 0 g 17 [some (.ref h)] [.int _, .ref (h + 4)]
    rw [ek]
    refine J_aload_n hS dX1_closeClause_17 rfl ?_
    refine J_getI hS dX1_closeClause_18 flX1_31 hL.ob rfl ?_
    refine J_iastN hS (k) dX1_closeClause_21 (show Ar lay NC .int (h + 4) 12 from hL.ar 4 (by decide) (by decide)) (by first | rfl | (simp only [n0, n1, n2, n3, n4, n5, n6, n7, n8, n9, n10, n11, n12, n13, n14, n15, n16, n17, n18, n19, n20, n24, n32, n56, n60, n64, n72, n99, n100, n128, n136, n142, n144, n200, n300, n999, n1000, n1500, n3464, nI_add, pk_mul] <;> first | rfl | (congr 1; omega))) hk2 (by decide) (fun g21 eg21 => ?_)
    refine J_aload_n hS dX1_closeClause_22 rfl ?_
    refine J_dup hS dX1_closeClause_23 rfl ?_
    refine J_getI hS dX1_closeClause_24 flX1_9 hL.ob rfl ?_
    show J S 0 0 g21 27 [some (.ref h)] [.int _, .ref h]
    rw [show g21 h 0 = nI k by rw [eg21, u2_ne h (by omega)]; exact ek]
    refine J_iconst (v := 1) hS dX1_closeClause_27 (by decide) ?_
    refine J_iadd hS dX1_closeClause_28 ?_
    refine J_putI hS dX1_closeClause_29 fpX1_9 hL.ob rfl (fun g29 eg29 => ?_)
    refine J_vret hS hZ hr dX1_closeClause_32 (by omega) (by omega) ?_
    rw [eg29, show nI k + 1 = nI (k + 1) from nI_1 k, eg21]; exact q hk2
set_option maxRecDepth 10000 in
theorem c_put (hL : Lw h) {m : Nat} {x : Int32} (hm : m ≤ 300) (em : g h 6 = nI m) (q : m < 300 → Q none (u2 (u2 g (h + 5) m x) h 6 (nI (m + 1)))) (q' : m = 300 → Q none g) : Ct l E lay NC 0 0 0 yX1_put [.ref h, .int x] g Q X := by
  refine Ct_in k_yX1_put (by decide) rfl (Nat.le_of_ble_eq_true rfl) rfl ?_
  intro S hS hZ hr ht hR
  show J S 0 0 g 0 [some (.ref h), some (.int x)] []
  refine J_aload_n hS dX1_put_0 rfl ?_
  refine J_getI hS dX1_put_1 flX1_31 hL.ob rfl ?_
  refine J_sipush (v := 300) hS dX1_put_4 (by decide) ?_
  show J S 0 0 g 7 [some (.ref h), some (.int x)] [.int 300, .int _]
  rw [em]
  refine J_icmp_ge (tgt := 30) hS dX1_put_7 (by decide) (fun c1 => ?_) (fun c1 => ?_)
  · have hk2 : m = 300 := by
      rcases Nat.lt_or_ge m 300 with z | z
      · exact absurd c1 (nI_ge z (by decide))
      · omega
    refine J_vret hS hZ hr dX1_put_30 (by omega) (by omega) ?_
    exact q' hk2
  · have hk2 : m < 300 := by
      rcases Nat.lt_or_ge m 300 with z | z
      · exact z
      · have z2 : m = 300 := by omega
        subst z2; exact absurd (by decide) c1
    refine J_aload_n hS dX1_put_10 rfl ?_
    refine J_getR (t := h + 5) hS dX1_put_11 flX1_28 hL.ob rfl ?_
    refine J_aload_n hS dX1_put_14 rfl ?_
    refine J_getI hS dX1_put_15 flX1_31 hL.ob rfl ?_
    show J S 0 0 g 18 [some (.ref h), some (.int x)] [.int _, .ref (h + 5)]
    rw [em]
    refine J_iload_n hS dX1_put_18 rfl ?_
    refine J_iastN hS (m) dX1_put_19 (show Ar lay NC .int (h + 5) 300 from hL.ar 5 (by decide) (by decide)) (by first | rfl | (simp only [n0, n1, n2, n3, n4, n5, n6, n7, n8, n9, n10, n11, n12, n13, n14, n15, n16, n17, n18, n19, n20, n24, n32, n56, n60, n64, n72, n99, n100, n128, n136, n142, n144, n200, n300, n999, n1000, n1500, n3464, nI_add, pk_mul] <;> first | rfl | (congr 1; omega))) hk2 (by decide) (fun g19 eg19 => ?_)
    refine J_aload_n hS dX1_put_20 rfl ?_
    refine J_dup hS dX1_put_21 rfl ?_
    refine J_getI hS dX1_put_22 flX1_31 hL.ob rfl ?_
    show J S 0 0 g19 25 [some (.ref h), some (.int x)] [.int _, .ref h]
    rw [show g19 h 6 = nI m by rw [eg19, u2_ne h (by omega)]; exact em]
    refine J_iconst (v := 1) hS dX1_put_25 (by decide) ?_
    refine J_iadd hS dX1_put_26 ?_
    refine J_putI hS dX1_put_27 fpX1_31 hL.ob rfl (fun g27 eg27 => ?_)
    refine J_vret hS hZ hr dX1_put_30 (by omega) (by omega) ?_
    rw [eg27, show nI m + 1 = nI (m + 1) from nI_1 m, eg19]; exact q hk2
end ClsR


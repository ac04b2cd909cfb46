/-! THE CLASS: small methods of YardTalk and of World -/
section ClsA
variable {l : Launch} {E : Ey} {g : Mm} {Q : Option Value → Mm → Prop} {X : String → Mm → Prop} {h : Nat}
set_option maxRecDepth 10000 in
theorem c_signIndex {c p s : Nat} (q : Q (some (.int (nI ((c * 8 + p) * 16 + s)))) g) : Ct l E lay NC 0 0 0 yX7_signIndex [.int (nI c), .int (nI p), .int (nI s)] g Q X := by
  refine Ct_in k_yX7_signIndex (by decide) rfl (Nat.le_of_ble_eq_true rfl) rfl ?_
  intro S hS hZ hr ht hR
  show J S 0 0 g 0 [some (.int (nI c)), some (.int (nI p)), some (.int (nI s))] []
  refine J_iload_n hS dX7_signIndex_0 rfl ?_
  refine J_bipush (v := 8) hS dX7_signIndex_1 (by decide) ?_
  refine J_imul hS dX7_signIndex_3 ?_
  refine J_iload_n hS dX7_signIndex_4 rfl ?_
  refine J_iadd hS dX7_signIndex_5 ?_
  refine J_bipush (v := 16) hS dX7_signIndex_6 (by decide) ?_
  refine J_imul hS dX7_signIndex_8 ?_
  refine J_iload_n hS dX7_signIndex_9 rfl ?_
  refine J_iadd hS dX7_signIndex_10 ?_
  refine J_top (y := nI ((c * 8 + p) * 16 + s)) ?_ ?_
  · simp only [n8, n16, pk_mul, nI_add]
  ·
    refine J_iret hS hZ hr dX7_signIndex_11 (by omega) (by omega) ?_
    exact q
set_option maxRecDepth 10000 in
theorem c_roleAt {o p : Nat} (ho : o < 6) (hp : p < 3) (q : Q (some (.int (zRO (o * 3 + p)))) g) : Ct l E lay NC 0 0 0 yX7_roleAt [.int (nI o), .int (nI p)] g Q X := by
  refine Ct_in k_yX7_roleAt (by decide) rfl (Nat.le_of_ble_eq_true rfl) rfl ?_
  intro S hS hZ hr ht hR
  show J S 0 0 g 0 [some (.int (nI o)), some (.int (nI p))] []
  refine J_gets hS dX7_roleAt_0 stX7_387 ro_ROLES ?_
  refine J_iload_n hS dX7_roleAt_3 rfl ?_
  refine J_iconst (v := 3) hS dX7_roleAt_4 (by decide) ?_
  refine J_imul hS dX7_roleAt_5 ?_
  refine J_iload_n hS dX7_roleAt_6 rfl ?_
  refine J_iadd hS dX7_roleAt_7 ?_
  refine J_taldN hS (o * 3 + p) dX7_roleAt_8 ro_ROLESt (by first | rfl | (simp only [n0, n1, n2, n3, n4, n5, n6, n7, n8, n9, n10, n11, n12, n13, n14, n15, n16, n17, n18, n19, n20, n24, n32, n56, n60, n64, n72, n99, n100, n128, n136, n142, n144, n200, n300, n999, n1000, n1500, n3464, nI_add, pk_mul] <;> first | rfl | (congr 1; omega))) (by omega) (by decide) ?_
  refine J_iret hS hZ hr dX7_roleAt_9 (by omega) (by omega) ?_
  exact q
set_option maxRecDepth 10000 in
theorem c_conceptOf {x y : Int32} (q : Q (some (.int (if x = 1 then 4 + y else y))) g) : Ct l E lay NC 0 0 0 yX7_conceptOf [.int x, .int y] g Q X := by
  refine Ct_in k_yX7_conceptOf (by decide) rfl (Nat.le_of_ble_eq_true rfl) rfl ?_
  intro S hS hZ hr ht hR
  show J S 0 0 g 0 [some (.int x), some (.int y)] []
  refine J_iload_n hS dX7_conceptOf_0 rfl ?_
  refine J_iconst (v := 1) hS dX7_conceptOf_1 (by decide) ?_
  refine J_icmp_ne (tgt := 11) hS dX7_conceptOf_2 (by decide) (fun c => ?_) (fun c => ?_)
  ·
    refine J_iload_n hS dX7_conceptOf_11 rfl ?_
    refine J_iret hS hZ hr dX7_conceptOf_12 (by omega) (by omega) ?_
    rw [if_neg c] at q; exact q
  ·
    refine J_iconst (v := 4) hS dX7_conceptOf_5 (by decide) ?_
    refine J_iload_n hS dX7_conceptOf_6 rfl ?_
    refine J_iadd hS dX7_conceptOf_7 ?_
    refine J_goto (tgt := 12) hS dX7_conceptOf_8 (by decide) ?_
    refine J_iret hS hZ hr dX7_conceptOf_12 (by omega) (by omega) ?_
    rw [if_pos c] at q; exact q
set_option maxRecDepth 10000 in
theorem c_keepInBounds {x : Int32} (q : Q (some (.int (kb x))) g) : Ct l E lay NC 1 0 0 yX7_keepInBounds [.int x] g Q X := by
  refine Ct_in k_yX7_keepInBounds (by decide) rfl (Nat.le_of_ble_eq_true rfl) rfl ?_
  intro S hS hZ hr ht hR
  show J S 0 0 g 0 [some (.int x)] []
  refine J_iconst (v := 0) hS dX7_keepInBounds_0 (by decide) ?_
  refine J_sipush (v := 999) hS dX7_keepInBounds_1 (by decide) ?_
  refine J_iload_n hS dX7_keepInBounds_4 rfl ?_
  refine J_mmin hS dX7_keepInBounds_5 msX7_390.1 mm_min_st in_java_lang_Math mm_min_c rfl (by decide) (Nat.le_of_ble_eq_true rfl) hR ?_
  refine J_mmax hS dX7_keepInBounds_8 msX7_361.1 mm_max_st in_java_lang_Math mm_max_c rfl (by decide) (Nat.le_of_ble_eq_true rfl) hR ?_
  refine J_iret hS hZ hr dX7_keepInBounds_11 (by omega) (by omega) ?_
  exact q
set_option maxRecDepth 10000 in
theorem c_isOfFour {x : Int32} (q : Q (some (.int (b01 (¬ x < 0 ∧ ¬ 4 ≤ x)))) g) : Ct l E lay NC 0 0 0 yX7_isOfFour [.int x] g Q X := by
  refine Ct_in k_yX7_isOfFour (by decide) rfl (Nat.le_of_ble_eq_true rfl) rfl ?_
  intro S hS hZ hr ht hR
  show J S 0 0 g 0 [some (.int x)] []
  refine J_iload_n hS dX7_isOfFour_0 rfl ?_
  refine J_if_lt (tgt := 13) hS dX7_isOfFour_1 (by decide) (fun c => ?_) (fun c => ?_)
  ·
    refine J_iconst (v := 0) hS dX7_isOfFour_13 (by decide) ?_
    refine J_zret hS hZ hr dX7_isOfFour_14 (by decide) (by omega) (by omega) ?_
    rw [b01_f (by simp [c])] at q; exact q
  ·
    refine J_iload_n hS dX7_isOfFour_4 rfl ?_
    refine J_iconst (v := 4) hS dX7_isOfFour_5 (by decide) ?_
    refine J_icmp_ge (tgt := 13) hS dX7_isOfFour_6 (by decide) (fun d => ?_) (fun d => ?_)
    ·
      refine J_iconst (v := 0) hS dX7_isOfFour_13 (by decide) ?_
      refine J_zret hS hZ hr dX7_isOfFour_14 (by decide) (by omega) (by omega) ?_
      rw [b01_f (by simp [d])] at q; exact q
    ·
      refine J_iconst (v := 1) hS dX7_isOfFour_9 (by decide) ?_
      refine J_goto (tgt := 14) hS dX7_isOfFour_10 (by decide) ?_
      refine J_zret hS hZ hr dX7_isOfFour_14 (by decide) (by omega) (by omega) ?_
      rw [b01_t ⟨c, d⟩] at q; exact q
set_option maxRecDepth 10000 in
theorem c_advance {x : Int32} (q : Q (some (.int (adv x))) g) : Ct l E lay NC 0 0 0 yX6_advance [.int x] g Q X := by
  refine Ct_in k_yX6_advance (by decide) rfl (Nat.le_of_ble_eq_true rfl) rfl ?_
  intro S hS hZ hr ht hR
  show J S 0 0 g 0 [some (.int x)] []
  refine J_iload_n hS dX6_advance_0 rfl ?_
  refine J_ldc hS dX6_advance_1 ctX6_70 ?_
  refine J_imul hS dX6_advance_3 ?_
  refine J_sipush (v := 12345) hS dX6_advance_4 (by decide) ?_
  refine J_iadd hS dX6_advance_7 ?_
  refine J_iret hS hZ hr dX6_advance_8 (by omega) (by omega) ?_
  exact q
set_option maxRecDepth 10000 in
theorem c_pick {x : Int32} {n : Nat} (h0 : 0 < n) (hn : n < 2 ^ 31) (q : Q (some (.int (nI (dr x n)))) g) : Ct l E lay NC 0 0 0 yX6_pick [.int x, .int (nI n)] g Q X := by
  refine Ct_in k_yX6_pick (by decide) rfl (Nat.le_of_ble_eq_true rfl) rfl ?_
  intro S hS hZ hr ht hR
  show J S 0 0 g 0 [some (.int x), some (.int (nI n))] []
  refine J_iload_n hS dX6_pick_0 rfl ?_
  refine J_if_gt (tgt := 8) hS dX6_pick_1 (by decide) (fun c => ?_) (fun c => ?_)
  ·
    refine J_iload_n hS dX6_pick_8 rfl ?_
    refine J_bipush (v := 16) hS dX6_pick_9 (by decide) ?_
    refine J_iushr hS dX6_pick_11 rfl ?_
    refine J_sipush (v := 32767) hS dX6_pick_12 (by decide) ?_
    refine J_iand hS dX6_pick_15 ?_
    refine J_iload_n hS dX6_pick_16 rfl ?_
    refine J_irem hS dX6_pick_17 (nI_ne0 h0 hn) ?_
    refine J_top (y := nI (dr x n)) ?_ ?_
    · rw [dr_u]; exact nI_rem (Nat.mod_lt _ (by decide)) h0 hn
    ·
      refine J_iret hS hZ hr dX6_pick_18 (by omega) (by omega) ?_
      exact q
  · exact absurd (by have := nI_lt h0 hn; simpa [nI_0] using this) c
set_option maxRecDepth 10000 in
theorem c_drawChoice (hW : Wo h) {n : Nat} (h0 : 0 < n) (hn : n < 2 ^ 31) (q : Q (some (.int (nI (dr (adv (g h 0)) n)))) (u2 g h 0 (adv (g h 0)))) : Ct l E lay NC 1 0 0 yX6_drawChoice [.ref h, .int (nI n)] g Q X := by
  refine Ct_in k_yX6_drawChoice (by decide) rfl (Nat.le_of_ble_eq_true rfl) rfl ?_
  intro S hS hZ hr ht hR
  show J S 0 0 g 0 [some (.ref h), some (.int (nI n))] []
  refine J_aload_n hS dX6_drawChoice_0 rfl ?_
  refine J_aload_n hS dX6_drawChoice_1 rfl ?_
  refine J_getI hS dX6_drawChoice_2 flX6_9 hW.ob rfl ?_
  refine J_callS1 (X' := fun _ _ => False) hS dX6_drawChoice_5 msX6_71 rfl (by decide) (by decide) (Nat.le_of_ble_eq_true rfl) hR (fun _ _ q => q.elim) (c_advance ?_)
  refine J_putI hS dX6_drawChoice_8 fpX6_9 hW.ob rfl (fun g8 eg8 => ?_)
  refine J_aload_n hS dX6_drawChoice_11 rfl ?_
  refine J_getI hS dX6_drawChoice_12 flX6_9 hW.ob rfl ?_
  refine J_iload_n hS dX6_drawChoice_15 rfl ?_
  subst eg8
  have e : u2 g h 0 (adv (g h 0)) h 0 = adv (g h 0) := by simp [u2]
  rw [e]
  refine J_callS2 (X' := fun _ _ => False) hS dX6_drawChoice_16 msX6_75 rfl (by decide) (by decide) (Nat.le_of_ble_eq_true rfl) hR (fun _ _ q => q.elim) (c_pick h0 hn ?_)
  refine J_iret hS hZ hr dX6_drawChoice_19 (by omega) (by omega) ?_
  exact q
set_option maxRecDepth 10000 in
theorem c_drawChance (hW : Wo h) {n : Nat} (h0 : 0 < n) (hn : n < 2 ^ 31) (q : Q (some (.int (nI (dr (adv (g h 1)) n)))) (u2 g h 1 (adv (g h 1)))) : Ct l E lay NC 1 0 0 yX6_drawChance [.ref h, .int (nI n)] g Q X := by
  refine Ct_in k_yX6_drawChance (by decide) rfl (Nat.le_of_ble_eq_true rfl) rfl ?_
  intro S hS hZ hr ht hR
  show J S 0 0 g 0 [some (.ref h), some (.int (nI n))] []
  refine J_aload_n hS dX6_drawChance_0 rfl ?_
  refine J_aload_n hS dX6_drawChance_1 rfl ?_
  refine J_getI hS dX6_drawChance_2 flX6_15 hW.ob rfl ?_
  refine J_callS1 (X' := fun _ _ => False) hS dX6_drawChance_5 msX6_71 rfl (by decide) (by decide) (Nat.le_of_ble_eq_true rfl) hR (fun _ _ q => q.elim) (c_advance ?_)
  refine J_putI hS dX6_drawChance_8 fpX6_15 hW.ob rfl (fun g8 eg8 => ?_)
  refine J_aload_n hS dX6_drawChance_11 rfl ?_
  refine J_getI hS dX6_drawChance_12 flX6_15 hW.ob rfl ?_
  refine J_iload_n hS dX6_drawChance_15 rfl ?_
  subst eg8
  have e : u2 g h 1 (adv (g h 1)) h 1 = adv (g h 1) := by simp [u2]
  rw [e]
  refine J_callS2 (X' := fun _ _ => False) hS dX6_drawChance_16 msX6_75 rfl (by decide) (by decide) (Nat.le_of_ble_eq_true rfl) hR (fun _ _ q => q.elim) (c_pick h0 hn ?_)
  refine J_iret hS hZ hr dX6_drawChance_19 (by omega) (by omega) ?_
  exact q
set_option maxRecDepth 10000 in
theorem c_yearsHere (hW : Wo h) {c : Nat} (hc : c < 24) (q : Q (some (.int (g h 2 - g (h + 3) c))) g) : Ct l E lay NC 0 0 0 yX6_yearsHere [.ref h, .int (nI c)] g Q X := by
  refine Ct_in k_yX6_yearsHere (by decide) rfl (Nat.le_of_ble_eq_true rfl) rfl ?_
  intro S hS hZ hr ht hR
  show J S 0 0 g 0 [some (.ref h), some (.int (nI c))] []
  refine J_aload_n hS dX6_yearsHere_0 rfl ?_
  refine J_getI hS dX6_yearsHere_1 flX6_18 hW.ob rfl ?_
  refine J_aload_n hS dX6_yearsHere_4 rfl ?_
  refine J_getR (t := h + 3) hS dX6_yearsHere_5 flX6_40 hW.ob rfl ?_
  refine J_iload_n hS dX6_yearsHere_8 rfl ?_
  refine J_ialdN hS (c) dX6_yearsHere_9 (show Ar lay NC .int (h + 3) 24 from hW.ar 3 (by decide) (by decide)) (by first | rfl | (simp only [n0, n1, n2, n3, n4, n5, n6, n7, n8, n9, n10, n11, n12, n13, n14, n15, n16, n17, n18, n19, n20, n24, n32, n56, n60, n64, n72, n99, n100, n128, n136, n142, n144, n200, n300, n999, n1000, n1500, n3464, nI_add, pk_mul] <;> first | rfl | (congr 1; omega))) hc (by decide) ?_
  refine J_isub hS dX6_yearsHere_10 ?_
  refine J_iret hS hZ hr dX6_yearsHere_11 (by omega) (by omega) ?_
  exact q
set_option maxRecDepth 10000 in
theorem c_ageNow (hW : Wo h) {c : Nat} (hc : c < 24) (q : Q (some (.int (g (h + 2) c + (g h 2 - g (h + 3) c)))) g) : Ct l E lay NC 1 0 0 yX6_ageNow [.ref h, .int (nI c)] g Q X := by
  refine Ct_in k_yX6_ageNow (by decide) rfl (Nat.le_of_ble_eq_true rfl) rfl ?_
  intro S hS hZ hr ht hR
  show J S 0 0 g 0 [some (.ref h), some (.int (nI c))] []
  refine J_aload_n hS dX6_ageNow_0 rfl ?_
  refine J_getR (t := h + 2) hS dX6_ageNow_1 flX6_37 hW.ob rfl ?_
  refine J_iload_n hS dX6_ageNow_4 rfl ?_
  refine J_ialdN hS (c) dX6_ageNow_5 (show Ar lay NC .int (h + 2) 24 from hW.ar 2 (by decide) (by decide)) (by first | rfl | (simp only [n0, n1, n2, n3, n4, n5, n6, n7, n8, n9, n10, n11, n12, n13, n14, n15, n16, n17, n18, n19, n20, n24, n32, n56, n60, n64, n72, n99, n100, n128, n136, n142, n144, n200, n300, n999, n1000, n1500, n3464, nI_add, pk_mul] <;> first | rfl | (congr 1; omega))) hc (by decide) ?_
  refine J_aload_n hS dX6_ageNow_6 rfl ?_
  refine J_iload_n hS dX6_ageNow_7 rfl ?_
  refine J_callV1 (X' := fun _ _ => False) hS dX6_ageNow_8 mvX6_87 hW.ob rfl (by decide) (by decide) (Nat.le_of_ble_eq_true rfl) hR (fun _ _ q => q.elim) (c_yearsHere hW hc ?_)
  refine J_iadd hS dX6_ageNow_11 ?_
  refine J_iret hS hZ hr dX6_ageNow_12 (by omega) (by omega) ?_
  exact q
set_option maxRecDepth 10000 in
theorem c_isThere (hW : Wo h) {c : Nat} (hc : c < 24) {y : Int32} (q : Q (some (.int (b01 (g (h + 5) c = 1 ∧ g (h + 1) c = y)))) g) : Ct l E lay NC 0 0 0 yX6_isThere [.ref h, .int (nI c), .int y] g Q X := by
  refine Ct_in k_yX6_isThere (by decide) rfl (Nat.le_of_ble_eq_true rfl) rfl ?_
  intro S hS hZ hr ht hR
  show J S 0 0 g 0 [some (.ref h), some (.int (nI c)), some (.int y)] []
  refine J_aload_n hS dX6_isThere_0 rfl ?_
  refine J_getR (t := h + 5) hS dX6_isThere_1 flX6_46 hW.ob rfl ?_
  refine J_iload_n hS dX6_isThere_4 rfl ?_
  refine J_ialdN hS (c) dX6_isThere_5 (show Ar lay NC .int (h + 5) 24 from hW.ar 5 (by decide) (by decide)) (by first | rfl | (simp only [n0, n1, n2, n3, n4, n5, n6, n7, n8, n9, n10, n11, n12, n13, n14, n15, n16, n17, n18, n19, n20, n24, n32, n56, n60, n64, n72, n99, n100, n128, n136, n142, n144, n200, n300, n999, n1000, n1500, n3464, nI_add, pk_mul] <;> first | rfl | (congr 1; omega))) hc (by decide) ?_
  refine J_iconst (v := 1) hS dX6_isThere_6 (by decide) ?_
  refine J_icmp_ne (tgt := 24) hS dX6_isThere_7 (by decide) (fun c1 => ?_) (fun c1 => ?_)
  ·
    refine J_iconst (v := 0) hS dX6_isThere_24 (by decide) ?_
    refine J_zret hS hZ hr dX6_isThere_25 (by decide) (by omega) (by omega) ?_
    rw [b01_f (by simp [c1])] at q; exact q
  ·
    refine J_aload_n hS dX6_isThere_10 rfl ?_
    refine J_getR (t := h + 1) hS dX6_isThere_11 flX6_33 hW.ob rfl ?_
    refine J_iload_n hS dX6_isThere_14 rfl ?_
    refine J_ialdN hS (c) dX6_isThere_15 (show Ar lay NC .int (h + 1) 24 from hW.ar 1 (by decide) (by decide)) (by first | rfl | (simp only [n0, n1, n2, n3, n4, n5, n6, n7, n8, n9, n10, n11, n12, n13, n14, n15, n16, n17, n18, n19, n20, n24, n32, n56, n60, n64, n72, n99, n100, n128, n136, n142, n144, n200, n300, n999, n1000, n1500, n3464, nI_add, pk_mul] <;> first | rfl | (congr 1; omega))) hc (by decide) ?_
    refine J_iload_n hS dX6_isThere_16 rfl ?_
    refine J_icmp_ne (tgt := 24) hS dX6_isThere_17 (by decide) (fun c2 => ?_) (fun c2 => ?_)
    ·
      refine J_iconst (v := 0) hS dX6_isThere_24 (by decide) ?_
      refine J_zret hS hZ hr dX6_isThere_25 (by decide) (by omega) (by omega) ?_
      rw [b01_f (by simp [c2])] at q; exact q
    ·
      refine J_iconst (v := 1) hS dX6_isThere_20 (by decide) ?_
      refine J_goto (tgt := 25) hS dX6_isThere_21 (by decide) ?_
      refine J_zret hS hZ hr dX6_isThere_25 (by decide) (by omega) (by omega) ?_
      rw [b01_t ⟨c1, c2⟩] at q; exact q
set_option maxRecDepth 10000 in
theorem c_areTogether (hW : Wo h) {c e : Nat} (hc : c < 24) (he : e < 24) (q : Q (some (.int (b01 (g (h + 5) c = 1 ∧ g (h + 5) e = 1 ∧ g (h + 1) c = g (h + 1) e)))) g) : Ct l E lay NC 0 0 0 yX6_areTogether [.ref h, .int (nI c), .int (nI e)] g Q X := by
  refine Ct_in k_yX6_areTogether (by decide) rfl (Nat.le_of_ble_eq_true rfl) rfl ?_
  intro S hS hZ hr ht hR
  show J S 0 0 g 0 [some (.ref h), some (.int (nI c)), some (.int (nI e))] []
  refine J_aload_n hS dX6_areTogether_0 rfl ?_
  refine J_getR (t := h + 5) hS dX6_areTogether_1 flX6_46 hW.ob rfl ?_
  refine J_iload_n hS dX6_areTogether_4 rfl ?_
  refine J_ialdN hS (c) dX6_areTogether_5 (show Ar lay NC .int (h + 5) 24 from hW.ar 5 (by decide) (by decide)) (by first | rfl | (simp only [n0, n1, n2, n3, n4, n5, n6, n7, n8, n9, n10, n11, n12, n13, n14, n15, n16, n17, n18, n19, n20, n24, n32, n56, n60, n64, n72, n99, n100, n128, n136, n142, n144, n200, n300, n999, n1000, n1500, n3464, nI_add, pk_mul] <;> first | rfl | (congr 1; omega))) hc (by decide) ?_
  refine J_iconst (v := 1) hS dX6_areTogether_6 (by decide) ?_
  refine J_icmp_ne (tgt := 39) hS dX6_areTogether_7 (by decide) (fun c1 => ?_) (fun c1 => ?_)
  ·
    refine J_iconst (v := 0) hS dX6_areTogether_39 (by decide) ?_
    refine J_zret hS hZ hr dX6_areTogether_40 (by decide) (by omega) (by omega) ?_
    rw [b01_f (by simp [c1])] at q; exact q
  ·
    refine J_aload_n hS dX6_areTogether_10 rfl ?_
    refine J_getR (t := h + 5) hS dX6_areTogether_11 flX6_46 hW.ob rfl ?_
    refine J_iload_n hS dX6_areTogether_14 rfl ?_
    refine J_ialdN hS (e) dX6_areTogether_15 (show Ar lay NC .int (h + 5) 24 from hW.ar 5 (by decide) (by decide)) (by first | rfl | (simp only [n0, n1, n2, n3, n4, n5, n6, n7, n8, n9, n10, n11, n12, n13, n14, n15, n16, n17, n18, n19, n20, n24, n32, n56, n60, n64, n72, n99, n100, n128, n136, n142, n144, n200, n300, n999, n1000, n1500, n3464, nI_add, pk_mul] <;> first | rfl | (congr 1; omega))) he (by decide) ?_
    refine J_iconst (v := 1) hS dX6_areTogether_16 (by decide) ?_
    refine J_icmp_ne (tgt := 39) hS dX6_areTogether_17 (by decide) (fun c2 => ?_) (fun c2 => ?_)
    ·
      refine J_iconst (v := 0) hS dX6_areTogether_39 (by decide) ?_
      refine J_zret hS hZ hr dX6_areTogether_40 (by decide) (by omega) (by omega) ?_
      rw [b01_f (by simp [c2])] at q; exact q
    ·
      refine J_aload_n hS dX6_areTogether_20 rfl ?_
      refine J_getR (t := h + 1) hS dX6_areTogether_21 flX6_33 hW.ob rfl ?_
      refine J_iload_n hS dX6_areTogether_24 rfl ?_
      refine J_ialdN hS (c) dX6_areTogether_25 (show Ar lay NC .int (h + 1) 24 from hW.ar 1 (by decide) (by decide)) (by first | rfl | (simp only [n0, n1, n2, n3, n4, n5, n6, n7, n8, n9, n10, n11, n12, n13, n14, n15, n16, n17, n18, n19, n20, n24, n32, n56, n60, n64, n72, n99, n100, n128, n136, n142, n144, n200, n300, n999, n1000, n1500, n3464, nI_add, pk_mul] <;> first | rfl | (congr 1; omega))) hc (by decide) ?_
      refine J_aload_n hS dX6_areTogether_26 rfl ?_
      refine J_getR (t := h + 1) hS dX6_areTogether_27 flX6_33 hW.ob rfl ?_
      refine J_iload_n hS dX6_areTogether_30 rfl ?_
      refine J_ialdN hS (e) dX6_areTogether_31 (show Ar lay NC .int (h + 1) 24 from hW.ar 1 (by decide) (by decide)) (by first | rfl | (simp only [n0, n1, n2, n3, n4, n5, n6, n7, n8, n9, n10, n11, n12, n13, n14, n15, n16, n17, n18, n19, n20, n24, n32, n56, n60, n64, n72, n99, n100, n128, n136, n142, n144, n200, n300, n999, n1000, n1500, n3464, nI_add, pk_mul] <;> first | rfl | (congr 1; omega))) he (by decide) ?_
      refine J_icmp_ne (tgt := 39) hS dX6_areTogether_32 (by decide) (fun c3 => ?_) (fun c3 => ?_)
      ·
        refine J_iconst (v := 0) hS dX6_areTogether_39 (by decide) ?_
        refine J_zret hS hZ hr dX6_areTogether_40 (by decide) (by omega) (by omega) ?_
        rw [b01_f (by simp [c3])] at q; exact q
      ·
        refine J_iconst (v := 1) hS dX6_areTogether_35 (by decide) ?_
        refine J_goto (tgt := 40) hS dX6_areTogether_36 (by decide) ?_
        refine J_zret hS hZ hr dX6_areTogether_40 (by decide) (by omega) (by omega) ?_
        rw [b01_t ⟨c1, c2, c3⟩] at q; exact q
set_option maxRecDepth 10000 in
theorem c_heaviestSign (hW : Wo h) {c p : Nat} (hc : c < 24) (hp : p < 8) (q : Q (some (.int (hvy (fun s => g (h + 8) ((c * 8 + p) * 16 + s)) 16))) g) : Ct l E lay NC 1 0 0 yX6_heaviestSign [.ref h, .int (nI c), .int (nI p)] g Q X := by
  refine Ct_in k_yX6_heaviestSign (by decide) rfl (Nat.le_of_ble_eq_true rfl) rfl ?_
  intro S hS hZ hr ht hR
  show J S 0 0 g 0 [some (.ref h), some (.int (nI c)), some (.int (nI p)), none, none, none, none] []
  refine J_iconst (v := (-1)) hS dX6_heaviestSign_0 (by decide) ?_
  refine J_istore_n (lt := fun b1 => [some (.ref h), some (.int (nI c)), some (.int (nI p)), some (.int b1), none, none, none]) hS dX6_heaviestSign_1 (Nat.le_of_ble_eq_true rfl) (fun _ => rfl) (fun b1 eb1 => ?_)
  refine J_iconst (v := 0) hS dX6_heaviestSign_2 (by decide) ?_
  refine J_istore (lt := fun m1 => [some (.ref h), some (.int (nI c)), some (.int (nI p)), some (.int b1), some (.int m1), none, none]) hS dX6_heaviestSign_3 (Nat.le_of_ble_eq_true rfl) (fun _ => rfl) (fun m1 em1 => ?_)
  refine J_iconst (v := 0) hS dX6_heaviestSign_5 (by decide) ?_
  refine J_istore (lt := fun i1 => [some (.ref h), some (.int (nI c)), some (.int (nI p)), some (.int b1), some (.int m1), some (.int i1), none]) hS dX6_heaviestSign_6 (Nat.le_of_ble_eq_true rfl) (fun _ => rfl) (fun i1 ei1 => ?_)
  obtain ⟨f, hf⟩ : ∃ f : Nat → Int32, f = fun s => g (h + 8) ((c * 8 + p) * 16 + s) := ⟨_, rfl⟩
  rw [← hf] at q
  suffices H : ∀ (r k : Nat) (b m i : Int32), k + r = 16 → i = nI k → (b, m) = hvs f k → J S 0 0 g 8 [some (.ref h), some (.int (nI c)), some (.int (nI p)), some (.int b), some (.int m), some (.int i), none] [] by
    refine J_weak (ls' := [some (.ref h), some (.int (nI c)), some (.int (nI p)), some (.int b1), some (.int m1), some (.int i1), none]) ⟨Or.inr rfl, Or.inr rfl, Or.inr rfl, Or.inr rfl, Or.inr rfl, Or.inr rfl, Or.inl rfl, trivial⟩ ?_
    exact H 16 0 b1 m1 i1 rfl ei1 (by rw [eb1, em1]; rfl)
  intro r
  induction r with
  | zero =>
    intro k b m i hk hi hb
    refine J_iload hS dX6_heaviestSign_8 rfl ?_
    refine J_bipush (v := 16) hS dX6_heaviestSign_10 (by decide) ?_
    refine J_icmp_ge (tgt := 49) hS dX6_heaviestSign_12 (by decide) (fun c1 => ?_) (fun c1 => ?_)
    ·
      refine J_iload_n hS dX6_heaviestSign_49 rfl ?_
      refine J_iret hS hZ hr dX6_heaviestSign_50 (by omega) (by omega) ?_
      rw [show b = hvy f 16 from by rw [← hvs_end (by decide), show (16 : Nat) = k by omega, ← hb]]
      exact q
    · exact absurd (by rw [hi, show k = 16 by omega]; decide) c1
  | succ r ih =>
    intro k b m i hk hi hb
    refine J_iload hS dX6_heaviestSign_8 rfl ?_
    refine J_bipush (v := 16) hS dX6_heaviestSign_10 (by decide) ?_
    refine J_icmp_ge (tgt := 49) hS dX6_heaviestSign_12 (by decide) (fun c1 => ?_) (fun c1 => ?_)
    · exact absurd (by rw [hi] at c1; exact c1) (nI_ge (show k < 16 by omega) (by decide))
    · subst hi
      refine J_aload_n hS dX6_heaviestSign_15 rfl ?_
      refine J_getR (t := h + 8) hS dX6_heaviestSign_16 flX6_55 hW.ob rfl ?_
      refine J_iload_n hS dX6_heaviestSign_19 rfl ?_
      refine J_iload_n hS dX6_heaviestSign_20 rfl ?_
      refine J_iload hS dX6_heaviestSign_21 rfl ?_
      refine J_callN3 hS dX6_heaviestSign_23 mnX6_83 rfl (by decide) (by decide) (Nat.le_of_ble_eq_true rfl) hR (c_signIndex ?_)
      refine J_ialdN hS ((c * 8 + p) * 16 + k) dX6_heaviestSign_26 (show Ar lay NC .int (h + 8) 3072 from hW.ar 8 (by decide) (by decide)) (by first | rfl | (simp only [n0, n1, n2, n3, n4, n5, n6, n7, n8, n9, n10, n11, n12, n13, n14, n15, n16, n17, n18, n19, n20, n24, n32, n56, n60, n64, n72, n99, n100, n128, n136, n142, n144, n200, n300, n999, n1000, n1500, n3464, nI_add, pk_mul] <;> first | rfl | (congr 1; omega))) (by omega) (by decide) ?_
      refine J_istore (lt := fun w => [some (.ref h), some (.int (nI c)), some (.int (nI p)), some (.int b), some (.int m), some (.int (nI k)), some (.int w)]) hS dX6_heaviestSign_27 (Nat.le_of_ble_eq_true rfl) (fun _ => rfl) (fun w ew => ?_)
      refine J_iload hS dX6_heaviestSign_29 rfl ?_
      refine J_iload hS dX6_heaviestSign_31 rfl ?_
      have hs := hvs_step (f := f) (i := k)
      rw [← hb] at hs
      have ew' : w = f k := by rw [ew, hf]
      refine J_icmp_le (tgt := 43) hS dX6_heaviestSign_33 (by decide) (fun c2 => ?_) (fun c2 => ?_)
      ·
        refine J_iinc (lt := fun i2 => [some (.ref h), some (.int (nI c)), some (.int (nI p)), some (.int b), some (.int m), some (.int i2), some (.int w)]) (v := 1) hS dX6_heaviestSign_43 rfl (by decide) (fun _ => rfl) (fun i2 ei2 => ?_)
        refine J_goto (tgt := 8) hS dX6_heaviestSign_46 (by decide) ?_
        refine J_weak (ls' := [some (.ref h), some (.int (nI c)), some (.int (nI p)), some (.int b), some (.int m), some (.int i2), none]) ⟨Or.inr rfl, Or.inr rfl, Or.inr rfl, Or.inr rfl, Or.inr rfl, Or.inr rfl, Or.inl rfl, trivial⟩ ?_
        refine ih (k + 1) b m i2 (by omega) (by rw [ei2]; exact nI_1 k) ?_
        rw [hs, if_neg]
        rw [← ew']; exact Int32.not_lt.mpr c2
      ·
        refine J_iload hS dX6_heaviestSign_36 rfl ?_
        refine J_istore (lt := fun m2 => [some (.ref h), some (.int (nI c)), some (.int (nI p)), some (.int b), some (.int m2), some (.int (nI k)), some (.int w)]) hS dX6_heaviestSign_38 (Nat.le_of_ble_eq_true rfl) (fun _ => rfl) (fun m2 em2 => ?_)
        refine J_iload hS dX6_heaviestSign_40 rfl ?_
        refine J_istore_n (lt := fun b2 => [some (.ref h), some (.int (nI c)), some (.int (nI p)), some (.int b2), some (.int m2), some (.int (nI k)), some (.int w)]) hS dX6_heaviestSign_42 (Nat.le_of_ble_eq_true rfl) (fun _ => rfl) (fun b2 eb2 => ?_)
        refine J_iinc (lt := fun i2 => [some (.ref h), some (.int (nI c)), some (.int (nI p)), some (.int b2), some (.int m2), some (.int i2), some (.int w)]) (v := 1) hS dX6_heaviestSign_43 rfl (by decide) (fun _ => rfl) (fun i2 ei2 => ?_)
        refine J_goto (tgt := 8) hS dX6_heaviestSign_46 (by decide) ?_
        refine J_weak (ls' := [some (.ref h), some (.int (nI c)), some (.int (nI p)), some (.int b2), some (.int m2), some (.int i2), none]) ⟨Or.inr rfl, Or.inr rfl, Or.inr rfl, Or.inr rfl, Or.inr rfl, Or.inr rfl, Or.inl rfl, trivial⟩ ?_
        refine ih (k + 1) b2 m2 i2 (by omega) (by rw [ei2]; exact nI_1 k) ?_
        rw [hs, if_pos, eb2, em2, ew']
        rw [← ew']; exact Int32.not_le.mp c2
end ClsA


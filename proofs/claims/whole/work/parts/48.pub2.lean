/-! THE CLASS: public methods, II -/
def fed (a b c d e : Int32) (j : Nat) : Int32 := if j = 0 then a else if j = 1 then b else if j = 2 then c else if j = 3 then d else e
theorem ou_tab {b : Nat} {w : Int32} (h : ou b w) (hb : b < 2 ^ 31 := by decide) : w.toInt < 0 ∨ ((b : Int) - 1) < w.toInt := by
  rcases h with z | z
  · exact Or.inl (by rw [Int32.lt_iff_toInt_lt] at z; exact z)
  · refine Or.inr ?_
    rw [Int32.le_iff_toInt_le, nI_toInt hb] at z
    omega
section ClsP2
variable {l : Launch} {E : Ey} {g : Mm} {Q : Option Value → Mm → Prop} {X : String → Mm → Prop} {h : Nat}
theorem c_of {n : Nat} {c w : Int32} {Ls : List (List Cls)} (hl : LawsC g Ls) (hv : isLw Ls.length (wv g 2 5)) (hn : n ≤ 24) (hm : g 2 6 = nI n) (x : ou n c → X eNS g) (x2 : ¬ ou n c → ou 7 w → X eIA g) (q0 : ∀ k, k < n → c = nI k → w = 0 → Q (some (.int (g 3 k))) g) (q1 : ∀ k, k < n → c = nI k → w = 1 → Q (some (.int (g 4 k + (g 2 2 - g 5 k)))) g) (q2 : ∀ k, k < n → c = nI k → w = 2 → Q (some (.int (g 6 k))) g) (q3 : ∀ k, k < n → c = nI k → w = 3 → Q (some (.int (g 7 k))) g) (q4 : ∀ k, k < n → c = nI k → w = 4 → Q (some (.int (g 8 k))) g) (q5 : ∀ k, k < n → c = nI k → w = 5 → Q (some (.int (g 9 k))) g)
    (q6 : ∀ k, k < n → c = nI k → w = 6 → ∀ g', (∀ z, z ≠ 152 → z ≠ 153 → z ≠ 154 → g' z = g z) → Q (some (.int (nI (here (fun o => hldB (lwOf Ls (wv g 2 5)) (-1) (wv g 2) k o) 6).length))) g') : Ct l E lay NC 8 1 6 yX7_of [.ref 1, .int c, .int w] g Q X := by
  refine Ct_in k_yX7_of (by decide) rfl (Nat.le_of_ble_eq_true rfl) rfl ?_
  intro S hS hZ hr ht hR
  show J S 0 0 (g) 0 [some (.ref 1), some (.int c), some (.int w)] []
  refine J_aload_n hS dX7_of_0 rfl ?_
  refine J_iload_n hS dX7_of_1 rfl ?_
  rcases in_or (y := c) (b := n) (by first | decide | omega) with ⟨k, hk, ek⟩ | hbk
  ·
    subst ek
    refine J_callV1 (X' := fun _ _ => False) hS dX7_of_2 mvX7_121 ob1 rfl (by decide) (by decide) (Nat.le_of_ble_eq_true rfl) ⟨Nat.le_trans (by decide) hR.1, Nat.le_trans (by decide) hR.2⟩ (fun _ _ q => q.elim) (c_checkChildOk hm hn hk ?_)
    refine J_iload_n hS dX7_of_5 rfl ?_
    rcases in_or (y := w) (b := 7) (by first | decide | omega) with ⟨j, hj, ej⟩ | hbj
    ·
      subst ej
      rcases (show j = 0 ∨ j = 1 ∨ j = 2 ∨ j = 3 ∨ j = 4 ∨ j = 5 ∨ j = 6 by omega) with e | e | e | e | e | e | e
      · subst e
        refine J_tableIn (off := 42) (tgt := 48) hS dX7_of_6 (by decide) (by decide) rfl (by decide) ?_
        refine J_aload_n hS dX7_of_48 rfl ?_
        refine J_getR (t := 2) hS dX7_of_49 flX7_10 ob1 rfl ?_
        refine J_getR (t := 3) hS dX7_of_52 flX7_127 wo_now.ob rfl ?_
        refine J_iload_n hS dX7_of_55 rfl ?_
        refine J_ialdN hS (k) dX7_of_56 (show Ar lay NC .int 3 24 from wo_now.ar 1 (by decide) (by decide)) (by first | rfl | (simp only [n0, n1, n2, n3, n4, n5, n6, n7, n8, n9, n10, n11, n12, n13, n14, n15, n16, n17, n18, n19, n20, n24, n32, n56, n60, n64, n72, n99, n100, n128, n136, n142, n144, n200, n300, n999, n1000, n1500, n3464, nI_add, pk_mul] <;> first | rfl | (congr 1; omega))) (by omega) (by decide) ?_
        refine J_iret hS hZ hr dX7_of_57 (by omega) (by omega) ?_
        exact q0 k hk rfl rfl
      · subst e
        refine J_tableIn (off := 52) (tgt := 58) hS dX7_of_6 (by decide) (by decide) rfl (by decide) ?_
        refine J_aload_n hS dX7_of_58 rfl ?_
        refine J_getR (t := 2) hS dX7_of_59 flX7_10 ob1 rfl ?_
        refine J_iload_n hS dX7_of_62 rfl ?_
        refine J_callV1 (X' := fun _ _ => False) hS dX7_of_63 mvX7_130 wo_now.ob rfl (by decide) (by decide) (Nat.le_of_ble_eq_true rfl) ⟨Nat.le_trans (by decide) hR.1, Nat.le_trans (by decide) hR.2⟩ (fun _ _ q => q.elim) (c_ageNow wo_now (show k < 24 by omega) ?_)
        refine J_iret hS hZ hr dX7_of_66 (by omega) (by omega) ?_
        exact q1 k hk rfl rfl
      · subst e
        refine J_tableIn (off := 61) (tgt := 67) hS dX7_of_6 (by decide) (by decide) rfl (by decide) ?_
        refine J_aload_n hS dX7_of_67 rfl ?_
        refine J_getR (t := 2) hS dX7_of_68 flX7_10 ob1 rfl ?_
        refine J_getR (t := 6) hS dX7_of_71 flX7_134 wo_now.ob rfl ?_
        refine J_iload_n hS dX7_of_74 rfl ?_
        refine J_ialdN hS (k) dX7_of_75 (show Ar lay NC .int 6 24 from wo_now.ar 4 (by decide) (by decide)) (by first | rfl | (simp only [n0, n1, n2, n3, n4, n5, n6, n7, n8, n9, n10, n11, n12, n13, n14, n15, n16, n17, n18, n19, n20, n24, n32, n56, n60, n64, n72, n99, n100, n128, n136, n142, n144, n200, n300, n999, n1000, n1500, n3464, nI_add, pk_mul] <;> first | rfl | (congr 1; omega))) (by omega) (by decide) ?_
        refine J_iret hS hZ hr dX7_of_76 (by omega) (by omega) ?_
        exact q2 k hk rfl rfl
      · subst e
        refine J_tableIn (off := 71) (tgt := 77) hS dX7_of_6 (by decide) (by decide) rfl (by decide) ?_
        refine J_aload_n hS dX7_of_77 rfl ?_
        refine J_getR (t := 2) hS dX7_of_78 flX7_10 ob1 rfl ?_
        refine J_getR (t := 7) hS dX7_of_81 flX7_124 wo_now.ob rfl ?_
        refine J_iload_n hS dX7_of_84 rfl ?_
        refine J_ialdN hS (k) dX7_of_85 (show Ar lay NC .int 7 24 from wo_now.ar 5 (by decide) (by decide)) (by first | rfl | (simp only [n0, n1, n2, n3, n4, n5, n6, n7, n8, n9, n10, n11, n12, n13, n14, n15, n16, n17, n18, n19, n20, n24, n32, n56, n60, n64, n72, n99, n100, n128, n136, n142, n144, n200, n300, n999, n1000, n1500, n3464, nI_add, pk_mul] <;> first | rfl | (congr 1; omega))) (by omega) (by decide) ?_
        refine J_iret hS hZ hr dX7_of_86 (by omega) (by omega) ?_
        exact q3 k hk rfl rfl
      · subst e
        refine J_tableIn (off := 81) (tgt := 87) hS dX7_of_6 (by decide) (by decide) rfl (by decide) ?_
        refine J_aload_n hS dX7_of_87 rfl ?_
        refine J_getR (t := 2) hS dX7_of_88 flX7_10 ob1 rfl ?_
        refine J_getR (t := 8) hS dX7_of_91 flX7_137 wo_now.ob rfl ?_
        refine J_iload_n hS dX7_of_94 rfl ?_
        refine J_ialdN hS (k) dX7_of_95 (show Ar lay NC .int 8 24 from wo_now.ar 6 (by decide) (by decide)) (by first | rfl | (simp only [n0, n1, n2, n3, n4, n5, n6, n7, n8, n9, n10, n11, n12, n13, n14, n15, n16, n17, n18, n19, n20, n24, n32, n56, n60, n64, n72, n99, n100, n128, n136, n142, n144, n200, n300, n999, n1000, n1500, n3464, nI_add, pk_mul] <;> first | rfl | (congr 1; omega))) (by omega) (by decide) ?_
        refine J_iret hS hZ hr dX7_of_96 (by omega) (by omega) ?_
        exact q4 k hk rfl rfl
      · subst e
        refine J_tableIn (off := 91) (tgt := 97) hS dX7_of_6 (by decide) (by decide) rfl (by decide) ?_
        refine J_aload_n hS dX7_of_97 rfl ?_
        refine J_getR (t := 2) hS dX7_of_98 flX7_10 ob1 rfl ?_
        refine J_getR (t := 9) hS dX7_of_101 flX7_140 wo_now.ob rfl ?_
        refine J_iload_n hS dX7_of_104 rfl ?_
        refine J_ialdN hS (k) dX7_of_105 (show Ar lay NC .int 9 24 from wo_now.ar 7 (by decide) (by decide)) (by first | rfl | (simp only [n0, n1, n2, n3, n4, n5, n6, n7, n8, n9, n10, n11, n12, n13, n14, n15, n16, n17, n18, n19, n20, n24, n32, n56, n60, n64, n72, n99, n100, n128, n136, n142, n144, n200, n300, n999, n1000, n1500, n3464, nI_add, pk_mul] <;> first | rfl | (congr 1; omega))) (by omega) (by decide) ?_
        refine J_iret hS hZ hr dX7_of_106 (by omega) (by omega) ?_
        exact q5 k hk rfl rfl
      · subst e
        refine J_tableIn (off := 101) (tgt := 107) hS dX7_of_6 (by decide) (by decide) rfl (by decide) ?_
        refine J_aload_n hS dX7_of_107 rfl ?_
        refine J_iload_n hS dX7_of_108 rfl ?_
        refine J_callV1 (X' := fun _ _ => False) hS dX7_of_109 mvX7_143 ob1 rfl (by decide) (by decide) (Nat.le_of_ble_eq_true rfl) ⟨Nat.le_trans (by decide) hR.1, Nat.le_trans (by decide) hR.2⟩ (fun _ _ q => q.elim) (c_countOrdersHeld (show k < 24 by omega) hl hv (fun g1 b1 => ?_))
        refine J_iret hS hZ hr dX7_of_112 (by omega) (by omega) ?_
        exact q6 k hk rfl rfl g1 b1
    ·
      refine J_tableOut (tgt := 113) hS dX7_of_6 (by have z := ou_tab hbj (by decide); omega) (by decide) ?_
      exact J_thA hS hZ ht hR (by decide) (List.mem_of_getElem? (i := 3) rfl) rfl dX7_of_113 dX7_of_116 dX7_of_117 dX7_of_119 dX7_of_122 (by omega) (by omega) (x2 (nou hk (by omega)) hbj)
  ·
    refine J_callV1 hS dX7_of_2 mvX7_121 ob1 rfl (by decide) (by decide) (Nat.le_of_ble_eq_true rfl) ⟨Nat.le_trans (by decide) hR.1, Nat.le_trans (by decide) hR.2⟩ (fun _ _ q => q) (c_checkChildBad (by rw [hm]; exact hbk) (JX_out hS hZ ht (by omega) (by omega) (x hbk)))
theorem c_feed {n : Nat} {a b c d e : Int32} (hn : n ≤ 300) (en : g 1 12 = nI n) (q0 : ¬ n + 20 ≤ 300 → Q (some (.int (-1))) g) (q : n + 20 ≤ 300 → ∀ g', (∀ z, z ≠ 1 → z ≠ 156 → g' z = g z) → (∀ j, j ≠ 12 → g' 1 j = g 1 j) → g' 1 12 = nI (n + 20) → (∀ k, k < 20 → g' 156 (n + k) = byt (fed a b c d e (k / 4)) (shf (k % 4))) → (∀ i, (i < n ∨ n + 20 ≤ i) → g' 156 i = g 156 i) → Q (some (.int (nI (n + 20)))) g') : Ct l E lay NC 1 0 0 yX7_feed [.ref 1, .int a, .int b, .int c, .int d, .int e] g Q X := by
  refine Ct_in k_yX7_feed (by decide) rfl (Nat.le_of_ble_eq_true rfl) rfl ?_
  intro S hS hZ hr ht hR
  show J S 0 0 (g) 0 [some (.ref 1), some (.int a), some (.int b), some (.int c), some (.int d), some (.int e)] []
  refine J_aload_n hS dX7_feed_0 rfl ?_
  refine J_getI hS dX7_feed_1 flX7_73 ob1 rfl ?_
  show J S 0 0 (g) 4 [some (.ref 1), some (.int a), some (.int b), some (.int c), some (.int d), some (.int e)] [.int _]
  rw [en]
  refine J_bipush (v := 20) hS dX7_feed_4 (by decide) ?_
  refine J_iadd hS dX7_feed_6 ?_
  show J S 0 0 (g) 7 [some (.ref 1), some (.int a), some (.int b), some (.int c), some (.int d), some (.int e)] [.int _]
  rw [n20, nI_add]
  refine J_sipush (v := 300) hS dX7_feed_7 (by decide) ?_
  refine J_icmp_le (tgt := 15) hS dX7_feed_10 (by decide) (fun c1 => ?_) (fun c1 => ?_)
  · have hle : n + 20 ≤ 300 := by
      rcases Nat.lt_or_ge 300 (n + 20) with z | z
      · exact absurd c1 (Int32.not_le.mpr (nI_lt z (by omega)))
      · exact z
    refine J_aload_n hS dX7_feed_15 rfl ?_
    refine J_iload_n hS dX7_feed_16 rfl ?_
    refine J_callV1 (X' := fun _ _ => False) hS dX7_feed_17 mvX7_192 ob1 rfl (by decide) (by decide) (Nat.le_of_ble_eq_true rfl) ⟨Nat.le_trans (by decide) hR.1, Nat.le_trans (by decide) hR.2⟩ (fun _ _ q => q.elim) (c_putBytes (n := n) (by omega) en (fun g1 a1 a2 a3 a4 a5 => ?_))
    refine J_aload_n hS dX7_feed_20 rfl ?_
    refine J_iload_n hS dX7_feed_21 rfl ?_
    refine J_callV1 (X' := fun _ _ => False) hS dX7_feed_22 mvX7_192 ob1 rfl (by decide) (by decide) (Nat.le_of_ble_eq_true rfl) ⟨Nat.le_trans (by decide) hR.1, Nat.le_trans (by decide) hR.2⟩ (fun _ _ q => q.elim) (c_putBytes (n := n + 4) (by omega) a3 (fun g2 b1 b2 b3 b4 b5 => ?_))
    refine J_aload_n hS dX7_feed_25 rfl ?_
    refine J_iload_n hS dX7_feed_26 rfl ?_
    refine J_callV1 (X' := fun _ _ => False) hS dX7_feed_27 mvX7_192 ob1 rfl (by decide) (by decide) (Nat.le_of_ble_eq_true rfl) ⟨Nat.le_trans (by decide) hR.1, Nat.le_trans (by decide) hR.2⟩ (fun _ _ q => q.elim) (c_putBytes (n := n + 4 + 4) (by omega) b3 (fun g3 d1 d2 d3 d4 d5 => ?_))
    refine J_aload_n hS dX7_feed_30 rfl ?_
    refine J_iload hS dX7_feed_31 rfl ?_
    refine J_callV1 (X' := fun _ _ => False) hS dX7_feed_33 mvX7_192 ob1 rfl (by decide) (by decide) (Nat.le_of_ble_eq_true rfl) ⟨Nat.le_trans (by decide) hR.1, Nat.le_trans (by decide) hR.2⟩ (fun _ _ q => q.elim) (c_putBytes (n := n + 4 + 4 + 4) (by omega) d3 (fun g4 f1 f2 f3 f4 f5 => ?_))
    refine J_aload_n hS dX7_feed_36 rfl ?_
    refine J_iload hS dX7_feed_37 rfl ?_
    refine J_callV1 (X' := fun _ _ => False) hS dX7_feed_39 mvX7_192 ob1 rfl (by decide) (by decide) (Nat.le_of_ble_eq_true rfl) ⟨Nat.le_trans (by decide) hR.1, Nat.le_trans (by decide) hR.2⟩ (fun _ _ q => q.elim) (c_putBytes (n := n + 4 + 4 + 4 + 4) (by omega) f3 (fun g5 h1 h2 h3 h4 h5 => ?_))
    refine J_aload_n hS dX7_feed_42 rfl ?_
    refine J_getI hS dX7_feed_43 flX7_73 ob1 rfl ?_
    show J S 0 0 (g5) 46 [some (.ref 1), some (.int a), some (.int b), some (.int c), some (.int d), some (.int e)] [.int _]
    rw [h3]
    refine J_iret hS hZ hr dX7_feed_46 (by omega) (by omega) ?_
    have eN : n + 4 + 4 + 4 + 4 + 4 = n + 20 := by omega
    rw [eN]
    refine q hle g5 ?_ ?_ ?_ ?_ ?_
    · intro z z1 z2; rw [h1 z z1 z2, f1 z z1 z2, d1 z z1 z2, b1 z z1 z2, a1 z z1 z2]
    · intro j hj; rw [h2 j hj, f2 j hj, d2 j hj, b2 j hj, a2 j hj]
    · rw [h3, eN]
    · intro k hk
      rcases (show k < 4 ∨ (4 ≤ k ∧ k < 8) ∨ (8 ≤ k ∧ k < 12) ∨ (12 ≤ k ∧ k < 16) ∨ 16 ≤ k by omega) with z | z | z | z | z
      · rw [h5 _ (by omega), f5 _ (by omega), d5 _ (by omega), b5 _ (by omega), a4 k z, show k / 4 = 0 by omega, show k % 4 = k by omega]; rfl
      · rw [h5 _ (by omega), f5 _ (by omega), d5 _ (by omega), show n + k = n + 4 + (k - 4) by omega, b4 (k - 4) (by omega), show k / 4 = 1 by omega, show k % 4 = k - 4 by omega]; rfl
      · rw [h5 _ (by omega), f5 _ (by omega), show n + k = n + 4 + 4 + (k - 8) by omega, d4 (k - 8) (by omega), show k / 4 = 2 by omega, show k % 4 = k - 8 by omega]; rfl
      · rw [h5 _ (by omega), show n + k = n + 4 + 4 + 4 + (k - 12) by omega, f4 (k - 12) (by omega), show k / 4 = 3 by omega, show k % 4 = k - 12 by omega]; rfl
      · rw [show n + k = n + 4 + 4 + 4 + 4 + (k - 16) by omega, h4 (k - 16) (by omega), show k / 4 = 4 by omega, show k % 4 = k - 16 by omega]; rfl
    · intro i hi; rw [h5 _ (by omega), f5 _ (by omega), d5 _ (by omega), b5 _ (by omega), a5 _ (by omega)]
  ·
    refine J_iconst (v := (-1)) hS dX7_feed_13 (by decide) ?_
    refine J_iret hS hZ hr dX7_feed_14 (by omega) (by omega) ?_
    exact q0 (fun z => absurd (nI_le z (by decide)) c1)
theorem c_end (q0 : g 1 16 = -1 → Q (some (.int (-1))) g) {f : Nat} (hf : ¬ g 1 16 = -1 → f < 3 ∧ g 1 16 = nI f) (q : ¬ g 1 16 = -1 → Q (some (.int (g (101 + 2 * f) 3))) (u2 g 1 16 (-1))) : Ct l E lay NC 1 0 0 yX7_end [.ref 1] g Q X := by
  refine Ct_in k_yX7_end (by decide) rfl (Nat.le_of_ble_eq_true rfl) rfl ?_
  intro S hS hZ hr ht hR
  show J S 0 0 (g) 0 [some (.ref 1), none] []
  refine J_aload_n hS dX7_end_0 rfl ?_
  refine J_getI hS dX7_end_1 flX7_86 ob1 rfl ?_
  refine J_iconst (v := (-1)) hS dX7_end_4 (by decide) ?_
  refine J_icmp_ne (tgt := 10) hS dX7_end_5 (by decide) (fun c1 => ?_) (fun c1 => ?_)
  · obtain ⟨f3, ef⟩ := hf c1
    have hF : Fm (101 + 2 * f) := ⟨f, f3, rfl⟩
    refine J_aload_n hS dX7_end_10 rfl ?_
    refine J_getR (t := 160) hS dX7_end_11 flX7_25 ob1 rfl ?_
    refine J_aload_n hS dX7_end_14 rfl ?_
    refine J_getI hS dX7_end_15 flX7_86 ob1 rfl ?_
    show J S 0 0 (g) 18 [some (.ref 1), none] [.int _, .ref (160)]
    rw [ef]
    refine J_aaldN (t0 := 4) (t := 101 + 2 * f) hS (f) dX7_end_18 aq160 (fun _ => rfl) (by first | rfl | (simp only [n0, n1, n2, n3, n4, n5, n6, n7, n8, n9, n10, n11, n12, n13, n14, n15, n16, n17, n18, n19, n20, n24, n32, n56, n60, n64, n72, n99, n100, n128, n136, n142, n144, n200, n300, n999, n1000, n1500, n3464, nI_add, pk_mul] <;> first | rfl | (congr 1; omega))) (by omega) (by decide) rfl ?_
    refine J_getI hS dX7_end_19 flX7_277 hF.ob rfl ?_
    refine J_istore_n (lt := fun w => [some (.ref 1), some (.int w)]) hS dX7_end_22 (Nat.le_of_ble_eq_true rfl) (fun _ => rfl) (fun w ew => ?_)
    refine J_aload_n hS dX7_end_23 rfl ?_
    refine J_callV0 (X' := fun _ _ => False) hS dX7_end_24 mvX7_100 ob1 rfl (by decide) (by decide) (Nat.le_of_ble_eq_true rfl) ⟨Nat.le_trans (by decide) hR.1, Nat.le_trans (by decide) hR.2⟩ (fun _ _ q => q.elim) (c_stopFilm ?_)
    refine J_iload_n hS dX7_end_27 rfl ?_
    refine J_iret hS hZ hr dX7_end_28 (by omega) (by omega) ?_
    rw [ew]; exact q c1
  ·
    refine J_iconst (v := (-1)) hS dX7_end_8 (by decide) ?_
    refine J_iret hS hZ hr dX7_end_9 (by omega) (by omega) ?_
    exact q0 c1
theorem c_gap {f0 t0 : Int32} {fc : Nat} {mn : Nat → Nat} (hfc : fc ≤ 3) (efc : g 1 15 = nI fc) (hmn : ∀ f, f < fc → mn f ≤ 100 ∧ g (101 + 2 * f) 3 = nI (mn f)) (x : ou fc f0 → X eIB g) (x2 : ∀ f, f < fc → f0 = nI f → ou (mn f) t0 → X eIA g) (q : ∀ f t, f < fc → f0 = nI f → t < mn f → t0 = nI t → ¬ g (102 + 2 * f) t = 0 → Q (some (.int 0)) g) (q' : ∀ f t, f < fc → f0 = nI f → t < mn f → t0 = nI t → g (102 + 2 * f) t = 0 → Q (some (.int 1)) (u2 g (102 + 2 * f) t 1)) : Ct l E lay NC 8 1 6 yX7_gap [.ref 1, .int f0, .int t0] g Q X := by
  refine Ct_in k_yX7_gap (by decide) rfl (Nat.le_of_ble_eq_true rfl) rfl ?_
  intro S hS hZ hr ht hR
  show J S 0 0 (g) 0 [some (.ref 1), some (.int f0), some (.int t0)] []
  refine J_aload_n hS dX7_gap_0 rfl ?_
  refine J_iload_n hS dX7_gap_1 rfl ?_
  rcases in_or (y := f0) (b := fc) (by first | decide | omega) with ⟨f, hf, ef⟩ | hbf
  ·
    subst ef
    have hF : Fm (101 + 2 * f) := ⟨f, by omega, rfl⟩
    obtain ⟨m1, m2⟩ := hmn f hf
    have e12 : 101 + 2 * f + 1 = 102 + 2 * f := by omega
    refine J_callV1 (X' := fun _ _ => False) hS dX7_gap_2 mvX7_278 ob1 rfl (by decide) (by decide) (Nat.le_of_ble_eq_true rfl) ⟨Nat.le_trans (by decide) hR.1, Nat.le_trans (by decide) hR.2⟩ (fun _ _ q => q.elim) (c_checkFilmOk efc hf hfc ?_)
    refine J_iload_n hS dX7_gap_5 rfl ?_
    rcases in_or (y := t0) (b := (mn f)) (by first | decide | omega) with ⟨t1, ht1, et1⟩ | hbt1
    ·
      subst et1
      refine J_if_lt (tgt := 22) hS dX7_gap_6 (by decide) (fun c1 => ?_) (fun c1 => ?_)
      · exact absurd c1 (nI_npos (by omega))
      ·
        refine J_iload_n hS dX7_gap_9 rfl ?_
        refine J_aload_n hS dX7_gap_10 rfl ?_
        refine J_getR (t := 160) hS dX7_gap_11 flX7_25 ob1 rfl ?_
        refine J_iload_n hS dX7_gap_14 rfl ?_
        refine J_aaldN (t0 := 4) (t := 101 + 2 * f) hS (f) dX7_gap_15 aq160 (fun _ => rfl) (by first | rfl | (simp only [n0, n1, n2, n3, n4, n5, n6, n7, n8, n9, n10, n11, n12, n13, n14, n15, n16, n17, n18, n19, n20, n24, n32, n56, n60, n64, n72, n99, n100, n128, n136, n142, n144, n200, n300, n999, n1000, n1500, n3464, nI_add, pk_mul] <;> first | rfl | (congr 1; omega))) (by omega) (by decide) rfl ?_
        refine J_getI hS dX7_gap_16 flX7_277 hF.ob rfl ?_
        show J S 0 0 (g) 19 [some (.ref 1), some (.int (nI f)), some (.int (nI t1))] [.int _, .int (nI t1)]
        rw [m2]
        refine J_icmp_lt (tgt := 33) hS dX7_gap_19 (by decide) (fun c2 => ?_) (fun c2 => ?_)
        ·
          refine J_aload_n hS dX7_gap_33 rfl ?_
          refine J_getR (t := 160) hS dX7_gap_34 flX7_25 ob1 rfl ?_
          refine J_iload_n hS dX7_gap_37 rfl ?_
          refine J_aaldN (t0 := 4) (t := 101 + 2 * f) hS (f) dX7_gap_38 aq160 (fun _ => rfl) (by first | rfl | (simp only [n0, n1, n2, n3, n4, n5, n6, n7, n8, n9, n10, n11, n12, n13, n14, n15, n16, n17, n18, n19, n20, n24, n32, n56, n60, n64, n72, n99, n100, n128, n136, n142, n144, n200, n300, n999, n1000, n1500, n3464, nI_add, pk_mul] <;> first | rfl | (congr 1; omega))) (by omega) (by decide) rfl ?_
          refine J_getR (t := 101 + 2 * f + 1) hS dX7_gap_39 flX7_283 hF.ob rfl ?_
          refine J_iload_n hS dX7_gap_42 rfl ?_
          refine J_zaldN hS (t1) dX7_gap_43 hF.ar (by first | rfl | (simp only [n0, n1, n2, n3, n4, n5, n6, n7, n8, n9, n10, n11, n12, n13, n14, n15, n16, n17, n18, n19, n20, n24, n32, n56, n60, n64, n72, n99, n100, n128, n136, n142, n144, n200, n300, n999, n1000, n1500, n3464, nI_add, pk_mul] <;> first | rfl | (congr 1; omega))) (by omega) (by decide) ?_
          refine J_if_eq (tgt := 49) hS dX7_gap_44 (by decide) (fun c3 => ?_) (fun c3 => ?_)
          ·
            refine J_aload_n hS dX7_gap_49 rfl ?_
            refine J_getR (t := 160) hS dX7_gap_50 flX7_25 ob1 rfl ?_
            refine J_iload_n hS dX7_gap_53 rfl ?_
            refine J_aaldN (t0 := 4) (t := 101 + 2 * f) hS (f) dX7_gap_54 aq160 (fun _ => rfl) (by first | rfl | (simp only [n0, n1, n2, n3, n4, n5, n6, n7, n8, n9, n10, n11, n12, n13, n14, n15, n16, n17, n18, n19, n20, n24, n32, n56, n60, n64, n72, n99, n100, n128, n136, n142, n144, n200, n300, n999, n1000, n1500, n3464, nI_add, pk_mul] <;> first | rfl | (congr 1; omega))) (by omega) (by decide) rfl ?_
            refine J_getR (t := 101 + 2 * f + 1) hS dX7_gap_55 flX7_283 hF.ob rfl ?_
            refine J_iload_n hS dX7_gap_58 rfl ?_
            refine J_iconst (v := 1) hS dX7_gap_59 (by decide) ?_
            refine J_zastN hS (t1) dX7_gap_60 hF.ar (by first | rfl | (simp only [n0, n1, n2, n3, n4, n5, n6, n7, n8, n9, n10, n11, n12, n13, n14, n15, n16, n17, n18, n19, n20, n24, n32, n56, n60, n64, n72, n99, n100, n128, n136, n142, n144, n200, n300, n999, n1000, n1500, n3464, nI_add, pk_mul] <;> first | rfl | (congr 1; omega))) (by omega) (by decide) (by decide) (fun g60 eg60 => ?_)
            refine J_iconst (v := 1) hS dX7_gap_61 (by decide) ?_
            refine J_iret hS hZ hr dX7_gap_62 (by omega) (by omega) ?_
            rw [eg60]
            have z := q' f t1 hf rfl ht1 rfl (by rw [← e12]; exact c3)
            rw [← e12] at z; exact z
          ·
            refine J_iconst (v := 0) hS dX7_gap_47 (by decide) ?_
            refine J_iret hS hZ hr dX7_gap_48 (by omega) (by omega) ?_
            exact q f t1 hf rfl ht1 rfl (by rw [← e12]; exact c3)
        · exact absurd (nI_lt ht1 (by omega)) c2
    ·
      refine J_if_lt (tgt := 22) hS dX7_gap_6 (by decide) (fun c1 => ?_) (fun c1 => ?_)
      ·
        exact J_thAW hS hZ ht hR (by decide) (List.mem_of_getElem? (i := 33) rfl) rfl dX7_gap_22 dX7_gap_25 dX7_gap_26 dX7_gap_29 dX7_gap_32 (by omega) (by omega) (x2 f hf rfl hbt1)
      ·
        refine J_iload_n hS dX7_gap_9 rfl ?_
        refine J_aload_n hS dX7_gap_10 rfl ?_
        refine J_getR (t := 160) hS dX7_gap_11 flX7_25 ob1 rfl ?_
        refine J_iload_n hS dX7_gap_14 rfl ?_
        refine J_aaldN (t0 := 4) (t := 101 + 2 * f) hS (f) dX7_gap_15 aq160 (fun _ => rfl) (by first | rfl | (simp only [n0, n1, n2, n3, n4, n5, n6, n7, n8, n9, n10, n11, n12, n13, n14, n15, n16, n17, n18, n19, n20, n24, n32, n56, n60, n64, n72, n99, n100, n128, n136, n142, n144, n200, n300, n999, n1000, n1500, n3464, nI_add, pk_mul] <;> first | rfl | (congr 1; omega))) (by omega) (by decide) rfl ?_
        refine J_getI hS dX7_gap_16 flX7_277 hF.ob rfl ?_
        show J S 0 0 (g) 19 [some (.ref 1), some (.int (nI f)), some (.int t0)] [.int _, .int t0]
        rw [m2]
        refine J_icmp_lt (tgt := 33) hS dX7_gap_19 (by decide) (fun c2 => ?_) (fun c2 => ?_)
        · rcases hbt1 with z | z
          · exact absurd z c1
          · exact absurd c2 (Int32.not_lt.mpr z)
        ·
          exact J_thAW hS hZ ht hR (by decide) (List.mem_of_getElem? (i := 33) rfl) rfl dX7_gap_22 dX7_gap_25 dX7_gap_26 dX7_gap_29 dX7_gap_32 (by omega) (by omega) (x2 f hf rfl hbt1)
  ·
    refine J_callV1 hS dX7_gap_2 mvX7_278 ob1 rfl (by decide) (by decide) (Nat.le_of_ble_eq_true rfl) ⟨Nat.le_trans (by decide) hR.1, Nat.le_trans (by decide) hR.2⟩ (fun _ _ q => q) (c_checkFilmBad (by rw [efc]; exact hbf) (JX_out hS hZ ht (by omega) (by omega) (x hbf)))
theorem c_image {ic : Nat} (hic : ic ≤ 4) (eic : g 1 17 = nI ic) (q4 : ic = 4 → Q (some (.int (-1))) g) (q : ic < 4 → ∀ g', wv g' (24 + 11 * ic) = wv g 2 → (∀ a, (a < 24 + 11 * ic ∨ 24 + 11 * ic + 10 < a) → a ≠ 1 → g' a = g a) → g' 1 17 = nI (ic + 1) → (∀ j, j ≠ 17 → g' 1 j = g 1 j) → Q (some (.int (nI (ic + 1)))) g') : Ct l E lay NC 2 0 0 yX7_image [.ref 1] g Q X := by
  refine Ct_in k_yX7_image (by decide) rfl (Nat.le_of_ble_eq_true rfl) rfl ?_
  intro S hS hZ hr ht hR
  show J S 0 0 (g) 0 [some (.ref 1)] []
  refine J_aload_n hS dX7_image_0 rfl ?_
  refine J_getI hS dX7_image_1 flX7_89 ob1 rfl ?_
  refine J_iconst (v := 4) hS dX7_image_4 (by decide) ?_
  show J S 0 0 (g) 5 [some (.ref 1)] [.int 4, .int _]
  rw [eic]
  refine J_icmp_lt (tgt := 10) hS dX7_image_5 (by decide) (fun c1 => ?_) (fun c1 => ?_)
  · have h4 : ic < 4 := by
      rcases Nat.lt_or_ge ic 4 with z | z
      · exact z
      · have z2 : ic = 4 := by omega
        subst z2; exact absurd c1 (by decide)
    have hI : Wo (24 + 11 * ic) := ⟨2 + ic, by omega, by omega⟩
    refine J_aload_n hS dX7_image_10 rfl ?_
    refine J_getR (t := 159) hS dX7_image_11 flX7_19 ob1 rfl ?_
    refine J_aload_n hS dX7_image_14 rfl ?_
    refine J_getI hS dX7_image_15 flX7_89 ob1 rfl ?_
    show J S 0 0 (g) 18 [some (.ref 1)] [.int _, .ref (159)]
    rw [eic]
    refine J_aaldN (t0 := 3) (t := 24 + 11 * ic) hS (ic) dX7_image_18 aq159 (fun _ => rfl) (by first | rfl | (simp only [n0, n1, n2, n3, n4, n5, n6, n7, n8, n9, n10, n11, n12, n13, n14, n15, n16, n17, n18, n19, n20, n24, n32, n56, n60, n64, n72, n99, n100, n128, n136, n142, n144, n200, n300, n999, n1000, n1500, n3464, nI_add, pk_mul] <;> first | rfl | (congr 1; omega))) (by omega) (by decide) rfl ?_
    refine J_aload_n hS dX7_image_19 rfl ?_
    refine J_getR (t := 2) hS dX7_image_20 flX7_10 ob1 rfl ?_
    refine J_callV1 (X' := fun _ _ => False) hS dX7_image_23 mvX7_295 hI.ob rfl (by decide) (by decide) (Nat.le_of_ble_eq_true rfl) ⟨Nat.le_trans (by decide) hR.1, Nat.le_trans (by decide) hR.2⟩ (fun _ _ q => q.elim) (c_become hI wo_now (by omega) (fun g1 b1 b2 => ?_))
    have e1 : g1 1 = g 1 := b2 1 (by omega)
    refine J_aload_n hS dX7_image_26 rfl ?_
    refine J_dup hS dX7_image_27 rfl ?_
    refine J_getI hS dX7_image_28 flX7_89 ob1 rfl ?_
    show J S 0 0 (g1) 31 [some (.ref 1)] [.int _, .ref 1]
    rw [e1, eic]
    refine J_iconst (v := 1) hS dX7_image_31 (by decide) ?_
    refine J_iadd hS dX7_image_32 ?_
    refine J_putI hS dX7_image_33 fpX7_89 ob1 rfl (fun g33 eg33 => ?_)
    refine J_aload_n hS dX7_image_36 rfl ?_
    refine J_getI hS dX7_image_37 flX7_89 ob1 rfl ?_
    show J S 0 0 (g33) 40 [some (.ref 1)] [.int _]
    rw [show g33 1 17 = nI (ic + 1) by rw [eg33, u2_self]; exact nI_1 ic]
    refine J_iret hS hZ hr dX7_image_40 (by omega) (by omega) ?_
    refine q h4 g33 ?_ ?_ ?_ ?_
    · rw [← b1]; exact wv_fr (fun a h1 h2 => by rw [eg33, u2_ne a (by omega)])
    · intro a h1 h2; rw [eg33, u2_ne a h2]; exact b2 a h1
    · rw [eg33, u2_self]; exact nI_1 ic
    · intro j hj; rw [eg33]; simp [u2, hj, e1]
  ·
    refine J_iconst (v := (-1)) hS dX7_image_8 (by decide) ?_
    refine J_iret hS hZ hr dX7_image_9 (by omega) (by omega) ?_
    refine q4 ?_
    rcases Nat.lt_or_ge ic 4 with z | z
    · exact absurd (nI_lt z (by decide)) c1
    · omega
theorem c_restore {ic : Nat} (hic : ic ≤ 4) (eic : g 1 17 = nI ic) (q0 : ic = 0 → Q (some (.int (-1))) g) (q : ∀ k, ic = k + 1 → ∀ g', wv g' 2 = wv g (24 + 11 * k) → (∀ a, (a < 2 ∨ 12 < a) → a ≠ 1 → g' a = g a) → g' 1 17 = nI k → g' 1 16 = -1 → (∀ j, j ≠ 16 → j ≠ 17 → g' 1 j = g 1 j) → Q (some (.int (nI k))) g') : Ct l E lay NC 2 0 0 yX7_restore [.ref 1] g Q X := by
  refine Ct_in k_yX7_restore (by decide) rfl (Nat.le_of_ble_eq_true rfl) rfl ?_
  intro S hS hZ hr ht hR
  show J S 0 0 (g) 0 [some (.ref 1)] []
  refine J_aload_n hS dX7_restore_0 rfl ?_
  refine J_getI hS dX7_restore_1 flX7_89 ob1 rfl ?_
  show J S 0 0 (g) 4 [some (.ref 1)] [.int _]
  rw [eic]
  refine J_if_gt (tgt := 9) hS dX7_restore_4 (by decide) (fun c1 => ?_) (fun c1 => ?_)
  · obtain ⟨k, hk⟩ : ∃ k, ic = k + 1 := by
      cases ic with
      | zero => exact absurd c1 (by decide)
      | succ k => exact ⟨k, rfl⟩
    have hI : Wo (24 + 11 * k) := ⟨2 + k, by omega, by omega⟩
    refine J_aload_n hS dX7_restore_9 rfl ?_
    refine J_dup hS dX7_restore_10 rfl ?_
    refine J_getI hS dX7_restore_11 flX7_89 ob1 rfl ?_
    show J S 0 0 (g) 14 [some (.ref 1)] [.int _, .ref 1]
    rw [eic, hk]
    refine J_iconst (v := 1) hS dX7_restore_14 (by decide) ?_
    refine J_isub hS dX7_restore_15 ?_
    show J S 0 0 (g) 16 [some (.ref 1)] [.int _, .ref 1]
    rw [nI_pred k]
    refine J_putI hS dX7_restore_16 fpX7_89 ob1 rfl (fun g16 eg16 => ?_)
    refine J_aload_n hS dX7_restore_19 rfl ?_
    refine J_getR (t := 2) hS dX7_restore_20 flX7_10 ob1 rfl ?_
    refine J_aload_n hS dX7_restore_23 rfl ?_
    refine J_getR (t := 159) hS dX7_restore_24 flX7_19 ob1 rfl ?_
    refine J_aload_n hS dX7_restore_27 rfl ?_
    refine J_getI hS dX7_restore_28 flX7_89 ob1 rfl ?_
    show J S 0 0 (g16) 31 [some (.ref 1)] [.int _, .ref (159), .ref (2)]
    rw [show g16 1 17 = nI k by rw [eg16, u2_self]]
    refine J_aaldN (t0 := 3) (t := 24 + 11 * k) hS (k) dX7_restore_31 aq159 (fun _ => rfl) (by first | rfl | (simp only [n0, n1, n2, n3, n4, n5, n6, n7, n8, n9, n10, n11, n12, n13, n14, n15, n16, n17, n18, n19, n20, n24, n32, n56, n60, n64, n72, n99, n100, n128, n136, n142, n144, n200, n300, n999, n1000, n1500, n3464, nI_add, pk_mul] <;> first | rfl | (congr 1; omega))) (by omega) (by decide) rfl ?_
    refine J_callV1 (X' := fun _ _ => False) hS dX7_restore_32 mvX7_295 wo_now.ob rfl (by decide) (by decide) (Nat.le_of_ble_eq_true rfl) ⟨Nat.le_trans (by decide) hR.1, Nat.le_trans (by decide) hR.2⟩ (fun _ _ q => q.elim) (c_become wo_now hI (by omega) (fun g1 b1 b2 => ?_))
    have e1 : g1 1 = g16 1 := b2 1 (by omega)
    refine J_aload_n hS dX7_restore_35 rfl ?_
    refine J_callV0 (X' := fun _ _ => False) hS dX7_restore_36 mvX7_100 ob1 rfl (by decide) (by decide) (Nat.le_of_ble_eq_true rfl) ⟨Nat.le_trans (by decide) hR.1, Nat.le_trans (by decide) hR.2⟩ (fun _ _ q => q.elim) (c_stopFilm ?_)
    refine J_aload_n hS dX7_restore_39 rfl ?_
    refine J_getI hS dX7_restore_40 flX7_89 ob1 rfl ?_
    show J S 0 0 (u2 g1 1 16 (-1)) 43 [some (.ref 1)] [.int _]
    rw [show u2 g1 1 16 (-1) 1 17 = nI k by simp [u2, e1, eg16]]
    refine J_iret hS hZ hr dX7_restore_43 (by omega) (by omega) ?_
    refine q k hk _ ?_ ?_ ?_ ?_ ?_
    · rw [wv_fr (g := g1) (fun a h1 h2 => by rw [u2_ne a (by omega)]), b1]; exact wv_fr (fun a h1 h2 => by rw [eg16, u2_ne a (by omega)])
    · intro a h1 h2; rw [u2_ne a h2, b2 a (by omega), eg16, u2_ne a h2]
    · simp [u2, e1, eg16]
    · simp [u2]
    · intro j h1 h2; simp [u2, h1, h2, e1, eg16]
  ·
    refine J_iconst (v := (-1)) hS dX7_restore_7 (by decide) ?_
    refine J_iret hS hZ hr dX7_restore_8 (by omega) (by omega) ?_
    refine q0 ?_
    rcases Nat.eq_zero_or_pos ic with z | z
    · exact z
    · exact absurd (show nI 0 < nI ic from nI_lt z (by omega)) c1
theorem c_plain {n : Nat} {c : Int32} (hn : n ≤ 24) (hm : g 2 6 = nI n) {y : Nat → Nat} (hy : ∀ k, k < n → y k < 3 ∧ g 3 k = nI (y k)) (x : ou n c → X eNS g) (q0 : ∀ k, k < n → c = nI k → hvy (fun s => g 11 (k * 6 + s)) 6 = -1 → Q (some (.int 0)) g) (q : ∀ k, k < n → c = nI k → ¬ hvy (fun s => g 11 (k * 6 + s)) 6 = -1 → Q (some (.int (nI ((here (alP g 2 (y k) k 0) 4).length) * nI ((here (alP g 2 (y k) k 4) 4).length) * nI ((here (alP g 2 (y k) k 0) 4).length)))) g) : Ct l E lay NC 8 1 6 yX7_plain [.ref 1, .int c] g Q X := by
  refine Ct_in k_yX7_plain (by decide) rfl (Nat.le_of_ble_eq_true rfl) rfl ?_
  intro S hS hZ hr ht hR
  show J S 0 0 (g) 0 [some (.ref 1), some (.int c), none, none] []
  refine J_aload_n hS dX7_plain_0 rfl ?_
  refine J_iload_n hS dX7_plain_1 rfl ?_
  rcases in_or (y := c) (b := n) (by first | decide | omega) with ⟨k, hk, ek⟩ | hbk
  ·
    subst ek
    obtain ⟨y1, y2⟩ := hy k hk
    refine J_callV1 (X' := fun _ _ => False) hS dX7_plain_2 mvX7_121 ob1 rfl (by decide) (by decide) (Nat.le_of_ble_eq_true rfl) ⟨Nat.le_trans (by decide) hR.1, Nat.le_trans (by decide) hR.2⟩ (fun _ _ q => q.elim) (c_checkChildOk hm hn hk ?_)
    refine J_aload_n hS dX7_plain_5 rfl ?_
    refine J_getR (t := 2) hS dX7_plain_6 flX7_10 ob1 rfl ?_
    refine J_iload_n hS dX7_plain_9 rfl ?_
    refine J_callV1 (X' := fun _ _ => False) hS dX7_plain_10 mvX7_336 wo_now.ob rfl (by decide) (by decide) (Nat.le_of_ble_eq_true rfl) ⟨Nat.le_trans (by decide) hR.1, Nat.le_trans (by decide) hR.2⟩ (fun _ _ q => q.elim) (c_heaviestOrder wo_now (show k < 24 by omega) ?_)
    refine J_iconst (v := (-1)) hS dX7_plain_13 (by decide) ?_
    refine J_icmp_ne (tgt := 19) hS dX7_plain_14 (by decide) (fun c1 => ?_) (fun c1 => ?_)
    ·
      refine J_aload_n hS dX7_plain_19 rfl ?_
      refine J_iload_n hS dX7_plain_20 rfl ?_
      refine J_iconst (v := 0) hS dX7_plain_21 (by decide) ?_
      refine J_callV2 (X' := fun _ _ => False) hS dX7_plain_22 mvX7_339 ob1 rfl (by decide) (by decide) (Nat.le_of_ble_eq_true rfl) ⟨Nat.le_trans (by decide) hR.1, Nat.le_trans (by decide) hR.2⟩ (fun _ _ q => q.elim) (c_countSeenAlone (f := 0) (show k < 24 by omega) (by decide) y1 y2 ?_)
      refine J_istore_n (lt := fun w => [some (.ref 1), some (.int (nI k)), some (.int w), none]) hS dX7_plain_25 (Nat.le_of_ble_eq_true rfl) (fun _ => rfl) (fun w ew => ?_)
      refine J_aload_n hS dX7_plain_26 rfl ?_
      refine J_iload_n hS dX7_plain_27 rfl ?_
      refine J_iconst (v := 4) hS dX7_plain_28 (by decide) ?_
      refine J_callV2 (X' := fun _ _ => False) hS dX7_plain_29 mvX7_339 ob1 rfl (by decide) (by decide) (Nat.le_of_ble_eq_true rfl) ⟨Nat.le_trans (by decide) hR.1, Nat.le_trans (by decide) hR.2⟩ (fun _ _ q => q.elim) (c_countSeenAlone (f := 4) (show k < 24 by omega) (by decide) y1 y2 ?_)
      refine J_istore_n (lt := fun v => [some (.ref 1), some (.int (nI k)), some (.int w), some (.int v)]) hS dX7_plain_32 (Nat.le_of_ble_eq_true rfl) (fun _ => rfl) (fun v ev => ?_)
      refine J_iload_n hS dX7_plain_33 rfl ?_
      refine J_iload_n hS dX7_plain_34 rfl ?_
      refine J_imul hS dX7_plain_35 ?_
      refine J_iload_n hS dX7_plain_36 rfl ?_
      refine J_imul hS dX7_plain_37 ?_
      refine J_iret hS hZ hr dX7_plain_38 (by omega) (by omega) ?_
      rw [ew, ev]; exact q k hk rfl c1
    ·
      refine J_iconst (v := 0) hS dX7_plain_17 (by decide) ?_
      refine J_iret hS hZ hr dX7_plain_18 (by omega) (by omega) ?_
      exact q0 k hk rfl c1
  ·
    refine J_callV1 hS dX7_plain_2 mvX7_121 ob1 rfl (by decide) (by decide) (Nat.le_of_ble_eq_true rfl) ⟨Nat.le_trans (by decide) hR.1, Nat.le_trans (by decide) hR.2⟩ (fun _ _ q => q) (c_checkChildBad (by rw [hm]; exact hbk) (JX_out hS hZ ht (by omega) (by omega) (x hbk)))
theorem c_word {n : Nat} {y p : Int32} (hn : n ≤ 24) (hm : g 2 6 = nI n) (x : ou 3 y ∨ ou 8 p → X eIA g) (q0 : ∀ i j, i < 3 → y = nI i → j < 8 → p = nI j → (here (thr g 2 (nI i)) n).length = 0 → Q (some (.int (-1))) g) (q : ∀ i j, i < 3 → y = nI i → j < 8 → p = nI j → ¬ (here (thr g 2 (nI i)) n).length = 0 → Q (some (.int (sgY g 2 n (nI i) j))) g) : Ct l E lay NC 8 1 6 yX7_word [.ref 1, .int y, .int p] g Q X := by
  refine Ct_in k_yX7_word (by decide) rfl (Nat.le_of_ble_eq_true rfl) rfl ?_
  intro S hS hZ hr ht hR
  show J S 0 0 (g) 0 [some (.ref 1), some (.int y), some (.int p)] []
  refine J_iload_n hS dX7_word_0 rfl ?_
  rcases in_or (y := y) (b := 3) (by first | decide | omega) with ⟨i, hi, ei⟩ | hbi
  ·
    subst ei
    refine J_callS1 (X' := fun _ _ => False) hS dX7_word_1 msX7_103 rfl (by decide) (by decide) (Nat.le_of_ble_eq_true rfl) ⟨Nat.le_trans (by decide) hR.1, Nat.le_trans (by decide) hR.2⟩ (fun _ _ q => q.elim) (c_checkYardOk hi ?_)
    refine J_iload_n hS dX7_word_4 rfl ?_
    rcases in_or (y := p) (b := 8) (by first | decide | omega) with ⟨j, hj, ej⟩ | hbj
    ·
      subst ej
      refine J_callS1 (X' := fun _ _ => False) hS dX7_word_5 msX7_148 rfl (by decide) (by decide) (Nat.le_of_ble_eq_true rfl) ⟨Nat.le_trans (by decide) hR.1, Nat.le_trans (by decide) hR.2⟩ (fun _ _ q => q.elim) (c_checkConceptOk hj ?_)
      refine J_aload_n hS dX7_word_8 rfl ?_
      refine J_getR (t := 2) hS dX7_word_9 flX7_10 ob1 rfl ?_
      refine J_iload_n hS dX7_word_12 rfl ?_
      refine J_callV1 (X' := fun _ _ => False) hS dX7_word_13 mvX7_319 wo_now.ob rfl (by decide) (by decide) (Nat.le_of_ble_eq_true rfl) ⟨Nat.le_trans (by decide) hR.1, Nat.le_trans (by decide) hR.2⟩ (fun _ _ q => q.elim) (c_countThere wo_now hn hm ?_)
      have hlen := here_len (thr g 2 (nI i)) n
      refine J_if_ne (tgt := 23) hS dX7_word_16 (by decide) (fun c1 => ?_) (fun c1 => ?_)
      ·
        refine J_aload_n hS dX7_word_23 rfl ?_
        refine J_getR (t := 2) hS dX7_word_24 flX7_10 ob1 rfl ?_
        refine J_iload_n hS dX7_word_27 rfl ?_
        refine J_iload_n hS dX7_word_28 rfl ?_
        refine J_callV2 (X' := fun _ _ => False) hS dX7_word_29 mvX7_342 wo_now.ob rfl (by decide) (by decide) (Nat.le_of_ble_eq_true rfl) ⟨Nat.le_trans (by decide) hR.1, Nat.le_trans (by decide) hR.2⟩ (fun _ _ q => q.elim) (c_signOfYard wo_now hn hj hm ?_)
        refine J_iret hS hZ hr dX7_word_32 (by omega) (by omega) ?_
        exact q i j hi rfl hj rfl (fun z => c1 (by rw [z]; rfl))
      ·
        refine J_iconst (v := (-1)) hS dX7_word_19 (by decide) ?_
        refine J_goto (tgt := 32) hS dX7_word_20 (by decide) ?_
        refine J_iret hS hZ hr dX7_word_32 (by omega) (by omega) ?_
        exact q0 i j hi rfl hj rfl ((nI_eq (by omega) (by decide)).mp c1)
    ·
      refine J_callS1 hS dX7_word_5 msX7_148 rfl (by decide) (by decide) (Nat.le_of_ble_eq_true rfl) ⟨Nat.le_trans (by decide) hR.1, Nat.le_trans (by decide) hR.2⟩ (fun _ _ q => q) (c_checkConceptBad hbj (JX_out hS hZ ht (by omega) (by omega) (x (Or.inr hbj))))
  ·
    refine J_callS1 hS dX7_word_1 msX7_103 rfl (by decide) (by decide) (Nat.le_of_ble_eq_true rfl) ⟨Nat.le_trans (by decide) hR.1, Nat.le_trans (by decide) hR.2⟩ (fun _ _ q => q) (c_checkYardBad hbi (JX_out hS hZ ht (by omega) (by omega) (x (Or.inl hbi))))
theorem c_unlike {n : Nat} {y p : Int32} (hn : n ≤ 24) (hm : g 2 6 = nI n) (x : ou 3 y ∨ ou 3 p → X eIA g) (q0 : ∀ i j, i < 3 → y = nI i → j < 3 → p = nI j → ((here (thr g 2 (nI i)) n).length = 0 ∨ (here (thr g 2 (nI j)) n).length = 0) → Q (some (.int (-1))) g) (q : ∀ i j, i < 3 → y = nI i → j < 3 → p = nI j → ¬ (here (thr g 2 (nI i)) n).length = 0 → ¬ (here (thr g 2 (nI j)) n).length = 0 → Q (some (.int (nI ((if odY g 2 n (nI i) = odY g 2 n (nI j) then 0 else 1) + (here (fun p => decide (sgY g 2 n (nI i) p ≠ sgY g 2 n (nI j) p)) 8).length)))) g) : Ct l E lay NC 8 1 6 yX7_unlike [.ref 1, .int y, .int p] g Q X := by
  refine Ct_in k_yX7_unlike (by decide) rfl (Nat.le_of_ble_eq_true rfl) rfl ?_
  intro S hS hZ hr ht hR
  show J S 0 0 (g) 0 [some (.ref 1), some (.int y), some (.int p)] []
  refine J_iload_n hS dX7_unlike_0 rfl ?_
  rcases in_or (y := y) (b := 3) (by first | decide | omega) with ⟨i, hi, ei⟩ | hbi
  ·
    subst ei
    refine J_callS1 (X' := fun _ _ => False) hS dX7_unlike_1 msX7_103 rfl (by decide) (by decide) (Nat.le_of_ble_eq_true rfl) ⟨Nat.le_trans (by decide) hR.1, Nat.le_trans (by decide) hR.2⟩ (fun _ _ q => q.elim) (c_checkYardOk hi ?_)
    refine J_iload_n hS dX7_unlike_4 rfl ?_
    rcases in_or (y := p) (b := 3) (by first | decide | omega) with ⟨j, hj, ej⟩ | hbj
    ·
      subst ej
      refine J_callS1 (X' := fun _ _ => False) hS dX7_unlike_5 msX7_103 rfl (by decide) (by decide) (Nat.le_of_ble_eq_true rfl) ⟨Nat.le_trans (by decide) hR.1, Nat.le_trans (by decide) hR.2⟩ (fun _ _ q => q.elim) (c_checkYardOk hj ?_)
      refine J_aload_n hS dX7_unlike_8 rfl ?_
      refine J_getR (t := 2) hS dX7_unlike_9 flX7_10 ob1 rfl ?_
      refine J_iload_n hS dX7_unlike_12 rfl ?_
      refine J_callV1 (X' := fun _ _ => False) hS dX7_unlike_13 mvX7_319 wo_now.ob rfl (by decide) (by decide) (Nat.le_of_ble_eq_true rfl) ⟨Nat.le_trans (by decide) hR.1, Nat.le_trans (by decide) hR.2⟩ (fun _ _ q => q.elim) (c_countThere wo_now hn hm ?_)
      have hlen := here_len (thr g 2 (nI i)) n
      have hlen2 := here_len (thr g 2 (nI j)) n
      refine J_if_eq (tgt := 30) hS dX7_unlike_16 (by decide) (fun c1 => ?_) (fun c1 => ?_)
      ·
        refine J_iconst (v := (-1)) hS dX7_unlike_30 (by decide) ?_
        refine J_iret hS hZ hr dX7_unlike_31 (by omega) (by omega) ?_
        exact q0 i j hi rfl hj rfl (Or.inl ((nI_eq (by omega) (by decide)).mp c1))
      ·
        refine J_aload_n hS dX7_unlike_19 rfl ?_
        refine J_getR (t := 2) hS dX7_unlike_20 flX7_10 ob1 rfl ?_
        refine J_iload_n hS dX7_unlike_23 rfl ?_
        refine J_callV1 (X' := fun _ _ => False) hS dX7_unlike_24 mvX7_319 wo_now.ob rfl (by decide) (by decide) (Nat.le_of_ble_eq_true rfl) ⟨Nat.le_trans (by decide) hR.1, Nat.le_trans (by decide) hR.2⟩ (fun _ _ q => q.elim) (c_countThere wo_now hn hm ?_)
        refine J_if_ne (tgt := 32) hS dX7_unlike_27 (by decide) (fun c2 => ?_) (fun c2 => ?_)
        ·
          refine J_aload_n hS dX7_unlike_32 rfl ?_
          refine J_iload_n hS dX7_unlike_33 rfl ?_
          refine J_iload_n hS dX7_unlike_34 rfl ?_
          refine J_callV2 (X' := fun _ _ => False) hS dX7_unlike_35 mvX7_322 ob1 rfl (by decide) (by decide) (Nat.le_of_ble_eq_true rfl) ⟨Nat.le_trans (by decide) hR.1, Nat.le_trans (by decide) hR.2⟩ (fun _ _ q => q.elim) (c_countUnlike hn hm ?_)
          refine J_iret hS hZ hr dX7_unlike_38 (by omega) (by omega) ?_
          exact q i j hi rfl hj rfl (fun z => c1 (by rw [z]; rfl)) (fun z => c2 (by rw [z]; rfl))
        ·
          refine J_iconst (v := (-1)) hS dX7_unlike_30 (by decide) ?_
          refine J_iret hS hZ hr dX7_unlike_31 (by omega) (by omega) ?_
          exact q0 i j hi rfl hj rfl (Or.inr ((nI_eq (by omega) (by decide)).mp c2))
    ·
      refine J_callS1 hS dX7_unlike_5 msX7_103 rfl (by decide) (by decide) (Nat.le_of_ble_eq_true rfl) ⟨Nat.le_trans (by decide) hR.1, Nat.le_trans (by decide) hR.2⟩ (fun _ _ q => q) (c_checkYardBad hbj (JX_out hS hZ ht (by omega) (by omega) (x (Or.inr hbj))))
  ·
    refine J_callS1 hS dX7_unlike_1 msX7_103 rfl (by decide) (by decide) (Nat.le_of_ble_eq_true rfl) ⟨Nat.le_trans (by decide) hR.1, Nat.le_trans (by decide) hR.2⟩ (fun _ _ q => q) (c_checkYardBad hbi (JX_out hS hZ ht (by omega) (by omega) (x (Or.inl hbi))))
theorem c_since {n : Nat} {c o : Int32} (hn : n ≤ 24) (hm : g 2 6 = nI n) (x : ou n c → X eNS g) (x2 : ¬ ou n c → ou 6 o → X eIA g) (q : ∀ i j, i < n → c = nI i → j < 6 → o = nI j → Q (some (.int (g 147 (i * 6 + j)))) g) : Ct l E lay NC 8 1 6 yX7_since [.ref 1, .int c, .int o] g Q X := by
  refine Ct_in k_yX7_since (by decide) rfl (Nat.le_of_ble_eq_true rfl) rfl ?_
  intro S hS hZ hr ht hR
  show J S 0 0 (g) 0 [some (.ref 1), some (.int c), some (.int o)] []
  refine J_aload_n hS dX7_since_0 rfl ?_
  refine J_iload_n hS dX7_since_1 rfl ?_
  rcases in_or (y := c) (b := n) (by first | decide | omega) with ⟨k, hk, ek⟩ | hbk
  ·
    subst ek
    refine J_callV1 (X' := fun _ _ => False) hS dX7_since_2 mvX7_121 ob1 rfl (by decide) (by decide) (Nat.le_of_ble_eq_true rfl) ⟨Nat.le_trans (by decide) hR.1, Nat.le_trans (by decide) hR.2⟩ (fun _ _ q => q.elim) (c_checkChildOk hm hn hk ?_)
    refine J_iload_n hS dX7_since_5 rfl ?_
    rcases in_or (y := o) (b := 6) (by first | decide | omega) with ⟨j, hj, ej⟩ | hbj
    ·
      subst ej
      refine J_callS1 (X' := fun _ _ => False) hS dX7_since_6 msX7_161 rfl (by decide) (by decide) (Nat.le_of_ble_eq_true rfl) ⟨Nat.le_trans (by decide) hR.1, Nat.le_trans (by decide) hR.2⟩ (fun _ _ q => q.elim) (c_checkOrderOk hj ?_)
      refine J_aload_n hS dX7_since_9 rfl ?_
      refine J_getR (t := 143) hS dX7_since_10 flX7_38 ob1 rfl ?_
      refine J_getR (t := 147) hS dX7_since_13 flX7_348 ob143 rfl ?_
      refine J_iload_n hS dX7_since_16 rfl ?_
      refine J_bipush (v := 6) hS dX7_since_17 (by decide) ?_
      refine J_imul hS dX7_since_19 ?_
      refine J_iload_n hS dX7_since_20 rfl ?_
      refine J_iadd hS dX7_since_21 ?_
      refine J_ialdN hS (k * 6 + j) dX7_since_22 ar147 (by first | rfl | (simp only [n0, n1, n2, n3, n4, n5, n6, n7, n8, n9, n10, n11, n12, n13, n14, n15, n16, n17, n18, n19, n20, n24, n32, n56, n60, n64, n72, n99, n100, n128, n136, n142, n144, n200, n300, n999, n1000, n1500, n3464, nI_add, pk_mul] <;> first | rfl | (congr 1; omega))) (by omega) (by decide) ?_
      refine J_iret hS hZ hr dX7_since_23 (by omega) (by omega) ?_
      exact q k j hk rfl hj rfl
    ·
      refine J_callS1 hS dX7_since_6 msX7_161 rfl (by decide) (by decide) (Nat.le_of_ble_eq_true rfl) ⟨Nat.le_trans (by decide) hR.1, Nat.le_trans (by decide) hR.2⟩ (fun _ _ q => q) (c_checkOrderBad hbj (JX_out hS hZ ht (by omega) (by omega) (x2 (nou hk (by omega)) hbj)))
  ·
    refine J_callV1 hS dX7_since_2 mvX7_121 ob1 rfl (by decide) (by decide) (Nat.le_of_ble_eq_true rfl) ⟨Nat.le_trans (by decide) hR.1, Nat.le_trans (by decide) hR.2⟩ (fun _ _ q => q) (c_checkChildBad (by rw [hm]; exact hbk) (JX_out hS hZ ht (by omega) (by omega) (x hbk)))
theorem c_taught {n m : Nat} {sy : Nat → Nat} {c o : Int32} (hn : n ≤ 24) (hm : g 2 6 = nI n) (hmm : m ≤ 1500) (em : g 143 0 = nI m) (hsy : ∀ t, t < m → sy t < 24 ∧ g 144 (t * 19 + 1) = nI (sy t)) (x : ou n c → X eNS g) (x2 : ¬ ou n c → ou 6 o → X eIA g) (q : ∀ i j, i < n → c = nI i → j < 6 → o = nI j → ∀ g', (∀ z, z ≠ 158 → g' z = g z) → Q (some (.int (ftB (fun z => nI (ftN g sy (nI i) (nI j) z m)) 24).1)) g') : Ct l E lay NC 8 1 6 yX7_taught [.ref 1, .int c, .int o] g Q X := by
  refine Ct_in k_yX7_taught (by decide) rfl (Nat.le_of_ble_eq_true rfl) rfl ?_
  intro S hS hZ hr ht hR
  show J S 0 0 (g) 0 [some (.ref 1), some (.int c), some (.int o)] []
  refine J_aload_n hS dX7_taught_0 rfl ?_
  refine J_iload_n hS dX7_taught_1 rfl ?_
  rcases in_or (y := c) (b := n) (by first | decide | omega) with ⟨k, hk, ek⟩ | hbk
  ·
    subst ek
    refine J_callV1 (X' := fun _ _ => False) hS dX7_taught_2 mvX7_121 ob1 rfl (by decide) (by decide) (Nat.le_of_ble_eq_true rfl) ⟨Nat.le_trans (by decide) hR.1, Nat.le_trans (by decide) hR.2⟩ (fun _ _ q => q.elim) (c_checkChildOk hm hn hk ?_)
    refine J_iload_n hS dX7_taught_5 rfl ?_
    rcases in_or (y := o) (b := 6) (by first | decide | omega) with ⟨j, hj, ej⟩ | hbj
    ·
      subst ej
      refine J_callS1 (X' := fun _ _ => False) hS dX7_taught_6 msX7_161 rfl (by decide) (by decide) (Nat.le_of_ble_eq_true rfl) ⟨Nat.le_trans (by decide) hR.1, Nat.le_trans (by decide) hR.2⟩ (fun _ _ q => q.elim) (c_checkOrderOk hj ?_)
      refine J_aload_n hS dX7_taught_9 rfl ?_
      refine J_iload_n hS dX7_taught_10 rfl ?_
      refine J_iload_n hS dX7_taught_11 rfl ?_
      refine J_callV2 (X' := fun _ _ => False) hS dX7_taught_12 mvX7_351 ob1 rfl (by decide) (by decide) (Nat.le_of_ble_eq_true rfl) ⟨Nat.le_trans (by decide) hR.1, Nat.le_trans (by decide) hR.2⟩ (fun _ _ q => q.elim) (c_findTeacher hmm em hsy (fun g1 b1 => ?_))
      refine J_iret hS hZ hr dX7_taught_15 (by omega) (by omega) ?_
      exact q k j hk rfl hj rfl g1 b1
    ·
      refine J_callS1 hS dX7_taught_6 msX7_161 rfl (by decide) (by decide) (Nat.le_of_ble_eq_true rfl) ⟨Nat.le_trans (by decide) hR.1, Nat.le_trans (by decide) hR.2⟩ (fun _ _ q => q) (c_checkOrderBad hbj (JX_out hS hZ ht (by omega) (by omega) (x2 (nou hk (by omega)) hbj)))
  ·
    refine J_callV1 hS dX7_taught_2 mvX7_121 ob1 rfl (by decide) (by decide) (Nat.le_of_ble_eq_true rfl) ⟨Nat.le_trans (by decide) hR.1, Nat.le_trans (by decide) hR.2⟩ (fun _ _ q => q) (c_checkChildBad (by rw [hm]; exact hbk) (JX_out hS hZ ht (by omega) (by omega) (x hbk)))
end ClsP2


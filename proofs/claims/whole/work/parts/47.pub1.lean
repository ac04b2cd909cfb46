/-! THE CLASS: public methods, I -/
abbrev eIA : String := "java/lang/IllegalArgumentException"
abbrev eNS : String := "java/util/NoSuchElementException"
abbrev eIS : String := "java/lang/IllegalStateException"
abbrev eIB : String := "java/lang/IndexOutOfBoundsException"
/-- not a number below b -/
def ou (b : Nat) (y : Int32) : Prop := y < 0 ∨ nI b ≤ y
theorem nou {b y : Nat} (h : y < b) (hb : b < 2 ^ 31) : ¬ ou b (nI y) := by
  rintro (z | z)
  · exact absurd z (nI_npos (by omega))
  · exact absurd (nI_lt h hb) (Int32.not_lt.mpr z)
section ClsP1
variable {l : Launch} {E : Ey} {g : Mm} {Q : Option Value → Mm → Prop} {X : String → Mm → Prop} {h : Nat}
theorem c_seeds {x y : Int32} (q : Q none (u2 (u2 (u2 g 2 0 x) 2 1 y) 1 16 (-1))) : Ct l E lay NC 1 0 0 yX7_seeds [.ref 1, .int x, .int y] g Q X := by
  refine Ct_in k_yX7_seeds (by decide) rfl (Nat.le_of_ble_eq_true rfl) rfl ?_
  intro S hS hZ hr ht hR
  show J S 0 0 g 0 [some (.ref 1), some (.int x), some (.int y)] []
  refine J_aload_n hS dX7_seeds_0 rfl ?_
  refine J_getR (t := 2) hS dX7_seeds_1 flX7_10 ob1 rfl ?_
  refine J_iload_n hS dX7_seeds_4 rfl ?_
  refine J_putI hS dX7_seeds_5 fpX7_94 wo_now.ob rfl (fun g5 eg5 => ?_)
  refine J_aload_n hS dX7_seeds_8 rfl ?_
  refine J_getR (t := 2) hS dX7_seeds_9 flX7_10 ob1 rfl ?_
  refine J_iload_n hS dX7_seeds_12 rfl ?_
  refine J_putI hS dX7_seeds_13 fpX7_97 wo_now.ob rfl (fun g13 eg13 => ?_)
  refine J_aload_n hS dX7_seeds_16 rfl ?_
  refine J_callV0 (X' := fun _ _ => False) hS dX7_seeds_17 mvX7_100 ob1 rfl (by decide) (by decide) (Nat.le_of_ble_eq_true rfl) ⟨Nat.le_trans (by decide) hR.1, Nat.le_trans (by decide) hR.2⟩ (fun _ _ q => q.elim) (c_stopFilm ?_)
  refine J_vret hS hZ hr dX7_seeds_20 (by omega) (by omega) ?_
  rw [eg13, eg5]; exact q
theorem c_come {n : Nat} {y a tc : Int32} {t : Bool} (hn : n ≤ 24) (hm : g 2 6 = nI n) (htc : t = true ↔ tc ≠ 0) (x : ou 3 y ∨ ou 21 a → X eIA g) (q24 : ¬ ou 3 y → ¬ ou 21 a → n = 24 → Q (some (.int (-1))) g)
    (q : ¬ ou 3 y → ¬ ou 21 a → n < 24 → ∀ g', (∀ z, (z < 2 ∨ 12 < z) → g' z = u2 g 1 16 (-1) z) → wv g' 2 = arrW (wv g 2) n y a t → Q (some (.int (nI n))) g') : Ct l E lay NC 8 1 6 yX7_come [.ref 1, .int y, .int a, .int tc] g Q X := by
  refine Ct_in k_yX7_come (by decide) rfl (Nat.le_of_ble_eq_true rfl) rfl ?_
  intro S hS hZ hr ht hR
  show J S 0 0 g 0 [some (.ref 1), some (.int y), some (.int a), some (.int tc)] []
  refine J_iload_n hS dX7_come_0 rfl ?_
  rcases in_or (y := y) (b := 3) (by first | decide | omega) with ⟨y1, hy1, ey1⟩ | hby1
  ·
    subst ey1
    have ny := nou hy1 (by decide)
    refine J_callS1 (X' := fun _ _ => False) hS dX7_come_1 msX7_103 rfl (by decide) (by decide) (Nat.le_of_ble_eq_true rfl) ⟨Nat.le_trans (by decide) hR.1, Nat.le_trans (by decide) hR.2⟩ (fun _ _ q => q.elim) (c_checkYardOk hy1 ?_)
    refine J_iload_n hS dX7_come_4 rfl ?_
    rcases in_or (y := a) (b := 21) (by first | decide | omega) with ⟨a1, ha1, ea1⟩ | hba1
    ·
      subst ea1
      have na := nou ha1 (by decide)
      refine J_if_lt (tgt := 14) hS dX7_come_5 (by decide) (fun c1 => ?_) (fun c1 => ?_)
      · exact absurd c1 (nI_npos (by omega))
      ·
        refine J_iload_n hS dX7_come_8 rfl ?_
        refine J_bipush (v := 20) hS dX7_come_9 (by decide) ?_
        refine J_icmp_le (tgt := 24) hS dX7_come_11 (by decide) (fun c2 => ?_) (fun c2 => ?_)
        ·
          refine J_aload_n hS dX7_come_24 rfl ?_
          refine J_getR (t := 2) hS dX7_come_25 flX7_10 ob1 rfl ?_
          refine J_getI hS dX7_come_28 flX7_114 wo_now.ob rfl ?_
          refine J_bipush (v := 24) hS dX7_come_31 (by decide) ?_
          show J S 0 0 g 33 [some (.ref 1), some (.int (nI y1)), some (.int (nI a1)), some (.int tc)] [.int 24, .int _]
          rw [hm]
          refine J_icmp_lt (tgt := 38) hS dX7_come_33 (by decide) (fun c3 => ?_) (fun c3 => ?_)
          ·
            refine J_aload_n hS dX7_come_38 rfl ?_
            refine J_callV0 (X' := fun _ _ => False) hS dX7_come_39 mvX7_100 ob1 rfl (by decide) (by decide) (Nat.le_of_ble_eq_true rfl) ⟨Nat.le_trans (by decide) hR.1, Nat.le_trans (by decide) hR.2⟩ (fun _ _ q => q.elim) (c_stopFilm ?_)
            refine J_aload_n hS dX7_come_42 rfl ?_
            refine J_getR (t := 2) hS dX7_come_43 flX7_10 ob1 rfl ?_
            refine J_iload_n hS dX7_come_46 rfl ?_
            refine J_iload_n hS dX7_come_47 rfl ?_
            refine J_iload_n hS dX7_come_48 rfl ?_
            refine J_callV3 (X' := fun _ _ => False) hS dX7_come_49 mvX7_117 wo_now.ob rfl (by decide) (by decide) (Nat.le_of_ble_eq_true rfl) ⟨Nat.le_trans (by decide) hR.1, Nat.le_trans (by decide) hR.2⟩ (fun _ _ q => q.elim) (c_arrive wo_now hn (show u2 g 1 16 (-1) 2 6 = nI n by rw [u2_ne _ (by decide)]; exact hm) htc (fun e => ?_) (fun hlt g1 b1 b2 => ?_))
            · subst e; exact absurd c3 (by decide)
            ·
              refine J_iret hS hZ hr dX7_come_52 (by omega) (by omega) ?_
              exact q ny na hlt g1 (fun z hz => b1 z (by omega)) (by rw [b2, wv_fr (g' := u2 g 1 16 (-1)) (g := g) (fun z h1 h2 => by rw [u2_ne _ (by omega)])])
          ·
            refine J_iconst (v := (-1)) hS dX7_come_36 (by decide) ?_
            refine J_iret hS hZ hr dX7_come_37 (by omega) (by omega) ?_
            refine q24 ny na ?_
            rcases Nat.lt_or_ge n 24 with z | z
            · exact absurd (nI_lt z (by decide)) c3
            · omega
        · exact absurd (nI_le (show a1 ≤ 20 by omega) (by decide)) c2
    · have xx : X eIA g := x (Or.inr hba1)
      refine J_if_lt (tgt := 14) hS dX7_come_5 (by decide) (fun c1 => ?_) (fun c1 => ?_)
      ·
        exact J_thA hS hZ ht hR (by decide) (List.mem_of_getElem? (i := 1) rfl) rfl dX7_come_14 dX7_come_17 dX7_come_18 dX7_come_20 dX7_come_23 (by omega) (by omega) (xx)
      ·
        refine J_iload_n hS dX7_come_8 rfl ?_
        refine J_bipush (v := 20) hS dX7_come_9 (by decide) ?_
        refine J_icmp_le (tgt := 24) hS dX7_come_11 (by decide) (fun c2 => ?_) (fun c2 => ?_)
        · rcases hba1 with z | z
          · exact absurd z c1
          · exact absurd (Int32.lt_of_le_of_lt c2 (show (20 : Int32) < nI 21 by decide)) (Int32.not_lt.mpr z)
        ·
          exact J_thA hS hZ ht hR (by decide) (List.mem_of_getElem? (i := 1) rfl) rfl dX7_come_14 dX7_come_17 dX7_come_18 dX7_come_20 dX7_come_23 (by omega) (by omega) (xx)
  ·
    refine J_callS1 hS dX7_come_1 msX7_103 rfl (by decide) (by decide) (Nat.le_of_ble_eq_true rfl) ⟨Nat.le_trans (by decide) hR.1, Nat.le_trans (by decide) hR.2⟩ (fun _ _ q => q) (c_checkYardBad hby1 (JX_out hS hZ ht (by omega) (by omega) (x (Or.inl hby1))))
theorem c_leave {n : Nat} {c : Int32} (hn : n ≤ 24) (hm : g 2 6 = nI n) (x : ou n c → X eNS g) (q0 : ∀ k, k < n → c = nI k → g 7 k = 0 → Q (some (.int 0)) g) (q : ∀ k, k < n → c = nI k → ¬ g 7 k = 0 → Q (some (.int 1)) (u2 (u2 g 7 k 0) 1 16 (-1))) : Ct l E lay NC 8 1 6 yX7_leave [.ref 1, .int c] g Q X := by
  refine Ct_in k_yX7_leave (by decide) rfl (Nat.le_of_ble_eq_true rfl) rfl ?_
  intro S hS hZ hr ht hR
  show J S 0 0 g 0 [some (.ref 1), some (.int c)] []
  refine J_aload_n hS dX7_leave_0 rfl ?_
  refine J_iload_n hS dX7_leave_1 rfl ?_
  rcases in_or (y := c) (b := n) (by first | decide | omega) with ⟨k, hk, ek⟩ | hbk
  ·
    subst ek
    refine J_callV1 (X' := fun _ _ => False) hS dX7_leave_2 mvX7_121 ob1 rfl (by decide) (by decide) (Nat.le_of_ble_eq_true rfl) ⟨Nat.le_trans (by decide) hR.1, Nat.le_trans (by decide) hR.2⟩ (fun _ _ q => q.elim) (c_checkChildOk hm hn hk ?_)
    refine J_aload_n hS dX7_leave_5 rfl ?_
    refine J_getR (t := 2) hS dX7_leave_6 flX7_10 ob1 rfl ?_
    refine J_getR (t := 7) hS dX7_leave_9 flX7_124 wo_now.ob rfl ?_
    refine J_iload_n hS dX7_leave_12 rfl ?_
    refine J_ialdN hS (k) dX7_leave_13 (show Ar lay NC .int 7 24 from wo_now.ar 5 (by decide) (by decide)) (by first | rfl | (simp only [n0, n1, n2, n3, n4, n5, n6, n7, n8, n9, n10, n11, n12, n13, n14, n15, n16, n17, n18, n19, n20, n24, n32, n56, n60, n64, n72, n99, n100, n128, n136, n142, n144, n200, n300, n999, n1000, n1500, n3464, nI_add, pk_mul] <;> first | rfl | (congr 1; omega))) (by omega) (by decide) ?_
    refine J_if_ne (tgt := 19) hS dX7_leave_14 (by decide) (fun c1 => ?_) (fun c1 => ?_)
    ·
      refine J_aload_n hS dX7_leave_19 rfl ?_
      refine J_getR (t := 2) hS dX7_leave_20 flX7_10 ob1 rfl ?_
      refine J_getR (t := 7) hS dX7_leave_23 flX7_124 wo_now.ob rfl ?_
      refine J_iload_n hS dX7_leave_26 rfl ?_
      refine J_iconst (v := 0) hS dX7_leave_27 (by decide) ?_
      refine J_iastN hS (k) dX7_leave_28 (show Ar lay NC .int 7 24 from wo_now.ar 5 (by decide) (by decide)) (by first | rfl | (simp only [n0, n1, n2, n3, n4, n5, n6, n7, n8, n9, n10, n11, n12, n13, n14, n15, n16, n17, n18, n19, n20, n24, n32, n56, n60, n64, n72, n99, n100, n128, n136, n142, n144, n200, n300, n999, n1000, n1500, n3464, nI_add, pk_mul] <;> first | rfl | (congr 1; omega))) (by omega) (by decide) (fun g28 eg28 => ?_)
      refine J_aload_n hS dX7_leave_29 rfl ?_
      refine J_callV0 (X' := fun _ _ => False) hS dX7_leave_30 mvX7_100 ob1 rfl (by decide) (by decide) (Nat.le_of_ble_eq_true rfl) ⟨Nat.le_trans (by decide) hR.1, Nat.le_trans (by decide) hR.2⟩ (fun _ _ q => q.elim) (c_stopFilm ?_)
      refine J_iconst (v := 1) hS dX7_leave_33 (by decide) ?_
      refine J_iret hS hZ hr dX7_leave_34 (by omega) (by omega) ?_
      rw [eg28]; exact q k hk rfl c1
    ·
      refine J_iconst (v := 0) hS dX7_leave_17 (by decide) ?_
      refine J_iret hS hZ hr dX7_leave_18 (by omega) (by omega) ?_
      exact q0 k hk rfl c1
  ·
    refine J_callV1 hS dX7_leave_2 mvX7_121 ob1 rfl (by decide) (by decide) (Nat.le_of_ble_eq_true rfl) ⟨Nat.le_trans (by decide) hR.1, Nat.le_trans (by decide) hR.2⟩ (fun _ _ q => q) (c_checkChildBad (by rw [hm]; exact hbk) (JX_out hS hZ ht (by omega) (by omega) (x hbk)))
theorem c_visit {n : Nat} {c y : Int32} (hn : n ≤ 24) (hm : g 2 6 = nI n) (x : ou n c → X eNS g) (x2 : ¬ ou n c → ou 3 y → X eIA g) (q0 : ∀ k, k < n → c = nI k → ¬ ou 3 y → g 7 k = 0 → Q (some (.int (-1))) g) (q : ∀ k, k < n → c = nI k → ¬ ou 3 y → ¬ g 7 k = 0 → Q (some (.int (g 3 k))) (u2 (u2 g 3 k y) 1 16 (-1))) : Ct l E lay NC 8 1 6 yX7_visit [.ref 1, .int c, .int y] g Q X := by
  refine Ct_in k_yX7_visit (by decide) rfl (Nat.le_of_ble_eq_true rfl) rfl ?_
  intro S hS hZ hr ht hR
  show J S 0 0 g 0 [some (.ref 1), some (.int c), some (.int y), none] []
  refine J_aload_n hS dX7_visit_0 rfl ?_
  refine J_iload_n hS dX7_visit_1 rfl ?_
  rcases in_or (y := c) (b := n) (by first | decide | omega) with ⟨k, hk, ek⟩ | hbk
  ·
    subst ek
    refine J_callV1 (X' := fun _ _ => False) hS dX7_visit_2 mvX7_121 ob1 rfl (by decide) (by decide) (Nat.le_of_ble_eq_true rfl) ⟨Nat.le_trans (by decide) hR.1, Nat.le_trans (by decide) hR.2⟩ (fun _ _ q => q.elim) (c_checkChildOk hm hn hk ?_)
    refine J_iload_n hS dX7_visit_5 rfl ?_
    rcases in_or (y := y) (b := 3) (by first | decide | omega) with ⟨v, hv, ev⟩ | hbv
    ·
      subst ev
      have nv := nou hv (by decide)
      refine J_callS1 (X' := fun _ _ => False) hS dX7_visit_6 msX7_103 rfl (by decide) (by decide) (Nat.le_of_ble_eq_true rfl) ⟨Nat.le_trans (by decide) hR.1, Nat.le_trans (by decide) hR.2⟩ (fun _ _ q => q.elim) (c_checkYardOk hv ?_)
      refine J_aload_n hS dX7_visit_9 rfl ?_
      refine J_getR (t := 2) hS dX7_visit_10 flX7_10 ob1 rfl ?_
      refine J_getR (t := 7) hS dX7_visit_13 flX7_124 wo_now.ob rfl ?_
      refine J_iload_n hS dX7_visit_16 rfl ?_
      refine J_ialdN hS (k) dX7_visit_17 (show Ar lay NC .int 7 24 from wo_now.ar 5 (by decide) (by decide)) (by first | rfl | (simp only [n0, n1, n2, n3, n4, n5, n6, n7, n8, n9, n10, n11, n12, n13, n14, n15, n16, n17, n18, n19, n20, n24, n32, n56, n60, n64, n72, n99, n100, n128, n136, n142, n144, n200, n300, n999, n1000, n1500, n3464, nI_add, pk_mul] <;> first | rfl | (congr 1; omega))) (by omega) (by decide) ?_
      refine J_if_ne (tgt := 23) hS dX7_visit_18 (by decide) (fun c1 => ?_) (fun c1 => ?_)
      ·
        refine J_aload_n hS dX7_visit_23 rfl ?_
        refine J_getR (t := 2) hS dX7_visit_24 flX7_10 ob1 rfl ?_
        refine J_getR (t := 3) hS dX7_visit_27 flX7_127 wo_now.ob rfl ?_
        refine J_iload_n hS dX7_visit_30 rfl ?_
        refine J_ialdN hS (k) dX7_visit_31 (show Ar lay NC .int 3 24 from wo_now.ar 1 (by decide) (by decide)) (by first | rfl | (simp only [n0, n1, n2, n3, n4, n5, n6, n7, n8, n9, n10, n11, n12, n13, n14, n15, n16, n17, n18, n19, n20, n24, n32, n56, n60, n64, n72, n99, n100, n128, n136, n142, n144, n200, n300, n999, n1000, n1500, n3464, nI_add, pk_mul] <;> first | rfl | (congr 1; omega))) (by omega) (by decide) ?_
        refine J_istore_n (lt := fun w => [some (.ref 1), some (.int (nI k)), some (.int (nI v)), some (.int w)]) hS dX7_visit_32 (Nat.le_of_ble_eq_true rfl) (fun _ => rfl) (fun w ew => ?_)
        refine J_aload_n hS dX7_visit_33 rfl ?_
        refine J_getR (t := 2) hS dX7_visit_34 flX7_10 ob1 rfl ?_
        refine J_getR (t := 3) hS dX7_visit_37 flX7_127 wo_now.ob rfl ?_
        refine J_iload_n hS dX7_visit_40 rfl ?_
        refine J_iload_n hS dX7_visit_41 rfl ?_
        refine J_iastN hS (k) dX7_visit_42 (show Ar lay NC .int 3 24 from wo_now.ar 1 (by decide) (by decide)) (by first | rfl | (simp only [n0, n1, n2, n3, n4, n5, n6, n7, n8, n9, n10, n11, n12, n13, n14, n15, n16, n17, n18, n19, n20, n24, n32, n56, n60, n64, n72, n99, n100, n128, n136, n142, n144, n200, n300, n999, n1000, n1500, n3464, nI_add, pk_mul] <;> first | rfl | (congr 1; omega))) (by omega) (by decide) (fun g42 eg42 => ?_)
        refine J_aload_n hS dX7_visit_43 rfl ?_
        refine J_callV0 (X' := fun _ _ => False) hS dX7_visit_44 mvX7_100 ob1 rfl (by decide) (by decide) (Nat.le_of_ble_eq_true rfl) ⟨Nat.le_trans (by decide) hR.1, Nat.le_trans (by decide) hR.2⟩ (fun _ _ q => q.elim) (c_stopFilm ?_)
        refine J_iload_n hS dX7_visit_47 rfl ?_
        refine J_iret hS hZ hr dX7_visit_48 (by omega) (by omega) ?_
        rw [eg42, ew]; exact q k hk rfl nv c1
      ·
        refine J_iconst (v := (-1)) hS dX7_visit_21 (by decide) ?_
        refine J_iret hS hZ hr dX7_visit_22 (by omega) (by omega) ?_
        exact q0 k hk rfl nv c1
    ·
      refine J_callS1 hS dX7_visit_6 msX7_103 rfl (by decide) (by decide) (Nat.le_of_ble_eq_true rfl) ⟨Nat.le_trans (by decide) hR.1, Nat.le_trans (by decide) hR.2⟩ (fun _ _ q => q) (c_checkYardBad hbv (JX_out hS hZ ht (by omega) (by omega) (x2 (nou hk (by omega)) hbv)))
  ·
    refine J_callV1 hS dX7_visit_2 mvX7_121 ob1 rfl (by decide) (by decide) (Nat.le_of_ble_eq_true rfl) ⟨Nat.le_trans (by decide) hR.1, Nat.le_trans (by decide) hR.2⟩ (fun _ _ q => q) (c_checkChildBad (by rw [hm]; exact hbk) (JX_out hS hZ ht (by omega) (by omega) (x hbk)))
theorem c_sign {n : Nat} {c p s : Int32} (hn : n ≤ 24) (hm : g 2 6 = nI n) (x : ou n c → X eNS g) (x2 : ¬ ou n c → ou 8 p ∨ ou 16 s → X eIA g) (q : ∀ i j k, i < n → c = nI i → j < 8 → p = nI j → k < 16 → s = nI k → Q (some (.int (g 10 ((i * 8 + j) * 16 + k)))) g) : Ct l E lay NC 8 1 6 yX7_sign [.ref 1, .int c, .int p, .int s] g Q X := by
  refine Ct_in k_yX7_sign (by decide) rfl (Nat.le_of_ble_eq_true rfl) rfl ?_
  intro S hS hZ hr ht hR
  show J S 0 0 g 0 [some (.ref 1), some (.int c), some (.int p), some (.int s)] []
  refine J_aload_n hS dX7_sign_0 rfl ?_
  refine J_iload_n hS dX7_sign_1 rfl ?_
  rcases in_or (y := c) (b := n) (by first | decide | omega) with ⟨k, hk, ek⟩ | hbk
  ·
    subst ek
    refine J_callV1 (X' := fun _ _ => False) hS dX7_sign_2 mvX7_121 ob1 rfl (by decide) (by decide) (Nat.le_of_ble_eq_true rfl) ⟨Nat.le_trans (by decide) hR.1, Nat.le_trans (by decide) hR.2⟩ (fun _ _ q => q.elim) (c_checkChildOk hm hn hk ?_)
    refine J_iload_n hS dX7_sign_5 rfl ?_
    rcases in_or (y := p) (b := 8) (by first | decide | omega) with ⟨j, hj, ej⟩ | hbj
    ·
      subst ej
      refine J_callS1 (X' := fun _ _ => False) hS dX7_sign_6 msX7_148 rfl (by decide) (by decide) (Nat.le_of_ble_eq_true rfl) ⟨Nat.le_trans (by decide) hR.1, Nat.le_trans (by decide) hR.2⟩ (fun _ _ q => q.elim) (c_checkConceptOk hj ?_)
      refine J_iload_n hS dX7_sign_9 rfl ?_
      rcases in_or (y := s) (b := 16) (by first | decide | omega) with ⟨i, hi, ei⟩ | hbi
      ·
        subst ei
        refine J_callS1 (X' := fun _ _ => False) hS dX7_sign_10 msX7_151 rfl (by decide) (by decide) (Nat.le_of_ble_eq_true rfl) ⟨Nat.le_trans (by decide) hR.1, Nat.le_trans (by decide) hR.2⟩ (fun _ _ q => q.elim) (c_checkSignOk hi ?_)
        refine J_aload_n hS dX7_sign_13 rfl ?_
        refine J_getR (t := 2) hS dX7_sign_14 flX7_10 ob1 rfl ?_
        refine J_getR (t := 10) hS dX7_sign_17 flX7_154 wo_now.ob rfl ?_
        refine J_iload_n hS dX7_sign_20 rfl ?_
        refine J_iload_n hS dX7_sign_21 rfl ?_
        refine J_iload_n hS dX7_sign_22 rfl ?_
        refine J_callS3 (X' := fun _ _ => False) hS dX7_sign_23 msX7_157 rfl (by decide) (by decide) (Nat.le_of_ble_eq_true rfl) ⟨Nat.le_trans (by decide) hR.1, Nat.le_trans (by decide) hR.2⟩ (fun _ _ q => q.elim) (c_signIndex ?_)
        refine J_ialdN hS ((k * 8 + j) * 16 + i) dX7_sign_26 (show Ar lay NC .int 10 3072 from wo_now.ar 8 (by decide) (by decide)) (by first | rfl | (simp only [n0, n1, n2, n3, n4, n5, n6, n7, n8, n9, n10, n11, n12, n13, n14, n15, n16, n17, n18, n19, n20, n24, n32, n56, n60, n64, n72, n99, n100, n128, n136, n142, n144, n200, n300, n999, n1000, n1500, n3464, nI_add, pk_mul] <;> first | rfl | (congr 1; omega))) (by omega) (by decide) ?_
        refine J_iret hS hZ hr dX7_sign_27 (by omega) (by omega) ?_
        exact q k j i hk rfl hj rfl hi rfl
      ·
        refine J_callS1 hS dX7_sign_10 msX7_151 rfl (by decide) (by decide) (Nat.le_of_ble_eq_true rfl) ⟨Nat.le_trans (by decide) hR.1, Nat.le_trans (by decide) hR.2⟩ (fun _ _ q => q) (c_checkSignBad hbi (JX_out hS hZ ht (by omega) (by omega) (x2 (nou hk (by omega)) (Or.inr hbi))))
    ·
      refine J_callS1 hS dX7_sign_6 msX7_148 rfl (by decide) (by decide) (Nat.le_of_ble_eq_true rfl) ⟨Nat.le_trans (by decide) hR.1, Nat.le_trans (by decide) hR.2⟩ (fun _ _ q => q) (c_checkConceptBad hbj (JX_out hS hZ ht (by omega) (by omega) (x2 (nou hk (by omega)) (Or.inl hbj))))
  ·
    refine J_callV1 hS dX7_sign_2 mvX7_121 ob1 rfl (by decide) (by decide) (Nat.le_of_ble_eq_true rfl) ⟨Nat.le_trans (by decide) hR.1, Nat.le_trans (by decide) hR.2⟩ (fun _ _ q => q) (c_checkChildBad (by rw [hm]; exact hbk) (JX_out hS hZ ht (by omega) (by omega) (x hbk)))
theorem c_order {n : Nat} {c o : Int32} (hn : n ≤ 24) (hm : g 2 6 = nI n) (x : ou n c → X eNS g) (x2 : ¬ ou n c → ou 6 o → X eIA g) (q : ∀ i j, i < n → c = nI i → j < 6 → o = nI j → Q (some (.int (g 11 (i * 6 + j)))) g) : Ct l E lay NC 8 1 6 yX7_order [.ref 1, .int c, .int o] g Q X := by
  refine Ct_in k_yX7_order (by decide) rfl (Nat.le_of_ble_eq_true rfl) rfl ?_
  intro S hS hZ hr ht hR
  show J S 0 0 g 0 [some (.ref 1), some (.int c), some (.int o)] []
  refine J_aload_n hS dX7_order_0 rfl ?_
  refine J_iload_n hS dX7_order_1 rfl ?_
  rcases in_or (y := c) (b := n) (by first | decide | omega) with ⟨k, hk, ek⟩ | hbk
  ·
    subst ek
    refine J_callV1 (X' := fun _ _ => False) hS dX7_order_2 mvX7_121 ob1 rfl (by decide) (by decide) (Nat.le_of_ble_eq_true rfl) ⟨Nat.le_trans (by decide) hR.1, Nat.le_trans (by decide) hR.2⟩ (fun _ _ q => q.elim) (c_checkChildOk hm hn hk ?_)
    refine J_iload_n hS dX7_order_5 rfl ?_
    rcases in_or (y := o) (b := 6) (by first | decide | omega) with ⟨j, hj, ej⟩ | hbj
    ·
      subst ej
      refine J_callS1 (X' := fun _ _ => False) hS dX7_order_6 msX7_161 rfl (by decide) (by decide) (Nat.le_of_ble_eq_true rfl) ⟨Nat.le_trans (by decide) hR.1, Nat.le_trans (by decide) hR.2⟩ (fun _ _ q => q.elim) (c_checkOrderOk hj ?_)
      refine J_aload_n hS dX7_order_9 rfl ?_
      refine J_getR (t := 2) hS dX7_order_10 flX7_10 ob1 rfl ?_
      refine J_getR (t := 11) hS dX7_order_13 flX7_164 wo_now.ob rfl ?_
      refine J_iload_n hS dX7_order_16 rfl ?_
      refine J_bipush (v := 6) hS dX7_order_17 (by decide) ?_
      refine J_imul hS dX7_order_19 ?_
      refine J_iload_n hS dX7_order_20 rfl ?_
      refine J_iadd hS dX7_order_21 ?_
      refine J_ialdN hS (k * 6 + j) dX7_order_22 (show Ar lay NC .int 11 144 from wo_now.ar 9 (by decide) (by decide)) (by first | rfl | (simp only [n0, n1, n2, n3, n4, n5, n6, n7, n8, n9, n10, n11, n12, n13, n14, n15, n16, n17, n18, n19, n20, n24, n32, n56, n60, n64, n72, n99, n100, n128, n136, n142, n144, n200, n300, n999, n1000, n1500, n3464, nI_add, pk_mul] <;> first | rfl | (congr 1; omega))) (by omega) (by decide) ?_
      refine J_iret hS hZ hr dX7_order_23 (by omega) (by omega) ?_
      exact q k j hk rfl hj rfl
    ·
      refine J_callS1 hS dX7_order_6 msX7_161 rfl (by decide) (by decide) (Nat.le_of_ble_eq_true rfl) ⟨Nat.le_trans (by decide) hR.1, Nat.le_trans (by decide) hR.2⟩ (fun _ _ q => q) (c_checkOrderBad hbj (JX_out hS hZ ht (by omega) (by omega) (x2 (nou hk (by omega)) hbj)))
  ·
    refine J_callV1 hS dX7_order_2 mvX7_121 ob1 rfl (by decide) (by decide) (Nat.le_of_ble_eq_true rfl) ⟨Nat.le_trans (by decide) hR.1, Nat.le_trans (by decide) hR.2⟩ (fun _ _ q => q) (c_checkChildBad (by rw [hm]; exact hbk) (JX_out hS hZ ht (by omega) (by omega) (x hbk)))
theorem c_holds {n : Nat} {c o : Int32} {Ls : List (List Cls)} (hl : LawsC g Ls) (hv : isLw Ls.length (wv g 2 5)) (hn : n ≤ 24) (hm : g 2 6 = nI n) (x : ou n c → X eNS g) (x2 : ¬ ou n c → ou 6 o → X eIA g) (q : ∀ i j, i < n → c = nI i → j < 6 → o = nI j → ∀ (g' : Mm) (r : Int32), (∀ z, z ≠ 152 → z ≠ 153 → z ≠ 154 → g' z = g z) → (r = 0 ∨ r = 1) → (r = 1 ↔ hld (lwOf Ls (wv g 2 5)) (-1) (wv g 2) i j) → Q (some (.int r)) g') : Ct l E lay NC 8 1 6 yX7_holds [.ref 1, .int c, .int o] g Q X := by
  refine Ct_in k_yX7_holds (by decide) rfl (Nat.le_of_ble_eq_true rfl) rfl ?_
  intro S hS hZ hr ht hR
  show J S 0 0 g 0 [some (.ref 1), some (.int c), some (.int o)] []
  refine J_aload_n hS dX7_holds_0 rfl ?_
  refine J_iload_n hS dX7_holds_1 rfl ?_
  rcases in_or (y := c) (b := n) (by first | decide | omega) with ⟨k, hk, ek⟩ | hbk
  ·
    subst ek
    refine J_callV1 (X' := fun _ _ => False) hS dX7_holds_2 mvX7_121 ob1 rfl (by decide) (by decide) (Nat.le_of_ble_eq_true rfl) ⟨Nat.le_trans (by decide) hR.1, Nat.le_trans (by decide) hR.2⟩ (fun _ _ q => q.elim) (c_checkChildOk hm hn hk ?_)
    refine J_iload_n hS dX7_holds_5 rfl ?_
    rcases in_or (y := o) (b := 6) (by first | decide | omega) with ⟨j, hj, ej⟩ | hbj
    ·
      subst ej
      refine J_callS1 (X' := fun _ _ => False) hS dX7_holds_6 msX7_161 rfl (by decide) (by decide) (Nat.le_of_ble_eq_true rfl) ⟨Nat.le_trans (by decide) hR.1, Nat.le_trans (by decide) hR.2⟩ (fun _ _ q => q.elim) (c_checkOrderOk hj ?_)
      refine J_aload_n hS dX7_holds_9 rfl ?_
      refine J_callV0 (X' := fun _ _ => False) hS dX7_holds_10 mvX7_167 ob1 rfl (by decide) (by decide) (Nat.le_of_ble_eq_true rfl) ⟨Nat.le_trans (by decide) hR.1, Nat.le_trans (by decide) hR.2⟩ (fun _ _ q => q.elim) (c_useLawInForce hl hv (fun g1 b1 b2 b3 => ?_))
      have ew : wv g1 2 = wv g 2 := wv_fr (fun z h1 h2 => b1 z (by omega))
      refine J_aload_n hS dX7_holds_13 rfl ?_
      refine J_getR (t := 152) hS dX7_holds_14 flX7_52 ob1 rfl ?_
      refine J_aload_n hS dX7_holds_17 rfl ?_
      refine J_getR (t := 2) hS dX7_holds_18 flX7_10 ob1 rfl ?_
      refine J_iload_n hS dX7_holds_21 rfl ?_
      refine J_iload_n hS dX7_holds_22 rfl ?_
      refine J_callV3 (X' := fun _ _ => False) hS dX7_holds_23 mvX7_170 ob152 rfl (by decide) (by decide) (Nat.le_of_ble_eq_true rfl) ⟨Nat.le_trans (by decide) hR.1, Nat.le_trans (by decide) hR.2⟩ (fun _ _ q => q.elim) (c_isHeld wo_now (show k < 24 by omega) hj b2 (fun g2 r d1 d2 d3 => ?_))
      refine J_zret hS hZ hr dX7_holds_26 d2 (by omega) (by omega) ?_
      exact q k j hk rfl hj rfl g2 r (fun z h1 h2 h3 => by rw [d1 z h2 h3, b1 z h1]) d2 (by rw [d3, b3, ew])
    ·
      refine J_callS1 hS dX7_holds_6 msX7_161 rfl (by decide) (by decide) (Nat.le_of_ble_eq_true rfl) ⟨Nat.le_trans (by decide) hR.1, Nat.le_trans (by decide) hR.2⟩ (fun _ _ q => q) (c_checkOrderBad hbj (JX_out hS hZ ht (by omega) (by omega) (x2 (nou hk (by omega)) hbj)))
  ·
    refine J_callV1 hS dX7_holds_2 mvX7_121 ob1 rfl (by decide) (by decide) (Nat.le_of_ble_eq_true rfl) ⟨Nat.le_trans (by decide) hR.1, Nat.le_trans (by decide) hR.2⟩ (fun _ _ q => q) (c_checkChildBad (by rw [hm]; exact hbk) (JX_out hS hZ ht (by omega) (by omega) (x hbk)))
theorem c_set {a v : Int32} (x : ¬ (a = 0 ∧ 10 ≤ v ∧ v ≤ 10000) → ¬ (a = 1 ∧ 0 ≤ v ∧ v ≤ 100) → X eIA g) (q0 : a = 0 → 10 ≤ v ∧ v ≤ 10000 → Q (some (.int (g 2 3))) (u2 (u2 g 2 3 v) 1 16 (-1))) (q1 : a = 1 → 0 ≤ v ∧ v ≤ 100 → Q (some (.int (g 2 4))) (u2 (u2 g 2 4 v) 1 16 (-1))) : Ct l E lay NC 8 1 6 yX7_set [.ref 1, .int a, .int v] g Q X := by
  refine Ct_in k_yX7_set (by decide) rfl (Nat.le_of_ble_eq_true rfl) rfl ?_
  intro S hS hZ hr ht hR
  show J S 0 0 g 0 [some (.ref 1), some (.int a), some (.int v), none] []
  have H : ¬ (a = 0 ∧ 10 ≤ v ∧ v ≤ 10000) → J S 0 0 g 36 [some (.ref 1), some (.int a), some (.int v), none] [] := by
    intro hno
    refine J_iload_n hS dX7_set_36 rfl ?_
    refine J_iconst (v := 1) hS dX7_set_37 (by decide) ?_
    refine J_icmp_ne (tgt := 70) hS dX7_set_38 (by decide) (fun c1 => ?_) (fun c1 => ?_)
    ·
      exact J_thA hS hZ ht hR (by decide) (List.mem_of_getElem? (i := 7) rfl) rfl dX7_set_70 dX7_set_73 dX7_set_74 dX7_set_76 dX7_set_79 (by omega) (by omega) (x hno (fun z => c1 z.1))
    ·
      refine J_iload_n hS dX7_set_41 rfl ?_
      refine J_if_lt (tgt := 70) hS dX7_set_42 (by decide) (fun c2 => ?_) (fun c2 => ?_)
      ·
        exact J_thA hS hZ ht hR (by decide) (List.mem_of_getElem? (i := 7) rfl) rfl dX7_set_70 dX7_set_73 dX7_set_74 dX7_set_76 dX7_set_79 (by omega) (by omega) (x hno (fun z => absurd c2 (Int32.not_lt.mpr z.2.1)))
      ·
        refine J_iload_n hS dX7_set_45 rfl ?_
        refine J_bipush (v := 100) hS dX7_set_46 (by decide) ?_
        refine J_icmp_gt (tgt := 70) hS dX7_set_48 (by decide) (fun c3 => ?_) (fun c3 => ?_)
        ·
          exact J_thA hS hZ ht hR (by decide) (List.mem_of_getElem? (i := 7) rfl) rfl dX7_set_70 dX7_set_73 dX7_set_74 dX7_set_76 dX7_set_79 (by omega) (by omega) (x hno (fun z => absurd c3 (Int32.not_lt.mpr z.2.2)))
        ·
          refine J_aload_n hS dX7_set_51 rfl ?_
          refine J_getR (t := 2) hS dX7_set_52 flX7_10 ob1 rfl ?_
          refine J_getI hS dX7_set_55 flX7_177 wo_now.ob rfl ?_
          refine J_istore_n (lt := fun w => [some (.ref 1), some (.int a), some (.int v), some (.int w)]) hS dX7_set_58 (Nat.le_of_ble_eq_true rfl) (fun _ => rfl) (fun w ew => ?_)
          refine J_aload_n hS dX7_set_59 rfl ?_
          refine J_getR (t := 2) hS dX7_set_60 flX7_10 ob1 rfl ?_
          refine J_iload_n hS dX7_set_63 rfl ?_
          refine J_putI hS dX7_set_64 fpX7_177 wo_now.ob rfl (fun g64 eg64 => ?_)
          refine J_goto (tgt := 80) hS dX7_set_67 (by decide) ?_
          refine J_aload_n hS dX7_set_80 rfl ?_
          refine J_callV0 (X' := fun _ _ => False) hS dX7_set_81 mvX7_100 ob1 rfl (by decide) (by decide) (Nat.le_of_ble_eq_true rfl) ⟨Nat.le_trans (by decide) hR.1, Nat.le_trans (by decide) hR.2⟩ (fun _ _ q => q.elim) (c_stopFilm ?_)
          refine J_iload_n hS dX7_set_84 rfl ?_
          refine J_iret hS hZ hr dX7_set_85 (by omega) (by omega) ?_
          rw [eg64, ew]; exact q1 c1 ⟨Int32.not_lt.mp c2, Int32.not_lt.mp c3⟩
  refine J_iload_n hS dX7_set_0 rfl ?_
  refine J_if_ne (tgt := 36) hS dX7_set_1 (by decide) (fun c1 => ?_) (fun c1 => ?_)
  · exact H (fun z => c1 z.1)
  ·
    refine J_iload_n hS dX7_set_4 rfl ?_
    refine J_bipush (v := 10) hS dX7_set_5 (by decide) ?_
    refine J_icmp_lt (tgt := 36) hS dX7_set_7 (by decide) (fun c2 => ?_) (fun c2 => ?_)
    · exact H (fun z => absurd c2 (Int32.not_lt.mpr z.2.1))
    ·
      refine J_iload_n hS dX7_set_10 rfl ?_
      refine J_sipush (v := 10000) hS dX7_set_11 (by decide) ?_
      refine J_icmp_gt (tgt := 36) hS dX7_set_14 (by decide) (fun c3 => ?_) (fun c3 => ?_)
      · exact H (fun z => absurd c3 (Int32.not_lt.mpr z.2.2))
      ·
        refine J_aload_n hS dX7_set_17 rfl ?_
        refine J_getR (t := 2) hS dX7_set_18 flX7_10 ob1 rfl ?_
        refine J_getI hS dX7_set_21 flX7_174 wo_now.ob rfl ?_
        refine J_istore_n (lt := fun w => [some (.ref 1), some (.int a), some (.int v), some (.int w)]) hS dX7_set_24 (Nat.le_of_ble_eq_true rfl) (fun _ => rfl) (fun w ew => ?_)
        refine J_aload_n hS dX7_set_25 rfl ?_
        refine J_getR (t := 2) hS dX7_set_26 flX7_10 ob1 rfl ?_
        refine J_iload_n hS dX7_set_29 rfl ?_
        refine J_putI hS dX7_set_30 fpX7_174 wo_now.ob rfl (fun g30 eg30 => ?_)
        refine J_goto (tgt := 80) hS dX7_set_33 (by decide) ?_
        refine J_aload_n hS dX7_set_80 rfl ?_
        refine J_callV0 (X' := fun _ _ => False) hS dX7_set_81 mvX7_100 ob1 rfl (by decide) (by decide) (Nat.le_of_ble_eq_true rfl) ⟨Nat.le_trans (by decide) hR.1, Nat.le_trans (by decide) hR.2⟩ (fun _ _ q => q.elim) (c_stopFilm ?_)
        refine J_iload_n hS dX7_set_84 rfl ?_
        refine J_iret hS hZ hr dX7_set_85 (by omega) (by omega) ?_
        rw [eg30, ew]; exact q0 c1 ⟨Int32.not_lt.mp c2, Int32.not_lt.mp c3⟩
theorem c_years {m : Int32} (x : ou 61 m → X eIA g) (x2 : ¬ ou 61 m → ¬ g 2 2 + m ≤ 60 → X eIS g) (q : ¬ ou 61 m → g 2 2 + m ≤ 60 → Q (some (.int (g 2 2 + m))) (u2 (u2 g 2 2 (g 2 2 + m)) 1 16 (-1))) : Ct l E lay NC 8 1 6 yX7_years [.ref 1, .int m] g Q X := by
  refine Ct_in k_yX7_years (by decide) rfl (Nat.le_of_ble_eq_true rfl) rfl ?_
  intro S hS hZ hr ht hR
  show J S 0 0 g 0 [some (.ref 1), some (.int m)] []
  refine J_iload_n hS dX7_years_0 rfl ?_
  refine J_if_lt (tgt := 10) hS dX7_years_1 (by decide) (fun c1 => ?_) (fun c1 => ?_)
  ·
    exact J_thA hS hZ ht hR (by decide) (List.mem_of_getElem? (i := 8) rfl) rfl dX7_years_10 dX7_years_13 dX7_years_14 dX7_years_16 dX7_years_19 (by omega) (by omega) (x (Or.inl c1))
  ·
    refine J_iload_n hS dX7_years_4 rfl ?_
    refine J_bipush (v := 60) hS dX7_years_5 (by decide) ?_
    refine J_icmp_le (tgt := 20) hS dX7_years_7 (by decide) (fun c2 => ?_) (fun c2 => ?_)
    · have hno : ¬ ou 61 m := by
        rintro (z | z)
        · exact c1 z
        · exact absurd (Int32.lt_of_le_of_lt c2 (show (60 : Int32) < nI 61 by decide)) (Int32.not_lt.mpr z)
      refine J_aload_n hS dX7_years_20 rfl ?_
      refine J_getR (t := 2) hS dX7_years_21 flX7_10 ob1 rfl ?_
      refine J_getI hS dX7_years_24 flX7_184 wo_now.ob rfl ?_
      refine J_iload_n hS dX7_years_27 rfl ?_
      refine J_iadd hS dX7_years_28 ?_
      refine J_bipush (v := 60) hS dX7_years_29 (by decide) ?_
      refine J_icmp_le (tgt := 44) hS dX7_years_31 (by decide) (fun c3 => ?_) (fun c3 => ?_)
      ·
        refine J_aload_n hS dX7_years_44 rfl ?_
        refine J_getR (t := 2) hS dX7_years_45 flX7_10 ob1 rfl ?_
        refine J_dup hS dX7_years_48 rfl ?_
        refine J_getI hS dX7_years_49 flX7_184 wo_now.ob rfl ?_
        refine J_iload_n hS dX7_years_52 rfl ?_
        refine J_iadd hS dX7_years_53 ?_
        refine J_putI hS dX7_years_54 fpX7_184 wo_now.ob rfl (fun g54 eg54 => ?_)
        refine J_aload_n hS dX7_years_57 rfl ?_
        refine J_callV0 (X' := fun _ _ => False) hS dX7_years_58 mvX7_100 ob1 rfl (by decide) (by decide) (Nat.le_of_ble_eq_true rfl) ⟨Nat.le_trans (by decide) hR.1, Nat.le_trans (by decide) hR.2⟩ (fun _ _ q => q.elim) (c_stopFilm ?_)
        refine J_aload_n hS dX7_years_61 rfl ?_
        refine J_getR (t := 2) hS dX7_years_62 flX7_10 ob1 rfl ?_
        refine J_getI hS dX7_years_65 flX7_184 wo_now.ob rfl ?_
        refine J_iret hS hZ hr dX7_years_68 (by omega) (by omega) ?_
        rw [show u2 g54 1 16 (-1) 2 2 = g 2 2 + m by rw [u2_ne _ (by decide), eg54, u2_self], eg54]
        exact q hno c3
      ·
        exact J_thS hS hZ ht hR (by decide) (List.mem_of_getElem? (i := 9) rfl) rfl dX7_years_34 dX7_years_37 dX7_years_38 dX7_years_40 dX7_years_43 (by omega) (by omega) (x2 hno c3)
    · have hyes : ou 61 m := by
        refine Or.inr ?_
        rcases in_or (y := m) (b := 61) (by decide) with ⟨k, hk, e⟩ | z | z
        · subst e; exact absurd (nI_le (show k ≤ 60 by omega) (by decide)) c2
        · exact absurd z c1
        · exact z
      exact J_thA hS hZ ht hR (by decide) (List.mem_of_getElem? (i := 8) rfl) rfl dX7_years_10 dX7_years_13 dX7_years_14 dX7_years_16 dX7_years_19 (by omega) (by omega) (x hyes)
theorem c_fault (q : Q (some (.int (g 1 13))) g) : Ct l E lay NC 0 0 0 yX7_fault [.ref 1] g Q X := by
  refine Ct_in k_yX7_fault (by decide) rfl (Nat.le_of_ble_eq_true rfl) rfl ?_
  intro S hS hZ hr ht hR
  show J S 0 0 g 0 [some (.ref 1)] []
  refine J_aload_n hS dX7_fault_0 rfl ?_
  refine J_getI hS dX7_fault_1 flX7_77 ob1 rfl ?_
  refine J_iret hS hZ hr dX7_fault_4 (by omega) (by omega) ?_
  exact q
theorem c_force {v : Int32} (x : (v < -1 ∨ g 1 14 ≤ v) → X eIB g) (q : ¬ v < -1 → v < g 1 14 → Q (some (.int (g 2 5))) (u2 (u2 g 2 5 v) 1 16 (-1))) : Ct l E lay NC 8 1 6 yX7_force [.ref 1, .int v] g Q X := by
  refine Ct_in k_yX7_force (by decide) rfl (Nat.le_of_ble_eq_true rfl) rfl ?_
  intro S hS hZ hr ht hR
  show J S 0 0 g 0 [some (.ref 1), some (.int v), none] []
  refine J_aload_n hS dX7_force_0 rfl ?_
  refine J_iload_n hS dX7_force_1 rfl ?_
  by_cases hb : v < -1 ∨ g 1 14 ≤ v
  ·
    refine J_callV1 hS dX7_force_2 mvX7_202 ob1 rfl (by decide) (by decide) (Nat.le_of_ble_eq_true rfl) ⟨Nat.le_trans (by decide) hR.1, Nat.le_trans (by decide) hR.2⟩ (fun _ _ q => q) (c_checkLawBad hb (JX_out hS hZ ht (by omega) (by omega) (x hb)))
  · have h1 : ¬ v < -1 := fun z => hb (Or.inl z)
    have h2 : v < g 1 14 := Int32.not_le.mp (fun z => hb (Or.inr z))
    refine J_callV1 (X' := fun _ _ => False) hS dX7_force_2 mvX7_202 ob1 rfl (by decide) (by decide) (Nat.le_of_ble_eq_true rfl) ⟨Nat.le_trans (by decide) hR.1, Nat.le_trans (by decide) hR.2⟩ (fun _ _ q => q.elim) (c_checkLawOk h1 h2 ?_)
    refine J_aload_n hS dX7_force_5 rfl ?_
    refine J_getR (t := 2) hS dX7_force_6 flX7_10 ob1 rfl ?_
    refine J_getI hS dX7_force_9 flX7_205 wo_now.ob rfl ?_
    refine J_istore_n (lt := fun w => [some (.ref 1), some (.int v), some (.int w)]) hS dX7_force_12 (Nat.le_of_ble_eq_true rfl) (fun _ => rfl) (fun w ew => ?_)
    refine J_aload_n hS dX7_force_13 rfl ?_
    refine J_getR (t := 2) hS dX7_force_14 flX7_10 ob1 rfl ?_
    refine J_iload_n hS dX7_force_17 rfl ?_
    refine J_putI hS dX7_force_18 fpX7_205 wo_now.ob rfl (fun g18 eg18 => ?_)
    refine J_aload_n hS dX7_force_21 rfl ?_
    refine J_callV0 (X' := fun _ _ => False) hS dX7_force_22 mvX7_100 ob1 rfl (by decide) (by decide) (Nat.le_of_ble_eq_true rfl) ⟨Nat.le_trans (by decide) hR.1, Nat.le_trans (by decide) hR.2⟩ (fun _ _ q => q.elim) (c_stopFilm ?_)
    refine J_iload_n hS dX7_force_25 rfl ?_
    refine J_iret hS hZ hr dX7_force_26 (by omega) (by omega) ?_
    rw [eg18, ew]; exact q h1 h2
theorem c_note {n : Nat} {t w : Int32} (hn : n ≤ 1500) (em : g 143 0 = nI n) (x : ou n t → X eIB g) (x2 : ¬ ou n t → ou 17 w → X eIA g) (q : ∀ i j, i < n → t = nI i → j < 17 → w = nI j → Q (some (.int (g 144 (i * 19 + j)))) g) : Ct l E lay NC 8 1 6 yX7_note [.ref 1, .int t, .int w] g Q X := by
  refine Ct_in k_yX7_note (by decide) rfl (Nat.le_of_ble_eq_true rfl) rfl ?_
  intro S hS hZ hr ht hR
  show J S 0 0 g 0 [some (.ref 1), some (.int t), some (.int w)] []
  refine J_iload_n hS dX7_note_0 rfl ?_
  rcases in_or (y := t) (b := n) (by first | decide | omega) with ⟨i, hi, ei⟩ | hbi
  ·
    subst ei
    have ni := nou hi (by omega)
    refine J_if_lt (tgt := 15) hS dX7_note_1 (by decide) (fun c1 => ?_) (fun c1 => ?_)
    · exact absurd c1 (nI_npos (by omega))
    ·
      refine J_iload_n hS dX7_note_4 rfl ?_
      refine J_aload_n hS dX7_note_5 rfl ?_
      refine J_getR (t := 143) hS dX7_note_6 flX7_38 ob1 rfl ?_
      refine J_getI hS dX7_note_9 flX7_214 ob143 rfl ?_
      show J S 0 0 g 12 [some (.ref 1), some (.int (nI i)), some (.int w)] [.int _, .int (nI i)]
      rw [em]
      refine J_icmp_lt (tgt := 25) hS dX7_note_12 (by decide) (fun c2 => ?_) (fun c2 => ?_)
      ·
        refine J_iload_n hS dX7_note_25 rfl ?_
        rcases in_or (y := w) (b := 17) (by first | decide | omega) with ⟨j, hj, ej⟩ | hbj
        ·
          subst ej
          refine J_if_lt (tgt := 35) hS dX7_note_26 (by decide) (fun c3 => ?_) (fun c3 => ?_)
          · exact absurd c3 (nI_npos (by omega))
          ·
            refine J_iload_n hS dX7_note_29 rfl ?_
            refine J_bipush (v := 17) hS dX7_note_30 (by decide) ?_
            refine J_icmp_lt (tgt := 45) hS dX7_note_32 (by decide) (fun c4 => ?_) (fun c4 => ?_)
            ·
              refine J_aload_n hS dX7_note_45 rfl ?_
              refine J_getR (t := 143) hS dX7_note_46 flX7_38 ob1 rfl ?_
              refine J_iload_n hS dX7_note_49 rfl ?_
              refine J_iload_n hS dX7_note_50 rfl ?_
              refine J_callV2 (X' := fun _ _ => False) hS dX7_note_51 mvX7_248 ob143 rfl (by decide) (by decide) (Nat.le_of_ble_eq_true rfl) ⟨Nat.le_trans (by decide) hR.1, Nat.le_trans (by decide) hR.2⟩ (fun _ _ q => q.elim) (c_at (show i < 1500 by omega) (show j < 19 by omega) ?_)
              refine J_iret hS hZ hr dX7_note_54 (by omega) (by omega) ?_
              exact q i j hi rfl hj rfl
            · exact absurd (nI_lt hj (by decide)) c4
        ·
          refine J_if_lt (tgt := 35) hS dX7_note_26 (by decide) (fun c3 => ?_) (fun c3 => ?_)
          ·
            exact J_thA hS hZ ht hR (by decide) (List.mem_of_getElem? (i := 3) rfl) rfl dX7_note_35 dX7_note_38 dX7_note_39 dX7_note_41 dX7_note_44 (by omega) (by omega) (x2 ni hbj)
          ·
            refine J_iload_n hS dX7_note_29 rfl ?_
            refine J_bipush (v := 17) hS dX7_note_30 (by decide) ?_
            refine J_icmp_lt (tgt := 45) hS dX7_note_32 (by decide) (fun c4 => ?_) (fun c4 => ?_)
            · rcases hbj with z | z
              · exact absurd z c3
              · exact absurd c4 (Int32.not_lt.mpr z)
            ·
              exact J_thA hS hZ ht hR (by decide) (List.mem_of_getElem? (i := 3) rfl) rfl dX7_note_35 dX7_note_38 dX7_note_39 dX7_note_41 dX7_note_44 (by omega) (by omega) (x2 ni hbj)
      · exact absurd (nI_lt hi (by omega)) c2
  ·
    refine J_if_lt (tgt := 15) hS dX7_note_1 (by decide) (fun c1 => ?_) (fun c1 => ?_)
    ·
      exact J_thB hS hZ ht hR (by decide) (List.mem_of_getElem? (i := 30) rfl) rfl dX7_note_15 dX7_note_18 dX7_note_19 dX7_note_21 dX7_note_24 (by omega) (by omega) (x hbi)
    ·
      refine J_iload_n hS dX7_note_4 rfl ?_
      refine J_aload_n hS dX7_note_5 rfl ?_
      refine J_getR (t := 143) hS dX7_note_6 flX7_38 ob1 rfl ?_
      refine J_getI hS dX7_note_9 flX7_214 ob143 rfl ?_
      show J S 0 0 g 12 [some (.ref 1), some (.int t), some (.int w)] [.int _, .int t]
      rw [em]
      refine J_icmp_lt (tgt := 25) hS dX7_note_12 (by decide) (fun c2 => ?_) (fun c2 => ?_)
      · rcases hbi with z | z
        · exact absurd z c1
        · exact absurd c2 (Int32.not_lt.mpr z)
      ·
        exact J_thB hS hZ ht hR (by decide) (List.mem_of_getElem? (i := 30) rfl) rfl dX7_note_15 dX7_note_18 dX7_note_19 dX7_note_21 dX7_note_24 (by omega) (by omega) (x hbi)
theorem c_held {n : Nat} {y o : Int32} {Ls : List (List Cls)} (hl : LawsC g Ls) (hv : isLw Ls.length (wv g 2 5)) (hn : n ≤ 24) (hm : g 2 6 = nI n) (x : ou 3 y ∨ ou 6 o → X eIA g) (q : ∀ i j, i < 3 → y = nI i → j < 6 → o = nI j → ∀ (g' : Mm), (∀ z, z ≠ 152 → z ≠ 153 → z ≠ 154 → g' z = g z) → Q (some (.int (nI (here (fun c => thr g 2 (nI i) c && hldB (lwOf Ls (wv g 2 5)) (-1) (wv g 2) c j) n).length))) g') : Ct l E lay NC 8 1 6 yX7_held [.ref 1, .int y, .int o] g Q X := by
  refine Ct_in k_yX7_held (by decide) rfl (Nat.le_of_ble_eq_true rfl) rfl ?_
  intro S hS hZ hr ht hR
  show J S 0 0 g 0 [some (.ref 1), some (.int y), some (.int o)] []
  refine J_iload_n hS dX7_held_0 rfl ?_
  rcases in_or (y := y) (b := 3) (by first | decide | omega) with ⟨i, hi, ei⟩ | hbi
  ·
    subst ei
    refine J_callS1 (X' := fun _ _ => False) hS dX7_held_1 msX7_103 rfl (by decide) (by decide) (Nat.le_of_ble_eq_true rfl) ⟨Nat.le_trans (by decide) hR.1, Nat.le_trans (by decide) hR.2⟩ (fun _ _ q => q.elim) (c_checkYardOk hi ?_)
    refine J_iload_n hS dX7_held_4 rfl ?_
    rcases in_or (y := o) (b := 6) (by first | decide | omega) with ⟨j, hj, ej⟩ | hbj
    ·
      subst ej
      refine J_callS1 (X' := fun _ _ => False) hS dX7_held_5 msX7_161 rfl (by decide) (by decide) (Nat.le_of_ble_eq_true rfl) ⟨Nat.le_trans (by decide) hR.1, Nat.le_trans (by decide) hR.2⟩ (fun _ _ q => q.elim) (c_checkOrderOk hj ?_)
      refine J_aload_n hS dX7_held_8 rfl ?_
      refine J_callV0 (X' := fun _ _ => False) hS dX7_held_9 mvX7_167 ob1 rfl (by decide) (by decide) (Nat.le_of_ble_eq_true rfl) ⟨Nat.le_trans (by decide) hR.1, Nat.le_trans (by decide) hR.2⟩ (fun _ _ q => q.elim) (c_useLawInForce hl hv (fun g1 b1 b2 b3 => ?_))
      have ew : wv g1 2 = wv g 2 := wv_fr (fun z h1 h2 => b1 z (by omega))
      have et : ∀ c, thr g1 2 (nI i) c = thr g 2 (nI i) c := by
        intro c; unfold thr; rw [b1 (2 + 5) (by decide), b1 (2 + 1) (by decide)]
      refine J_aload_n hS dX7_held_12 rfl ?_
      refine J_aload_n hS dX7_held_13 rfl ?_
      refine J_getR (t := 2) hS dX7_held_14 flX7_10 ob1 rfl ?_
      refine J_iload_n hS dX7_held_17 rfl ?_
      refine J_iload_n hS dX7_held_18 rfl ?_
      refine J_callV3 (X' := fun _ _ => False) hS dX7_held_19 mvX7_255 ob1 rfl (by decide) (by decide) (Nat.le_of_ble_eq_true rfl) ⟨Nat.le_trans (by decide) hR.1, Nat.le_trans (by decide) hR.2⟩ (fun _ _ q => q.elim) (c_countHolders wo_now hn (show g1 2 6 = nI n by rw [b1 2 (by decide)]; exact hm) hj b2 (fun g2 d1 => ?_))
      refine J_iret hS hZ hr dX7_held_22 (by omega) (by omega) ?_
      rw [b3, ew, show here (fun c => thr g1 2 (nI i) c && hldB (lwOf Ls (wv g 2 5)) (-1) (wv g 2) c j) n = here (fun c => thr g 2 (nI i) c && hldB (lwOf Ls (wv g 2 5)) (-1) (wv g 2) c j) n from here_congr (fun c _ => by rw [et])]
      exact q i j hi rfl hj rfl g2 (fun z h1 h2 h3 => by rw [d1 z h2 h3, b1 z h1])
    ·
      refine J_callS1 hS dX7_held_5 msX7_161 rfl (by decide) (by decide) (Nat.le_of_ble_eq_true rfl) ⟨Nat.le_trans (by decide) hR.1, Nat.le_trans (by decide) hR.2⟩ (fun _ _ q => q) (c_checkOrderBad hbj (JX_out hS hZ ht (by omega) (by omega) (x (Or.inr hbj))))
  ·
    refine J_callS1 hS dX7_held_1 msX7_103 rfl (by decide) (by decide) (Nat.le_of_ble_eq_true rfl) ⟨Nat.le_trans (by decide) hR.1, Nat.le_trans (by decide) hR.2⟩ (fun _ _ q => q) (c_checkYardBad hbi (JX_out hS hZ ht (by omega) (by omega) (x (Or.inl hbi))))
theorem c_first {o w : Int32} (x : ou 6 o ∨ ou 2 w → X eIA g) (q : ∀ j, j < 6 → o = nI j → w = 0 → Q (some (.int (g 145 j))) g) (q' : ∀ j, j < 6 → o = nI j → w = 1 → Q (some (.int (g 146 j))) g) : Ct l E lay NC 8 1 6 yX7_first [.ref 1, .int o, .int w] g Q X := by
  refine Ct_in k_yX7_first (by decide) rfl (Nat.le_of_ble_eq_true rfl) rfl ?_
  intro S hS hZ hr ht hR
  show J S 0 0 g 0 [some (.ref 1), some (.int o), some (.int w)] []
  refine J_iload_n hS dX7_first_0 rfl ?_
  rcases in_or (y := o) (b := 6) (by first | decide | omega) with ⟨j, hj, ej⟩ | hbj
  ·
    subst ej
    refine J_callS1 (X' := fun _ _ => False) hS dX7_first_1 msX7_161 rfl (by decide) (by decide) (Nat.le_of_ble_eq_true rfl) ⟨Nat.le_trans (by decide) hR.1, Nat.le_trans (by decide) hR.2⟩ (fun _ _ q => q.elim) (c_checkOrderOk hj ?_)
    refine J_iload_n hS dX7_first_4 rfl ?_
    refine J_if_ne (tgt := 18) hS dX7_first_5 (by decide) (fun c1 => ?_) (fun c1 => ?_)
    ·
      refine J_iload_n hS dX7_first_18 rfl ?_
      refine J_iconst (v := 1) hS dX7_first_19 (by decide) ?_
      refine J_icmp_ne (tgt := 33) hS dX7_first_20 (by decide) (fun c2 => ?_) (fun c2 => ?_)
      · have hyes : ou 2 w := by
          rcases in_or (y := w) (b := 2) (by decide) with ⟨k, hk, e⟩ | z
          · subst e
            rcases (show k = 0 ∨ k = 1 by omega) with e | e
            · subst e; exact absurd rfl c1
            · subst e; exact absurd rfl c2
          · exact z
        exact J_thA hS hZ ht hR (by decide) (List.mem_of_getElem? (i := 3) rfl) rfl dX7_first_33 dX7_first_36 dX7_first_37 dX7_first_39 dX7_first_42 (by omega) (by omega) (x (Or.inr hyes))
      ·
        refine J_aload_n hS dX7_first_23 rfl ?_
        refine J_getR (t := 143) hS dX7_first_24 flX7_38 ob1 rfl ?_
        refine J_getR (t := 146) hS dX7_first_27 flX7_262 ob143 rfl ?_
        refine J_iload_n hS dX7_first_30 rfl ?_
        refine J_ialdN hS (j) dX7_first_31 ar146 (by first | rfl | (simp only [n0, n1, n2, n3, n4, n5, n6, n7, n8, n9, n10, n11, n12, n13, n14, n15, n16, n17, n18, n19, n20, n24, n32, n56, n60, n64, n72, n99, n100, n128, n136, n142, n144, n200, n300, n999, n1000, n1500, n3464, nI_add, pk_mul] <;> first | rfl | (congr 1; omega))) (by omega) (by decide) ?_
        refine J_iret hS hZ hr dX7_first_32 (by omega) (by omega) ?_
        exact q' j hj rfl c2
    ·
      refine J_aload_n hS dX7_first_8 rfl ?_
      refine J_getR (t := 143) hS dX7_first_9 flX7_38 ob1 rfl ?_
      refine J_getR (t := 145) hS dX7_first_12 flX7_259 ob143 rfl ?_
      refine J_iload_n hS dX7_first_15 rfl ?_
      refine J_ialdN hS (j) dX7_first_16 ar145 (by first | rfl | (simp only [n0, n1, n2, n3, n4, n5, n6, n7, n8, n9, n10, n11, n12, n13, n14, n15, n16, n17, n18, n19, n20, n24, n32, n56, n60, n64, n72, n99, n100, n128, n136, n142, n144, n200, n300, n999, n1000, n1500, n3464, nI_add, pk_mul] <;> first | rfl | (congr 1; omega))) (by omega) (by decide) ?_
      refine J_iret hS hZ hr dX7_first_17 (by omega) (by omega) ?_
      exact q j hj rfl c1
  ·
    refine J_callS1 hS dX7_first_1 msX7_161 rfl (by decide) (by decide) (Nat.le_of_ble_eq_true rfl) ⟨Nat.le_trans (by decide) hR.1, Nat.le_trans (by decide) hR.2⟩ (fun _ _ q => q) (c_checkOrderBad hbj (JX_out hS hZ ht (by omega) (by omega) (x (Or.inl hbj))))
theorem c_uses {y s : Int32} (x : ou 3 y ∨ ou 16 s → X eIA g) (q : ∀ i j, i < 3 → y = nI i → j < 16 → s = nI j → Q (some (.int (g 12 (i * 16 + j)))) g) : Ct l E lay NC 8 1 6 yX7_uses [.ref 1, .int y, .int s] g Q X := by
  refine Ct_in k_yX7_uses (by decide) rfl (Nat.le_of_ble_eq_true rfl) rfl ?_
  intro S hS hZ hr ht hR
  show J S 0 0 g 0 [some (.ref 1), some (.int y), some (.int s)] []
  refine J_iload_n hS dX7_uses_0 rfl ?_
  rcases in_or (y := y) (b := 3) (by first | decide | omega) with ⟨i, hi, ei⟩ | hbi
  ·
    subst ei
    refine J_callS1 (X' := fun _ _ => False) hS dX7_uses_1 msX7_103 rfl (by decide) (by decide) (Nat.le_of_ble_eq_true rfl) ⟨Nat.le_trans (by decide) hR.1, Nat.le_trans (by decide) hR.2⟩ (fun _ _ q => q.elim) (c_checkYardOk hi ?_)
    refine J_iload_n hS dX7_uses_4 rfl ?_
    rcases in_or (y := s) (b := 16) (by first | decide | omega) with ⟨j, hj, ej⟩ | hbj
    ·
      subst ej
      refine J_callS1 (X' := fun _ _ => False) hS dX7_uses_5 msX7_151 rfl (by decide) (by decide) (Nat.le_of_ble_eq_true rfl) ⟨Nat.le_trans (by decide) hR.1, Nat.le_trans (by decide) hR.2⟩ (fun _ _ q => q.elim) (c_checkSignOk hj ?_)
      refine J_aload_n hS dX7_uses_8 rfl ?_
      refine J_getR (t := 2) hS dX7_uses_9 flX7_10 ob1 rfl ?_
      refine J_getR (t := 12) hS dX7_uses_12 flX7_269 wo_now.ob rfl ?_
      refine J_iload_n hS dX7_uses_15 rfl ?_
      refine J_bipush (v := 16) hS dX7_uses_16 (by decide) ?_
      refine J_imul hS dX7_uses_18 ?_
      refine J_iload_n hS dX7_uses_19 rfl ?_
      refine J_iadd hS dX7_uses_20 ?_
      refine J_ialdN hS (i * 16 + j) dX7_uses_21 (show Ar lay NC .int 12 48 from wo_now.ar 10 (by decide) (by decide)) (by first | rfl | (simp only [n0, n1, n2, n3, n4, n5, n6, n7, n8, n9, n10, n11, n12, n13, n14, n15, n16, n17, n18, n19, n20, n24, n32, n56, n60, n64, n72, n99, n100, n128, n136, n142, n144, n200, n300, n999, n1000, n1500, n3464, nI_add, pk_mul] <;> first | rfl | (congr 1; omega))) (by omega) (by decide) ?_
      refine J_iret hS hZ hr dX7_uses_22 (by omega) (by omega) ?_
      exact q i j hi rfl hj rfl
    ·
      refine J_callS1 hS dX7_uses_5 msX7_151 rfl (by decide) (by decide) (Nat.le_of_ble_eq_true rfl) ⟨Nat.le_trans (by decide) hR.1, Nat.le_trans (by decide) hR.2⟩ (fun _ _ q => q) (c_checkSignBad hbj (JX_out hS hZ ht (by omega) (by omega) (x (Or.inr hbj))))
  ·
    refine J_callS1 hS dX7_uses_1 msX7_103 rfl (by decide) (by decide) (Nat.le_of_ble_eq_true rfl) ⟨Nat.le_trans (by decide) hR.1, Nat.le_trans (by decide) hR.2⟩ (fun _ _ q => q) (c_checkYardBad hbi (JX_out hS hZ ht (by omega) (by omega) (x (Or.inl hbi))))
theorem c_seen {y s : Int32} (x : ou 3 y ∨ ou 16 s → X eIA g) (q : ∀ i j, i < 3 → y = nI i → j < 16 → s = nI j → Q (some (.int (nI (sna g 2 i j)))) g) : Ct l E lay NC 8 1 6 yX7_seen [.ref 1, .int y, .int s] g Q X := by
  refine Ct_in k_yX7_seen (by decide) rfl (Nat.le_of_ble_eq_true rfl) rfl ?_
  intro S hS hZ hr ht hR
  show J S 0 0 g 0 [some (.ref 1), some (.int y), some (.int s)] []
  refine J_iload_n hS dX7_seen_0 rfl ?_
  rcases in_or (y := y) (b := 3) (by first | decide | omega) with ⟨i, hi, ei⟩ | hbi
  ·
    subst ei
    refine J_callS1 (X' := fun _ _ => False) hS dX7_seen_1 msX7_103 rfl (by decide) (by decide) (Nat.le_of_ble_eq_true rfl) ⟨Nat.le_trans (by decide) hR.1, Nat.le_trans (by decide) hR.2⟩ (fun _ _ q => q.elim) (c_checkYardOk hi ?_)
    refine J_iload_n hS dX7_seen_4 rfl ?_
    rcases in_or (y := s) (b := 16) (by first | decide | omega) with ⟨j, hj, ej⟩ | hbj
    ·
      subst ej
      refine J_callS1 (X' := fun _ _ => False) hS dX7_seen_5 msX7_151 rfl (by decide) (by decide) (Nat.le_of_ble_eq_true rfl) ⟨Nat.le_trans (by decide) hR.1, Nat.le_trans (by decide) hR.2⟩ (fun _ _ q => q.elim) (c_checkSignOk hj ?_)
      refine J_aload_n hS dX7_seen_8 rfl ?_
      refine J_getR (t := 2) hS dX7_seen_9 flX7_10 ob1 rfl ?_
      refine J_iload_n hS dX7_seen_12 rfl ?_
      refine J_iload_n hS dX7_seen_13 rfl ?_
      refine J_callV2 (X' := fun _ _ => False) hS dX7_seen_14 mvX7_272 wo_now.ob rfl (by decide) (by decide) (Nat.le_of_ble_eq_true rfl) ⟨Nat.le_trans (by decide) hR.1, Nat.le_trans (by decide) hR.2⟩ (fun _ _ q => q.elim) (c_seenAs wo_now hi hj ?_)
      refine J_iret hS hZ hr dX7_seen_17 (by omega) (by omega) ?_
      exact q i j hi rfl hj rfl
    ·
      refine J_callS1 hS dX7_seen_5 msX7_151 rfl (by decide) (by decide) (Nat.le_of_ble_eq_true rfl) ⟨Nat.le_trans (by decide) hR.1, Nat.le_trans (by decide) hR.2⟩ (fun _ _ q => q) (c_checkSignBad hbj (JX_out hS hZ ht (by omega) (by omega) (x (Or.inr hbj))))
  ·
    refine J_callS1 hS dX7_seen_1 msX7_103 rfl (by decide) (by decide) (Nat.le_of_ble_eq_true rfl) ⟨Nat.le_trans (by decide) hR.1, Nat.le_trans (by decide) hR.2⟩ (fun _ _ q => q) (c_checkYardBad hbi (JX_out hS hZ ht (by omega) (by omega) (x (Or.inl hbi))))
end ClsP1


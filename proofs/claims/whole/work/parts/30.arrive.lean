/-! THE CLASS: a child comes -/
def kindA (a : Int32) (t : Bool) : Int32 := if t then 3 else if a < 7 then 0 else if a < 12 then 1 else 2
theorem kindA_3 {a : Int32} {t : Bool} : kindA a t = 3 ↔ t = true := by
  unfold kindA
  cases t with
  | true => simp
  | false =>
    constructor
    · intro z
      exfalso
      revert z
      simp only [Bool.false_eq_true, if_false]
      split
      · decide
      · split <;> decide
    · intro z; exact absurd z (by decide)
/-- the first weights of child c -/
def fwW (t : Bool) (c : Nat) (w : Wr) : Wr := fun i => match wx i with
  | some q => if q.1 = 8 ∧ q.2 / 128 = c ∧ q.2 % 16 = fwT t c (q.2 % 128 / 16) then (if t then 500 else 10) else if q.1 = 9 ∧ q.2 = c * 6 ∧ t = true then 500 else w i
  | none => w i
theorem fwW_wv {g2 g3 : Mm} {h n : Nat} {t : Bool} (b1 : ∀ a, a ≠ h + 8 → a ≠ h + 9 → g3 a = g2 a) (b2 : ∀ i, g3 (h + 8) i = if i / 128 = n ∧ i % 16 = fwT t n (i % 128 / 16) then (if t then 500 else 10) else g2 (h + 8) i) (b3 : ∀ i, g3 (h + 9) i = if i = n * 6 ∧ t = true then 500 else g2 (h + 9) i) : wv g3 h = fwW t n (wv g2 h) := by
  funext i
  unfold fwW
  cases e : wx i with
  | none => simp only [wv, e]
  | some p =>
    obtain ⟨j, k⟩ := p
    simp only [wv, e]
    by_cases h8 : j = 8
    · subst h8; rw [b2]; simp
    · by_cases h9 : j = 9
      · subst h9; rw [b3]; simp
      · rw [b1 (h + j) (by omega) (by omega)]; simp [h8, h9]
def arrW (w : Wr) (n : Nat) (y a : Int32) (t : Bool) : Wr := fwW t n (upd (upd (upd (upd (upd (upd w 6 (nI (n + 1))) (56 + 142 * n) y) (56 + 142 * n + 1) a) (56 + 142 * n + 2) (w 2)) (56 + 142 * n + 3) 1) (56 + 142 * n + 4) (kindA a t))
section ClsO
variable {l : Launch} {E : Ey} {g : Mm} {Q : Option Value → Mm → Prop} {X : String → Mm → Prop} {h : Nat}
set_option maxRecDepth 10000 in
set_option maxHeartbeats 4000000 in
theorem c_arrive (hW : Wo h) {n : Nat} {y a tc : Int32} {t : Bool} (hn : n ≤ 24) (hm : g h 6 = nI n) (htc : t = true ↔ tc ≠ 0) (q24 : n = 24 → Q (some (.int (-1))) g) (q : n < 24 → ∀ g', (∀ z, (z < h ∨ h + 10 < z) → g' z = g z) → wv g' h = arrW (wv g h) n y a t → Q (some (.int (nI n))) g') : Ct l E lay NC 2 0 0 yX6_arrive [.ref h, .int y, .int a, .int tc] g Q X := by
  refine Ct_in k_yX6_arrive (by decide) rfl (Nat.le_of_ble_eq_true rfl) rfl ?_
  intro S hS hZ hr ht hR
  show J S 0 0 g 0 [some (.ref h), some (.int y), some (.int a), some (.int tc), none] []
  refine J_aload_n hS dX6_arrive_0 rfl ?_
  refine J_getI hS dX6_arrive_1 flX6_30 hW.ob rfl ?_
  show J S 0 0 g 4 [some (.ref h), some (.int y), some (.int a), some (.int tc), none] [.int _]
  rw [hm]
  refine J_istore (lt := fun k0 => [some (.ref h), some (.int y), some (.int a), some (.int tc), some (.int k0)]) hS dX6_arrive_4 (Nat.le_of_ble_eq_true rfl) (fun _ => rfl) (fun k0 ek0 => ?_)
  subst ek0
  refine J_iload hS dX6_arrive_6 rfl ?_
  refine J_if_lt (tgt := 18) hS dX6_arrive_8 (by decide) (fun c1 => ?_) (fun c1 => ?_)
  · exact absurd c1 (nI_pos (by omega))
  ·
    refine J_iload hS dX6_arrive_11 rfl ?_
    refine J_bipush (v := 24) hS dX6_arrive_13 (by decide) ?_
    refine J_icmp_lt (tgt := 20) hS dX6_arrive_15 (by decide) (fun c2 => ?_) (fun c2 => ?_)
    · have hn2 : n < 24 := by
        rcases Nat.lt_or_ge n 24 with z | z
        · exact z
        · have z2 : n = 24 := by omega
          subst z2; exact absurd c2 (by decide)
      refine J_aload_n hS dX6_arrive_20 rfl ?_
      refine J_dup hS dX6_arrive_21 rfl ?_
      refine J_getI hS dX6_arrive_22 flX6_30 hW.ob rfl ?_
      refine J_iconst (v := 1) hS dX6_arrive_25 (by decide) ?_
      refine J_iadd hS dX6_arrive_26 ?_
      refine J_putI hS dX6_arrive_27 fpX6_30 hW.ob rfl (fun g27 eg27 => ?_)
      refine J_aload_n hS dX6_arrive_30 rfl ?_
      refine J_getR (t := h + 1) hS dX6_arrive_31 flX6_33 hW.ob rfl ?_
      refine J_iload hS dX6_arrive_34 rfl ?_
      refine J_iload_n hS dX6_arrive_36 rfl ?_
      refine J_iastN hS (n) dX6_arrive_37 (show Ar lay NC .int (h + 1) 24 from hW.ar 1 (by decide) (by decide)) (by first | rfl | (simp only [n0, n1, n2, n3, n4, n5, n6, n7, n8, n9, n10, n11, n12, n13, n14, n15, n16, n17, n18, n19, n20, n24, n32, n56, n60, n64, n72, n99, n100, n128, n136, n142, n144, n200, n300, n999, n1000, n1500, n3464, nI_add, pk_mul] <;> first | rfl | (congr 1; omega))) hn2 (by decide) (fun g37 eg37 => ?_)
      refine J_aload_n hS dX6_arrive_38 rfl ?_
      refine J_getR (t := h + 2) hS dX6_arrive_39 flX6_37 hW.ob rfl ?_
      refine J_iload hS dX6_arrive_42 rfl ?_
      refine J_iload_n hS dX6_arrive_44 rfl ?_
      refine J_iastN hS (n) dX6_arrive_45 (show Ar lay NC .int (h + 2) 24 from hW.ar 2 (by decide) (by decide)) (by first | rfl | (simp only [n0, n1, n2, n3, n4, n5, n6, n7, n8, n9, n10, n11, n12, n13, n14, n15, n16, n17, n18, n19, n20, n24, n32, n56, n60, n64, n72, n99, n100, n128, n136, n142, n144, n200, n300, n999, n1000, n1500, n3464, nI_add, pk_mul] <;> first | rfl | (congr 1; omega))) hn2 (by decide) (fun g45 eg45 => ?_)
      refine J_aload_n hS dX6_arrive_46 rfl ?_
      refine J_getR (t := h + 3) hS dX6_arrive_47 flX6_40 hW.ob rfl ?_
      refine J_iload hS dX6_arrive_50 rfl ?_
      refine J_aload_n hS dX6_arrive_52 rfl ?_
      refine J_getI hS dX6_arrive_53 flX6_18 hW.ob rfl ?_
      refine J_iastN hS (n) dX6_arrive_56 (show Ar lay NC .int (h + 3) 24 from hW.ar 3 (by decide) (by decide)) (by first | rfl | (simp only [n0, n1, n2, n3, n4, n5, n6, n7, n8, n9, n10, n11, n12, n13, n14, n15, n16, n17, n18, n19, n20, n24, n32, n56, n60, n64, n72, n99, n100, n128, n136, n142, n144, n200, n300, n999, n1000, n1500, n3464, nI_add, pk_mul] <;> first | rfl | (congr 1; omega))) hn2 (by decide) (fun g56 eg56 => ?_)
      refine J_aload_n hS dX6_arrive_57 rfl ?_
      refine J_getR (t := h + 5) hS dX6_arrive_58 flX6_46 hW.ob rfl ?_
      refine J_iload hS dX6_arrive_61 rfl ?_
      refine J_iconst (v := 1) hS dX6_arrive_63 (by decide) ?_
      refine J_iastN hS (n) dX6_arrive_64 (show Ar lay NC .int (h + 5) 24 from hW.ar 5 (by decide) (by decide)) (by first | rfl | (simp only [n0, n1, n2, n3, n4, n5, n6, n7, n8, n9, n10, n11, n12, n13, n14, n15, n16, n17, n18, n19, n20, n24, n32, n56, n60, n64, n72, n99, n100, n128, n136, n142, n144, n200, n300, n999, n1000, n1500, n3464, nI_add, pk_mul] <;> first | rfl | (congr 1; omega))) hn2 (by decide) (fun g64 eg64 => ?_)
      have fin : ∀ (kd : Int32) (g2 : Mm), g2 = u2 g64 (h + 4) n kd → kd = kindA a t → J S 0 0 g2 115 [some (.ref h), some (.int y), some (.int a), some (.int tc), some (.int (nI n))] [] := by
        intro kd g2 eg2 ekd
        have hkd : g2 (h + 4) n = 3 ↔ t = true := by rw [eg2, ekd]; simp only [u2, and_self, if_true]; exact kindA_3
        refine J_aload_n hS dX6_arrive_115 rfl ?_
        refine J_iload hS dX6_arrive_116 rfl ?_
        refine J_callV1 (X' := fun _ _ => False) hS dX6_arrive_118 mvX6_79 hW.ob rfl (by decide) (by decide) (Nat.le_of_ble_eq_true rfl) hR (fun _ _ q => q.elim) (c_giveFirstWeights hW hn2 (tc := t) hkd (fun g3 b1 b2 b3 => ?_))
        refine J_iload hS dX6_arrive_121 rfl ?_
        refine J_iret hS hZ hr dX6_arrive_123 (by omega) (by omega) ?_
        refine q hn2 g3 (fun z hz => by rw [b1 z (by omega) (by omega), eg2, u2_ne z (by omega), eg64, u2_ne z (by omega), eg56, u2_ne z (by omega), eg45, u2_ne z (by omega), eg37, u2_ne z (by omega), eg27, u2_ne z (by omega)]) ?_
        have ey : g45 h 2 = wv g h 2 := by rw [eg45, u2_ne h (by omega), eg37, u2_ne h (by omega), eg27]; simp only [u2, true_and, show ¬ (2 = 6) by decide, if_false]; rfl
        have e27 : wv g27 h = upd (wv g h) 6 (nI (n + 1)) := by
          rw [eg27, hm, show nI n + 1 = nI (n + 1) from nI_1 n]
          exact wv_u2 (j0 := 0) (wx_i (by decide))
        rw [fwW_wv b1 b2 b3, eg2, wv_u2 (wx_kind hn2), eg64, wv_u2 (wx_there hn2), eg56, wv_u2 (wx_came hn2), eg45, wv_u2 (wx_age hn2), eg37, wv_u2 (wx_yard hn2), e27, ekd]
        rw [← eg37, ← eg45, ey]
        rfl
      refine J_iload_n hS dX6_arrive_65 rfl ?_
      refine J_if_eq (tgt := 80) hS dX6_arrive_66 (by decide) (fun c3 => ?_) (fun c3 => ?_)
      · have htf : t = false := by
          cases e : t with
          | false => rfl
          | true => exact absurd c3 (htc.mp e)
        refine J_iload_n hS dX6_arrive_80 rfl ?_
        refine J_bipush (v := 7) hS dX6_arrive_81 (by decide) ?_
        refine J_icmp_ge (tgt := 97) hS dX6_arrive_83 (by decide) (fun c4 => ?_) (fun c4 => ?_)
        ·
          refine J_aload_n hS dX6_arrive_97 rfl ?_
          refine J_getR (t := h + 4) hS dX6_arrive_98 flX6_43 hW.ob rfl ?_
          refine J_iload hS dX6_arrive_101 rfl ?_
          refine J_iload_n hS dX6_arrive_103 rfl ?_
          refine J_bipush (v := 12) hS dX6_arrive_104 (by decide) ?_
          refine J_icmp_lt (tgt := 113) hS dX6_arrive_106 (by decide) (fun c5 => ?_) (fun c5 => ?_)
          ·
            refine J_iconst (v := 1) hS dX6_arrive_113 (by decide) ?_
            refine J_iastN hS (n) dX6_arrive_114 (show Ar lay NC .int (h + 4) 24 from hW.ar 4 (by decide) (by decide)) (by first | rfl | (simp only [n0, n1, n2, n3, n4, n5, n6, n7, n8, n9, n10, n11, n12, n13, n14, n15, n16, n17, n18, n19, n20, n24, n32, n56, n60, n64, n72, n99, n100, n128, n136, n142, n144, n200, n300, n999, n1000, n1500, n3464, nI_add, pk_mul] <;> first | rfl | (congr 1; omega))) hn2 (by decide) (fun g114 eg114 => ?_)
            refine fin _ g114 eg114 ?_
            unfold kindA
            rw [htf, if_neg (by decide), if_neg (by simpa using c4), if_pos c5]
          ·
            refine J_iconst (v := 2) hS dX6_arrive_109 (by decide) ?_
            refine J_goto (tgt := 114) hS dX6_arrive_110 (by decide) ?_
            refine J_iastN hS (n) dX6_arrive_114 (show Ar lay NC .int (h + 4) 24 from hW.ar 4 (by decide) (by decide)) (by first | rfl | (simp only [n0, n1, n2, n3, n4, n5, n6, n7, n8, n9, n10, n11, n12, n13, n14, n15, n16, n17, n18, n19, n20, n24, n32, n56, n60, n64, n72, n99, n100, n128, n136, n142, n144, n200, n300, n999, n1000, n1500, n3464, nI_add, pk_mul] <;> first | rfl | (congr 1; omega))) hn2 (by decide) (fun g114 eg114 => ?_)
            refine fin _ g114 eg114 ?_
            unfold kindA
            rw [htf, if_neg (by decide), if_neg (by simpa using c4), if_neg c5]
        ·
          refine J_aload_n hS dX6_arrive_86 rfl ?_
          refine J_getR (t := h + 4) hS dX6_arrive_87 flX6_43 hW.ob rfl ?_
          refine J_iload hS dX6_arrive_90 rfl ?_
          refine J_iconst (v := 0) hS dX6_arrive_92 (by decide) ?_
          refine J_iastN hS (n) dX6_arrive_93 (show Ar lay NC .int (h + 4) 24 from hW.ar 4 (by decide) (by decide)) (by first | rfl | (simp only [n0, n1, n2, n3, n4, n5, n6, n7, n8, n9, n10, n11, n12, n13, n14, n15, n16, n17, n18, n19, n20, n24, n32, n56, n60, n64, n72, n99, n100, n128, n136, n142, n144, n200, n300, n999, n1000, n1500, n3464, nI_add, pk_mul] <;> first | rfl | (congr 1; omega))) hn2 (by decide) (fun g93 eg93 => ?_)
          refine J_goto (tgt := 115) hS dX6_arrive_94 (by decide) ?_
          refine fin _ g93 eg93 ?_
          unfold kindA
          rw [htf, if_neg (by decide), if_pos (by simpa using c4)]
      · have htt : t = true := htc.mpr c3
        refine J_aload_n hS dX6_arrive_69 rfl ?_
        refine J_getR (t := h + 4) hS dX6_arrive_70 flX6_43 hW.ob rfl ?_
        refine J_iload hS dX6_arrive_73 rfl ?_
        refine J_iconst (v := 3) hS dX6_arrive_75 (by decide) ?_
        refine J_iastN hS (n) dX6_arrive_76 (show Ar lay NC .int (h + 4) 24 from hW.ar 4 (by decide) (by decide)) (by first | rfl | (simp only [n0, n1, n2, n3, n4, n5, n6, n7, n8, n9, n10, n11, n12, n13, n14, n15, n16, n17, n18, n19, n20, n24, n32, n56, n60, n64, n72, n99, n100, n128, n136, n142, n144, n200, n300, n999, n1000, n1500, n3464, nI_add, pk_mul] <;> first | rfl | (congr 1; omega))) hn2 (by decide) (fun g76 eg76 => ?_)
        refine J_goto (tgt := 115) hS dX6_arrive_77 (by decide) ?_
        refine fin _ g76 eg76 ?_
        unfold kindA
        rw [htt, if_pos rfl]
    · have hn2 : n = 24 := by
        rcases Nat.lt_or_ge n 24 with z | z
        · exact absurd (nI_lt z (by decide)) c2
        · omega
      refine J_iconst (v := (-1)) hS dX6_arrive_18 (by decide) ?_
      refine J_iret hS hZ hr dX6_arrive_19 (by omega) (by omega) ?_
      exact q24 hn2
end ClsO


/-! THE REFERENCE: its public methods, 5: of, count, and those that read the notes -/
/-- the notes, as the class keeps them -/
def NtM (g : Mm) (nn : Wr) (m : Nat) : Prop := ∀ t j, t < m → j < 19 → g 201 (20 * t + j) = nn (t * 19 + j)
theorem NtM.fr {g g' : Mm} {nn : Wr} {m : Nat} (h : NtM g nn m) (e : g' 201 = g 201) : NtM g' nn m := fun t j ht hj => by rw [e]; exact h t j ht hj
theorem NtM.z {g g' : Mm} {nn : Wr} {m : Nat} (h : NtM g nn m) (e : FrZ g g') : NtM g' nn m := h.fr (e.1 201 (by decide) (by decide) (by decide) (by decide) (by decide) (by decide) (by decide) (by decide) (by decide) (by decide))
section RefP5
variable {l : Launch} {E : Ey} {g : Mm} {Q : Option Value → Mm → Prop} {X : String → Mm → Prop} {w : Wr} {n : Nat}
set_option maxRecDepth 10000 in
theorem m_of {c v : Int32} {lw : Option (List Cls)} (hI : RI g w n) (hRl : RuleM g 164 lw) (x : ou n c → ∀ g', FrZ g g' → g' 162 0 = 1 → Q (some (.int 0)) g') (x2 : ¬ ou n c → ou 7 v → ∀ g', FrZ g g' → g' 162 0 = 2 → Q (some (.int 0)) g')
    (q0 : ∀ k, k < n → c = nI k → v = 0 → ∀ g', FrZ g g' → g' 162 0 = 0 → Q (some (.int (w (56 + 142 * k)))) g') (q1 : ∀ k, k < n → c = nI k → v = 1 → ∀ g', FrZ g g' → g' 162 0 = 0 → Q (some (.int (w 2 - w (56 + 142 * k + 2) + w (56 + 142 * k + 1)))) g') (q2 : ∀ k, k < n → c = nI k → v = 2 → ∀ g', FrZ g g' → g' 162 0 = 0 → Q (some (.int (w (56 + 142 * k + 4)))) g') (q3 : ∀ k, k < n → c = nI k → v = 3 → ∀ g', FrZ g g' → g' 162 0 = 0 → Q (some (.int (w (56 + 142 * k + 3)))) g') (q4 : ∀ k, k < n → c = nI k → v = 4 → ∀ g', FrZ g g' → g' 162 0 = 0 → Q (some (.int (w (56 + 142 * k + 5)))) g') (q5 : ∀ k, k < n → c = nI k → v = 5 → ∀ g', FrZ g g' → g' 162 0 = 0 → Q (some (.int (w (56 + 142 * k + 6)))) g')
    (q6 : ∀ k, k < n → c = nI k → v = 6 → ∀ g', FrZ g g' → g' 162 0 = 0 → Q (some (.int (nI (here (fun o => hldB lw (-1) w k o) 6).length))) g') : Ct l E lay NC 4 0 0 yX8_of [.ref 162, .int c, .int v] g Q X := by
  have hn := hI.hn
  refine Ct_in k_yX8_of (by decide) rfl (Nat.le_of_ble_eq_true rfl) rfl ?_
  intro S hS hZ hr ht hR
  show J S 0 0 (g) 0 [some (.ref 162), some (.int c), some (.int v), none, none, none] []
  refine J_aload_n hS dX8_of_0 rfl ?_
  refine J_iconst (v := 0) hS dX8_of_1 (by decide) ?_
  refine J_putI hS dX8_of_2 fpX8_1 ob162 rfl (fun g2 eg2 => ?_)
  have z2 : FrZ g g2 := by rw [eg2]; exact FrZ_thr
  have t2 : g2 162 0 = 0 := by rw [eg2, u2_self]
  have i2 := hI.fr z2
  have rul2 : RuleM g2 164 lw := hRl.fr (by rw [eg2, u2_ne _ (by decide)]) (fun z z1 z2 => by rw [eg2, u2_ne _ (by omega)])
  rcases in_or (y := c) (b := n) (by first | decide | omega) with ⟨k, hk, ek⟩ | hbk
  ·
    subst ek
    have nk := nou hk (show n < 2 ^ 31 by omega)
    refine J_aload_n hS dX8_of_5 rfl ?_
    refine J_iload_n hS dX8_of_6 rfl ?_
    refine J_callV1 (X' := fun _ _ => False) hS dX8_of_7 mvX8_125 ob162 rfl (by first | decide | omega) (by decide) (Nat.le_of_ble_eq_true rfl) ⟨Nat.le_trans (by decide) hR.1, Nat.le_trans (by decide) hR.2⟩ (fun _ _ q => q.elim) (m_childY i2 t2 hk ?_)
    refine J_if_eq (tgt := 28) hS dX8_of_10 (by decide) (fun c1 => ?_) (fun c1 => ?_)
    · exact absurd c1 (by decide)
    ·
      rcases in_or (y := v) (b := 7) (by first | decide | omega) with ⟨j, hj, ej⟩ | hbj
      ·
        subst ej
        refine J_aload_n hS dX8_of_13 rfl ?_
        refine J_iload_n hS dX8_of_14 rfl ?_
        refine J_iconst (v := 0) hS dX8_of_15 (by decide) ?_
        refine J_bipush (v := 6) hS dX8_of_16 (by decide) ?_
        refine J_callS3 (X' := fun _ _ => False) hS dX8_of_18 msX8_106 rfl (by first | decide | omega) (by decide) (Nat.le_of_ble_eq_true rfl) ⟨Nat.le_trans (by decide) hR.1, Nat.le_trans (by decide) hR.2⟩ (fun _ _ q => q.elim) (m_ouY (m := 7) (by decide) (by decide) hj ?_)
        refine J_iconst (v := 2) hS dX8_of_21 (by decide) ?_
        refine J_callV2 (X' := fun _ _ => False) hS dX8_of_22 mvX8_110 ob162 rfl (by first | decide | omega) (by decide) (Nat.le_of_ble_eq_true rfl) ⟨Nat.le_trans (by decide) hR.1, Nat.le_trans (by decide) hR.2⟩ (fun _ _ q => q.elim) (m_mayY t2 (by decide) ?_)
        refine J_if_ne (tgt := 30) hS dX8_of_25 (by decide) (fun c2 => ?_) (fun c2 => ?_)
        ·
          refine J_iload_n hS dX8_of_30 rfl ?_
          refine J_callS1 (X' := fun _ _ => False) hS dX8_of_31 msX8_121 rfl (by first | decide | omega) (by decide) (Nat.le_of_ble_eq_true rfl) ⟨Nat.le_trans (by decide) hR.1, Nat.le_trans (by decide) hR.2⟩ (fun _ _ q => q.elim) (m_at ?_)
          refine J_istore_n (lt := fun p3 => [some (.ref 162), some (.int (nI k)), some (.int (nI j)), some (.int p3), none, none]) hS dX8_of_34 (Nat.le_of_ble_eq_true rfl) (fun _ => rfl) (fun p3 ep3 => ?_)
          refine J_iload_n hS dX8_of_35 rfl ?_
          rw [show p3 = nI (56 + 142 * k) from ep3]
          rcases (show j = 0 ∨ j = 1 ∨ j = 2 ∨ j = 3 ∨ j = 4 ∨ j = 5 ∨ j = 6 by omega) with e | e | e | e | e | e | e
          · subst e
            refine J_tableIn (off := 40) (tgt := 76) hS dX8_of_36 (by decide) (by decide) rfl (by decide) ?_
            refine J_aload_n hS dX8_of_76 rfl ?_
            refine J_getR (t := 164) hS dX8_of_77 flX8_13 ob162 rfl ?_
            refine J_iload_n hS dX8_of_80 rfl ?_
            refine J_iconst (v := 0) hS dX8_of_81 (by decide) ?_
            refine J_iadd hS dX8_of_82 ?_
            refine J_ialdN hS (56 + 142 * k) dX8_of_83 (show Ar lay NC .int 164 3464 from arM 1 3464 (by decide) (by decide) rfl) (by rw [n0, nI_add]; rfl) (by omega) (by decide) ?_
            show J S 0 0 (g2) 84 [some (.ref 162), some (.int (nI k)), some (.int (nI 0)), some (.int (nI (56 + 142 * k))), none, none] [.int _]
            rw [i2.row _ (by omega)]
            refine J_iret hS hZ hr dX8_of_84 (by omega) (by omega) ?_
            exact q0 k hk rfl rfl g2 z2 t2
          · subst e
            refine J_tableIn (off := 49) (tgt := 85) hS dX8_of_36 (by decide) (by decide) rfl (by decide) ?_
            refine J_aload_n hS dX8_of_85 rfl ?_
            refine J_getR (t := 164) hS dX8_of_86 flX8_13 ob162 rfl ?_
            refine J_iconst (v := 2) hS dX8_of_89 (by decide) ?_
            refine J_ialdN hS (2) dX8_of_90 (show Ar lay NC .int 164 3464 from arM 1 3464 (by decide) (by decide) rfl) (by first | rfl | (simp only [n0, n1, n2, n3, n4, n5, n6, n7, n8, n9, n10, n11, n12, n13, n14, n15, n16, n17, n18, n19, n20, n24, n32, n56, n60, n64, n72, n99, n100, n128, n136, n142, n144, n200, n300, n999, n1000, n1500, n3464, nI_add, pk_mul] <;> first | rfl | (congr 1; omega))) (by decide) (by decide) ?_
            refine J_aload_n hS dX8_of_91 rfl ?_
            refine J_getR (t := 164) hS dX8_of_92 flX8_13 ob162 rfl ?_
            refine J_iload_n hS dX8_of_95 rfl ?_
            refine J_iconst (v := 2) hS dX8_of_96 (by decide) ?_
            refine J_iadd hS dX8_of_97 ?_
            refine J_ialdN hS (56 + 142 * k + 2) dX8_of_98 (show Ar lay NC .int 164 3464 from arM 1 3464 (by decide) (by decide) rfl) (by first | rfl | (simp only [n0, n1, n2, n3, n4, n5, n6, n7, n8, n9, n10, n11, n12, n13, n14, n15, n16, n17, n18, n19, n20, n24, n32, n56, n60, n64, n72, n99, n100, n128, n136, n142, n144, n200, n300, n999, n1000, n1500, n3464, nI_add, pk_mul] <;> first | rfl | (congr 1; omega))) (by omega) (by decide) ?_
            refine J_isub hS dX8_of_99 ?_
            refine J_aload_n hS dX8_of_100 rfl ?_
            refine J_getR (t := 164) hS dX8_of_101 flX8_13 ob162 rfl ?_
            refine J_iload_n hS dX8_of_104 rfl ?_
            refine J_iconst (v := 1) hS dX8_of_105 (by decide) ?_
            refine J_iadd hS dX8_of_106 ?_
            refine J_ialdN hS (56 + 142 * k + 1) dX8_of_107 (show Ar lay NC .int 164 3464 from arM 1 3464 (by decide) (by decide) rfl) (by first | rfl | (simp only [n0, n1, n2, n3, n4, n5, n6, n7, n8, n9, n10, n11, n12, n13, n14, n15, n16, n17, n18, n19, n20, n24, n32, n56, n60, n64, n72, n99, n100, n128, n136, n142, n144, n200, n300, n999, n1000, n1500, n3464, nI_add, pk_mul] <;> first | rfl | (congr 1; omega))) (by omega) (by decide) ?_
            refine J_iadd hS dX8_of_108 ?_
            show J S 0 0 (g2) 109 [some (.ref 162), some (.int (nI k)), some (.int (nI 1)), some (.int (nI (56 + 142 * k))), none, none] [.int _]
            rw [i2.row _ (by omega), i2.row _ (by omega), i2.row _ (by omega)]
            refine J_iret hS hZ hr dX8_of_109 (by omega) (by omega) ?_
            exact q1 k hk rfl rfl g2 z2 t2
          · subst e
            refine J_tableIn (off := 74) (tgt := 110) hS dX8_of_36 (by decide) (by decide) rfl (by decide) ?_
            refine J_aload_n hS dX8_of_110 rfl ?_
            refine J_getR (t := 164) hS dX8_of_111 flX8_13 ob162 rfl ?_
            refine J_iload_n hS dX8_of_114 rfl ?_
            refine J_iconst (v := 4) hS dX8_of_115 (by decide) ?_
            refine J_iadd hS dX8_of_116 ?_
            refine J_ialdN hS (56 + 142 * k + 4) dX8_of_117 (show Ar lay NC .int 164 3464 from arM 1 3464 (by decide) (by decide) rfl) (by first | rfl | (simp only [n0, n1, n2, n3, n4, n5, n6, n7, n8, n9, n10, n11, n12, n13, n14, n15, n16, n17, n18, n19, n20, n24, n32, n56, n60, n64, n72, n99, n100, n128, n136, n142, n144, n200, n300, n999, n1000, n1500, n3464, nI_add, pk_mul] <;> first | rfl | (congr 1; omega))) (by omega) (by decide) ?_
            show J S 0 0 (g2) 118 [some (.ref 162), some (.int (nI k)), some (.int (nI 2)), some (.int (nI (56 + 142 * k))), none, none] [.int _]
            rw [i2.row _ (by omega)]
            refine J_iret hS hZ hr dX8_of_118 (by omega) (by omega) ?_
            exact q2 k hk rfl rfl g2 z2 t2
          · subst e
            refine J_tableIn (off := 83) (tgt := 119) hS dX8_of_36 (by decide) (by decide) rfl (by decide) ?_
            refine J_aload_n hS dX8_of_119 rfl ?_
            refine J_getR (t := 164) hS dX8_of_120 flX8_13 ob162 rfl ?_
            refine J_iload_n hS dX8_of_123 rfl ?_
            refine J_iconst (v := 3) hS dX8_of_124 (by decide) ?_
            refine J_iadd hS dX8_of_125 ?_
            refine J_ialdN hS (56 + 142 * k + 3) dX8_of_126 (show Ar lay NC .int 164 3464 from arM 1 3464 (by decide) (by decide) rfl) (by first | rfl | (simp only [n0, n1, n2, n3, n4, n5, n6, n7, n8, n9, n10, n11, n12, n13, n14, n15, n16, n17, n18, n19, n20, n24, n32, n56, n60, n64, n72, n99, n100, n128, n136, n142, n144, n200, n300, n999, n1000, n1500, n3464, nI_add, pk_mul] <;> first | rfl | (congr 1; omega))) (by omega) (by decide) ?_
            show J S 0 0 (g2) 127 [some (.ref 162), some (.int (nI k)), some (.int (nI 3)), some (.int (nI (56 + 142 * k))), none, none] [.int _]
            rw [i2.row _ (by omega)]
            refine J_iret hS hZ hr dX8_of_127 (by omega) (by omega) ?_
            exact q3 k hk rfl rfl g2 z2 t2
          · subst e
            refine J_tableIn (off := 92) (tgt := 128) hS dX8_of_36 (by decide) (by decide) rfl (by decide) ?_
            refine J_aload_n hS dX8_of_128 rfl ?_
            refine J_getR (t := 164) hS dX8_of_129 flX8_13 ob162 rfl ?_
            refine J_iload_n hS dX8_of_132 rfl ?_
            refine J_iconst (v := 5) hS dX8_of_133 (by decide) ?_
            refine J_iadd hS dX8_of_134 ?_
            refine J_ialdN hS (56 + 142 * k + 5) dX8_of_135 (show Ar lay NC .int 164 3464 from arM 1 3464 (by decide) (by decide) rfl) (by first | rfl | (simp only [n0, n1, n2, n3, n4, n5, n6, n7, n8, n9, n10, n11, n12, n13, n14, n15, n16, n17, n18, n19, n20, n24, n32, n56, n60, n64, n72, n99, n100, n128, n136, n142, n144, n200, n300, n999, n1000, n1500, n3464, nI_add, pk_mul] <;> first | rfl | (congr 1; omega))) (by omega) (by decide) ?_
            show J S 0 0 (g2) 136 [some (.ref 162), some (.int (nI k)), some (.int (nI 4)), some (.int (nI (56 + 142 * k))), none, none] [.int _]
            rw [i2.row _ (by omega)]
            refine J_iret hS hZ hr dX8_of_136 (by omega) (by omega) ?_
            exact q4 k hk rfl rfl g2 z2 t2
          · subst e
            refine J_tableIn (off := 101) (tgt := 137) hS dX8_of_36 (by decide) (by decide) rfl (by decide) ?_
            refine J_aload_n hS dX8_of_137 rfl ?_
            refine J_getR (t := 164) hS dX8_of_138 flX8_13 ob162 rfl ?_
            refine J_iload_n hS dX8_of_141 rfl ?_
            refine J_bipush (v := 6) hS dX8_of_142 (by decide) ?_
            refine J_iadd hS dX8_of_144 ?_
            refine J_ialdN hS (56 + 142 * k + 6) dX8_of_145 (show Ar lay NC .int 164 3464 from arM 1 3464 (by decide) (by decide) rfl) (by first | rfl | (simp only [n0, n1, n2, n3, n4, n5, n6, n7, n8, n9, n10, n11, n12, n13, n14, n15, n16, n17, n18, n19, n20, n24, n32, n56, n60, n64, n72, n99, n100, n128, n136, n142, n144, n200, n300, n999, n1000, n1500, n3464, nI_add, pk_mul] <;> first | rfl | (congr 1; omega))) (by omega) (by decide) ?_
            show J S 0 0 (g2) 146 [some (.ref 162), some (.int (nI k)), some (.int (nI 5)), some (.int (nI (56 + 142 * k))), none, none] [.int _]
            rw [i2.row _ (by omega)]
            refine J_iret hS hZ hr dX8_of_146 (by omega) (by omega) ?_
            exact q5 k hk rfl rfl g2 z2 t2
          · subst e
            refine J_tableOut (tgt := 147) hS dX8_of_36 (by right; decide) (by decide) ?_
            refine J_iconst (v := 0) hS dX8_of_147 (by decide) ?_
            refine J_istore (lt := fun v4 => [some (.ref 162), some (.int (nI k)), some (.int (nI 6)), some (.int (nI (56 + 142 * k))), some (.int v4), none]) hS dX8_of_148 (Nat.le_of_ble_eq_true rfl) (fun _ => rfl) (fun v4 ev4 => ?_)
            refine J_iconst (v := 0) hS dX8_of_150 (by decide) ?_
            refine J_istore (lt := fun v5 => [some (.ref 162), some (.int (nI k)), some (.int (nI 6)), some (.int (nI (56 + 142 * k))), some (.int v4), some (.int v5)]) hS dX8_of_151 (Nat.le_of_ble_eq_true rfl) (fun _ => rfl) (fun v5 ev5 => ?_)
            obtain ⟨P, hP⟩ : ∃ P : Nat → Bool, P = fun o => hldB lw (-1) w k o := ⟨_, rfl⟩
            have qq := q6 k hk rfl rfl
            rw [← hP] at qq
            suffices H : ∀ (s o : Nat) (f i : Int32) (g3 : Mm), o + s = 6 → i = nI o → f = nI (here P o).length → (∀ z, z ≠ 162 → z ≠ 191 → g3 z = g2 z) → (∀ j, (j < 21 ∨ 26 < j) → g3 162 j = g2 162 j) → J S 0 0 g3 153 [some (.ref 162), some (.int (nI k)), some (.int (nI 6)), some (.int (nI (56 + 142 * k))), some (.int f), some (.int i)] [] by
              exact H 6 0 v4 v5 g2 (by omega) ev5 (by rw [ev4]; rfl) (fun _ _ _ => rfl) (fun _ _ => rfl)
            intro s
            induction s with
            | zero =>
              intro o f i g3 ho hi hf f1 f2
              have eo : o = 6 := by omega
              subst eo; subst hi
              refine J_iload hS dX8_of_153 rfl ?_
              refine J_bipush (v := 6) hS dX8_of_155 (by decide) ?_
              refine J_icmp_ge (tgt := 186) hS dX8_of_157 (by decide) (fun d1 => ?_) (fun d1 => ?_)
              ·
                refine J_iload hS dX8_of_186 rfl ?_
                refine J_iret hS hZ hr dX8_of_188 (by omega) (by omega) ?_
                rw [hf]
                exact qq g3 (z2.trans ⟨fun z z1 _ z3 _ _ _ _ _ _ _ => f1 z z1 z3, fun j hj => f2 j (by omega)⟩) (by rw [f2 0 (by decide)]; exact t2)
              · exact absurd (Int32.le_refl _) d1
            | succ s ih =>
              intro o f i g3 ho hi hf f1 f2
              subst hi
              have ho6 : o < 6 := by omega
              have hs := here_succ P o
              have zz : FrZ g2 g3 := ⟨fun z z1 _ z3 _ _ _ _ _ _ _ => f1 z z1 z3, fun j hj => f2 j (by omega)⟩
              have i3 := i2.fr zz
              have rul3 : RuleM g3 164 lw := rul2.fr (by rw [f1 164 (by decide) (by decide)]) (fun z za zb => f1 z (by omega) (by omega))
              have nx2 : ∀ (g4 : Mm) (x : Int32), (x = 0 ∨ x = 1) → (x = 1 ↔ P o = true) → (∀ z, z ≠ 162 → z ≠ 191 → g4 z = g2 z) → (∀ j, (j < 21 ∨ 26 < j) → g4 162 j = g2 162 j) → J S 0 0 g4 177 [some (.ref 162), some (.int (nI k)), some (.int (nI 6)), some (.int (nI (56 + 142 * k))), some (.int f), some (.int (nI o))] [.int x, .int f] := by
                intro g4 x hx1 hx2 e1 e2
                refine J_iadd hS dX8_of_177 ?_
                refine J_istore (lt := fun f3 => [some (.ref 162), some (.int (nI k)), some (.int (nI 6)), some (.int (nI (56 + 142 * k))), some (.int f3), some (.int (nI o))]) hS dX8_of_178 (Nat.le_of_ble_eq_true rfl) (fun _ => rfl) (fun f3 ef3 => ?_)
                refine J_iinc (lt := fun i4 => [some (.ref 162), some (.int (nI k)), some (.int (nI 6)), some (.int (nI (56 + 142 * k))), some (.int f3), some (.int i4)]) (v := 1) hS dX8_of_180 rfl (by decide) (fun _ => rfl) (fun i4 ei4 => ?_)
                refine J_goto (tgt := 153) hS dX8_of_183 (by decide) ?_
                refine ih (o + 1) f3 i4 g4 (by omega) (by rw [ei4]; exact nI_1 o) ?_ e1 e2
                rw [ef3, hf, hs]
                by_cases e : P o = true
                · rw [hx2.mpr e, if_pos e, List.length_append]; exact nI_1 _
                · rw [hx1.resolve_right (fun z => e (hx2.mp z)), if_neg e, List.append_nil, show (0 : Int32) = nI 0 from rfl, nI_add]; rfl
              refine J_iload hS dX8_of_153 rfl ?_
              refine J_bipush (v := 6) hS dX8_of_155 (by decide) ?_
              refine J_icmp_ge (tgt := 186) hS dX8_of_157 (by decide) (fun d1 => ?_) (fun d1 => ?_)
              · exact absurd d1 (nI_ge ho6 (by decide))
              ·
                refine J_iload hS dX8_of_160 rfl ?_
                refine J_aload_n hS dX8_of_162 rfl ?_
                refine J_iload_n hS dX8_of_163 rfl ?_
                refine J_iload hS dX8_of_164 rfl ?_
                refine J_callV2 (X' := fun _ _ => False) hS dX8_of_166 mvX8_128 ob162 rfl (by first | decide | omega) (by decide) (Nat.le_of_ble_eq_true rfl) ⟨Nat.le_trans (by decide) hR.1, Nat.le_trans (by decide) hR.2⟩ (fun _ _ q => q.elim) (m_holdsNow Rw4 i3.w3 i3.rw (by omega) ho6 i3.lo rul3 (fun g4 x b1 b2 b3 b4 => ?_))
                have b5 : x = 1 ↔ P o = true := by rw [hP]; exact b4
                have e1 : ∀ z, z ≠ 162 → z ≠ 191 → g4 z = g2 z := fun z za zb => by rw [b1 z za zb]; exact f1 z za zb
                have e2 : ∀ j, (j < 21 ∨ 26 < j) → g4 162 j = g2 162 j := fun j hj => by rw [b2 j hj]; exact f2 j hj
                refine J_if_eq (tgt := 176) hS dX8_of_169 (by decide) (fun d2 => ?_) (fun d2 => ?_)
                ·
                  refine J_iconst (v := 0) hS dX8_of_176 (by decide) ?_
                  exact nx2 g4 0 (Or.inl rfl) (by rw [d2] at b5; exact b5) e1 e2
                ·
                  refine J_iconst (v := 1) hS dX8_of_172 (by decide) ?_
                  refine J_goto (tgt := 177) hS dX8_of_173 (by decide) ?_
                  exact nx2 g4 1 (Or.inr rfl) (by rw [b3.resolve_left d2] at b5; exact b5) e1 e2
        · exact absurd c2 (by decide)
      ·
        refine J_aload_n hS dX8_of_13 rfl ?_
        refine J_iload_n hS dX8_of_14 rfl ?_
        refine J_iconst (v := 0) hS dX8_of_15 (by decide) ?_
        refine J_bipush (v := 6) hS dX8_of_16 (by decide) ?_
        refine J_callS3 (X' := fun _ _ => False) hS dX8_of_18 msX8_106 rfl (by first | decide | omega) (by decide) (Nat.le_of_ble_eq_true rfl) ⟨Nat.le_trans (by decide) hR.1, Nat.le_trans (by decide) hR.2⟩ (fun _ _ q => q.elim) (m_ouN (m := 7) (by decide) (by decide) hbj ?_)
        refine J_iconst (v := 2) hS dX8_of_21 (by decide) ?_
        refine J_callV2 (X' := fun _ _ => False) hS dX8_of_22 mvX8_110 ob162 rfl (by first | decide | omega) (by decide) (Nat.le_of_ble_eq_true rfl) ⟨Nat.le_trans (by decide) hR.1, Nat.le_trans (by decide) hR.2⟩ (fun _ _ q => q.elim) (m_mayN t2 (by decide) ?_)
        refine J_if_ne (tgt := 30) hS dX8_of_25 (by decide) (fun c2 => ?_) (fun c2 => ?_)
        · exact absurd rfl c2
        ·
          refine J_iconst (v := 0) hS dX8_of_28 (by decide) ?_
          refine J_iret hS hZ hr dX8_of_29 (by omega) (by omega) ?_
          exact x2 nk hbj _ (z2.trans FrZ_thr) (u2_self ..)
  ·
    refine J_aload_n hS dX8_of_5 rfl ?_
    refine J_iload_n hS dX8_of_6 rfl ?_
    refine J_callV1 (X' := fun _ _ => False) hS dX8_of_7 mvX8_125 ob162 rfl (by first | decide | omega) (by decide) (Nat.le_of_ble_eq_true rfl) ⟨Nat.le_trans (by decide) hR.1, Nat.le_trans (by decide) hR.2⟩ (fun _ _ q => q.elim) (m_childN i2 t2 hbk ?_)
    refine J_if_eq (tgt := 28) hS dX8_of_10 (by decide) (fun c1 => ?_) (fun c1 => ?_)
    ·
      refine J_iconst (v := 0) hS dX8_of_28 (by decide) ?_
      refine J_iret hS hZ hr dX8_of_29 (by omega) (by omega) ?_
      exact x hbk _ (z2.trans FrZ_thr) (u2_self ..)
    · exact absurd rfl c1
set_option maxRecDepth 10000 in
theorem m_count {v : Int32} {f : Nat} (hI : RI g w n) (hf : ¬ g 162 46 = -1 → f < 3 ∧ g 162 46 = nI f) (q0 : v = 0 → ∀ g', FrZ g g' → g' 162 0 = 0 → Q (some (.int (w 2))) g') (q1 : v = 1 → ∀ g', FrZ g g' → g' 162 0 = 0 → Q (some (.int (w 6))) g') (q2 : v = 2 → ∀ g', FrZ g g' → g' 162 0 = 0 → Q (some (.int (nI (here (fun c => decide (w (56 + 142 * c + 3) = 1)) n).length))) g') (q3 : v = 3 → ∀ g', FrZ g g' → g' 162 0 = 0 → Q (some (.int (g 162 37))) g') (q4 : v = 4 → ∀ g', FrZ g g' → g' 162 0 = 0 → Q (some (.int (g 162 11))) g') (q5 : v = 5 → ∀ g', FrZ g g' → g' 162 0 = 0 → Q (some (.int (w 5))) g') (q6 : v = 6 → ∀ g', FrZ g g' → g' 162 0 = 0 → Q (some (.int (g 162 45))) g') (q7 : v = 7 → g 162 46 = -1 → ∀ g', FrZ g g' → g' 162 0 = 0 → Q (some (.int (-1))) g') (q7' : v = 7 → ¬ g 162 46 = -1 → ∀ g', FrZ g g' → g' 162 0 = 0 → Q (some (.int (g 211 f))) g') (q8 : v = 8 → ∀ g', FrZ g g' → g' 162 0 = 0 → Q (some (.int (g 162 54))) g') (q9 : v = 9 → ∀ g', FrZ g g' → g' 162 0 = 0 → Q (some (.int (g 162 4))) g') (q10 : v = 10 → ∀ g', FrZ g g' → g' 162 0 = 0 → Q (some (.int (w 1))) g') (q11 : v = 11 → ∀ g', FrZ g g' → g' 162 0 = 0 → Q (some (.int (w 0))) g') (q' : ou 12 v → ∀ g', FrZ g g' → g' 162 0 = 0 → Q (some (.int (-1))) g') : Ct l E lay NC 1 0 0 yX8_count [.ref 162, .int v] g Q X := by
  have hn := hI.hn
  refine Ct_in k_yX8_count (by decide) rfl (Nat.le_of_ble_eq_true rfl) rfl ?_
  intro S hS hZ hr ht hR
  show J S 0 0 (g) 0 [some (.ref 162), some (.int v), none, none] []
  refine J_aload_n hS dX8_count_0 rfl ?_
  refine J_iconst (v := 0) hS dX8_count_1 (by decide) ?_
  refine J_putI hS dX8_count_2 fpX8_1 ob162 rfl (fun g2 eg2 => ?_)
  refine J_iconst (v := 0) hS dX8_count_5 (by decide) ?_
  refine J_istore_n (lt := fun x2 => [some (.ref 162), some (.int v), some (.int x2), none]) hS dX8_count_6 (Nat.le_of_ble_eq_true rfl) (fun _ => rfl) (fun x2 ex2 => ?_)
  have z2 : FrZ g g2 := by rw [eg2]; exact FrZ_thr
  have t2 : g2 162 0 = 0 := by rw [eg2, u2_self]
  have i2 := hI.fr z2
  refine J_iload_n hS dX8_count_7 rfl ?_
  rcases in_or (y := v) (b := 12) (by first | decide | omega) with ⟨j, hj, ej⟩ | hbj
  ·
    subst ej
    rcases (show j = 0 ∨ j = 1 ∨ j = 2 ∨ j = 3 ∨ j = 4 ∨ j = 5 ∨ j = 6 ∨ j = 7 ∨ j = 8 ∨ j = 9 ∨ j = 10 ∨ j = 11 by omega) with e | e | e | e | e | e | e | e | e | e | e | e
    · subst e
      refine J_tableIn (off := 64) (tgt := 72) hS dX8_count_8 (by decide) (by decide) rfl (by decide) ?_
      refine J_aload_n hS dX8_count_72 rfl ?_
      refine J_getR (t := 164) hS dX8_count_73 flX8_13 ob162 rfl ?_
      refine J_iconst (v := 2) hS dX8_count_76 (by decide) ?_
      refine J_ialdN hS (2) dX8_count_77 (show Ar lay NC .int 164 3464 from arM 1 3464 (by decide) (by decide) rfl) (by first | rfl | (simp only [n0, n1, n2, n3, n4, n5, n6, n7, n8, n9, n10, n11, n12, n13, n14, n15, n16, n17, n18, n19, n20, n24, n32, n56, n60, n64, n72, n99, n100, n128, n136, n142, n144, n200, n300, n999, n1000, n1500, n3464, nI_add, pk_mul] <;> first | rfl | (congr 1; omega))) (by decide) (by decide) ?_
      show J S 0 0 (g2) 78 [some (.ref 162), some (.int (nI 0)), some (.int x2), none] [.int _]
      rw [i2.row _ (by decide)]
      refine J_iret hS hZ hr dX8_count_78 (by omega) (by omega) ?_
      exact q0 rfl g2 z2 t2
    · subst e
      refine J_tableIn (off := 71) (tgt := 79) hS dX8_count_8 (by decide) (by decide) rfl (by decide) ?_
      refine J_aload_n hS dX8_count_79 rfl ?_
      refine J_getR (t := 164) hS dX8_count_80 flX8_13 ob162 rfl ?_
      refine J_bipush (v := 6) hS dX8_count_83 (by decide) ?_
      refine J_ialdN hS (6) dX8_count_85 (show Ar lay NC .int 164 3464 from arM 1 3464 (by decide) (by decide) rfl) (by first | rfl | (simp only [n0, n1, n2, n3, n4, n5, n6, n7, n8, n9, n10, n11, n12, n13, n14, n15, n16, n17, n18, n19, n20, n24, n32, n56, n60, n64, n72, n99, n100, n128, n136, n142, n144, n200, n300, n999, n1000, n1500, n3464, nI_add, pk_mul] <;> first | rfl | (congr 1; omega))) (by decide) (by decide) ?_
      show J S 0 0 (g2) 86 [some (.ref 162), some (.int (nI 1)), some (.int x2), none] [.int _]
      rw [i2.row _ (by decide)]
      refine J_iret hS hZ hr dX8_count_86 (by omega) (by omega) ?_
      exact q1 rfl g2 z2 t2
    · subst e
      refine J_tableIn (off := 79) (tgt := 87) hS dX8_count_8 (by decide) (by decide) rfl (by decide) ?_
      refine J_iconst (v := 0) hS dX8_count_87 (by decide) ?_
      refine J_istore_n (lt := fun x3 => [some (.ref 162), some (.int (nI 2)), some (.int x2), some (.int x3)]) hS dX8_count_88 (Nat.le_of_ble_eq_true rfl) (fun _ => rfl) (fun x3 ex3 => ?_)
      obtain ⟨P, hP⟩ : ∃ P : Nat → Bool, P = fun c => decide (w (56 + 142 * c + 3) = 1) := ⟨_, rfl⟩
      have qq := q2 rfl
      rw [← hP] at qq
      suffices H : ∀ (s c : Nat) (v i : Int32), c + s = n → i = nI c → v = nI (here P c).length → J S 0 0 g2 89 [some (.ref 162), some (.int (nI 2)), some (.int v), some (.int i)] [] by
        exact H n 0 x2 x3 (by omega) ex3 (by rw [ex2]; rfl)
      intro s
      induction s with
      | zero =>
        intro c v i hc hi hv
        have ec : c = n := by omega
        subst ec; subst hi
        refine J_iload_n hS dX8_count_89 rfl ?_
        refine J_aload_n hS dX8_count_90 rfl ?_
        refine J_getR (t := 164) hS dX8_count_91 flX8_13 ob162 rfl ?_
        refine J_bipush (v := 6) hS dX8_count_94 (by decide) ?_
        refine J_ialdN hS (6) dX8_count_96 (show Ar lay NC .int 164 3464 from arM 1 3464 (by decide) (by decide) rfl) (by first | rfl | (simp only [n0, n1, n2, n3, n4, n5, n6, n7, n8, n9, n10, n11, n12, n13, n14, n15, n16, n17, n18, n19, n20, n24, n32, n56, n60, n64, n72, n99, n100, n128, n136, n142, n144, n200, n300, n999, n1000, n1500, n3464, nI_add, pk_mul] <;> first | rfl | (congr 1; omega))) (by decide) (by decide) ?_
        show J S 0 0 (g2) 97 [some (.ref 162), some (.int (nI 2)), some (.int v), some (.int (nI c))] [.int _, .int (nI c)]
        rw [i2.m6]
        refine J_icmp_ge (tgt := 120) hS dX8_count_97 (by decide) (fun d1 => ?_) (fun d1 => ?_)
        ·
          refine J_iload_n hS dX8_count_120 rfl ?_
          refine J_iret hS hZ hr dX8_count_121 (by omega) (by omega) ?_
          rw [hv]; exact qq g2 z2 t2
        · exact absurd (Int32.le_refl _) d1
      | succ s ih =>
        intro c v i hc hi hv
        subst hi
        have hs := here_succ P c
        refine J_iload_n hS dX8_count_89 rfl ?_
        refine J_aload_n hS dX8_count_90 rfl ?_
        refine J_getR (t := 164) hS dX8_count_91 flX8_13 ob162 rfl ?_
        refine J_bipush (v := 6) hS dX8_count_94 (by decide) ?_
        refine J_ialdN hS (6) dX8_count_96 (show Ar lay NC .int 164 3464 from arM 1 3464 (by decide) (by decide) rfl) (by first | rfl | (simp only [n0, n1, n2, n3, n4, n5, n6, n7, n8, n9, n10, n11, n12, n13, n14, n15, n16, n17, n18, n19, n20, n24, n32, n56, n60, n64, n72, n99, n100, n128, n136, n142, n144, n200, n300, n999, n1000, n1500, n3464, nI_add, pk_mul] <;> first | rfl | (congr 1; omega))) (by decide) (by decide) ?_
        show J S 0 0 (g2) 97 [some (.ref 162), some (.int (nI 2)), some (.int v), some (.int (nI c))] [.int _, .int (nI c)]
        rw [i2.m6]
        refine J_icmp_ge (tgt := 120) hS dX8_count_97 (by decide) (fun d1 => ?_) (fun d1 => ?_)
        · exact absurd d1 (nI_ge (show c < n by omega) (by omega))
        ·
          refine J_iload_n hS dX8_count_100 rfl ?_
          refine J_aload_n hS dX8_count_101 rfl ?_
          refine J_getR (t := 164) hS dX8_count_102 flX8_13 ob162 rfl ?_
          refine J_iload_n hS dX8_count_105 rfl ?_
          refine J_callS1 (X' := fun _ _ => False) hS dX8_count_106 msX8_121 rfl (by first | decide | omega) (by decide) (Nat.le_of_ble_eq_true rfl) ⟨Nat.le_trans (by decide) hR.1, Nat.le_trans (by decide) hR.2⟩ (fun _ _ q => q.elim) (m_at ?_)
          refine J_iconst (v := 3) hS dX8_count_109 (by decide) ?_
          refine J_iadd hS dX8_count_110 ?_
          refine J_ialdN hS (56 + 142 * c + 3) dX8_count_111 (show Ar lay NC .int 164 3464 from arM 1 3464 (by decide) (by decide) rfl) (by first | rfl | (simp only [n0, n1, n2, n3, n4, n5, n6, n7, n8, n9, n10, n11, n12, n13, n14, n15, n16, n17, n18, n19, n20, n24, n32, n56, n60, n64, n72, n99, n100, n128, n136, n142, n144, n200, n300, n999, n1000, n1500, n3464, nI_add, pk_mul] <;> first | rfl | (congr 1; omega))) (by omega) (by decide) ?_
          show J S 0 0 (g2) 112 [some (.ref 162), some (.int (nI 2)), some (.int v), some (.int (nI c))] [.int _, .int v]
          rw [i2.row _ (by omega)]
          refine J_iadd hS dX8_count_112 ?_
          refine J_istore_n (lt := fun v3 => [some (.ref 162), some (.int (nI 2)), some (.int v3), some (.int (nI c))]) hS dX8_count_113 (Nat.le_of_ble_eq_true rfl) (fun _ => rfl) (fun v3 ev3 => ?_)
          refine J_iinc (lt := fun i3 => [some (.ref 162), some (.int (nI 2)), some (.int v3), some (.int i3)]) (v := 1) hS dX8_count_114 rfl (by decide) (fun _ => rfl) (fun i3 ei3 => ?_)
          refine J_goto (tgt := 89) hS dX8_count_117 (by decide) ?_
          refine ih (c + 1) v3 i3 (by omega) (by rw [ei3]; exact nI_1 c) ?_
          rw [ev3, hv, hs]
          rcases hI.th c (by omega) with e | e
          · have hno : P c = false := by rw [hP]; exact decide_eq_false (fun z => by rw [e] at z; exact absurd z (by decide))
            rw [e, hno, show (0 : Int32) = nI 0 from rfl, nI_add]; simp
          · have hyes : P c = true := by rw [hP]; exact decide_eq_true e
            rw [e, hyes, if_pos rfl, List.length_append]; exact nI_1 _
    · subst e
      refine J_tableIn (off := 114) (tgt := 122) hS dX8_count_8 (by decide) (by decide) rfl (by decide) ?_
      refine J_aload_n hS dX8_count_122 rfl ?_
      refine J_getI hS dX8_count_123 flX8_329 ob162 rfl ?_
      show J S 0 0 (g2) 126 [some (.ref 162), some (.int (nI 3)), some (.int x2), none] [.int _]
      rw [z2.2 37 (by decide)]
      refine J_iret hS hZ hr dX8_count_126 (by omega) (by omega) ?_
      exact q3 rfl g2 z2 t2
    · subst e
      refine J_tableIn (off := 119) (tgt := 127) hS dX8_count_8 (by decide) (by decide) rfl (by decide) ?_
      refine J_aload_n hS dX8_count_127 rfl ?_
      refine J_getI hS dX8_count_128 flX8_168 ob162 rfl ?_
      show J S 0 0 (g2) 131 [some (.ref 162), some (.int (nI 4)), some (.int x2), none] [.int _]
      rw [z2.2 11 (by decide)]
      refine J_iret hS hZ hr dX8_count_131 (by omega) (by omega) ?_
      exact q4 rfl g2 z2 t2
    · subst e
      refine J_tableIn (off := 124) (tgt := 132) hS dX8_count_8 (by decide) (by decide) rfl (by decide) ?_
      refine J_aload_n hS dX8_count_132 rfl ?_
      refine J_getR (t := 164) hS dX8_count_133 flX8_13 ob162 rfl ?_
      refine J_iconst (v := 5) hS dX8_count_136 (by decide) ?_
      refine J_ialdN hS (5) dX8_count_137 (show Ar lay NC .int 164 3464 from arM 1 3464 (by decide) (by decide) rfl) (by first | rfl | (simp only [n0, n1, n2, n3, n4, n5, n6, n7, n8, n9, n10, n11, n12, n13, n14, n15, n16, n17, n18, n19, n20, n24, n32, n56, n60, n64, n72, n99, n100, n128, n136, n142, n144, n200, n300, n999, n1000, n1500, n3464, nI_add, pk_mul] <;> first | rfl | (congr 1; omega))) (by decide) (by decide) ?_
      show J S 0 0 (g2) 138 [some (.ref 162), some (.int (nI 5)), some (.int x2), none] [.int _]
      rw [i2.row _ (by decide)]
      refine J_iret hS hZ hr dX8_count_138 (by omega) (by omega) ?_
      exact q5 rfl g2 z2 t2
    · subst e
      refine J_tableIn (off := 131) (tgt := 139) hS dX8_count_8 (by decide) (by decide) rfl (by decide) ?_
      refine J_aload_n hS dX8_count_139 rfl ?_
      refine J_getI hS dX8_count_140 flX8_356 ob162 rfl ?_
      show J S 0 0 (g2) 143 [some (.ref 162), some (.int (nI 6)), some (.int x2), none] [.int _]
      rw [z2.2 45 (by decide)]
      refine J_iret hS hZ hr dX8_count_143 (by omega) (by omega) ?_
      exact q6 rfl g2 z2 t2
    · subst e
      refine J_tableIn (off := 136) (tgt := 144) hS dX8_count_8 (by decide) (by decide) rfl (by decide) ?_
      refine J_aload_n hS dX8_count_144 rfl ?_
      refine J_getI hS dX8_count_145 flX8_77 ob162 rfl ?_
      show J S 0 0 (g2) 148 [some (.ref 162), some (.int (nI 7)), some (.int x2), none] [.int _]
      rw [z2.2 46 (by decide)]
      refine J_iconst (v := (-1)) hS dX8_count_148 (by decide) ?_
      refine J_icmp_ne (tgt := 156) hS dX8_count_149 (by decide) (fun c1 => ?_) (fun c1 => ?_)
      · obtain ⟨f3, ef⟩ := hf c1
        refine J_aload_n hS dX8_count_156 rfl ?_
        refine J_getR (t := 211) hS dX8_count_157 flX8_83 ob162 rfl ?_
        refine J_aload_n hS dX8_count_160 rfl ?_
        refine J_getI hS dX8_count_161 flX8_77 ob162 rfl ?_
        show J S 0 0 (g2) 164 [some (.ref 162), some (.int (nI 7)), some (.int x2), none] [.int _, .ref (211)]
        rw [z2.2 46 (by decide), ef]
        refine J_ialdN hS (f) dX8_count_164 (show Ar lay NC .int 211 3 from arM 48 3 (by decide) (by decide) rfl) (by first | rfl | (simp only [n0, n1, n2, n3, n4, n5, n6, n7, n8, n9, n10, n11, n12, n13, n14, n15, n16, n17, n18, n19, n20, n24, n32, n56, n60, n64, n72, n99, n100, n128, n136, n142, n144, n200, n300, n999, n1000, n1500, n3464, nI_add, pk_mul] <;> first | rfl | (congr 1; omega))) (by omega) (by decide) ?_
        show J S 0 0 (g2) 165 [some (.ref 162), some (.int (nI 7)), some (.int x2), none] [.int _]
        rw [show g2 211 f = g 211 f by rw [eg2, u2_ne _ (by decide)]]
        refine J_iret hS hZ hr dX8_count_165 (by omega) (by omega) ?_
        exact q7' rfl c1 g2 z2 t2
      ·
        refine J_iconst (v := (-1)) hS dX8_count_152 (by decide) ?_
        refine J_goto (tgt := 165) hS dX8_count_153 (by decide) ?_
        refine J_iret hS hZ hr dX8_count_165 (by omega) (by omega) ?_
        exact q7 rfl c1 g2 z2 t2
    · subst e
      refine J_tableIn (off := 158) (tgt := 166) hS dX8_count_8 (by decide) (by decide) rfl (by decide) ?_
      refine J_aload_n hS dX8_count_166 rfl ?_
      refine J_getI hS dX8_count_167 flX8_389 ob162 rfl ?_
      show J S 0 0 (g2) 170 [some (.ref 162), some (.int (nI 8)), some (.int x2), none] [.int _]
      rw [z2.2 54 (by decide)]
      refine J_iret hS hZ hr dX8_count_170 (by omega) (by omega) ?_
      exact q8 rfl g2 z2 t2
    · subst e
      refine J_tableIn (off := 163) (tgt := 171) hS dX8_count_8 (by decide) (by decide) rfl (by decide) ?_
      refine J_aload_n hS dX8_count_171 rfl ?_
      refine J_getI hS dX8_count_172 flX8_135 ob162 rfl ?_
      show J S 0 0 (g2) 175 [some (.ref 162), some (.int (nI 9)), some (.int x2), none] [.int _]
      rw [z2.2 4 (by decide)]
      refine J_iret hS hZ hr dX8_count_175 (by omega) (by omega) ?_
      exact q9 rfl g2 z2 t2
    · subst e
      refine J_tableIn (off := 168) (tgt := 176) hS dX8_count_8 (by decide) (by decide) rfl (by decide) ?_
      refine J_aload_n hS dX8_count_176 rfl ?_
      refine J_getR (t := 164) hS dX8_count_177 flX8_13 ob162 rfl ?_
      refine J_iconst (v := 1) hS dX8_count_180 (by decide) ?_
      refine J_ialdN hS (1) dX8_count_181 (show Ar lay NC .int 164 3464 from arM 1 3464 (by decide) (by decide) rfl) (by first | rfl | (simp only [n0, n1, n2, n3, n4, n5, n6, n7, n8, n9, n10, n11, n12, n13, n14, n15, n16, n17, n18, n19, n20, n24, n32, n56, n60, n64, n72, n99, n100, n128, n136, n142, n144, n200, n300, n999, n1000, n1500, n3464, nI_add, pk_mul] <;> first | rfl | (congr 1; omega))) (by decide) (by decide) ?_
      show J S 0 0 (g2) 182 [some (.ref 162), some (.int (nI 10)), some (.int x2), none] [.int _]
      rw [i2.row _ (by decide)]
      refine J_iret hS hZ hr dX8_count_182 (by omega) (by omega) ?_
      exact q10 rfl g2 z2 t2
    · subst e
      refine J_tableIn (off := 175) (tgt := 183) hS dX8_count_8 (by decide) (by decide) rfl (by decide) ?_
      refine J_aload_n hS dX8_count_183 rfl ?_
      refine J_getR (t := 164) hS dX8_count_184 flX8_13 ob162 rfl ?_
      refine J_iconst (v := 0) hS dX8_count_187 (by decide) ?_
      refine J_ialdN hS (0) dX8_count_188 (show Ar lay NC .int 164 3464 from arM 1 3464 (by decide) (by decide) rfl) (by first | rfl | (simp only [n0, n1, n2, n3, n4, n5, n6, n7, n8, n9, n10, n11, n12, n13, n14, n15, n16, n17, n18, n19, n20, n24, n32, n56, n60, n64, n72, n99, n100, n128, n136, n142, n144, n200, n300, n999, n1000, n1500, n3464, nI_add, pk_mul] <;> first | rfl | (congr 1; omega))) (by decide) (by decide) ?_
      show J S 0 0 (g2) 189 [some (.ref 162), some (.int (nI 11)), some (.int x2), none] [.int _]
      rw [i2.row _ (by decide)]
      refine J_iret hS hZ hr dX8_count_189 (by omega) (by omega) ?_
      exact q11 rfl g2 z2 t2
  ·
    refine J_tableOut (tgt := 190) hS dX8_count_8 (by have z := ou_tab hbj (by decide); omega) (by decide) ?_
    refine J_iconst (v := (-1)) hS dX8_count_190 (by decide) ?_
    refine J_iret hS hZ hr dX8_count_191 (by omega) (by omega) ?_
    exact q' hbj g2 z2 t2
set_option maxRecDepth 10000 in
theorem m_back {m : Nat} {nn : Wr} {c o k : Int32} (hI : RI g w n) (hm : m ≤ 1500) (em : g 162 37 = nI m) (hN : NtM g nn m) (x : ou n c → ∀ g', FrZ g g' → g' 162 0 = 1 → Q (some (.int 0)) g') (x2 : ¬ ou n c → ou 6 o → ∀ g', FrZ g g' → g' 162 0 = 2 → Q (some (.int 0)) g') (q : ¬ ou n c → ¬ ou 6 o → ∀ g', FrZ g g' → g' 162 0 = 0 → Q (some (.int (bkA (lnP nn c o) k 0 m))) g') : Ct l E lay NC 2 0 0 yX8_back [.ref 162, .int c, .int o, .int k] g Q X := by
  have hn := hI.hn
  refine Ct_in k_yX8_back (by decide) rfl (Nat.le_of_ble_eq_true rfl) rfl ?_
  intro S hS hZ hr ht hR
  show J S 0 0 (g) 0 [some (.ref 162), some (.int c), some (.int o), some (.int k), none, none] []
  refine J_aload_n hS dX8_back_0 rfl ?_
  refine J_iconst (v := 0) hS dX8_back_1 (by decide) ?_
  refine J_putI hS dX8_back_2 fpX8_1 ob162 rfl (fun g2 eg2 => ?_)
  have z2 : FrZ g g2 := by rw [eg2]; exact FrZ_thr
  have t2 : g2 162 0 = 0 := by rw [eg2, u2_self]
  have i2 := hI.fr z2
  have m2 : g2 162 37 = nI m := by rw [z2.2 37 (by decide)]; exact em
  have N2 := hN.z z2
  rcases in_or (y := c) (b := n) (by first | decide | omega) with ⟨c1, hc1, ec1⟩ | hbc1
  ·
    subst ec1
    have nk := nou hc1 (show n < 2 ^ 31 by omega)
    refine J_aload_n hS dX8_back_5 rfl ?_
    refine J_iload_n hS dX8_back_6 rfl ?_
    refine J_callV1 (X' := fun _ _ => False) hS dX8_back_7 mvX8_125 ob162 rfl (by first | decide | omega) (by decide) (Nat.le_of_ble_eq_true rfl) ⟨Nat.le_trans (by decide) hR.1, Nat.le_trans (by decide) hR.2⟩ (fun _ _ q => q.elim) (m_childY i2 t2 hc1 ?_)
    refine J_if_eq (tgt := 25) hS dX8_back_10 (by decide) (fun d1 => ?_) (fun d1 => ?_)
    · exact absurd d1 (by decide)
    ·
      rcases in_or (y := o) (b := 6) (by first | decide | omega) with ⟨o1, ho1, eo1⟩ | hbo1
      ·
        subst eo1
        refine J_aload_n hS dX8_back_13 rfl ?_
        refine J_iload_n hS dX8_back_14 rfl ?_
        refine J_callS1 (X' := fun _ _ => False) hS dX8_back_15 msX8_132 rfl (by first | decide | omega) (by decide) (Nat.le_of_ble_eq_true rfl) ⟨Nat.le_trans (by decide) hR.1, Nat.le_trans (by decide) hR.2⟩ (fun _ _ q => q.elim) (m_ordY ho1 ?_)
        refine J_iconst (v := 2) hS dX8_back_18 (by decide) ?_
        refine J_callV2 (X' := fun _ _ => False) hS dX8_back_19 mvX8_110 ob162 rfl (by first | decide | omega) (by decide) (Nat.le_of_ble_eq_true rfl) ⟨Nat.le_trans (by decide) hR.1, Nat.le_trans (by decide) hR.2⟩ (fun _ _ q => q.elim) (m_mayY t2 (by decide) ?_)
        refine J_if_ne (tgt := 27) hS dX8_back_22 (by decide) (fun d2 => ?_) (fun d2 => ?_)
        · have qq := q nk (nou ho1 (by decide)) g2 z2 t2
          obtain ⟨P, hP⟩ : ∃ P : Nat → Bool, P = lnP nn (nI c1) (nI o1) := ⟨_, rfl⟩
          rw [← hP] at qq
          refine J_iconst (v := 0) hS dX8_back_27 (by decide) ?_
          refine J_istore (lt := fun f1 => [some (.ref 162), some (.int (nI c1)), some (.int (nI o1)), some (.int k), some (.int f1), none]) hS dX8_back_28 (Nat.le_of_ble_eq_true rfl) (fun _ => rfl) (fun f1 ef1 => ?_)
          refine J_iconst (v := 0) hS dX8_back_30 (by decide) ?_
          refine J_istore (lt := fun t1 => [some (.ref 162), some (.int (nI c1)), some (.int (nI o1)), some (.int k), some (.int f1), some (.int t1)]) hS dX8_back_31 (Nat.le_of_ble_eq_true rfl) (fun _ => rfl) (fun t1 et1 => ?_)
          suffices H : ∀ (r j : Nat) (f t : Int32), j + r = m → t = nI j → f = nI (here P j).length → bkA P k 0 m = bkA P k j r → J S 0 0 g2 33 [some (.ref 162), some (.int (nI c1)), some (.int (nI o1)), some (.int k), some (.int f), some (.int t)] [] by
            exact H m 0 f1 t1 (by omega) et1 ef1 rfl
          intro r
          induction r with
          | zero =>
            intro j f t hj he hf hb
            have e : j = m := by omega
            subst he
            refine J_iload hS dX8_back_33 rfl ?_
            refine J_aload_n hS dX8_back_35 rfl ?_
            refine J_getI hS dX8_back_36 flX8_329 ob162 rfl ?_
            show J S 0 0 (g2) 39 [some (.ref 162), some (.int (nI c1)), some (.int (nI o1)), some (.int k), some (.int f), some (.int (nI j))] [.int _, .int (nI j)]
            rw [m2]
            refine J_icmp_ge (tgt := 96) hS dX8_back_39 (by decide) (fun cc1 => ?_) (fun cc1 => ?_)
            ·
              refine J_iload_n hS dX8_back_96 rfl ?_
              refine J_iconst (v := (-1)) hS dX8_back_97 (by decide) ?_
              rw [hb] at qq
              refine J_icmp_ne (tgt := 106) hS dX8_back_98 (by decide) (fun cc2 => ?_) (fun cc2 => ?_)
              ·
                refine J_iconst (v := (-1)) hS dX8_back_106 (by decide) ?_
                refine J_iret hS hZ hr dX8_back_107 (by omega) (by omega) ?_
                rw [show bkA P k j 0 = if k = -1 then nI (here P j).length else -1 from rfl, if_neg cc2] at qq; exact qq
              ·
                refine J_iload hS dX8_back_101 rfl ?_
                refine J_goto (tgt := 107) hS dX8_back_103 (by decide) ?_
                refine J_iret hS hZ hr dX8_back_107 (by omega) (by omega) ?_
                rw [show bkA P k j 0 = if k = -1 then nI (here P j).length else -1 from rfl, if_pos cc2] at qq; rw [hf]; exact qq
            · exact absurd (nI_le (show m ≤ j by omega) (by omega)) cc1
          | succ r ih =>
            intro j f t hj he hf hb
            subst he
            have hs := here_succ P j
            have hu : bkA P k j (r + 1) = if P j = true ∧ k = nI (here P j).length then nI j else bkA P k (j + 1) r := rfl
            have no : ¬ (nn (j * 19 + 2) = nI c1 ∧ nn (j * 19 + 16) = nI o1) → J S 0 0 g2 90 [some (.ref 162), some (.int (nI c1)), some (.int (nI o1)), some (.int k), some (.int f), some (.int (nI j))] [] := by
              intro z
              have hno : P j = false := by rw [hP]; exact decide_eq_false z
              refine J_iinc (lt := fun t3 => [some (.ref 162), some (.int (nI c1)), some (.int (nI o1)), some (.int k), some (.int f), some (.int t3)]) (v := 1) hS dX8_back_90 rfl (by decide) (fun _ => rfl) (fun t3 et3 => ?_)
              refine J_goto (tgt := 33) hS dX8_back_93 (by decide) ?_
              exact ih (j + 1) f t3 (by omega) (by rw [et3]; exact nI_1 j) (by rw [hf, hs]; simp [hno]) (by rw [hb, bkA_no hno])
            refine J_iload hS dX8_back_33 rfl ?_
            refine J_aload_n hS dX8_back_35 rfl ?_
            refine J_getI hS dX8_back_36 flX8_329 ob162 rfl ?_
            show J S 0 0 (g2) 39 [some (.ref 162), some (.int (nI c1)), some (.int (nI o1)), some (.int k), some (.int f), some (.int (nI j))] [.int _, .int (nI j)]
            rw [m2]
            refine J_icmp_ge (tgt := 96) hS dX8_back_39 (by decide) (fun cc1 => ?_) (fun cc1 => ?_)
            · exact absurd cc1 (nI_ge (show j < m by omega) (by omega))
            ·
              refine J_aload_n hS dX8_back_42 rfl ?_
              refine J_getR (t := 201) hS dX8_back_43 flX8_65 ob162 rfl ?_
              refine J_bipush (v := 20) hS dX8_back_46 (by decide) ?_
              refine J_iload hS dX8_back_48 rfl ?_
              refine J_imul hS dX8_back_50 ?_
              refine J_iconst (v := 2) hS dX8_back_51 (by decide) ?_
              refine J_iadd hS dX8_back_52 ?_
              refine J_ialdN hS (20 * j + 2) dX8_back_53 (show Ar lay NC .int 201 30000 from arM 38 30000 (by decide) (by decide) rfl) (by rw [n20, pk_mul, n2, nI_add]) (by omega) (by decide) ?_
              refine J_iload_n hS dX8_back_54 rfl ?_
              show J S 0 0 (g2) 55 [some (.ref 162), some (.int (nI c1)), some (.int (nI o1)), some (.int k), some (.int f), some (.int (nI j))] [.int (nI c1), .int _]
              rw [N2 j 2 (by omega) (by decide)]
              refine J_icmp_ne (tgt := 90) hS dX8_back_55 (by decide) (fun cc2 => ?_) (fun cc2 => ?_)
              · exact no (fun z => cc2 z.1)
              ·
                refine J_aload_n hS dX8_back_58 rfl ?_
                refine J_getR (t := 201) hS dX8_back_59 flX8_65 ob162 rfl ?_
                refine J_bipush (v := 20) hS dX8_back_62 (by decide) ?_
                refine J_iload hS dX8_back_64 rfl ?_
                refine J_imul hS dX8_back_66 ?_
                refine J_bipush (v := 16) hS dX8_back_67 (by decide) ?_
                refine J_iadd hS dX8_back_69 ?_
                refine J_ialdN hS (20 * j + 16) dX8_back_70 (show Ar lay NC .int 201 30000 from arM 38 30000 (by decide) (by decide) rfl) (by rw [n20, pk_mul, n16, nI_add]) (by omega) (by decide) ?_
                refine J_iload_n hS dX8_back_71 rfl ?_
                show J S 0 0 (g2) 72 [some (.ref 162), some (.int (nI c1)), some (.int (nI o1)), some (.int k), some (.int f), some (.int (nI j))] [.int (nI o1), .int _]
                rw [N2 j 16 (by omega) (by decide)]
                refine J_icmp_eq (tgt := 78) hS dX8_back_72 (by decide) (fun cc3 => ?_) (fun cc3 => ?_)
                · have hyes : P j = true := by rw [hP]; exact decide_eq_true ⟨cc2, cc3⟩
                  refine J_iload hS dX8_back_78 rfl ?_
                  refine J_iload_n hS dX8_back_80 rfl ?_
                  refine J_icmp_ne (tgt := 87) hS dX8_back_81 (by decide) (fun cc4 => ?_) (fun cc4 => ?_)
                  ·
                    refine J_iinc (lt := fun f3 => [some (.ref 162), some (.int (nI c1)), some (.int (nI o1)), some (.int k), some (.int f3), some (.int (nI j))]) (v := 1) hS dX8_back_87 rfl (by decide) (fun _ => rfl) (fun f3 ef3 => ?_)
                    refine J_iinc (lt := fun t3 => [some (.ref 162), some (.int (nI c1)), some (.int (nI o1)), some (.int k), some (.int f3), some (.int t3)]) (v := 1) hS dX8_back_90 rfl (by decide) (fun _ => rfl) (fun t3 et3 => ?_)
                    refine J_goto (tgt := 33) hS dX8_back_93 (by decide) ?_
                    exact ih (j + 1) f3 t3 (by omega) (by rw [et3]; exact nI_1 j) (by rw [ef3, hf, hs, nI_1]; simp [hyes]) (by rw [hb, hu, if_neg (fun z => cc4 (by rw [hf]; exact z.2.symm))])
                  ·
                    refine J_iload hS dX8_back_84 rfl ?_
                    refine J_iret hS hZ hr dX8_back_86 (by omega) (by omega) ?_
                    rw [hb, hu, if_pos ⟨hyes, by rw [← hf]; exact cc4.symm⟩] at qq; exact qq
                ·
                  refine J_goto (tgt := 90) hS dX8_back_75 (by decide) ?_
                  exact no (fun z => cc3 z.2)
        · exact absurd d2 (by decide)
      ·
        refine J_aload_n hS dX8_back_13 rfl ?_
        refine J_iload_n hS dX8_back_14 rfl ?_
        refine J_callS1 (X' := fun _ _ => False) hS dX8_back_15 msX8_132 rfl (by first | decide | omega) (by decide) (Nat.le_of_ble_eq_true rfl) ⟨Nat.le_trans (by decide) hR.1, Nat.le_trans (by decide) hR.2⟩ (fun _ _ q => q.elim) (m_ordN hbo1 ?_)
        refine J_iconst (v := 2) hS dX8_back_18 (by decide) ?_
        refine J_callV2 (X' := fun _ _ => False) hS dX8_back_19 mvX8_110 ob162 rfl (by first | decide | omega) (by decide) (Nat.le_of_ble_eq_true rfl) ⟨Nat.le_trans (by decide) hR.1, Nat.le_trans (by decide) hR.2⟩ (fun _ _ q => q.elim) (m_mayN t2 (by decide) ?_)
        refine J_if_ne (tgt := 27) hS dX8_back_22 (by decide) (fun d2 => ?_) (fun d2 => ?_)
        · exact absurd rfl d2
        ·
          refine J_iconst (v := 0) hS dX8_back_25 (by decide) ?_
          refine J_iret hS hZ hr dX8_back_26 (by omega) (by omega) ?_
          exact x2 nk hbo1 _ (z2.trans FrZ_thr) (u2_self ..)
  ·
    refine J_aload_n hS dX8_back_5 rfl ?_
    refine J_iload_n hS dX8_back_6 rfl ?_
    refine J_callV1 (X' := fun _ _ => False) hS dX8_back_7 mvX8_125 ob162 rfl (by first | decide | omega) (by decide) (Nat.le_of_ble_eq_true rfl) ⟨Nat.le_trans (by decide) hR.1, Nat.le_trans (by decide) hR.2⟩ (fun _ _ q => q.elim) (m_childN i2 t2 hbc1 ?_)
    refine J_if_eq (tgt := 25) hS dX8_back_10 (by decide) (fun d1 => ?_) (fun d1 => ?_)
    ·
      refine J_iconst (v := 0) hS dX8_back_25 (by decide) ?_
      refine J_iret hS hZ hr dX8_back_26 (by omega) (by omega) ?_
      exact x hbc1 _ (z2.trans FrZ_thr) (u2_self ..)
    · exact absurd rfl d1
theorem m_kindY {v : Int32} (h : ¬ (v < -1 ∨ 3 < v)) (q : Q (some (.int 1)) g) : Ct l E lay NC 1 0 0 yX8_isKind [.int v] g Q X := m_isKind (fun x _ z => by rw [z.mpr h]; exact q)
theorem m_kindN {v : Int32} (h : v < -1 ∨ 3 < v) (q : Q (some (.int 0)) g) : Ct l E lay NC 1 0 0 yX8_isKind [.int v] g Q X := m_isKind (fun x h0 z => by rw [h0.resolve_right (fun y => z.mp y h)]; exact q)
set_option maxRecDepth 10000 in
theorem m_share {m : Nat} {nn : Wr} {yr a b rt : Int32} (hm : m ≤ 1500) (em : g 162 37 = nI m) (hN : NtM g nn m) (x : ((a < -1 ∨ 3 < a) ∨ (b < -1 ∨ 3 < b)) → ∀ g', FrZ g g' → g' 162 0 = 1 → Q (some (.int 0)) g') (q : ¬ (a < -1 ∨ 3 < a) → ¬ (b < -1 ∨ 3 < b) → ∀ g', FrZ g g' → g' 162 0 = 0 → Q (some (.int (nI (here (shP nn yr a b rt) m).length))) g') : Ct l E lay NC 2 0 0 yX8_share [.ref 162, .int yr, .int a, .int b, .int rt] g Q X := by
  refine Ct_in k_yX8_share (by decide) rfl (Nat.le_of_ble_eq_true rfl) rfl ?_
  intro S hS hZ hr ht hR
  show J S 0 0 (g) 0 [some (.ref 162), some (.int yr), some (.int a), some (.int b), some (.int rt), none, none, none, none] []
  refine J_aload_n hS dX8_share_0 rfl ?_
  refine J_iconst (v := 0) hS dX8_share_1 (by decide) ?_
  refine J_putI hS dX8_share_2 fpX8_1 ob162 rfl (fun g2 eg2 => ?_)
  have z2 : FrZ g g2 := by rw [eg2]; exact FrZ_thr
  have t2 : g2 162 0 = 0 := by rw [eg2, u2_self]
  have m2 : g2 162 37 = nI m := by rw [z2.2 37 (by decide)]; exact em
  have N2 := hN.z z2
  have bad : ((a < -1 ∨ 3 < a) ∨ (b < -1 ∨ 3 < b)) → J S 0 0 g2 24 [some (.ref 162), some (.int yr), some (.int a), some (.int b), some (.int rt), none, none, none, none] [.ref 162] := by
    intro b1
    refine J_iconst (v := 0) hS dX8_share_24 (by decide) ?_
    refine J_iconst (v := 1) hS dX8_share_25 (by decide) ?_
    refine J_callV2 (X' := fun _ _ => False) hS dX8_share_26 mvX8_110 ob162 rfl (by first | decide | omega) (by decide) (Nat.le_of_ble_eq_true rfl) ⟨Nat.le_trans (by decide) hR.1, Nat.le_trans (by decide) hR.2⟩ (fun _ _ q => q.elim) (m_mayN t2 (by decide) ?_)
    refine J_if_ne (tgt := 34) hS dX8_share_29 (by decide) (fun c2 => ?_) (fun c2 => ?_)
    · exact absurd rfl c2
    ·
      refine J_iconst (v := 0) hS dX8_share_32 (by decide) ?_
      refine J_iret hS hZ hr dX8_share_33 (by omega) (by omega) ?_
      exact x b1 _ (z2.trans FrZ_thr) (u2_self ..)
  by_cases ha : a < -1 ∨ 3 < a
  ·
    refine J_aload_n hS dX8_share_5 rfl ?_
    refine J_iload_n hS dX8_share_6 rfl ?_
    refine J_callS1 (X' := fun _ _ => False) hS dX8_share_7 msX8_350 rfl (by first | decide | omega) (by decide) (Nat.le_of_ble_eq_true rfl) ⟨Nat.le_trans (by decide) hR.1, Nat.le_trans (by decide) hR.2⟩ (fun _ _ q => q.elim) (m_kindN ha ?_)
    refine J_if_eq (tgt := 24) hS dX8_share_10 (by decide) (fun c1 => ?_) (fun c1 => ?_)
    · exact bad (Or.inl ha)
    · exact absurd rfl c1
  ·
    refine J_aload_n hS dX8_share_5 rfl ?_
    refine J_iload_n hS dX8_share_6 rfl ?_
    refine J_callS1 (X' := fun _ _ => False) hS dX8_share_7 msX8_350 rfl (by first | decide | omega) (by decide) (Nat.le_of_ble_eq_true rfl) ⟨Nat.le_trans (by decide) hR.1, Nat.le_trans (by decide) hR.2⟩ (fun _ _ q => q.elim) (m_kindY ha ?_)
    refine J_if_eq (tgt := 24) hS dX8_share_10 (by decide) (fun c1 => ?_) (fun c1 => ?_)
    · exact absurd c1 (by decide)
    · by_cases hb : b < -1 ∨ 3 < b
      ·
        refine J_iload_n hS dX8_share_13 rfl ?_
        refine J_callS1 (X' := fun _ _ => False) hS dX8_share_14 msX8_350 rfl (by first | decide | omega) (by decide) (Nat.le_of_ble_eq_true rfl) ⟨Nat.le_trans (by decide) hR.1, Nat.le_trans (by decide) hR.2⟩ (fun _ _ q => q.elim) (m_kindN hb ?_)
        refine J_if_eq (tgt := 24) hS dX8_share_17 (by decide) (fun c2 => ?_) (fun c2 => ?_)
        · exact bad (Or.inr hb)
        · exact absurd rfl c2
      ·
        refine J_iload_n hS dX8_share_13 rfl ?_
        refine J_callS1 (X' := fun _ _ => False) hS dX8_share_14 msX8_350 rfl (by first | decide | omega) (by decide) (Nat.le_of_ble_eq_true rfl) ⟨Nat.le_trans (by decide) hR.1, Nat.le_trans (by decide) hR.2⟩ (fun _ _ q => q.elim) (m_kindY hb ?_)
        refine J_if_eq (tgt := 24) hS dX8_share_17 (by decide) (fun c2 => ?_) (fun c2 => ?_)
        · exact absurd c2 (by decide)
        ·
          refine J_iconst (v := 1) hS dX8_share_20 (by decide) ?_
          refine J_goto (tgt := 25) hS dX8_share_21 (by decide) ?_
          refine J_iconst (v := 1) hS dX8_share_25 (by decide) ?_
          refine J_callV2 (X' := fun _ _ => False) hS dX8_share_26 mvX8_110 ob162 rfl (by first | decide | omega) (by decide) (Nat.le_of_ble_eq_true rfl) ⟨Nat.le_trans (by decide) hR.1, Nat.le_trans (by decide) hR.2⟩ (fun _ _ q => q.elim) (m_mayY t2 (by decide) ?_)
          refine J_if_ne (tgt := 34) hS dX8_share_29 (by decide) (fun c3 => ?_) (fun c3 => ?_)
          · have qq := q ha hb g2 z2 t2
            obtain ⟨P, hP⟩ : ∃ P : Nat → Bool, P = shP nn yr a b rt := ⟨_, rfl⟩
            rw [← hP] at qq
            refine J_iconst (v := 0) hS dX8_share_34 (by decide) ?_
            refine J_istore (lt := fun f1 => [some (.ref 162), some (.int yr), some (.int a), some (.int b), some (.int rt), some (.int f1), none, none, none]) hS dX8_share_35 (Nat.le_of_ble_eq_true rfl) (fun _ => rfl) (fun f1 ef1 => ?_)
            refine J_iconst (v := 0) hS dX8_share_37 (by decide) ?_
            refine J_istore (lt := fun t1 => [some (.ref 162), some (.int yr), some (.int a), some (.int b), some (.int rt), some (.int f1), some (.int t1), none, none]) hS dX8_share_38 (Nat.le_of_ble_eq_true rfl) (fun _ => rfl) (fun t1 et1 => ?_)
            suffices H : ∀ (r k : Nat) (f t : Int32) (v7 v8 : Option Value), k + r = m → t = nI k → f = nI (here P k).length → J S 0 0 g2 40 [some (.ref 162), some (.int yr), some (.int a), some (.int b), some (.int rt), some (.int f), some (.int t), v7, v8] [] by
              exact H m 0 f1 t1 none none (by omega) et1 ef1
            intro r
            induction r with
            | zero =>
              intro k f t v7 v8 hk he hf
              have e : k = m := by omega
              subst he
              refine J_weak (ls' := [some (.ref 162), some (.int yr), some (.int a), some (.int b), some (.int rt), some (.int f), some (.int (nI k)), none, none]) ⟨Or.inr rfl, Or.inr rfl, Or.inr rfl, Or.inr rfl, Or.inr rfl, Or.inr rfl, Or.inr rfl, Or.inl rfl, Or.inl rfl, trivial⟩ ?_
              refine J_iload hS dX8_share_40 rfl ?_
              refine J_aload_n hS dX8_share_42 rfl ?_
              refine J_getI hS dX8_share_43 flX8_329 ob162 rfl ?_
              show J S 0 0 (g2) 46 [some (.ref 162), some (.int yr), some (.int a), some (.int b), some (.int rt), some (.int f), some (.int (nI k)), none, none] [.int _, .int (nI k)]
              rw [m2]
              refine J_icmp_ge (tgt := 152) hS dX8_share_46 (by decide) (fun d1 => ?_) (fun d1 => ?_)
              ·
                refine J_iload hS dX8_share_152 rfl ?_
                refine J_iret hS hZ hr dX8_share_154 (by omega) (by omega) ?_
                rw [hf, e]; exact qq
              · exact absurd (nI_le (show m ≤ k by omega) (by omega)) d1
            | succ r ih =>
              intro k f t v7 v8 hk he hf
              subst he
              have hs := here_succ P k
              have hk5 : k < 1500 := by omega
              refine J_weak (ls' := [some (.ref 162), some (.int yr), some (.int a), some (.int b), some (.int rt), some (.int f), some (.int (nI k)), none, none]) ⟨Or.inr rfl, Or.inr rfl, Or.inr rfl, Or.inr rfl, Or.inr rfl, Or.inr rfl, Or.inr rfl, Or.inl rfl, Or.inl rfl, trivial⟩ ?_
              have nof : ¬ (nn (k * 19) = yr ∧ (a = -1 ∨ nn (k * 19 + 17) = a) ∧ (b = -1 ∨ nn (k * 19 + 18) = b) ∧ (rt = 0 ∨ nn (k * 19 + 14) = 1)) → P k = false := fun z => by rw [hP]; exact decide_eq_false z
              have yest : (nn (k * 19) = yr ∧ (a = -1 ∨ nn (k * 19 + 17) = a) ∧ (b = -1 ∨ nn (k * 19 + 18) = b) ∧ (rt = 0 ∨ nn (k * 19 + 14) = 1)) → P k = true := fun z => by rw [hP]; exact decide_eq_true z
              have last : ∀ (x : Int32) (v8 : Option Value), (x = 0 ∨ x = 1) → (x = 1 ↔ P k = true) → J S 0 0 g2 143 [some (.ref 162), some (.int yr), some (.int a), some (.int b), some (.int rt), some (.int f), some (.int (nI k)), some (.int (nI (20 * k))), v8] [.int x, .int f] := by
                intro x v8 hx1 hx2
                refine J_weak (ls' := [some (.ref 162), some (.int yr), some (.int a), some (.int b), some (.int rt), some (.int f), some (.int (nI k)), none, none]) ⟨Or.inr rfl, Or.inr rfl, Or.inr rfl, Or.inr rfl, Or.inr rfl, Or.inr rfl, Or.inr rfl, Or.inl rfl, Or.inl rfl, trivial⟩ ?_
                refine J_iadd hS dX8_share_143 ?_
                refine J_istore (lt := fun f3 => [some (.ref 162), some (.int yr), some (.int a), some (.int b), some (.int rt), some (.int f3), some (.int (nI k)), none, none]) hS dX8_share_144 (Nat.le_of_ble_eq_true rfl) (fun _ => rfl) (fun f3 ef3 => ?_)
                refine J_iinc (lt := fun t3 => [some (.ref 162), some (.int yr), some (.int a), some (.int b), some (.int rt), some (.int f3), some (.int t3), none, none]) (v := 1) hS dX8_share_146 rfl (by decide) (fun _ => rfl) (fun t3 et3 => ?_)
                refine J_goto (tgt := 40) hS dX8_share_149 (by decide) ?_
                refine ih (k + 1) f3 t3 _ _ (by omega) (by rw [et3]; exact nI_1 k) ?_
                rw [ef3, hf, hs]
                by_cases e : P k = true
                · rw [hx2.mpr e, if_pos e, List.length_append]; exact nI_1 _
                · rw [hx1.resolve_right (fun z => e (hx2.mp z)), if_neg e, List.append_nil, show (0 : Int32) = nI 0 from rfl, nI_add]; rfl
              refine J_iload hS dX8_share_40 rfl ?_
              refine J_aload_n hS dX8_share_42 rfl ?_
              refine J_getI hS dX8_share_43 flX8_329 ob162 rfl ?_
              show J S 0 0 (g2) 46 [some (.ref 162), some (.int yr), some (.int a), some (.int b), some (.int rt), some (.int f), some (.int (nI k)), none, none] [.int _, .int (nI k)]
              rw [m2]
              refine J_icmp_ge (tgt := 152) hS dX8_share_46 (by decide) (fun d1 => ?_) (fun d1 => ?_)
              · exact absurd d1 (nI_ge (show k < m by omega) (by omega))
              ·
                refine J_bipush (v := 20) hS dX8_share_49 (by decide) ?_
                refine J_iload hS dX8_share_51 rfl ?_
                refine J_imul hS dX8_share_53 ?_
                show J S 0 0 (g2) 54 [some (.ref 162), some (.int yr), some (.int a), some (.int b), some (.int rt), some (.int f), some (.int (nI k)), none, none] [.int _]
                rw [n20, pk_mul]
                refine J_istore (lt := fun x7 => [some (.ref 162), some (.int yr), some (.int a), some (.int b), some (.int rt), some (.int f), some (.int (nI k)), some (.int x7), none]) hS dX8_share_54 (Nat.le_of_ble_eq_true rfl) (fun _ => rfl) (fun x7 ex7 => ?_)
                rw [show x7 = nI (20 * k) from ex7]
                have isN : ¬ (nn (k * 19) = yr ∧ (a = -1 ∨ nn (k * 19 + 17) = a) ∧ (b = -1 ∨ nn (k * 19 + 18) = b)) → J S 0 0 g2 109 [some (.ref 162), some (.int yr), some (.int a), some (.int b), some (.int rt), some (.int f), some (.int (nI k)), some (.int (nI (20 * k))), none] [] := by
                  intro z
                  refine J_iconst (v := 0) hS dX8_share_109 (by decide) ?_
                  refine J_istore (lt := fun x8 => [some (.ref 162), some (.int yr), some (.int a), some (.int b), some (.int rt), some (.int f), some (.int (nI k)), some (.int (nI (20 * k))), some (.int x8)]) hS dX8_share_110 (Nat.le_of_ble_eq_true rfl) (fun _ => rfl) (fun x8 ex8 => ?_)
                  refine J_iload hS dX8_share_112 rfl ?_
                  refine J_iload hS dX8_share_114 rfl ?_
                  refine J_if_eq (tgt := 142) hS dX8_share_116 (by decide) (fun d2 => ?_) (fun d2 => ?_)
                  ·
                    refine J_iconst (v := 0) hS dX8_share_142 (by decide) ?_
                    exact last 0 _ (Or.inl rfl) (by rw [nof (fun y => z ⟨y.1, y.2.1, y.2.2.1⟩)]; decide)
                  · exact absurd ex8 d2
                have isY : (nn (k * 19) = yr ∧ (a = -1 ∨ nn (k * 19 + 17) = a) ∧ (b = -1 ∨ nn (k * 19 + 18) = b)) → J S 0 0 g2 105 [some (.ref 162), some (.int yr), some (.int a), some (.int b), some (.int rt), some (.int f), some (.int (nI k)), some (.int (nI (20 * k))), none] [] := by
                  intro z
                  refine J_iconst (v := 1) hS dX8_share_105 (by decide) ?_
                  refine J_goto (tgt := 110) hS dX8_share_106 (by decide) ?_
                  refine J_istore (lt := fun x8 => [some (.ref 162), some (.int yr), some (.int a), some (.int b), some (.int rt), some (.int f), some (.int (nI k)), some (.int (nI (20 * k))), some (.int x8)]) hS dX8_share_110 (Nat.le_of_ble_eq_true rfl) (fun _ => rfl) (fun x8 ex8 => ?_)
                  refine J_iload hS dX8_share_112 rfl ?_
                  refine J_iload hS dX8_share_114 rfl ?_
                  refine J_if_eq (tgt := 142) hS dX8_share_116 (by decide) (fun d2 => ?_) (fun d2 => ?_)
                  · rw [show x8 = 1 from ex8] at d2; exact absurd d2 (by decide)
                  ·
                    refine J_iload hS dX8_share_119 rfl ?_
                    refine J_if_eq (tgt := 138) hS dX8_share_121 (by decide) (fun d3 => ?_) (fun d3 => ?_)
                    ·
                      refine J_iconst (v := 1) hS dX8_share_138 (by decide) ?_
                      refine J_goto (tgt := 143) hS dX8_share_139 (by decide) ?_
                      exact last 1 _ (Or.inr rfl) (by rw [yest ⟨z.1, z.2.1, z.2.2, Or.inl d3⟩]; decide)
                    ·
                      refine J_aload_n hS dX8_share_124 rfl ?_
                      refine J_getR (t := 201) hS dX8_share_125 flX8_65 ob162 rfl ?_
                      refine J_iload hS dX8_share_128 rfl ?_
                      refine J_bipush (v := 14) hS dX8_share_130 (by decide) ?_
                      refine J_iadd hS dX8_share_132 ?_
                      refine J_ialdN hS (20 * k + 14) dX8_share_133 (show Ar lay NC .int 201 30000 from arM 38 30000 (by decide) (by decide) rfl) (by rw [n14, nI_add]) (by omega) (by decide) ?_
                      refine J_iconst (v := 1) hS dX8_share_134 (by decide) ?_
                      show J S 0 0 (g2) 135 [some (.ref 162), some (.int yr), some (.int a), some (.int b), some (.int rt), some (.int f), some (.int (nI k)), some (.int (nI (20 * k))), some (.int x8)] [.int 1, .int _, .int f]
                      rw [N2 k 14 (by omega) (by decide)]
                      refine J_icmp_ne (tgt := 142) hS dX8_share_135 (by decide) (fun d4 => ?_) (fun d4 => ?_)
                      ·
                        refine J_iconst (v := 0) hS dX8_share_142 (by decide) ?_
                        exact last 0 _ (Or.inl rfl) (by rw [nof (fun y => y.2.2.2.elim d3 d4)]; decide)
                      ·
                        refine J_iconst (v := 1) hS dX8_share_138 (by decide) ?_
                        refine J_goto (tgt := 143) hS dX8_share_139 (by decide) ?_
                        exact last 1 _ (Or.inr rfl) (by rw [yest ⟨z.1, z.2.1, z.2.2, Or.inr d4⟩]; decide)
                refine J_aload_n hS dX8_share_56 rfl ?_
                refine J_getR (t := 201) hS dX8_share_57 flX8_65 ob162 rfl ?_
                refine J_iload hS dX8_share_60 rfl ?_
                refine J_ialdN hS (20 * k) dX8_share_62 (show Ar lay NC .int 201 30000 from arM 38 30000 (by decide) (by decide) rfl) (by first | rfl | (simp only [n0, n1, n2, n3, n4, n5, n6, n7, n8, n9, n10, n11, n12, n13, n14, n15, n16, n17, n18, n19, n20, n24, n32, n56, n60, n64, n72, n99, n100, n128, n136, n142, n144, n200, n300, n999, n1000, n1500, n3464, nI_add, pk_mul] <;> first | rfl | (congr 1; omega))) (by omega) (by decide) ?_
                refine J_iload_n hS dX8_share_63 rfl ?_
                show J S 0 0 (g2) 64 [some (.ref 162), some (.int yr), some (.int a), some (.int b), some (.int rt), some (.int f), some (.int (nI k)), some (.int (nI (20 * k))), none] [.int yr, .int _]
                rw [show g2 201 (20 * k) = nn (k * 19) from N2 k 0 (by omega) (by decide)]
                refine J_icmp_ne (tgt := 109) hS dX8_share_64 (by decide) (fun e1 => ?_) (fun e1 => ?_)
                · exact isN (fun z => e1 z.1)
                · have s2 : (a = -1 ∨ nn (k * 19 + 17) = a) → J S 0 0 g2 86 [some (.ref 162), some (.int yr), some (.int a), some (.int b), some (.int rt), some (.int f), some (.int (nI k)), some (.int (nI (20 * k))), none] [] := by
                    intro za
                    refine J_iload_n hS dX8_share_86 rfl ?_
                    refine J_iconst (v := (-1)) hS dX8_share_87 (by decide) ?_
                    refine J_icmp_eq (tgt := 105) hS dX8_share_88 (by decide) (fun e2 => ?_) (fun e2 => ?_)
                    · exact isY ⟨e1, za, Or.inl e2⟩
                    ·
                      refine J_aload_n hS dX8_share_91 rfl ?_
                      refine J_getR (t := 201) hS dX8_share_92 flX8_65 ob162 rfl ?_
                      refine J_iload hS dX8_share_95 rfl ?_
                      refine J_bipush (v := 18) hS dX8_share_97 (by decide) ?_
                      refine J_iadd hS dX8_share_99 ?_
                      refine J_ialdN hS (20 * k + 18) dX8_share_100 (show Ar lay NC .int 201 30000 from arM 38 30000 (by decide) (by decide) rfl) (by rw [n18, nI_add]) (by omega) (by decide) ?_
                      refine J_iload_n hS dX8_share_101 rfl ?_
                      show J S 0 0 (g2) 102 [some (.ref 162), some (.int yr), some (.int a), some (.int b), some (.int rt), some (.int f), some (.int (nI k)), some (.int (nI (20 * k))), none] [.int b, .int _]
                      rw [N2 k 18 (by omega) (by decide)]
                      refine J_icmp_ne (tgt := 109) hS dX8_share_102 (by decide) (fun e3 => ?_) (fun e3 => ?_)
                      · exact isN (fun z => z.2.2.elim e2 e3)
                      · exact isY ⟨e1, za, Or.inr e3⟩
                  refine J_iload_n hS dX8_share_67 rfl ?_
                  refine J_iconst (v := (-1)) hS dX8_share_68 (by decide) ?_
                  refine J_icmp_eq (tgt := 86) hS dX8_share_69 (by decide) (fun e2 => ?_) (fun e2 => ?_)
                  · exact s2 (Or.inl e2)
                  ·
                    refine J_aload_n hS dX8_share_72 rfl ?_
                    refine J_getR (t := 201) hS dX8_share_73 flX8_65 ob162 rfl ?_
                    refine J_iload hS dX8_share_76 rfl ?_
                    refine J_bipush (v := 17) hS dX8_share_78 (by decide) ?_
                    refine J_iadd hS dX8_share_80 ?_
                    refine J_ialdN hS (20 * k + 17) dX8_share_81 (show Ar lay NC .int 201 30000 from arM 38 30000 (by decide) (by decide) rfl) (by rw [n17, nI_add]) (by omega) (by decide) ?_
                    refine J_iload_n hS dX8_share_82 rfl ?_
                    show J S 0 0 (g2) 83 [some (.ref 162), some (.int yr), some (.int a), some (.int b), some (.int rt), some (.int f), some (.int (nI k)), some (.int (nI (20 * k))), none] [.int a, .int _]
                    rw [N2 k 17 (by omega) (by decide)]
                    refine J_icmp_ne (tgt := 109) hS dX8_share_83 (by decide) (fun e3 => ?_) (fun e3 => ?_)
                    · exact isN (fun z => z.2.1.elim e2 e3)
                    · exact s2 (Or.inr e3)
          · exact absurd c3 (by decide)
set_option maxRecDepth 10000 in
theorem m_right {m : Nat} {nn : Wr} {c fr to : Int32} (hI : RI g w n) (hm : m ≤ 1500) (em : g 162 37 = nI m) (hN : NtM g nn m) (x : ou n c → ∀ g', FrZ g g' → g' 162 0 = 1 → Q (some (.int 0)) g') (x2 : ¬ ou n c → ¬ fr ≤ to → ∀ g', FrZ g g' → g' 162 0 = 2 → Q (some (.int 0)) g') (q : ¬ ou n c → fr ≤ to → ∀ g', FrZ g g' → g' 162 0 = 0 → Q (some (.int (if (here (rgP nn c fr to) m).length = 0 then -1 else ssum (rgP nn c fr to) (fun t => nn (t * 19 + 14)) m))) g') : Ct l E lay NC 2 0 0 yX8_right [.ref 162, .int c, .int fr, .int to] g Q X := by
  have hn := hI.hn
  refine Ct_in k_yX8_right (by decide) rfl (Nat.le_of_ble_eq_true rfl) rfl ?_
  intro S hS hZ hr ht hR
  show J S 0 0 (g) 0 [some (.ref 162), some (.int c), some (.int fr), some (.int to), none, none, none, none] []
  refine J_aload_n hS dX8_right_0 rfl ?_
  refine J_iconst (v := 0) hS dX8_right_1 (by decide) ?_
  refine J_putI hS dX8_right_2 fpX8_1 ob162 rfl (fun g2 eg2 => ?_)
  have z2 : FrZ g g2 := by rw [eg2]; exact FrZ_thr
  have t2 : g2 162 0 = 0 := by rw [eg2, u2_self]
  have i2 := hI.fr z2
  have m2 : g2 162 37 = nI m := by rw [z2.2 37 (by decide)]; exact em
  have N2 := hN.z z2
  rcases in_or (y := c) (b := n) (by first | decide | omega) with ⟨c1, hc1, ec1⟩ | hbc1
  ·
    subst ec1
    have nk := nou hc1 (show n < 2 ^ 31 by omega)
    refine J_aload_n hS dX8_right_5 rfl ?_
    refine J_iload_n hS dX8_right_6 rfl ?_
    refine J_callV1 (X' := fun _ _ => False) hS dX8_right_7 mvX8_125 ob162 rfl (by first | decide | omega) (by decide) (Nat.le_of_ble_eq_true rfl) ⟨Nat.le_trans (by decide) hR.1, Nat.le_trans (by decide) hR.2⟩ (fun _ _ q => q.elim) (m_childY i2 t2 hc1 ?_)
    refine J_if_eq (tgt := 31) hS dX8_right_10 (by decide) (fun d1 => ?_) (fun d1 => ?_)
    · exact absurd d1 (by decide)
    ·
      refine J_aload_n hS dX8_right_13 rfl ?_
      refine J_iload_n hS dX8_right_14 rfl ?_
      refine J_iload_n hS dX8_right_15 rfl ?_
      refine J_icmp_gt (tgt := 23) hS dX8_right_16 (by decide) (fun d2 => ?_) (fun d2 => ?_)
      · have hno : ¬ fr ≤ to := fun z => absurd d2 (Int32.not_lt.mpr z)
        refine J_iconst (v := 0) hS dX8_right_23 (by decide) ?_
        refine J_iconst (v := 2) hS dX8_right_24 (by decide) ?_
        refine J_callV2 (X' := fun _ _ => False) hS dX8_right_25 mvX8_110 ob162 rfl (by first | decide | omega) (by decide) (Nat.le_of_ble_eq_true rfl) ⟨Nat.le_trans (by decide) hR.1, Nat.le_trans (by decide) hR.2⟩ (fun _ _ q => q.elim) (m_mayN t2 (by decide) ?_)
        refine J_if_ne (tgt := 33) hS dX8_right_28 (by decide) (fun d3 => ?_) (fun d3 => ?_)
        · exact absurd rfl d3
        ·
          refine J_iconst (v := 0) hS dX8_right_31 (by decide) ?_
          refine J_iret hS hZ hr dX8_right_32 (by omega) (by omega) ?_
          exact x2 nk hno _ (z2.trans FrZ_thr) (u2_self ..)
      ·
        refine J_iconst (v := 1) hS dX8_right_19 (by decide) ?_
        refine J_goto (tgt := 24) hS dX8_right_20 (by decide) ?_
        refine J_iconst (v := 2) hS dX8_right_24 (by decide) ?_
        refine J_callV2 (X' := fun _ _ => False) hS dX8_right_25 mvX8_110 ob162 rfl (by first | decide | omega) (by decide) (Nat.le_of_ble_eq_true rfl) ⟨Nat.le_trans (by decide) hR.1, Nat.le_trans (by decide) hR.2⟩ (fun _ _ q => q.elim) (m_mayY t2 (by decide) ?_)
        refine J_if_ne (tgt := 33) hS dX8_right_28 (by decide) (fun d3 => ?_) (fun d3 => ?_)
        · have qq := q nk (Int32.not_lt.mp d2) g2 z2 t2
          obtain ⟨P, hP⟩ : ∃ P : Nat → Bool, P = rgP nn (nI c1) fr to := ⟨_, rfl⟩
          obtain ⟨v, hv⟩ : ∃ v : Nat → Int32, v = fun t => nn (t * 19 + 14) := ⟨_, rfl⟩
          rw [← hP, ← hv] at qq
          refine J_iconst (v := 0) hS dX8_right_33 (by decide) ?_
          refine J_istore (lt := fun f1 => [some (.ref 162), some (.int (nI c1)), some (.int fr), some (.int to), some (.int f1), none, none, none]) hS dX8_right_34 (Nat.le_of_ble_eq_true rfl) (fun _ => rfl) (fun f1 ef1 => ?_)
          refine J_iconst (v := 0) hS dX8_right_36 (by decide) ?_
          refine J_istore (lt := fun a1 => [some (.ref 162), some (.int (nI c1)), some (.int fr), some (.int to), some (.int f1), some (.int a1), none, none]) hS dX8_right_37 (Nat.le_of_ble_eq_true rfl) (fun _ => rfl) (fun a1 ea1 => ?_)
          refine J_iconst (v := 0) hS dX8_right_39 (by decide) ?_
          refine J_istore (lt := fun t1 => [some (.ref 162), some (.int (nI c1)), some (.int fr), some (.int to), some (.int f1), some (.int a1), some (.int t1), none]) hS dX8_right_40 (Nat.le_of_ble_eq_true rfl) (fun _ => rfl) (fun t1 et1 => ?_)
          suffices H : ∀ (r k : Nat) (f an t : Int32) (v7 : Option Value), k + r = m → t = nI k → f = ssum P v k → (an = 0 ∨ an = 1) → (an = 0 ↔ (here P k).length = 0) → J S 0 0 g2 42 [some (.ref 162), some (.int (nI c1)), some (.int fr), some (.int to), some (.int f), some (.int an), some (.int t), v7] [] by
            exact H m 0 f1 a1 t1 none (by omega) et1 ef1 (Or.inl ea1) ⟨fun _ => rfl, fun _ => ea1⟩
          intro r
          induction r with
          | zero =>
            intro k f an t v7 hk he hf ha1 ha2
            have e : k = m := by omega
            subst he
            refine J_weak (ls' := [some (.ref 162), some (.int (nI c1)), some (.int fr), some (.int to), some (.int f), some (.int an), some (.int (nI k)), none]) ⟨Or.inr rfl, Or.inr rfl, Or.inr rfl, Or.inr rfl, Or.inr rfl, Or.inr rfl, Or.inr rfl, Or.inl rfl, trivial⟩ ?_
            refine J_iload hS dX8_right_42 rfl ?_
            refine J_aload_n hS dX8_right_44 rfl ?_
            refine J_getI hS dX8_right_45 flX8_329 ob162 rfl ?_
            show J S 0 0 (g2) 48 [some (.ref 162), some (.int (nI c1)), some (.int fr), some (.int to), some (.int f), some (.int an), some (.int (nI k)), none] [.int _, .int (nI k)]
            rw [m2]
            refine J_icmp_ge (tgt := 123) hS dX8_right_48 (by decide) (fun e1 => ?_) (fun e1 => ?_)
            ·
              refine J_iload hS dX8_right_123 rfl ?_
              refine J_if_eq (tgt := 133) hS dX8_right_125 (by decide) (fun e2 => ?_) (fun e2 => ?_)
              ·
                refine J_iconst (v := (-1)) hS dX8_right_133 (by decide) ?_
                refine J_iret hS hZ hr dX8_right_134 (by omega) (by omega) ?_
                rw [if_pos (by rw [← e]; exact ha2.mp e2)] at qq; exact qq
              ·
                refine J_iload hS dX8_right_128 rfl ?_
                refine J_goto (tgt := 134) hS dX8_right_130 (by decide) ?_
                refine J_iret hS hZ hr dX8_right_134 (by omega) (by omega) ?_
                rw [if_neg (by rw [← e]; exact fun z => e2 (ha2.mpr z))] at qq; rw [hf, e]; exact qq
            · exact absurd (nI_le (show m ≤ k by omega) (by omega)) e1
          | succ r ih =>
            intro k f an t v7 hk he hf ha1 ha2
            subst he
            have hs := here_succ P k
            have hss : ssum P v (k + 1) = if P k = true then ssum P v k + v k else ssum P v k := rfl
            refine J_weak (ls' := [some (.ref 162), some (.int (nI c1)), some (.int fr), some (.int to), some (.int f), some (.int an), some (.int (nI k)), none]) ⟨Or.inr rfl, Or.inr rfl, Or.inr rfl, Or.inr rfl, Or.inr rfl, Or.inr rfl, Or.inr rfl, Or.inl rfl, trivial⟩ ?_
            refine J_iload hS dX8_right_42 rfl ?_
            refine J_aload_n hS dX8_right_44 rfl ?_
            refine J_getI hS dX8_right_45 flX8_329 ob162 rfl ?_
            show J S 0 0 (g2) 48 [some (.ref 162), some (.int (nI c1)), some (.int fr), some (.int to), some (.int f), some (.int an), some (.int (nI k)), none] [.int _, .int (nI k)]
            rw [m2]
            refine J_icmp_ge (tgt := 123) hS dX8_right_48 (by decide) (fun e1 => ?_) (fun e1 => ?_)
            · exact absurd e1 (nI_ge (show k < m by omega) (by omega))
            ·
              refine J_bipush (v := 20) hS dX8_right_51 (by decide) ?_
              refine J_iload hS dX8_right_53 rfl ?_
              refine J_imul hS dX8_right_55 ?_
              show J S 0 0 (g2) 56 [some (.ref 162), some (.int (nI c1)), some (.int fr), some (.int to), some (.int f), some (.int an), some (.int (nI k)), none] [.int _]
              rw [n20, pk_mul]
              refine J_istore (lt := fun x7 => [some (.ref 162), some (.int (nI c1)), some (.int fr), some (.int to), some (.int f), some (.int an), some (.int (nI k)), some (.int x7)]) hS dX8_right_56 (Nat.le_of_ble_eq_true rfl) (fun _ => rfl) (fun x7 ex7 => ?_)
              rw [show x7 = nI (20 * k) from ex7]
              have no : ¬ (fr ≤ nI k ∧ nI k ≤ to ∧ (nn (k * 19 + 1) = nI c1 ∨ nn (k * 19 + 2) = nI c1)) → J S 0 0 g2 117 [some (.ref 162), some (.int (nI c1)), some (.int fr), some (.int to), some (.int f), some (.int an), some (.int (nI k)), some (.int (nI (20 * k)))] [] := by
                intro z
                have hno : P k = false := by rw [hP]; exact decide_eq_false z
                refine J_iinc (lt := fun t3 => [some (.ref 162), some (.int (nI c1)), some (.int fr), some (.int to), some (.int f), some (.int an), some (.int t3), some (.int (nI (20 * k)))]) (v := 1) hS dX8_right_117 rfl (by decide) (fun _ => rfl) (fun t3 et3 => ?_)
                refine J_goto (tgt := 42) hS dX8_right_120 (by decide) ?_
                refine ih (k + 1) f an t3 _ (by omega) (by rw [et3]; exact nI_1 k) (by rw [hf, hss, if_neg (by rw [hno]; decide)]) ha1 (by rw [hs, hno]; simp only [Bool.false_eq_true, if_false, List.append_nil]; exact ha2)
              have yes : (fr ≤ nI k ∧ nI k ≤ to ∧ (nn (k * 19 + 1) = nI c1 ∨ nn (k * 19 + 2) = nI c1)) → J S 0 0 g2 99 [some (.ref 162), some (.int (nI c1)), some (.int fr), some (.int to), some (.int f), some (.int an), some (.int (nI k)), some (.int (nI (20 * k)))] [] := by
                intro z
                have hyes : P k = true := by rw [hP]; exact decide_eq_true z
                refine J_iconst (v := 1) hS dX8_right_99 (by decide) ?_
                refine J_istore (lt := fun a3 => [some (.ref 162), some (.int (nI c1)), some (.int fr), some (.int to), some (.int f), some (.int a3), some (.int (nI k)), some (.int (nI (20 * k)))]) hS dX8_right_100 (Nat.le_of_ble_eq_true rfl) (fun _ => rfl) (fun a3 ea3 => ?_)
                refine J_iload hS dX8_right_102 rfl ?_
                refine J_aload_n hS dX8_right_104 rfl ?_
                refine J_getR (t := 201) hS dX8_right_105 flX8_65 ob162 rfl ?_
                refine J_iload hS dX8_right_108 rfl ?_
                refine J_bipush (v := 14) hS dX8_right_110 (by decide) ?_
                refine J_iadd hS dX8_right_112 ?_
                refine J_ialdN hS (20 * k + 14) dX8_right_113 (show Ar lay NC .int 201 30000 from arM 38 30000 (by decide) (by decide) rfl) (by rw [n14, nI_add]) (by omega) (by decide) ?_
                show J S 0 0 (g2) 114 [some (.ref 162), some (.int (nI c1)), some (.int fr), some (.int to), some (.int f), some (.int a3), some (.int (nI k)), some (.int (nI (20 * k)))] [.int _, .int f]
                rw [N2 k 14 (by omega) (by decide)]
                refine J_iadd hS dX8_right_114 ?_
                refine J_istore (lt := fun f3 => [some (.ref 162), some (.int (nI c1)), some (.int fr), some (.int to), some (.int f3), some (.int a3), some (.int (nI k)), some (.int (nI (20 * k)))]) hS dX8_right_115 (Nat.le_of_ble_eq_true rfl) (fun _ => rfl) (fun f3 ef3 => ?_)
                refine J_iinc (lt := fun t3 => [some (.ref 162), some (.int (nI c1)), some (.int fr), some (.int to), some (.int f3), some (.int a3), some (.int t3), some (.int (nI (20 * k)))]) (v := 1) hS dX8_right_117 rfl (by decide) (fun _ => rfl) (fun t3 et3 => ?_)
                refine J_goto (tgt := 42) hS dX8_right_120 (by decide) ?_
                refine ih (k + 1) f3 a3 t3 _ (by omega) (by rw [et3]; exact nI_1 k) (by rw [ef3, hf, hss, if_pos hyes, hv]) (Or.inr ea3) ⟨fun y => by rw [show a3 = 1 from ea3] at y; exact absurd y (by decide), fun y => by rw [hs, hyes] at y; simp at y⟩
              refine J_iload hS dX8_right_58 rfl ?_
              refine J_iload_n hS dX8_right_60 rfl ?_
              refine J_icmp_lt (tgt := 117) hS dX8_right_61 (by decide) (fun e2 => ?_) (fun e2 => ?_)
              · exact no (fun z => absurd e2 (Int32.not_lt.mpr z.1))
              ·
                refine J_iload hS dX8_right_64 rfl ?_
                refine J_iload_n hS dX8_right_66 rfl ?_
                refine J_icmp_gt (tgt := 117) hS dX8_right_67 (by decide) (fun e3 => ?_) (fun e3 => ?_)
                · exact no (fun z => absurd e3 (Int32.not_lt.mpr z.2.1))
                ·
                  refine J_aload_n hS dX8_right_70 rfl ?_
                  refine J_getR (t := 201) hS dX8_right_71 flX8_65 ob162 rfl ?_
                  refine J_iload hS dX8_right_74 rfl ?_
                  refine J_iconst (v := 1) hS dX8_right_76 (by decide) ?_
                  refine J_iadd hS dX8_right_77 ?_
                  refine J_ialdN hS (20 * k + 1) dX8_right_78 (show Ar lay NC .int 201 30000 from arM 38 30000 (by decide) (by decide) rfl) (by first | rfl | (simp only [n0, n1, n2, n3, n4, n5, n6, n7, n8, n9, n10, n11, n12, n13, n14, n15, n16, n17, n18, n19, n20, n24, n32, n56, n60, n64, n72, n99, n100, n128, n136, n142, n144, n200, n300, n999, n1000, n1500, n3464, nI_add, pk_mul] <;> first | rfl | (congr 1; omega))) (by omega) (by decide) ?_
                  refine J_iload_n hS dX8_right_79 rfl ?_
                  show J S 0 0 (g2) 80 [some (.ref 162), some (.int (nI c1)), some (.int fr), some (.int to), some (.int f), some (.int an), some (.int (nI k)), some (.int (nI (20 * k)))] [.int (nI c1), .int _]
                  rw [N2 k 1 (by omega) (by decide)]
                  refine J_icmp_eq (tgt := 99) hS dX8_right_80 (by decide) (fun e4 => ?_) (fun e4 => ?_)
                  · exact yes ⟨Int32.not_lt.mp e2, Int32.not_lt.mp e3, Or.inl e4⟩
                  ·
                    refine J_aload_n hS dX8_right_83 rfl ?_
                    refine J_getR (t := 201) hS dX8_right_84 flX8_65 ob162 rfl ?_
                    refine J_iload hS dX8_right_87 rfl ?_
                    refine J_iconst (v := 2) hS dX8_right_89 (by decide) ?_
                    refine J_iadd hS dX8_right_90 ?_
                    refine J_ialdN hS (20 * k + 2) dX8_right_91 (show Ar lay NC .int 201 30000 from arM 38 30000 (by decide) (by decide) rfl) (by first | rfl | (simp only [n0, n1, n2, n3, n4, n5, n6, n7, n8, n9, n10, n11, n12, n13, n14, n15, n16, n17, n18, n19, n20, n24, n32, n56, n60, n64, n72, n99, n100, n128, n136, n142, n144, n200, n300, n999, n1000, n1500, n3464, nI_add, pk_mul] <;> first | rfl | (congr 1; omega))) (by omega) (by decide) ?_
                    refine J_iload_n hS dX8_right_92 rfl ?_
                    show J S 0 0 (g2) 93 [some (.ref 162), some (.int (nI c1)), some (.int fr), some (.int to), some (.int f), some (.int an), some (.int (nI k)), some (.int (nI (20 * k)))] [.int (nI c1), .int _]
                    rw [N2 k 2 (by omega) (by decide)]
                    refine J_icmp_eq (tgt := 99) hS dX8_right_93 (by decide) (fun e5 => ?_) (fun e5 => ?_)
                    · exact yes ⟨Int32.not_lt.mp e2, Int32.not_lt.mp e3, Or.inr e5⟩
                    ·
                      refine J_goto (tgt := 117) hS dX8_right_96 (by decide) ?_
                      exact no (fun z => z.2.2.elim e4 e5)
        · exact absurd d3 (by decide)
  ·
    refine J_aload_n hS dX8_right_5 rfl ?_
    refine J_iload_n hS dX8_right_6 rfl ?_
    refine J_callV1 (X' := fun _ _ => False) hS dX8_right_7 mvX8_125 ob162 rfl (by first | decide | omega) (by decide) (Nat.le_of_ble_eq_true rfl) ⟨Nat.le_trans (by decide) hR.1, Nat.le_trans (by decide) hR.2⟩ (fun _ _ q => q.elim) (m_childN i2 t2 hbc1 ?_)
    refine J_if_eq (tgt := 31) hS dX8_right_10 (by decide) (fun d1 => ?_) (fun d1 => ?_)
    ·
      refine J_iconst (v := 0) hS dX8_right_31 (by decide) ?_
      refine J_iret hS hZ hr dX8_right_32 (by omega) (by omega) ?_
      exact x hbc1 _ (z2.trans FrZ_thr) (u2_self ..)
    · exact absurd rfl d1
end RefP5


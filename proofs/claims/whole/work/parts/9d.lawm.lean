/-! THE REFERENCE: law -/
/-- what 'law' of the reference leaves alone -/
def FrWM (g g' : Mm) : Prop := (∀ z, z ≠ 162 → (z < 177 ∨ 183 < z) → g' z = g z) ∧ ∀ j, (j = 3 ∨ j = 27 ∨ j = 37 ∨ j = 45 ∨ j = 46 ∨ j = 54) → g' 162 j = g 162 j
theorem FrWM.trans {g g1 g2 : Mm} (a : FrWM g g1) (b : FrWM g1 g2) : FrWM g g2 := ⟨fun z h1 h2 => (b.1 z h1 h2).trans (a.1 z h1 h2), fun j hj => (b.2 j hj).trans (a.2 j hj)⟩
theorem FrC.wm {k : Nat} {g g' : Mm} (a : FrC k g g') : FrWM g g' := ⟨a.1, fun j hj => a.2.1 j (by omega)⟩
/-- the laws before the one that is read -/
theorem LawM.fc {g g' : Mm} {j k : Nat} {L : List Cls} (h : LawM g j L) (hj : j < k) (a : (∀ i, i ≠ k → g' 177 i = g 177 i) ∧ (∀ z, 178 ≤ z → z ≤ 181 → ∀ i, i < 12 * k → g' z i = g z i) ∧ ∀ i, i < 300 * k → g' 182 i = g 182 i ∧ g' 183 i = g 183 i) : LawM g' j L := by
  obtain ⟨h1, h2, h3⟩ := h
  refine ⟨h1, by rw [a.1 j (by omega)]; exact h2, fun i c hi => ?_⟩
  have hil := (List.getElem?_eq_some_iff.mp hi).1
  obtain ⟨y1, s0, y2, y3, y4, y5, y6, y7, y8⟩ := h3 i c hi
  exact ⟨y1, s0, y2, by rw [a.2.1 178 (by decide) (by decide) _ (by omega)]; exact y3, by rw [a.2.1 179 (by decide) (by decide) _ (by omega)]; exact y4, by rw [a.2.1 180 (by decide) (by decide) _ (by omega)]; exact y5, by rw [a.2.1 181 (by decide) (by decide) _ (by omega)]; exact y6, y7.lt (m := 300 * k) (by omega) a.2.2, y8.lt (m := 300 * k) (by omega) a.2.2⟩
section RefW
variable {l : Launch} {E : Ey} {g : Mm} {Q : Option Value → Mm → Prop} {X : String → Mm → Prop}
set_option maxRecDepth 10000 in
theorem m_law {n0 : Int32} {tb : Nat} {Ls : List (List Cls)} (hL : LawsM g Ls) (htb : tb ≤ 300) (etb : g 162 4 = nI tb) (x : (n0 < 0 ∨ nI tb < n0) → ∀ g', FrZ g g' → g' 162 0 = 1 → Q (some (.int 0)) g')
    (q6 : ∀ n, n ≤ tb → n0 = nI n → Ls.length = 6 → ∀ g', (∀ z, z ≠ 162 → g' z = g z) → (∀ j, j ≠ 0 → j ≠ 4 → j ≠ 12 → g' 162 j = g 162 j) → g' 162 0 = 0 → g' 162 4 = 0 → g' 162 12 = -1 → Q (some (.int (-1))) g')
    (qb : ∀ n e, n ≤ tb → n0 = nI n → Ls.length < 6 → lwT (g 176) n = .inl e → ∀ g', FrWM g g' → g' 162 0 = 0 → g' 162 4 = 0 → g' 162 12 = nI e.2 → LawsM g' Ls → Q (some (.int (nI e.1 - 10))) g')
    (qo : ∀ n cl, n ≤ tb → n0 = nI n → Ls.length < 6 → lwT (g 176) n = .inr cl → ∀ g', FrWM g g' → g' 162 0 = 0 → g' 162 4 = 0 → g' 162 12 = -1 → LawsM g' (Ls ++ [cl]) → Q (some (.int (nI Ls.length))) g') : Ct l E lay NC 62 0 0 yX8_law [.ref 162, .int n0] g Q X := by
  obtain ⟨l6, e11, hLs⟩ := hL
  refine Ct_in k_yX8_law (by decide) rfl (Nat.le_of_ble_eq_true rfl) rfl ?_
  intro S hS hZ hr ht hR
  show J S 0 0 (g) 0 [some (.ref 162), some (.int n0)] []
  refine J_aload_n hS dX8_law_0 rfl ?_
  refine J_iconst (v := 0) hS dX8_law_1 (by decide) ?_
  refine J_putI hS dX8_law_2 fpX8_1 ob162 rfl (fun g2 eg2 => ?_)
  have z2 : FrZ g g2 := by rw [eg2]; exact FrZ_thr
  have t2 : g2 162 0 = 0 := by rw [eg2, u2_self]
  have bad : (n0 < 0 ∨ nI tb < n0) → J S 0 0 g2 22 [some (.ref 162), some (.int n0)] [.ref 162] := by
    intro b1
    refine J_iconst (v := 0) hS dX8_law_22 (by decide) ?_
    refine J_iconst (v := 1) hS dX8_law_23 (by decide) ?_
    refine J_callV2 (X' := fun _ _ => False) hS dX8_law_24 mvX8_110 ob162 rfl (by first | decide | omega) (by decide) (Nat.le_of_ble_eq_true rfl) ⟨Nat.le_trans (by decide) hR.1, Nat.le_trans (by decide) hR.2⟩ (fun _ _ q => q.elim) (m_mayN t2 (by decide) ?_)
    refine J_if_ne (tgt := 32) hS dX8_law_27 (by decide) (fun c2 => ?_) (fun c2 => ?_)
    · exact absurd rfl c2
    ·
      refine J_iconst (v := 0) hS dX8_law_30 (by decide) ?_
      refine J_iret hS hZ hr dX8_law_31 (by omega) (by omega) ?_
      exact x b1 _ (z2.trans FrZ_thr) (u2_self ..)
  refine J_aload_n hS dX8_law_5 rfl ?_
  refine J_iload_n hS dX8_law_6 rfl ?_
  refine J_if_lt (tgt := 22) hS dX8_law_7 (by decide) (fun c1 => ?_) (fun c1 => ?_)
  · exact bad (Or.inl c1)
  ·
    refine J_iload_n hS dX8_law_10 rfl ?_
    refine J_aload_n hS dX8_law_11 rfl ?_
    refine J_getI hS dX8_law_12 flX8_135 ob162 rfl ?_
    show J S 0 0 (g2) 15 [some (.ref 162), some (.int n0)] [.int _, .int n0, .ref 162]
    rw [z2.2 4 (by decide), etb]
    refine J_icmp_gt (tgt := 22) hS dX8_law_15 (by decide) (fun c2 => ?_) (fun c2 => ?_)
    · exact bad (Or.inr c2)
    · obtain ⟨n, hn31, en⟩ := nI_ofNonneg (Int32.not_lt.mp c1)
      subst en
      have hnt : n ≤ tb := Nat.le_of_not_lt (fun z => c2 (nI_lt z hn31))
      refine J_iconst (v := 1) hS dX8_law_18 (by decide) ?_
      refine J_goto (tgt := 23) hS dX8_law_19 (by decide) ?_
      refine J_iconst (v := 1) hS dX8_law_23 (by decide) ?_
      refine J_callV2 (X' := fun _ _ => False) hS dX8_law_24 mvX8_110 ob162 rfl (by first | decide | omega) (by decide) (Nat.le_of_ble_eq_true rfl) ⟨Nat.le_trans (by decide) hR.1, Nat.le_trans (by decide) hR.2⟩ (fun _ _ q => q.elim) (m_mayY t2 (by decide) ?_)
      refine J_if_ne (tgt := 32) hS dX8_law_27 (by decide) (fun c3 => ?_) (fun c3 => ?_)
      ·
        refine J_aload_n hS dX8_law_32 rfl ?_
        refine J_iconst (v := 0) hS dX8_law_33 (by decide) ?_
        refine J_putI hS dX8_law_34 fpX8_135 ob162 rfl (fun g34 eg34 => ?_)
        refine J_aload_n hS dX8_law_37 rfl ?_
        refine J_iconst (v := (-1)) hS dX8_law_38 (by decide) ?_
        refine J_putI hS dX8_law_39 fpX8_23 ob162 rfl (fun g39 eg39 => ?_)
        have o3 : ∀ z, z ≠ 162 → g39 z = g z := fun z hz => by rw [eg39, u2_ne z hz, eg34, u2_ne z hz, eg2, u2_ne z hz]
        have j3 : ∀ j, j ≠ 0 → j ≠ 4 → j ≠ 12 → g39 162 j = g 162 j := fun j h0 h4 h12 => by rw [eg39, u2_at, if_neg h12, eg34, u2_at, if_neg h4, eg2, u2_at, if_neg h0]
        have j30 : g39 162 0 = 0 := by rw [eg39, u2_at, if_neg (by decide), eg34, u2_at, if_neg (by decide)]; exact t2
        have j34 : g39 162 4 = 0 := by rw [eg39, u2_at, if_neg (by decide), eg34, u2_self]
        have j312 : g39 162 12 = -1 := by rw [eg39, u2_self]
        refine J_aload_n hS dX8_law_42 rfl ?_
        refine J_getI hS dX8_law_43 flX8_168 ob162 rfl ?_
        refine J_bipush (v := 6) hS dX8_law_46 (by decide) ?_
        show J S 0 0 (g39) 48 [some (.ref 162), some (.int (nI n))] [.int 6, .int _]
        rw [j3 11 (by decide) (by decide) (by decide), e11]
        refine J_icmp_ne (tgt := 53) hS dX8_law_48 (by decide) (fun c4 => ?_) (fun c4 => ?_)
        · have l6' : Ls.length < 6 := Nat.lt_of_le_of_ne l6 (fun z => c4 (by rw [z]; rfl))
          obtain ⟨k, hk⟩ : ∃ k, k = Ls.length := ⟨_, rfl⟩
          obtain ⟨T, hT⟩ : ∃ T, T = g 176 := ⟨_, rfl⟩
          rw [← hT] at qb qo
          refine J_aload_n hS dX8_law_53 rfl ?_
          refine J_iload_n hS dX8_law_54 rfl ?_
          refine J_putI hS dX8_law_55 fpX8_147 ob162 rfl (fun g55 eg55 => ?_)
          refine J_aload_n hS dX8_law_58 rfl ?_
          refine J_iconst (v := 0) hS dX8_law_59 (by decide) ?_
          refine J_putI hS dX8_law_60 fpX8_144 ob162 rfl (fun g60 eg60 => ?_)
          refine J_aload_n hS dX8_law_63 rfl ?_
          refine J_iconst (v := (-1)) hS dX8_law_64 (by decide) ?_
          refine J_putI hS dX8_law_65 fpX8_138 ob162 rfl (fun g65 eg65 => ?_)
          refine J_aload_n hS dX8_law_68 rfl ?_
          refine J_iconst (v := 0) hS dX8_law_69 (by decide) ?_
          refine J_putI hS dX8_law_70 fpX8_174 ob162 rfl (fun g70 eg70 => ?_)
          refine J_aload_n hS dX8_law_73 rfl ?_
          refine J_iconst (v := 0) hS dX8_law_74 (by decide) ?_
          refine J_putI hS dX8_law_75 fpX8_171 ob162 rfl (fun g75 eg75 => ?_)
          refine J_aload_n hS dX8_law_78 rfl ?_
          refine J_getR (t := 177) hS dX8_law_79 flX8_29 ob162 rfl ?_
          refine J_aload_n hS dX8_law_82 rfl ?_
          refine J_getI hS dX8_law_83 flX8_168 ob162 rfl ?_
          refine J_iconst (v := 0) hS dX8_law_86 (by decide) ?_
          show J S 0 0 (g75) 87 [some (.ref 162), some (.int (nI n))] [.int 0, .int _, .ref (177)]
          rw [show g75 162 11 = nI k by rw [eg75, u2_at, if_neg (by decide), eg70, u2_at, if_neg (by decide), eg65, u2_at, if_neg (by decide), eg60, u2_at, if_neg (by decide), eg55, u2_at, if_neg (by decide), j3 11 (by decide) (by decide) (by decide), hk]; exact e11]
          refine J_iastN hS (k) dX8_law_87 (show Ar lay NC .int 177 6 from arM 14 6 (by decide) (by decide) rfl) (by first | rfl | (simp only [n0, n1, n2, n3, n4, n5, n6, n7, n8, n9, n10, n11, n12, n13, n14, n15, n16, n17, n18, n19, n20, n24, n32, n56, n60, n64, n72, n99, n100, n128, n136, n142, n144, n200, n300, n999, n1000, n1500, n3464, nI_add, pk_mul] <;> first | rfl | (congr 1; omega))) (by omega) (by decide) (fun g87 eg87 => ?_)
          have o4 : ∀ z, z ≠ 162 → z ≠ 177 → g87 z = g z := fun z z1 z2 => by rw [eg87, u2_ne z z2, eg75, u2_ne z z1, eg70, u2_ne z z1, eg65, u2_ne z z1, eg60, u2_ne z z1, eg55, u2_ne z z1]; exact o3 z z1
          have j4 : ∀ j, (j < 5 ∨ 10 < j) → g87 162 j = g39 162 j := fun j hj => by rw [eg87, u2_ne 162 (by decide), eg75, u2_at, if_neg (by omega), eg70, u2_at, if_neg (by omega), eg65, u2_at, if_neg (by omega), eg60, u2_at, if_neg (by omega), eg55, u2_at, if_neg (by omega)]
          have r4 : RdM T n k g87 0 6 (skp T n 0) := by
            refine ⟨⟨?_, by omega, by rw [o4 176 (by decide) (by decide), hT], by rw [j4 11 (by decide), j3 11 (by decide) (by decide) (by decide), hk]; exact e11, by omega⟩, ?_, ⟨by decide, ?_⟩, ?_, Nat.zero_le _, (skp_le (T := T)).2 (Nat.zero_le _), 0, Nat.zero_le _, ?_, rfl⟩
            · rw [eg87, u2_ne 162 (by decide), eg75, u2_at, if_neg (by decide), eg70, u2_at, if_neg (by decide), eg65, u2_at, if_neg (by decide), eg60, u2_at, if_neg (by decide), eg55, u2_self]
            · rw [eg87, u2_ne 162 (by decide), eg75, u2_at, if_neg (by decide), eg70, u2_at, if_neg (by decide), eg65, u2_self]
            · rw [eg87, u2_ne 162 (by decide), eg75, u2_at, if_neg (by decide), eg70, u2_self]; rfl
            · rw [eg87, u2_ne 162 (by decide), eg75, u2_self]; rfl
            · rw [eg87, u2_ne 162 (by decide), eg75, u2_at, if_neg (by decide), eg70, u2_at, if_neg (by decide), eg65, u2_at, if_neg (by decide), eg60, u2_self]; rfl
          have c4' : g87 177 k = nI 0 := by rw [eg87, u2_self]; rfl
          have L4 : ∀ (j : Nat) (L : List Cls), Ls[j]? = some L → LawM g87 j L := by
            intro j L hj
            have hjl := (List.getElem?_eq_some_iff.mp hj).1
            refine LawM.fc (k := k) (hLs j L hj) (by omega) ⟨fun i hi => ?_, fun z z1 z2 i _ => by rw [o4 z (by omega) (by omega)], fun i _ => ⟨by rw [o4 182 (by decide) (by decide)], by rw [o4 183 (by decide) (by decide)]⟩⟩
            · rw [eg87, u2_at, if_neg hi, eg75, u2_ne 177 (by decide), eg70, u2_ne 177 (by decide), eg65, u2_ne 177 (by decide), eg60, u2_ne 177 (by decide), eg55, u2_ne 177 (by decide)]; rw [o3 177 (by decide)]
          suffices H : ∀ (r kc c s : Nat) (cl : List Cls) (g5 : Mm), kc + r = 13 → kc ≤ 12 → cl.length = kc → FrC k g87 g5 → RdM T n k g5 c 6 s → g5 177 k = nI kc → LawMB g5 k cl c → lwT T n = lwR T n r kc cl s → J S 0 0 g5 88 [some (.ref 162), some (.int (nI n))] [] by
            exact H 13 0 0 (skp T n 0) [] g87 rfl (by decide) rfl ⟨fun _ _ _ => rfl, fun _ _ => rfl, fun _ _ => rfl, fun _ _ _ _ _ => rfl, fun _ _ => ⟨rfl, rfl⟩⟩ r4 c4' (fun j c hj => by cases hj) rfl
          have wm4 : FrWM g g87 := ⟨fun z z1 z2 => o4 z z1 (by omega), fun j hj => by rw [j4 j (by omega)]; exact j3 j (by omega) (by omega) (by omega)⟩
          have outG : ∀ (kc c s : Nat) (cl : List Cls) (g5 : Mm), cl.length = kc → kc ≤ 12 → FrC k g87 g5 → RdM T n k g5 c 6 s → g5 177 k = nI kc → LawMB g5 k cl c → lwT T n = .inr cl → J S 0 0 g5 109 [some (.ref 162), some (.int (nI n))] [] := by
            intro kc c s cl g5 a1 a2 a3 a4 a5 a6 a7
            have hcs := a4.2.2.2.2.1
            have hsn := a4.2.2.2.2.2.1
            refine J_aload_n hS dX8_law_109 rfl ?_
            refine J_aload_n hS dX8_law_110 rfl ?_
            refine J_getI hS dX8_law_111 flX8_138 ob162 rfl ?_
            refine J_putI hS dX8_law_114 fpX8_23 ob162 rfl (fun g114 eg114 => ?_)
            have o6 : ∀ z, z ≠ 162 → g114 z = g5 z := fun z hz => by rw [eg114, u2_ne z hz]
            have f7 : g114 162 7 = -1 := by rw [eg114, u2_at, if_neg (by decide)]; exact a4.2.1
            refine J_aload_n hS dX8_law_117 rfl ?_
            refine J_callV0 (X' := fun _ _ => False) hS dX8_law_118 mvX8_164 ob162 rfl (by first | decide | omega) (by decide) (Nat.le_of_ble_eq_true rfl) ⟨Nat.le_trans (by decide) hR.1, Nat.le_trans (by decide) hR.2⟩ (fun _ _ q => q.elim) (m_fineY f7 ?_)
            refine J_if_ne (tgt := 132) hS dX8_law_121 (by decide) (fun d1 => ?_) (fun d1 => ?_)
            ·
              refine J_aload_n hS dX8_law_132 rfl ?_
              refine J_dup hS dX8_law_133 rfl ?_
              refine J_getI hS dX8_law_134 flX8_168 ob162 rfl ?_
              refine J_iconst (v := 1) hS dX8_law_137 (by decide) ?_
              refine J_iadd hS dX8_law_138 ?_
              show J S 0 0 (g114) 139 [some (.ref 162), some (.int (nI n))] [.int _, .ref 162]
              rw [show g114 162 11 = nI k by rw [eg114, u2_at, if_neg (by decide)]; exact a4.1.2.2.2.1, nI_1]
              refine J_putI hS dX8_law_139 fpX8_168 ob162 rfl (fun g139 eg139 => ?_)
              refine J_aload_n hS dX8_law_142 rfl ?_
              refine J_getI hS dX8_law_143 flX8_168 ob162 rfl ?_
              refine J_iconst (v := 1) hS dX8_law_146 (by decide) ?_
              refine J_isub hS dX8_law_147 ?_
              show J S 0 0 (g139) 148 [some (.ref 162), some (.int (nI n))] [.int _]
              rw [show g139 162 11 = nI (k + 1) by rw [eg139, u2_self], show nI (k + 1) - 1 = nI k by rw [← nI_1 k, Int32.add_sub_cancel]]
              refine J_iret hS hZ hr dX8_law_148 (by omega) (by omega) ?_
              have o8 : ∀ z, z ≠ 162 → g139 z = g5 z := fun z hz => by rw [eg139, u2_ne z hz]; exact o6 z hz
              have j8 : ∀ j, j ≠ 11 → j ≠ 12 → g139 162 j = g5 162 j := fun j h1 h2 => by rw [eg139, u2_at, if_neg h1, eg114, u2_at, if_neg h2]
              have wm : FrWM g g139 := (wm4.trans a3.wm).trans ⟨fun z z1 _ => o8 z z1, fun j hj => j8 j (by omega) (by omega)⟩
              have qq := qo n cl hnt rfl l6' a7 g139 wm (by rw [j8 0 (by decide) (by decide), a3.2.1 0 (by decide), j4 0 (by decide)]; exact j30) (by rw [j8 4 (by decide) (by decide), a3.2.1 4 (by decide), j4 4 (by decide)]; exact j34) (by rw [eg139, u2_at, if_neg (by decide), eg114, u2_self]; exact a4.2.1) ?_
              · rw [← hk] at qq; exact qq
              · refine ⟨by simp only [List.length_append, List.length_cons, List.length_nil]; omega, by rw [eg139, u2_self, List.length_append, ← hk]; rfl, fun j L hj => ?_⟩
                have fz : ∀ z, 177 ≤ z → z ≤ 183 → g139 z = g5 z := fun z z1 z2 => o8 z (by omega)
                by_cases z : j < Ls.length
                · rw [List.getElem?_append_left z] at hj
                  exact ((L4 j L hj).fc (k := k) (by omega) a3.2.2).fr fz
                · rw [List.getElem?_append_right (by omega)] at hj
                  obtain ⟨j', ej⟩ : ∃ j', j - Ls.length = j' := ⟨_, rfl⟩
                  rw [ej] at hj
                  cases j' with
                  | succ j' => cases hj
                  | zero =>
                    cases hj
                    have ejk : j = k := by omega
                    subst ejk
                    refine LawM.fr (g := g5) ⟨by omega, by rw [a1]; exact a5, fun i cc hi => ?_⟩ fz
                    obtain ⟨w1, s0, w2, w3⟩ := a6 i cc hi
                    exact ⟨w1, s0, by omega, w3⟩
            · exact absurd d1 (by decide)
          have outB : ∀ (e : Nat × Nat) (g5 : Mm), FrC k g87 g5 → e.2 ≤ 300 → g5 162 7 = nI e.2 → g5 162 8 = nI e.1 → lwT T n = .inl e → J S 0 0 g5 109 [some (.ref 162), some (.int (nI n))] [] := by
            intro e g5 a3 h30 h7 h8 a7
            have nb : ¬ g5 162 7 = -1 := by rw [h7]; exact nI_nem1 (by omega)
            refine J_aload_n hS dX8_law_109 rfl ?_
            refine J_aload_n hS dX8_law_110 rfl ?_
            refine J_getI hS dX8_law_111 flX8_138 ob162 rfl ?_
            refine J_putI hS dX8_law_114 fpX8_23 ob162 rfl (fun g114 eg114 => ?_)
            have o6 : ∀ z, z ≠ 162 → g114 z = g5 z := fun z hz => by rw [eg114, u2_ne z hz]
            have j6 : ∀ j, j ≠ 12 → g114 162 j = g5 162 j := fun j hj => by rw [eg114, u2_at, if_neg hj]
            refine J_aload_n hS dX8_law_117 rfl ?_
            refine J_callV0 (X' := fun _ _ => False) hS dX8_law_118 mvX8_164 ob162 rfl (by first | decide | omega) (by decide) (Nat.le_of_ble_eq_true rfl) ⟨Nat.le_trans (by decide) hR.1, Nat.le_trans (by decide) hR.2⟩ (fun _ _ q => q.elim) (m_fineN (by rw [j6 7 (by decide)]; exact nb) ?_)
            refine J_if_ne (tgt := 132) hS dX8_law_121 (by decide) (fun d1 => ?_) (fun d1 => ?_)
            · exact absurd rfl d1
            ·
              refine J_aload_n hS dX8_law_124 rfl ?_
              refine J_getI hS dX8_law_125 flX8_141 ob162 rfl ?_
              refine J_bipush (v := 10) hS dX8_law_128 (by decide) ?_
              refine J_isub hS dX8_law_130 ?_
              show J S 0 0 (g114) 131 [some (.ref 162), some (.int (nI n))] [.int _]
              rw [j6 8 (by decide), h8]
              refine J_iret hS hZ hr dX8_law_131 (by omega) (by omega) ?_
              have wm : FrWM g g114 := (wm4.trans a3.wm).trans ⟨fun z z1 _ => o6 z z1, fun j hj => j6 j (by omega)⟩
              refine qb n e hnt rfl l6' a7 g114 wm (by rw [j6 0 (by decide), a3.2.1 0 (by decide), j4 0 (by decide)]; exact j30) (by rw [j6 4 (by decide), a3.2.1 4 (by decide), j4 4 (by decide)]; exact j34) (by rw [eg114, u2_self]; exact h7) ⟨l6, by rw [j6 11 (by decide), a3.2.1 11 (by decide), j4 11 (by decide), j3 11 (by decide) (by decide) (by decide)]; exact e11, fun j L hj => ?_⟩
              have hjl := (List.getElem?_eq_some_iff.mp hj).1
              exact ((L4 j L hj).fc (k := k) (by omega) a3.2.2).fr (fun z z1 z2 => o6 z (by omega))
          intro r
          induction r with
          | zero =>
            intro kc c s cl g5 hr a2 a1 a3 a4 a5 a6 a7
            exfalso; omega
          | succ r ih =>
            intro kc c s cl g5 hr a2 a1 a3 a4 a5 a6 a7
            have hl1 : lwR T n (r + 1) kc cl s = if tkK T n s = 0 then .inr cl else match clR T n kc s with
              | .inl e => .inl e
              | .inr (c, s1) => lwR T n r (kc + 1) (cl ++ [c]) s1 := rfl
            refine J_aload_n hS dX8_law_88 rfl ?_
            refine J_callV0 (X' := fun _ _ => False) hS dX8_law_89 mvX8_164 ob162 rfl (by first | decide | omega) (by decide) (Nat.le_of_ble_eq_true rfl) ⟨Nat.le_trans (by decide) hR.1, Nat.le_trans (by decide) hR.2⟩ (fun _ _ q => q.elim) (m_fineY a4.2.1 ?_)
            refine J_if_eq (tgt := 109) hS dX8_law_92 (by decide) (fun d1 => ?_) (fun d1 => ?_)
            · exact absurd d1 (by decide)
            ·
              refine J_aload_n hS dX8_law_95 rfl ?_
              refine J_callV0 (X' := fun _ _ => False) hS dX8_law_96 mvX8_231 ob162 rfl (by first | decide | omega) (by decide) (Nat.le_of_ble_eq_true rfl) ⟨Nat.le_trans (by decide) hR.1, Nat.le_trans (by decide) hR.2⟩ (fun _ _ q => q.elim) (m_isMore a4 (fun hm g6 f6 r6 => ?_) (fun hm g6 f6 r6 => ?_))
              · have B6 : LawMB g6 k cl c := a6.fp f6.p (Nat.le_refl _)
                have c6 : g6 177 k = nI kc := by rw [f6.1 177 (by decide)]; exact a5
                have F6 : FrC k g87 g6 := a3.trans (f6.p (k := k) (c := c)).fc
                refine J_if_eq (tgt := 109) hS dX8_law_99 (by decide) (fun d2 => ?_) (fun d2 => ?_)
                · exact absurd d2 (by decide)
                ·
                  refine J_aload_n hS dX8_law_102 rfl ?_
                  refine J_callV0 (X' := fun _ _ => False) hS dX8_law_103 mvX8_234 ob162 rfl (by first | decide | omega) (by decide) (Nat.le_of_ble_eq_true rfl) ⟨Nat.le_trans (by decide) hR.1, Nat.le_trans (by decide) hR.2⟩ (fun _ _ q => q.elim) (m_readClause a1 a2 r6 c6 B6 (fun cc s' g7 c' y1 y2 y3 y4 y5 => ?_) (fun e g7 y1 y2 y3 y4 y5 => ?_))
                  · have hk11 : kc < 12 := by
                      rcases Nat.lt_or_ge kc 12 with z | z
                      · exact z
                      · exfalso
                        unfold clR at y1
                        split at y1
                        · cases y1
                        · rw [if_pos z] at y1; cases y1
                    refine J_goto (tgt := 88) hS dX8_law_106 (by decide) ?_
                    exact ih (kc + 1) c' s' (cl ++ [cc]) g7 (by omega) (by omega) (by simp [a1]) (F6.trans y2) y3 y4 y5 (by rw [a7, hl1, if_neg hm, y1])
                  · have hy : lwT T n = .inl e := by rw [a7, hl1, if_neg hm, y1]
                    refine J_goto (tgt := 88) hS dX8_law_106 (by decide) ?_
                    refine J_aload_n hS dX8_law_88 rfl ?_
                    refine J_callV0 (X' := fun _ _ => False) hS dX8_law_89 mvX8_164 ob162 rfl (by first | decide | omega) (by decide) (Nat.le_of_ble_eq_true rfl) ⟨Nat.le_trans (by decide) hR.1, Nat.le_trans (by decide) hR.2⟩ (fun _ _ q => q.elim) (m_fineN (by rw [y4]; exact nI_nem1 (by omega)) ?_)
                    refine J_if_eq (tgt := 109) hS dX8_law_92 (by decide) (fun d3 => ?_) (fun d3 => ?_)
                    · exact outB e g7 (F6.trans y2) y3 y4 y5 hy
                    · exact absurd rfl d3
              · have B6 : LawMB g6 k cl c := a6.fp f6.p (Nat.le_refl _)
                refine J_if_eq (tgt := 109) hS dX8_law_99 (by decide) (fun d2 => ?_) (fun d2 => ?_)
                · exact outG kc c s cl g6 a1 a2 (a3.trans (f6.p (k := k) (c := c)).fc) r6 (by rw [f6.1 177 (by decide)]; exact a5) B6 (by rw [a7, hl1, if_pos hm])
                · exact absurd rfl d2
        ·
          refine J_iconst (v := (-1)) hS dX8_law_51 (by decide) ?_
          refine J_iret hS hZ hr dX8_law_52 (by omega) (by omega) ?_
          exact q6 n hnt rfl ((nI_eq (a := Ls.length) (b := 6) (by omega) (by decide)).mp c4) g39 o3 j3 j30 j34 j312
      · exact absurd c3 (by decide)
end RefW


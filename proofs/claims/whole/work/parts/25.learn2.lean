/-! THE CLASS: Speech: the order that is learnt; who said it is the stronger -/
section ClsJ
variable {l : Launch} {E : Ey} {g : Mm} {Q : Option Value → Mm → Prop} {X : String → Mm → Prop} {h : Nat}
set_option maxRecDepth 10000 in
set_option maxHeartbeats 4000000 in
theorem c_learnOrder (hW : Wo h) {b x : Nat} {lw : Option (List Cls)} (hb : b < 24) (hb2 : g 148 1 = nI b) (hx : x < 6) (hx2 : g 148 9 = nI x) (hwt : Wt (wv g h) b) (hR0 : RuleC g lw) (q : ∀ g', (∀ z, z ≠ h + 9 → z ≠ 153 → z ≠ 154 → g' z = g z) → wv g' h = mkR (lrn (wv g h) (odB b) 6 x (VG g lw 1) (VG g lw 2)) b x (VG g lw 3) → (∀ v, upd (g' 153) 4 v = upd (g 153) 4 v) → Q none g') : Ct l E lay NC 3 0 0 yX5_learnOrder [.ref 148, .ref h, .ref 152] g Q X := by
  have hh : h + 10 < 107 := by obtain ⟨i, hi, e⟩ := hW; omega
  obtain ⟨w6, hw6⟩ : ∃ w6 : Wr, w6 = lrn (wv g h) (odB b) 6 x (VG g lw 1) (VG g lw 2) := ⟨_, rfl⟩
  rw [← hw6] at q
  refine Ct_in k_yX5_learnOrder (by decide) rfl (Nat.le_of_ble_eq_true rfl) rfl ?_
  intro S hS hZ hr ht hR
  show J S 0 0 g 0 [some (.ref 148), some (.ref h), some (.ref 152), none, none, none, none] []
  refine J_aload_n hS dX5_learnOrder_0 rfl ?_
  refine J_getI hS dX5_learnOrder_1 flX5_15 ob148 rfl ?_
  show J S 0 0 g 4 [some (.ref 148), some (.ref h), some (.ref 152), none, none, none, none] [.int _]
  rw [hb2]
  refine J_bipush (v := 6) hS dX5_learnOrder_4 (by decide) ?_
  refine J_imul hS dX5_learnOrder_6 ?_
  refine J_aload_n hS dX5_learnOrder_7 rfl ?_
  refine J_getI hS dX5_learnOrder_8 flX5_41 ob148 rfl ?_
  show J S 0 0 g 11 [some (.ref 148), some (.ref h), some (.ref 152), none, none, none, none] [.int _, .int _]
  rw [hx2]
  refine J_iadd hS dX5_learnOrder_11 ?_
  refine J_istore_n (lt := fun ow => [some (.ref 148), some (.ref h), some (.ref 152), some (.int ow), none, none, none]) hS dX5_learnOrder_12 (Nat.le_of_ble_eq_true rfl) (fun _ => rfl) (fun ow eow => ?_)
  have eow' : ow = nI (b * 6 + x) := by rw [eow]; simp only [n6, pk_mul, nI_add]
  subst eow'
  refine J_iconst (v := 0) hS dX5_learnOrder_13 (by decide) ?_
  refine J_istore (lt := fun o1 => [some (.ref 148), some (.ref h), some (.ref 152), some (.int (nI (b * 6 + x))), some (.int o1), none, none]) hS dX5_learnOrder_14 (Nat.le_of_ble_eq_true rfl) (fun _ => rfl) (fun o1 eo1 => ?_)
  refine J_iconst (v := 0) hS dX5_learnOrder_16 (by decide) ?_
  refine J_istore (lt := fun i1 => [some (.ref 148), some (.ref h), some (.ref 152), some (.int (nI (b * 6 + x))), some (.int o1), some (.int i1), none]) hS dX5_learnOrder_17 (Nat.le_of_ble_eq_true rfl) (fun _ => rfl) (fun i1 ei1 => ?_)
  suffices H : ∀ (n k : Nat) (ot i : Int32) (g1 : Mm), k + n = 6 → i = nI k → ot = oth w6 (odB b) x k → (∀ z, z ≠ h + 9 → z ≠ 153 → z ≠ 154 → g1 z = g z) → wv g1 h = lrn (wv g h) (odB b) k x (VG g lw 1) (VG g lw 2) → (∀ v, upd (g1 153) 4 v = upd (g 153) 4 v) → J S 0 0 g1 19 [some (.ref 148), some (.ref h), some (.ref 152), some (.int (nI (b * 6 + x))), some (.int ot), some (.int i), none] [] by
    exact H 6 0 o1 i1 g rfl ei1 (by rw [eo1]; rfl) (fun _ _ _ _ => rfl) (by rw [lrn_0]) (fun _ => rfl)
  intro n
  induction n with
  | zero =>
    intro k ot i g1 hk hi hot f1 w1 r1
    have hk3 : k = 6 := by omega
    subst hk3
    rw [← hw6] at w1
    have e1 : g1 148 1 = nI b := by rw [f1 148 (by omega) (by decide) (by decide)]; exact hb2
    have e9 : g1 148 9 = nI x := by rw [f1 148 (by omega) (by decide) (by decide)]; exact hx2
    have ew : ∀ (gx : Mm), (∀ z, z ≠ 153 → z ≠ 154 → gx z = g1 z) → gx (h + 9) (b * 6 + x) = w6 (odB b + x) := fun gx e => by
      rw [e (h + 9) (by omega) (by omega), ← wv_o (g := g1) (h := h) hb hx, w1]
    have ekd : g1 (h + 4) b = w6 (56 + 142 * b + 4) := by rw [← wv_at (g := g1) (h := h) (wx_kind hb), w1]
    have hR1 : RuleC g1 lw := hR0.fr (fun a ha => f1 a (by omega) (by omega) (by omega))
    have hV : VG g1 lw = VG g lw := VG_fr (f1 152 (by omega) (by decide) (by decide)) r1
    have no : ∀ (ls : List (Option Value)) (gx : Mm), (∀ z, z ≠ h + 9 → z ≠ 153 → z ≠ 154 → gx z = g z) → wv gx h = w6 → (∀ v, upd (gx 153) 4 v = upd (g 153) 4 v) → ¬ (w6 (56 + 142 * b + 4) = 0 ∧ oth w6 (odB b) x 6 < w6 (odB b + x) ∧ VG g lw 3 (w6 (odB b + x)) ≤ w6 (odB b + x)) → J S 0 0 gx 211 ls [] := by
      intro ls gx fx wx1 rx hno
      refine J_vret hS hZ hr dX5_learnOrder_211 (by omega) (by omega) ?_
      refine q gx fx ?_ rx
      rw [wx1]; unfold mkR; rw [if_neg hno]
    refine J_iload hS dX5_learnOrder_19 rfl ?_
    refine J_bipush (v := 6) hS dX5_learnOrder_21 (by decide) ?_
    refine J_icmp_ge (tgt := 121) hS dX5_learnOrder_23 (by decide) (fun c1 => ?_) (fun c1 => ?_)
    ·
      refine J_aload_n hS dX5_learnOrder_121 rfl ?_
      refine J_getR (t := h + 4) hS dX5_learnOrder_122 flX5_103 hW.ob rfl ?_
      refine J_aload_n hS dX5_learnOrder_125 rfl ?_
      refine J_getI hS dX5_learnOrder_126 flX5_15 ob148 rfl ?_
      show J S 0 0 g1 129 [some (.ref 148), some (.ref h), some (.ref 152), some (.int (nI (b * 6 + x))), some (.int ot), some (.int i), none] [.int _, .ref (h + 4)]
      rw [e1]
      refine J_ialdN hS (b) dX5_learnOrder_129 (show Ar lay NC .int (h + 4) 24 from hW.ar 4 (by decide) (by decide)) (by first | rfl | (simp only [n0, n1, n2, n3, n4, n5, n6, n7, n8, n9, n10, n11, n12, n13, n14, n15, n16, n17, n18, n19, n20, n24, n32, n56, n60, n64, n72, n99, n100, n128, n136, n142, n144, n200, n300, n999, n1000, n1500, n3464, nI_add, pk_mul] <;> first | rfl | (congr 1; omega))) hb (by decide) ?_
      show J S 0 0 g1 130 [some (.ref 148), some (.ref h), some (.ref 152), some (.int (nI (b * 6 + x))), some (.int ot), some (.int i), none] [.int _]
      rw [ekd]
      refine J_if_ne (tgt := 211) hS dX5_learnOrder_130 (by decide) (fun c2 => ?_) (fun c2 => ?_)
      · exact no _ g1 f1 w1 r1 (fun z => c2 z.1)
      ·
        refine J_aload_n hS dX5_learnOrder_133 rfl ?_
        refine J_getR (t := h + 9) hS dX5_learnOrder_134 flX5_137 hW.ob rfl ?_
        refine J_iload_n hS dX5_learnOrder_137 rfl ?_
        refine J_ialdN hS (b * 6 + x) dX5_learnOrder_138 (show Ar lay NC .int (h + 9) 144 from hW.ar 9 (by decide) (by decide)) (by first | rfl | (simp only [n0, n1, n2, n3, n4, n5, n6, n7, n8, n9, n10, n11, n12, n13, n14, n15, n16, n17, n18, n19, n20, n24, n32, n56, n60, n64, n72, n99, n100, n128, n136, n142, n144, n200, n300, n999, n1000, n1500, n3464, nI_add, pk_mul] <;> first | rfl | (congr 1; omega))) (by omega) (by decide) ?_
        refine J_iload hS dX5_learnOrder_139 rfl ?_
        show J S 0 0 g1 141 [some (.ref 148), some (.ref h), some (.ref 152), some (.int (nI (b * 6 + x))), some (.int ot), some (.int i), none] [.int ot, .int _]
        rw [ew g1 (fun _ _ _ => rfl)]
        refine J_icmp_le (tgt := 211) hS dX5_learnOrder_141 (by decide) (fun c3 => ?_) (fun c3 => ?_)
        · exact no _ g1 f1 w1 r1 (fun z => absurd z.2.1 (Int32.not_lt.mpr (by rw [← hot]; exact c3)))
        ·
          refine J_aload_n hS dX5_learnOrder_144 rfl ?_
          refine J_getR (t := h + 9) hS dX5_learnOrder_145 flX5_137 hW.ob rfl ?_
          refine J_iload_n hS dX5_learnOrder_148 rfl ?_
          refine J_ialdN hS (b * 6 + x) dX5_learnOrder_149 (show Ar lay NC .int (h + 9) 144 from hW.ar 9 (by decide) (by decide)) (by first | rfl | (simp only [n0, n1, n2, n3, n4, n5, n6, n7, n8, n9, n10, n11, n12, n13, n14, n15, n16, n17, n18, n19, n20, n24, n32, n56, n60, n64, n72, n99, n100, n128, n136, n142, n144, n200, n300, n999, n1000, n1500, n3464, nI_add, pk_mul] <;> first | rfl | (congr 1; omega))) (by omega) (by decide) ?_
          refine J_aload_n hS dX5_learnOrder_150 rfl ?_
          refine J_iconst (v := 3) hS dX5_learnOrder_151 (by decide) ?_
          refine J_aload_n hS dX5_learnOrder_152 rfl ?_
          refine J_getR (t := h + 9) hS dX5_learnOrder_153 flX5_137 hW.ob rfl ?_
          refine J_iload_n hS dX5_learnOrder_156 rfl ?_
          refine J_ialdN hS (b * 6 + x) dX5_learnOrder_157 (show Ar lay NC .int (h + 9) 144 from hW.ar 9 (by decide) (by decide)) (by first | rfl | (simp only [n0, n1, n2, n3, n4, n5, n6, n7, n8, n9, n10, n11, n12, n13, n14, n15, n16, n17, n18, n19, n20, n24, n32, n56, n60, n64, n72, n99, n100, n128, n136, n142, n144, n200, n300, n999, n1000, n1500, n3464, nI_add, pk_mul] <;> first | rfl | (congr 1; omega))) (by omega) (by decide) ?_
          show J S 0 0 g1 158 [some (.ref 148), some (.ref h), some (.ref 152), some (.int (nI (b * 6 + x))), some (.int ot), some (.int i), none] [.int _, .int 3, .ref 152, .int _]
          rw [ew g1 (fun _ _ _ => rfl)]
          refine J_callV2 (X' := fun _ _ => False) hS dX5_learnOrder_158 mvX5_130 ob152 rfl (by decide) (by decide) (Nat.le_of_ble_eq_true rfl) hR (fun _ _ q => q.elim) (c_valueOf (w := 3) (by decide) hR1 (fun g3 n1 n2 => ?_))
          have ef : rval lw (g1 152 3) (upd (g1 153) 4 (w6 (odB b + x))) 3 = VG g lw 3 (w6 (odB b + x)) := by rw [← hV]; rfl
          show J S 0 0 g3 161 [some (.ref 148), some (.ref h), some (.ref 152), some (.int (nI (b * 6 + x))), some (.int ot), some (.int i), none] [.int _, .int (w6 (odB b + x))]
          rw [ef]
          have f3 : ∀ z, z ≠ h + 9 → z ≠ 153 → z ≠ 154 → g3 z = g z := fun z h1 h2 h3 => by rw [n1 z h2 h3]; exact f1 z h1 h2 h3
          have w3 : wv g3 h = w6 := by rw [wv_fr (g := g1) (fun z h1 h2 => n1 z (by omega) (by omega))]; exact w1
          have r3 : ∀ v, upd (g3 153) 4 v = upd (g 153) 4 v := fun v => by rw [n2, upd4]; exact r1 v
          refine J_icmp_lt (tgt := 211) hS dX5_learnOrder_161 (by decide) (fun c4 => ?_) (fun c4 => ?_)
          · exact no _ g3 f3 w3 r3 (fun z => absurd c4 (Int32.not_lt.mpr z.2.2))
          · have hyes : w6 (56 + 142 * b + 4) = 0 ∧ oth w6 (odB b) x 6 < w6 (odB b + x) ∧ VG g lw 3 (w6 (odB b + x)) ≤ w6 (odB b + x) := ⟨c2, by rw [← hot]; exact Int32.not_le.mp c3, Int32.not_lt.mp c4⟩
            refine J_iconst (v := 0) hS dX5_learnOrder_164 (by decide) ?_
            refine J_istore (lt := fun j1 => [some (.ref 148), some (.ref h), some (.ref 152), some (.int (nI (b * 6 + x))), some (.int ot), some (.int j1), none]) hS dX5_learnOrder_165 (Nat.le_of_ble_eq_true rfl) (fun _ => rfl) (fun j1 ej1 => ?_)
            suffices H2 : ∀ (n k : Nat) (j : Int32) (g4 : Mm), k + n = 6 → j = nI k → (∀ z, z ≠ h + 9 → g4 z = g3 z) → wv g4 h = (fun i => if odB b ≤ i ∧ i < odB b + k then (if i = odB b + x then 999 else 0) else w6 i) → J S 0 0 g4 167 [some (.ref 148), some (.ref h), some (.ref 152), some (.int (nI (b * 6 + x))), some (.int ot), some (.int j), none] [] by
              exact H2 6 0 j1 g3 rfl ej1 (fun _ _ => rfl) (by rw [w3]; funext i; rw [if_neg (by omega)])
            intro n
            induction n with
            | zero =>
              intro k j g4 hk hj f4 w4
              have hk3 : k = 6 := by omega
              subst hk3
              refine J_iload hS dX5_learnOrder_167 rfl ?_
              refine J_bipush (v := 6) hS dX5_learnOrder_169 (by decide) ?_
              refine J_icmp_ge (tgt := 211) hS dX5_learnOrder_171 (by decide) (fun c5 => ?_) (fun c5 => ?_)
              ·
                refine J_vret hS hZ hr dX5_learnOrder_211 (by omega) (by omega) ?_
                refine q g4 (fun z h1 h2 h3 => by rw [f4 z h1]; exact f3 z h1 h2 h3) ?_ (fun v => by rw [f4 153 (by omega)]; exact r3 v)
                rw [w4]; unfold mkR; rw [if_pos hyes]
              · exact absurd (by rw [hj]; decide) c5
            | succ n ih =>
              intro k j g4 hk hj f4 w4
              subst hj
              have e41 : g4 148 1 = nI b := by rw [f4 148 (by omega), n1 148 (by decide) (by decide)]; exact e1
              have e49 : g4 148 9 = nI x := by rw [f4 148 (by omega), n1 148 (by decide) (by decide)]; exact e9
              have step : ∀ (v : Int32) (g5 : Mm) (j' : Int32), v = (if k = x then 999 else 0) → g5 = u2 g4 (h + 9) (b * 6 + k) v → j' = nI k + 1 → J S 0 0 g5 167 [some (.ref 148), some (.ref h), some (.ref 152), some (.int (nI (b * 6 + x))), some (.int ot), some (.int j'), none] [] := by
                intro v g5 j' hv e5 hj'
                refine ih (k + 1) j' g5 (by omega) (by rw [hj']; exact nI_1 k) (fun z hz => by rw [e5, u2_ne z hz]; exact f4 z hz) ?_
                rw [e5, wv_u2 (wx_order hb (show k < 6 by omega)), w4, hv]
                funext i
                unfold upd
                show (if i = odB b + k then _ else _) = _
                by_cases e : i = odB b + k
                · subst e
                  rw [if_pos rfl, if_pos (show odB b ≤ odB b + k ∧ odB b + k < odB b + (k + 1) from ⟨by omega, by omega⟩)]
                  by_cases e2 : k = x
                  · subst e2; simp
                  · rw [if_neg e2, if_neg (show ¬ odB b + k = odB b + x by omega)]
                · rw [if_neg e]
                  dsimp only
                  by_cases e2 : odB b ≤ i ∧ i < odB b + k
                  · rw [if_pos e2, if_pos (show odB b ≤ i ∧ i < odB b + (k + 1) from ⟨by omega, by omega⟩)]
                  · rw [if_neg e2, if_neg (show ¬ (odB b ≤ i ∧ i < odB b + (k + 1)) by omega)]
              refine J_iload hS dX5_learnOrder_167 rfl ?_
              refine J_bipush (v := 6) hS dX5_learnOrder_169 (by decide) ?_
              refine J_icmp_ge (tgt := 211) hS dX5_learnOrder_171 (by decide) (fun c5 => ?_) (fun c5 => ?_)
              · exact absurd c5 (nI_ge (show k < 6 by omega) (by decide))
              ·
                refine J_aload_n hS dX5_learnOrder_174 rfl ?_
                refine J_getR (t := h + 9) hS dX5_learnOrder_175 flX5_137 hW.ob rfl ?_
                refine J_aload_n hS dX5_learnOrder_178 rfl ?_
                refine J_getI hS dX5_learnOrder_179 flX5_15 ob148 rfl ?_
                show J S 0 0 g4 182 [some (.ref 148), some (.ref h), some (.ref 152), some (.int (nI (b * 6 + x))), some (.int ot), some (.int (nI k)), none] [.int _, .ref (h + 9)]
                rw [e41]
                refine J_bipush (v := 6) hS dX5_learnOrder_182 (by decide) ?_
                refine J_imul hS dX5_learnOrder_184 ?_
                refine J_iload hS dX5_learnOrder_185 rfl ?_
                refine J_iadd hS dX5_learnOrder_187 ?_
                refine J_iload hS dX5_learnOrder_188 rfl ?_
                refine J_aload_n hS dX5_learnOrder_190 rfl ?_
                refine J_getI hS dX5_learnOrder_191 flX5_41 ob148 rfl ?_
                show J S 0 0 g4 194 [some (.ref 148), some (.ref h), some (.ref 152), some (.int (nI (b * 6 + x))), some (.int ot), some (.int (nI k)), none] [.int _, .int (nI k), .int _, .ref (h + 9)]
                rw [e49]
                refine J_icmp_ne (tgt := 203) hS dX5_learnOrder_194 (by decide) (fun c6 => ?_) (fun c6 => ?_)
                ·
                  refine J_iconst (v := 0) hS dX5_learnOrder_203 (by decide) ?_
                  refine J_iastN hS (b * 6 + k) dX5_learnOrder_204 (show Ar lay NC .int (h + 9) 144 from hW.ar 9 (by decide) (by decide)) (by first | rfl | (simp only [n0, n1, n2, n3, n4, n5, n6, n7, n8, n9, n10, n11, n12, n13, n14, n15, n16, n17, n18, n19, n20, n24, n32, n56, n60, n64, n72, n99, n100, n128, n136, n142, n144, n200, n300, n999, n1000, n1500, n3464, nI_add, pk_mul] <;> first | rfl | (congr 1; omega))) (by omega) (by decide) (fun g204 eg204 => ?_)
                  refine J_iinc (lt := fun j2 => [some (.ref 148), some (.ref h), some (.ref 152), some (.int (nI (b * 6 + x))), some (.int ot), some (.int j2), none]) (v := 1) hS dX5_learnOrder_205 rfl (by decide) (fun _ => rfl) (fun j2 ej2 => ?_)
                  refine J_goto (tgt := 167) hS dX5_learnOrder_208 (by decide) ?_
                  exact step 0 g204 j2 (by rw [if_neg (fun z => c6 (by rw [z]))]) eg204 ej2
                ·
                  refine J_sipush (v := 999) hS dX5_learnOrder_197 (by decide) ?_
                  refine J_goto (tgt := 204) hS dX5_learnOrder_200 (by decide) ?_
                  refine J_iastN hS (b * 6 + k) dX5_learnOrder_204 (show Ar lay NC .int (h + 9) 144 from hW.ar 9 (by decide) (by decide)) (by first | rfl | (simp only [n0, n1, n2, n3, n4, n5, n6, n7, n8, n9, n10, n11, n12, n13, n14, n15, n16, n17, n18, n19, n20, n24, n32, n56, n60, n64, n72, n99, n100, n128, n136, n142, n144, n200, n300, n999, n1000, n1500, n3464, nI_add, pk_mul] <;> first | rfl | (congr 1; omega))) (by omega) (by decide) (fun g204 eg204 => ?_)
                  refine J_iinc (lt := fun j2 => [some (.ref 148), some (.ref h), some (.ref 152), some (.int (nI (b * 6 + x))), some (.int ot), some (.int j2), none]) (v := 1) hS dX5_learnOrder_205 rfl (by decide) (fun _ => rfl) (fun j2 ej2 => ?_)
                  refine J_goto (tgt := 167) hS dX5_learnOrder_208 (by decide) ?_
                  exact step 999 g204 j2 (by rw [if_pos ((nI_eq (by omega) (by omega)).mp c6)]) eg204 ej2
    · exact absurd (by rw [hi]; decide) c1
  | succ n ih =>
    intro k ot i g1 hk hi hot f1 w1 r1
    subst hi
    have hk6 : k < 6 := by omega
    have e1 : g1 148 1 = nI b := by rw [f1 148 (by omega) (by decide) (by decide)]; exact hb2
    have e9 : g1 148 9 = nI x := by rw [f1 148 (by omega) (by decide) (by decide)]; exact hx2
    have ew : g1 (h + 9) (b * 6 + k) = wv g h (odB b + k) := by
      rw [← wv_o (g := g1) (h := h) hb hk6, w1, lrn_at (by omega)]
    have hR1 : RuleC g1 lw := hR0.fr (fun a ha => f1 a (by omega) (by omega) (by omega))
    have hV : VG g1 lw = VG g lw := VG_fr (f1 152 (by omega) (by decide) (by decide)) r1
    have ew6 : w6 (odB b + k) = (if k = x then kb (wv g h (odB b + k) + VG g lw 1 (wv g h (odB b + k))) else kb (wv g h (odB b + k) - VG g lw 2 (wv g h (odB b + k)))) := by
      rw [hw6]; unfold lrn
      rw [if_pos (by omega)]
      by_cases e2 : k = x
      · subst e2; simp
      · rw [if_neg (by omega), if_neg e2]
    have nxt : ∀ (ot' i' x' : Int32) (g2 : Mm), ot' = oth w6 (odB b) x (k + 1) → i' = nI k + 1 → (∀ z, z ≠ h + 9 → z ≠ 153 → z ≠ 154 → g2 z = g z) → wv g2 h = lrn (wv g h) (odB b) (k + 1) x (VG g lw 1) (VG g lw 2) → (∀ v, upd (g2 153) 4 v = upd (g 153) 4 v) → J S 0 0 g2 19 [some (.ref 148), some (.ref h), some (.ref 152), some (.int (nI (b * 6 + x))), some (.int ot'), some (.int i'), some (.int x')] [] := by
      intro ot' i' x' g2 ho' hi' f2 w2 r2
      refine J_weak (ls' := [some (.ref 148), some (.ref h), some (.ref 152), some (.int (nI (b * 6 + x))), some (.int ot'), some (.int i'), none]) ⟨Or.inr rfl, Or.inr rfl, Or.inr rfl, Or.inr rfl, Or.inr rfl, Or.inr rfl, Or.inl rfl, trivial⟩ ?_
      exact ih (k + 1) ot' i' g2 (by omega) (by rw [hi']; exact nI_1 k) ho' f2 w2 r2
    have upw : ∀ (g2 g3 : Mm) (v : Int32), (∀ z, z ≠ 153 → z ≠ 154 → g2 z = g1 z) → g3 = u2 g2 (h + 9) (b * 6 + k) v → v = w6 (odB b + k) → wv g3 h = lrn (wv g h) (odB b) (k + 1) x (VG g lw 1) (VG g lw 2) := by
      intro g2 g3 v e2 e3 ev
      rw [e3, wv_u2 (wx_order hb hk6), wv_fr (g := g1) (g' := g2) (fun z h1 h2 => e2 z (by omega) (by omega)), w1, lrn_s, ev, ew6]; rfl
    refine J_iload hS dX5_learnOrder_19 rfl ?_
    refine J_bipush (v := 6) hS dX5_learnOrder_21 (by decide) ?_
    refine J_icmp_ge (tgt := 121) hS dX5_learnOrder_23 (by decide) (fun c1 => ?_) (fun c1 => ?_)
    · exact absurd c1 (nI_ge (show k < 6 by omega) (by decide))
    ·
      refine J_aload_n hS dX5_learnOrder_26 rfl ?_
      refine J_getR (t := h + 9) hS dX5_learnOrder_27 flX5_137 hW.ob rfl ?_
      refine J_aload_n hS dX5_learnOrder_30 rfl ?_
      refine J_getI hS dX5_learnOrder_31 flX5_15 ob148 rfl ?_
      show J S 0 0 g1 34 [some (.ref 148), some (.ref h), some (.ref 152), some (.int (nI (b * 6 + x))), some (.int ot), some (.int (nI k)), none] [.int _, .ref (h + 9)]
      rw [e1]
      refine J_bipush (v := 6) hS dX5_learnOrder_34 (by decide) ?_
      refine J_imul hS dX5_learnOrder_36 ?_
      refine J_iload hS dX5_learnOrder_37 rfl ?_
      refine J_iadd hS dX5_learnOrder_39 ?_
      refine J_ialdN hS (b * 6 + k) dX5_learnOrder_40 (show Ar lay NC .int (h + 9) 144 from hW.ar 9 (by decide) (by decide)) (by first | rfl | (simp only [n0, n1, n2, n3, n4, n5, n6, n7, n8, n9, n10, n11, n12, n13, n14, n15, n16, n17, n18, n19, n20, n24, n32, n56, n60, n64, n72, n99, n100, n128, n136, n142, n144, n200, n300, n999, n1000, n1500, n3464, nI_add, pk_mul] <;> first | rfl | (congr 1; omega))) (by omega) (by decide) ?_
      refine J_istore (lt := fun wt => [some (.ref 148), some (.ref h), some (.ref 152), some (.int (nI (b * 6 + x))), some (.int ot), some (.int (nI k)), some (.int wt)]) hS dX5_learnOrder_41 (Nat.le_of_ble_eq_true rfl) (fun _ => rfl) (fun wt ewt => ?_)
      rw [ew] at ewt
      refine J_iload hS dX5_learnOrder_43 rfl ?_
      refine J_aload_n hS dX5_learnOrder_45 rfl ?_
      refine J_getI hS dX5_learnOrder_46 flX5_41 ob148 rfl ?_
      show J S 0 0 g1 49 [some (.ref 148), some (.ref h), some (.ref 152), some (.int (nI (b * 6 + x))), some (.int ot), some (.int (nI k)), some (.int wt)] [.int _, .int (nI k)]
      rw [e9]
      refine J_icmp_ne (tgt := 72) hS dX5_learnOrder_49 (by decide) (fun c2 => ?_) (fun c2 => ?_)
      · have hne : k ≠ x := fun z => c2 (by rw [z])
        rw [if_neg hne, ← ewt] at ew6
        refine J_iload hS dX5_learnOrder_72 rfl ?_
        refine J_if_le (tgt := 115) hS dX5_learnOrder_74 (by decide) (fun c3 => ?_) (fun c3 => ?_)
        · have hz : wt = 0 := Int32.le_antisymm c3 (by rw [ewt]; exact (hwt.od hk6).1)
          rw [hz, kb_sub (VG_rng (by decide)).1 (VG_rng (by decide)).2] at ew6
          refine J_iinc (lt := fun i2 => [some (.ref 148), some (.ref h), some (.ref 152), some (.int (nI (b * 6 + x))), some (.int ot), some (.int i2), some (.int wt)]) (v := 1) hS dX5_learnOrder_115 rfl (by decide) (fun _ => rfl) (fun i2 ei2 => ?_)
          refine J_goto (tgt := 19) hS dX5_learnOrder_118 (by decide) ?_
          refine nxt ot i2 wt g1 (by rw [hot]; simp [oth, hne, ew6]) ei2 f1 ?_ r1
          rw [w1, lrn_s, if_neg hne, ← ewt, hz, kb_sub (VG_rng (by decide)).1 (VG_rng (by decide)).2]
          funext i
          unfold upd
          by_cases e : i = odB b + k
          · rw [if_pos e, e, lrn_at (by omega), ← ewt, hz]
          · rw [if_neg e]
        ·
          refine J_aload_n hS dX5_learnOrder_77 rfl ?_
          refine J_aload_n hS dX5_learnOrder_78 rfl ?_
          refine J_getI hS dX5_learnOrder_79 flX5_15 ob148 rfl ?_
          show J S 0 0 g1 82 [some (.ref 148), some (.ref h), some (.ref 152), some (.int (nI (b * 6 + x))), some (.int ot), some (.int (nI k)), some (.int wt)] [.int _, .ref h]
          rw [e1]
          refine J_iload hS dX5_learnOrder_82 rfl ?_
          refine J_aload_n hS dX5_learnOrder_84 rfl ?_
          refine J_iconst (v := 2) hS dX5_learnOrder_85 (by decide) ?_
          refine J_iload hS dX5_learnOrder_86 rfl ?_
          refine J_callV2 (X' := fun _ _ => False) hS dX5_learnOrder_88 mvX5_130 ob152 rfl (by decide) (by decide) (Nat.le_of_ble_eq_true rfl) hR (fun _ _ q => q.elim) (c_valueOf (w := 2) (by decide) hR1 (fun g88 n1 n2 => ?_))
          have ef : rval lw (g1 152 3) (upd (g1 153) 4 wt) 2 = VG g lw 2 wt := by rw [← hV]; rfl
          show J S 0 0 g88 91 [some (.ref 148), some (.ref h), some (.ref 152), some (.int (nI (b * 6 + x))), some (.int ot), some (.int (nI k)), some (.int wt)] [.int _, .int (nI k), .int _, .ref h]
          rw [ef]
          have e88 : g88 (h + 9) (b * 6 + k) + -(VG g lw 2 wt) = wt - VG g lw 2 wt := by rw [n1 (h + 9) (by omega) (by omega), ew, sub_neg, ewt]
          obtain ⟨g9, eg9⟩ : ∃ g9, g9 = u2 g88 (h + 9) (b * 6 + k) (kb (g88 (h + 9) (b * 6 + k) + -(VG g lw 2 wt))) := ⟨_, rfl⟩
          refine J_ineg hS dX5_learnOrder_91 ?_
          refine J_callV3 (X' := fun _ _ => False) hS dX5_learnOrder_92 mvX5_140 hW.ob rfl (by decide) (by decide) (Nat.le_of_ble_eq_true rfl) hR (fun _ _ q => q.elim) (c_addToOrder hW hb hk6 ?_)
          rw [← eg9]
          have e91 : g9 148 1 = nI b := by rw [eg9, u2_ne 148 (by omega), n1 148 (by decide) (by decide)]; exact e1
          have e99 : g9 (h + 9) (b * 6 + k) = w6 (odB b + k) := by rw [eg9, e88, ew6]; simp [u2]
          refine J_iload hS dX5_learnOrder_95 rfl ?_
          refine J_aload_n hS dX5_learnOrder_97 rfl ?_
          refine J_getR (t := h + 9) hS dX5_learnOrder_98 flX5_137 hW.ob rfl ?_
          refine J_aload_n hS dX5_learnOrder_101 rfl ?_
          refine J_getI hS dX5_learnOrder_102 flX5_15 ob148 rfl ?_
          show J S 0 0 g9 105 [some (.ref 148), some (.ref h), some (.ref 152), some (.int (nI (b * 6 + x))), some (.int ot), some (.int (nI k)), some (.int wt)] [.int _, .ref (h + 9), .int ot]
          rw [e91]
          refine J_bipush (v := 6) hS dX5_learnOrder_105 (by decide) ?_
          refine J_imul hS dX5_learnOrder_107 ?_
          refine J_iload hS dX5_learnOrder_108 rfl ?_
          refine J_iadd hS dX5_learnOrder_110 ?_
          refine J_ialdN hS (b * 6 + k) dX5_learnOrder_111 (show Ar lay NC .int (h + 9) 144 from hW.ar 9 (by decide) (by decide)) (by first | rfl | (simp only [n0, n1, n2, n3, n4, n5, n6, n7, n8, n9, n10, n11, n12, n13, n14, n15, n16, n17, n18, n19, n20, n24, n32, n56, n60, n64, n72, n99, n100, n128, n136, n142, n144, n200, n300, n999, n1000, n1500, n3464, nI_add, pk_mul] <;> first | rfl | (congr 1; omega))) (by omega) (by decide) ?_
          show J S 0 0 g9 112 [some (.ref 148), some (.ref h), some (.ref 152), some (.int (nI (b * 6 + x))), some (.int ot), some (.int (nI k)), some (.int wt)] [.int _, .int ot]
          rw [e99]
          refine J_iadd hS dX5_learnOrder_112 ?_
          refine J_istore (lt := fun o2 => [some (.ref 148), some (.ref h), some (.ref 152), some (.int (nI (b * 6 + x))), some (.int o2), some (.int (nI k)), some (.int wt)]) hS dX5_learnOrder_113 (Nat.le_of_ble_eq_true rfl) (fun _ => rfl) (fun o2 eo2 => ?_)
          refine J_iinc (lt := fun i2 => [some (.ref 148), some (.ref h), some (.ref 152), some (.int (nI (b * 6 + x))), some (.int o2), some (.int i2), some (.int wt)]) (v := 1) hS dX5_learnOrder_115 rfl (by decide) (fun _ => rfl) (fun i2 ei2 => ?_)
          refine J_goto (tgt := 19) hS dX5_learnOrder_118 (by decide) ?_
          refine nxt o2 i2 wt g9 (by rw [eo2, hot]; simp [oth, hne]) ei2 (fun z h1 h2 h3 => by rw [eg9, u2_ne z h1, n1 z h2 h3]; exact f1 z h1 h2 h3) (upw g88 _ _ n1 eg9 (by rw [e88, ew6])) (fun v => by rw [eg9, u2_ne 153 (by omega), n2, upd4]; exact r1 v)
      · have he : k = x := (nI_eq (by omega) (by omega)).mp c2
        rw [if_pos he, ← ewt] at ew6
        refine J_aload_n hS dX5_learnOrder_52 rfl ?_
        refine J_aload_n hS dX5_learnOrder_53 rfl ?_
        refine J_getI hS dX5_learnOrder_54 flX5_15 ob148 rfl ?_
        show J S 0 0 g1 57 [some (.ref 148), some (.ref h), some (.ref 152), some (.int (nI (b * 6 + x))), some (.int ot), some (.int (nI k)), some (.int wt)] [.int _, .ref h]
        rw [e1]
        refine J_iload hS dX5_learnOrder_57 rfl ?_
        refine J_aload_n hS dX5_learnOrder_59 rfl ?_
        refine J_iconst (v := 1) hS dX5_learnOrder_60 (by decide) ?_
        refine J_iload hS dX5_learnOrder_61 rfl ?_
        refine J_callV2 (X' := fun _ _ => False) hS dX5_learnOrder_63 mvX5_130 ob152 rfl (by decide) (by decide) (Nat.le_of_ble_eq_true rfl) hR (fun _ _ q => q.elim) (c_valueOf (w := 1) (by decide) hR1 (fun g63 n1 n2 => ?_))
        have ef : rval lw (g1 152 3) (upd (g1 153) 4 wt) 1 = VG g lw 1 wt := by rw [← hV]; rfl
        show J S 0 0 g63 66 [some (.ref 148), some (.ref h), some (.ref 152), some (.int (nI (b * 6 + x))), some (.int ot), some (.int (nI k)), some (.int wt)] [.int _, .int (nI k), .int _, .ref h]
        rw [ef]
        refine J_callV3 (X' := fun _ _ => False) hS dX5_learnOrder_66 mvX5_140 hW.ob rfl (by decide) (by decide) (Nat.le_of_ble_eq_true rfl) hR (fun _ _ q => q.elim) (c_addToOrder hW hb hk6 ?_)
        refine J_goto (tgt := 115) hS dX5_learnOrder_69 (by decide) ?_
        refine J_iinc (lt := fun i2 => [some (.ref 148), some (.ref h), some (.ref 152), some (.int (nI (b * 6 + x))), some (.int ot), some (.int i2), some (.int wt)]) (v := 1) hS dX5_learnOrder_115 rfl (by decide) (fun _ => rfl) (fun i2 ei2 => ?_)
        refine J_goto (tgt := 19) hS dX5_learnOrder_118 (by decide) ?_
        refine nxt ot i2 wt _ (by rw [hot]; simp [oth, he]) ei2 (fun z h1 h2 h3 => by rw [u2_ne z h1, n1 z h2 h3]; exact f1 z h1 h2 h3) (upw g63 _ _ n1 rfl ?_) (fun v => by rw [u2_ne 153 (by omega), n2, upd4]; exact r1 v)
        rw [n1 (h + 9) (by omega) (by omega), ew, ew6, ewt]
end ClsJ


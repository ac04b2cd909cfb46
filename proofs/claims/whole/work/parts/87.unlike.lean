/-! THE REFERENCE: yards that are unlike, blurred, nearest -/
theorem hl_t {P : Nat → Bool} {k : Nat} (h : P k = true) : nI (here P k).length + 1 = nI (here P (k + 1)).length := by
  rw [here_succ, h, if_pos rfl, List.length_append]; exact nI_1 _
theorem hl_f {P : Nat → Bool} {k : Nat} (h : ¬ P k = true) : nI (here P k).length + 0 = nI (here P (k + 1)).length := by
  rw [here_succ, if_neg h, List.append_nil, n0, nI_add]; rfl
def FrG (g g' : Mm) : Prop := (∀ z, z ≠ 162 → z ≠ 205 → z ≠ 214 → g' z = g z) ∧ ∀ j, j ≠ 41 → g' 162 j = g 162 j
theorem FrG.trans {g g1 g2 : Mm} (a : FrG g g1) (b : FrG g1 g2) : FrG g g2 := ⟨fun z z1 z2 z3 => (b.1 z z1 z2 z3).trans (a.1 z z1 z2 z3), fun j hj => (b.2 j hj).trans (a.2 j hj)⟩
theorem FrG.z {g g' : Mm} (a : FrG g g') : FrZ g g' := ⟨fun z z1 _ _ _ _ _ z7 z8 _ _ => a.1 z z1 z7 z8, fun j hj => a.2 j (by omega)⟩
theorem FrG.put {g g' : Mm} {k : Nat} {v : Int32} (a : FrG g g') : FrG g (u2 g' 214 k v) := ⟨fun z z1 z2 z3 => by rw [u2_ne z z3]; exact a.1 z z1 z2 z3, fun j hj => by rw [u2_ne 162 (by decide)]; exact a.2 j hj⟩
theorem FrG.find {g g1 g2 : Mm} (a : FrG g g1) (b1 : ∀ z, z ≠ 162 → z ≠ 205 → g2 z = g1 z) (b2 : ∀ j, j ≠ 41 → g2 162 j = g1 162 j) : FrG g g2 := a.trans ⟨fun z z1 z2 _ => b1 z z1 z2, b2⟩
def unN (w : Wr) (n i j : Nat) : Nat := (here (fun c => decide (grN w n (nI i) c ≠ grN w n (nI j) c)) 9).length
theorem unN_le {w : Wr} {n i j : Nat} : unN w n i j ≤ 9 := here_len _ _
section RefU
variable {l : Launch} {E : Ey} {g : Mm} {Q : Option Value → Mm → Prop} {X : String → Mm → Prop} {w : Wr} {n : Nat}
set_option maxRecDepth 10000 in
theorem m_unlikeOf {i j : Nat} (hI : RI g w n) (hi : i < 3) (hj : j < 3) (q0 : ((here (thrW w (nI i)) n).length = 0 ∨ (here (thrW w (nI j)) n).length = 0) → ∀ g', FrG g g' → Q (some (.int (-1))) g') (q : ¬ (here (thrW w (nI i)) n).length = 0 → ¬ (here (thrW w (nI j)) n).length = 0 → ∀ g', FrG g g' → Q (some (.int (nI (unN w n i j)))) g') : Ct l E lay NC 2 0 0 yX8_unlikeOf [.ref 162, .int (nI i), .int (nI j)] g Q X := by
  have hn := hI.hn
  have hli := here_len (thrW w (nI i)) n
  have hlj := here_len (thrW w (nI j)) n
  refine Ct_in k_yX8_unlikeOf (by decide) rfl (Nat.le_of_ble_eq_true rfl) rfl ?_
  intro S hS hZ hr ht hR
  show J S 0 0 (g) 0 [some (.ref 162), some (.int (nI i)), some (.int (nI j)), none, none] []
  refine J_aload_n hS dX8_unlikeOf_0 rfl ?_
  refine J_iload_n hS dX8_unlikeOf_1 rfl ?_
  refine J_callV1 (X' := fun _ _ => False) hS dX8_unlikeOf_2 mvX8_344 ob162 rfl (by first | decide | omega) (by decide) (Nat.le_of_ble_eq_true rfl) ⟨Nat.le_trans (by decide) hR.1, Nat.le_trans (by decide) hR.2⟩ (fun _ _ q => q.elim) (m_findHere Rw4 hI.w3 hn hI.m6 (hI.tm (y := nI i)) (fun g1 b1 b2 b3 b4 => ?_))
  refine J_aload_n hS dX8_unlikeOf_5 rfl ?_
  refine J_getI hS dX8_unlikeOf_6 flX8_335 ob162 rfl ?_
  have f1 : FrG g g1 := ⟨fun z z1 z2 _ => b1 z z1 z2, b2⟩
  show J S 0 0 (g1) 9 [some (.ref 162), some (.int (nI i)), some (.int (nI j)), none, none] [.int _]
  rw [b3]
  refine J_if_ne (tgt := 14) hS dX8_unlikeOf_9 (by decide) (fun c1 => ?_) (fun c1 => ?_)
  · have ni : ¬ (here (thrW w (nI i)) n).length = 0 := fun z => c1 (by rw [z]; rfl)
    refine J_iconst (v := 0) hS dX8_unlikeOf_14 (by decide) ?_
    refine J_istore_n (lt := fun x3 => [some (.ref 162), some (.int (nI i)), some (.int (nI j)), some (.int x3), none]) hS dX8_unlikeOf_15 (Nat.le_of_ble_eq_true rfl) (fun _ => rfl) (fun x3 ex3 => ?_)
    suffices H : ∀ (t c : Nat) (v : Int32) (g2 : Mm), c + t = 9 → v = nI c → FrG g g2 → g2 162 41 = nI (here (thrW w (nI i)) n).length → (∀ k, k < (here (thrW w (nI i)) n).length → g2 205 k = nI ((here (thrW w (nI i)) n).getD k 0)) → (∀ k, k < c → g2 214 k = nI (grN w n (nI i) k)) → J S 0 0 g2 16 [some (.ref 162), some (.int (nI i)), some (.int (nI j)), some (.int v), none] [] by
      exact H 9 0 x3 g1 (by omega) ex3 f1 b3 b4 (fun k hk => absurd hk (by omega))
    intro t
    induction t with
    | zero =>
      intro c v g2 hc hv f2 k1 k2 k3
      have e : c = 9 := by omega
      subst e; subst hv
      have i2 := hI.fr f2.z
      refine J_iload_n hS dX8_unlikeOf_16 rfl ?_
      refine J_bipush (v := 9) hS dX8_unlikeOf_17 (by decide) ?_
      refine J_icmp_ge (tgt := 65) hS dX8_unlikeOf_19 (by decide) (fun c2 => ?_) (fun c2 => ?_)
      ·
        refine J_aload_n hS dX8_unlikeOf_65 rfl ?_
        refine J_iload_n hS dX8_unlikeOf_66 rfl ?_
        refine J_callV1 (X' := fun _ _ => False) hS dX8_unlikeOf_67 mvX8_344 ob162 rfl (by first | decide | omega) (by decide) (Nat.le_of_ble_eq_true rfl) ⟨Nat.le_trans (by decide) hR.1, Nat.le_trans (by decide) hR.2⟩ (fun _ _ q => q.elim) (m_findHere Rw4 i2.w3 hn i2.m6 (i2.tm (y := nI j)) (fun g3 b5 b6 b7 b8 => ?_))
        refine J_aload_n hS dX8_unlikeOf_70 rfl ?_
        refine J_getI hS dX8_unlikeOf_71 flX8_335 ob162 rfl ?_
        have f3 : FrG g g3 := f2.find b5 b6
        have k5 : ∀ k, k < 9 → g3 214 k = nI (grN w n (nI i) k) := fun k hk => by rw [b5 214 (by decide) (by decide)]; exact k3 k hk
        show J S 0 0 (g3) 74 [some (.ref 162), some (.int (nI i)), some (.int (nI j)), some (.int (nI 9)), none] [.int _]
        rw [b7]
        refine J_if_ne (tgt := 79) hS dX8_unlikeOf_74 (by decide) (fun c3 => ?_) (fun c3 => ?_)
        · have nj : ¬ (here (thrW w (nI j)) n).length = 0 := fun z => c3 (by rw [z]; rfl)
          have qq := q ni nj g3 f3
          unfold unN at qq
          obtain ⟨P, hP⟩ : ∃ P : Nat → Bool, P = fun c => decide (grN w n (nI i) c ≠ grN w n (nI j) c) := ⟨_, rfl⟩
          rw [← hP] at qq
          refine J_iconst (v := 0) hS dX8_unlikeOf_79 (by decide) ?_
          refine J_istore_n (lt := fun n1 => [some (.ref 162), some (.int (nI i)), some (.int (nI j)), some (.int n1), none]) hS dX8_unlikeOf_80 (Nat.le_of_ble_eq_true rfl) (fun _ => rfl) (fun n1 en1 => ?_)
          refine J_iconst (v := 0) hS dX8_unlikeOf_81 (by decide) ?_
          refine J_istore (lt := fun c4 => [some (.ref 162), some (.int (nI i)), some (.int (nI j)), some (.int n1), some (.int c4)]) hS dX8_unlikeOf_82 (Nat.le_of_ble_eq_true rfl) (fun _ => rfl) (fun c4 ec4 => ?_)
          suffices H2 : ∀ (u c : Nat) (f v : Int32), c + u = 9 → v = nI c → f = nI (here P c).length → J S 0 0 g3 84 [some (.ref 162), some (.int (nI i)), some (.int (nI j)), some (.int f), some (.int v)] [] by
            exact H2 9 0 n1 c4 (by omega) ec4 en1
          intro u
          induction u with
          | zero =>
            intro c f v hc hv hf
            have e : c = 9 := by omega
            subst e; subst hv
            refine J_iload hS dX8_unlikeOf_84 rfl ?_
            refine J_bipush (v := 9) hS dX8_unlikeOf_86 (by decide) ?_
            refine J_icmp_ge (tgt := 148) hS dX8_unlikeOf_88 (by decide) (fun c5 => ?_) (fun c5 => ?_)
            ·
              refine J_iload_n hS dX8_unlikeOf_148 rfl ?_
              refine J_iret hS hZ hr dX8_unlikeOf_149 (by omega) (by omega) ?_
              rw [hf]; exact qq
            · exact absurd (by decide) c5
          | succ u ih2 =>
            intro c f v hc hv hf
            subst hv
            have hc9 : c < 9 := by omega
            have aft : J S 0 0 g3 132 [some (.ref 162), some (.int (nI i)), some (.int (nI j)), some (.int f), some (.int (nI c))] [.int (nI (grN w n (nI j) c)), .int (nI (grN w n (nI i) c)), .int f] := by
              have l1 : grN w n (nI i) c < 16 := grN_lt
              have l2 : grN w n (nI j) c < 16 := grN_lt
              refine J_icmp_eq (tgt := 139) hS dX8_unlikeOf_132 (by decide) (fun c6 => ?_) (fun c6 => ?_)
              ·
                refine J_iconst (v := 0) hS dX8_unlikeOf_139 (by decide) ?_
                refine J_iadd hS dX8_unlikeOf_140 ?_
                refine J_istore_n (lt := fun f2 => [some (.ref 162), some (.int (nI i)), some (.int (nI j)), some (.int f2), some (.int (nI c))]) hS dX8_unlikeOf_141 (Nat.le_of_ble_eq_true rfl) (fun _ => rfl) (fun f2 ef2 => ?_)
                refine J_iinc (lt := fun v2 => [some (.ref 162), some (.int (nI i)), some (.int (nI j)), some (.int f2), some (.int v2)]) (v := 1) hS dX8_unlikeOf_142 rfl (by decide) (fun _ => rfl) (fun v2 ev2 => ?_)
                refine J_goto (tgt := 84) hS dX8_unlikeOf_145 (by decide) ?_
                refine ih2 (c + 1) f2 v2 (by omega) (by rw [ev2]; exact nI_1 c) ?_
                rw [ef2, hf]; refine hl_f ?_
                rw [hP]; show ¬ decide _ = true; rw [decide_eq_true_iff]; exact fun z => z (nI_eq16 l1 l2 c6)
              ·
                refine J_iconst (v := 1) hS dX8_unlikeOf_135 (by decide) ?_
                refine J_goto (tgt := 140) hS dX8_unlikeOf_136 (by decide) ?_
                refine J_iadd hS dX8_unlikeOf_140 ?_
                refine J_istore_n (lt := fun f2 => [some (.ref 162), some (.int (nI i)), some (.int (nI j)), some (.int f2), some (.int (nI c))]) hS dX8_unlikeOf_141 (Nat.le_of_ble_eq_true rfl) (fun _ => rfl) (fun f2 ef2 => ?_)
                refine J_iinc (lt := fun v2 => [some (.ref 162), some (.int (nI i)), some (.int (nI j)), some (.int f2), some (.int v2)]) (v := 1) hS dX8_unlikeOf_142 rfl (by decide) (fun _ => rfl) (fun v2 ev2 => ?_)
                refine J_goto (tgt := 84) hS dX8_unlikeOf_145 (by decide) ?_
                refine ih2 (c + 1) f2 v2 (by omega) (by rw [ev2]; exact nI_1 c) ?_
                rw [ef2, hf]; refine hl_t ?_
                rw [hP]; show decide _ = true; rw [decide_eq_true_iff]; exact fun z => c6 (by rw [z])
            refine J_iload hS dX8_unlikeOf_84 rfl ?_
            refine J_bipush (v := 9) hS dX8_unlikeOf_86 (by decide) ?_
            refine J_icmp_ge (tgt := 148) hS dX8_unlikeOf_88 (by decide) (fun c5 => ?_) (fun c5 => ?_)
            · exact absurd c5 (nI_ge hc9 (by decide))
            ·
              refine J_iload_n hS dX8_unlikeOf_91 rfl ?_
              refine J_aload_n hS dX8_unlikeOf_92 rfl ?_
              refine J_getR (t := 214) hS dX8_unlikeOf_93 flX8_93 ob162 rfl ?_
              refine J_iload hS dX8_unlikeOf_96 rfl ?_
              refine J_ialdN hS (c) dX8_unlikeOf_98 (show Ar lay NC .int 214 9 from arM 51 9 (by decide) (by decide) rfl) (by first | rfl | (simp only [n0, n1, n2, n3, n4, n5, n6, n7, n8, n9, n10, n11, n12, n13, n14, n15, n16, n17, n18, n19, n20, n24, n32, n56, n60, n64, n72, n99, n100, n128, n136, n142, n144, n200, n300, n999, n1000, n1500, n3464, nI_add, pk_mul] <;> first | rfl | (congr 1; omega))) (by omega) (by decide) ?_
              show J S 0 0 (g3) 99 [some (.ref 162), some (.int (nI i)), some (.int (nI j)), some (.int f), some (.int (nI c))] [.int _, .int f]
              rw [k5 c hc9]
              refine J_iload hS dX8_unlikeOf_99 rfl ?_
              refine J_bipush (v := 8) hS dX8_unlikeOf_101 (by decide) ?_
              refine J_icmp_ge (tgt := 123) hS dX8_unlikeOf_103 (by decide) (fun c6 => ?_) (fun c6 => ?_)
              · have e8 : c = 8 := by
                  have : 8 ≤ c := by
                    refine Nat.le_of_not_lt (fun z => ?_)
                    exact nI_ge z (by decide) c6
                  omega
                refine J_aload_n hS dX8_unlikeOf_123 rfl ?_
                refine J_sipush (v := 136) hS dX8_unlikeOf_124 (by decide) ?_
                refine J_bipush (v := 6) hS dX8_unlikeOf_127 (by decide) ?_
                show J S 0 0 (g3) 129 [some (.ref 162), some (.int (nI i)), some (.int (nI j)), some (.int f), some (.int (nI c))] [.int 6, .int 136, .ref 162, .int (nI (grN w n (nI i) c)), .int f]
                refine J_callV2 (X' := fun _ _ => False) hS dX8_unlikeOf_129 mvX8_380 ob162 rfl (by first | decide | omega) (by decide) (Nat.le_of_ble_eq_true rfl) ⟨Nat.le_trans (by decide) hR.1, Nat.le_trans (by decide) hR.2⟩ (fun _ _ q => q.elim) (m_gr (c := c) (y := nI j) hI (fun z z1 z2 z3 => f3.1 z z1 z2 z3) f3.2 b7 b8 hc9 (by rw [if_neg (by omega)]) (by rw [if_neg (by omega)]) ?_)
                exact aft
              · have l8 : c < 8 := by
                  refine Nat.lt_of_not_le (fun z => c6 ?_)
                  exact nI_le z (by omega)
                refine J_aload_n hS dX8_unlikeOf_106 rfl ?_
                refine J_bipush (v := 8) hS dX8_unlikeOf_107 (by decide) ?_
                refine J_bipush (v := 16) hS dX8_unlikeOf_109 (by decide) ?_
                refine J_iload hS dX8_unlikeOf_111 rfl ?_
                refine J_imul hS dX8_unlikeOf_113 ?_
                refine J_iadd hS dX8_unlikeOf_114 ?_
                refine J_bipush (v := 16) hS dX8_unlikeOf_115 (by decide) ?_
                show J S 0 0 (g3) 117 [some (.ref 162), some (.int (nI i)), some (.int (nI j)), some (.int f), some (.int (nI c))] [.int 16, .int _, .ref 162, .int (nI (grN w n (nI i) c)), .int f]
                rw [n8, n16, pk_mul, nI_add]
                refine J_callV2 (X' := fun _ _ => False) hS dX8_unlikeOf_117 mvX8_380 ob162 rfl (by first | decide | omega) (by decide) (Nat.le_of_ble_eq_true rfl) ⟨Nat.le_trans (by decide) hR.1, Nat.le_trans (by decide) hR.2⟩ (fun _ _ q => q.elim) (m_gr (c := c) (y := nI j) hI (fun z z1 z2 z3 => f3.1 z z1 z2 z3) f3.2 b7 b8 hc9 (by rw [if_pos l8]) (by rw [if_pos l8]) ?_)
                refine J_goto (tgt := 132) hS dX8_unlikeOf_120 (by decide) ?_
                exact aft
        ·
          refine J_iconst (v := (-1)) hS dX8_unlikeOf_77 (by decide) ?_
          refine J_iret hS hZ hr dX8_unlikeOf_78 (by omega) (by omega) ?_
          exact q0 (Or.inr ((nI_eq (by omega) (by decide)).mp c3)) _ f3
      · exact absurd (by decide) c2
    | succ t ih =>
      intro c v g2 hc hv f2 k1 k2 k3
      subst hv
      have hc9 : c < 9 := by omega
      have aft : J S 0 0 g2 58 [some (.ref 162), some (.int (nI i)), some (.int (nI j)), some (.int (nI c)), none] [.int (nI (grN w n (nI i) c)), .int (nI c), .ref 214] := by
        refine J_iastN hS (c) dX8_unlikeOf_58 (show Ar lay NC .int 214 9 from arM 51 9 (by decide) (by decide) rfl) (by first | rfl | (simp only [n0, n1, n2, n3, n4, n5, n6, n7, n8, n9, n10, n11, n12, n13, n14, n15, n16, n17, n18, n19, n20, n24, n32, n56, n60, n64, n72, n99, n100, n128, n136, n142, n144, n200, n300, n999, n1000, n1500, n3464, nI_add, pk_mul] <;> first | rfl | (congr 1; omega))) (by omega) (by decide) (fun g58 eg58 => ?_)
        refine J_iinc (lt := fun v2 => [some (.ref 162), some (.int (nI i)), some (.int (nI j)), some (.int v2), none]) (v := 1) hS dX8_unlikeOf_59 rfl (by decide) (fun _ => rfl) (fun v2 ev2 => ?_)
        refine J_goto (tgt := 16) hS dX8_unlikeOf_62 (by decide) ?_
        refine ih (c + 1) v2 g58 (by omega) (by rw [ev2]; exact nI_1 c) (by rw [eg58]; exact f2.put) (by rw [eg58, u2_ne 162 (by decide)]; exact k1) (fun k hk => by rw [eg58, u2_ne 205 (by decide)]; exact k2 k hk) (fun k hk => ?_)
        rw [eg58, u2_at]
        split
        · rename_i e; rw [e]
        · exact k3 k (by omega)
      refine J_iload_n hS dX8_unlikeOf_16 rfl ?_
      refine J_bipush (v := 9) hS dX8_unlikeOf_17 (by decide) ?_
      refine J_icmp_ge (tgt := 65) hS dX8_unlikeOf_19 (by decide) (fun c2 => ?_) (fun c2 => ?_)
      · exact absurd c2 (nI_ge hc9 (by decide))
      ·
        refine J_aload_n hS dX8_unlikeOf_22 rfl ?_
        refine J_getR (t := 214) hS dX8_unlikeOf_23 flX8_93 ob162 rfl ?_
        refine J_iload_n hS dX8_unlikeOf_26 rfl ?_
        refine J_iload_n hS dX8_unlikeOf_27 rfl ?_
        refine J_bipush (v := 8) hS dX8_unlikeOf_28 (by decide) ?_
        refine J_icmp_ge (tgt := 49) hS dX8_unlikeOf_30 (by decide) (fun c6 => ?_) (fun c6 => ?_)
        · have e8 : c = 8 := by
            have : 8 ≤ c := by
              refine Nat.le_of_not_lt (fun z => ?_)
              exact nI_ge z (by decide) c6
            omega
          refine J_aload_n hS dX8_unlikeOf_49 rfl ?_
          refine J_sipush (v := 136) hS dX8_unlikeOf_50 (by decide) ?_
          refine J_bipush (v := 6) hS dX8_unlikeOf_53 (by decide) ?_
          show J S 0 0 (g2) 55 [some (.ref 162), some (.int (nI i)), some (.int (nI j)), some (.int (nI c)), none] [.int 6, .int 136, .ref 162, .int (nI c), .ref (214)]
          refine J_callV2 (X' := fun _ _ => False) hS dX8_unlikeOf_55 mvX8_380 ob162 rfl (by first | decide | omega) (by decide) (Nat.le_of_ble_eq_true rfl) ⟨Nat.le_trans (by decide) hR.1, Nat.le_trans (by decide) hR.2⟩ (fun _ _ q => q.elim) (m_gr (c := c) (y := nI i) hI (fun z z1 z2 z3 => f2.1 z z1 z2 z3) f2.2 k1 k2 hc9 (by rw [if_neg (by omega)]) (by rw [if_neg (by omega)]) ?_)
          exact aft
        · have l8 : c < 8 := by
            refine Nat.lt_of_not_le (fun z => c6 ?_)
            exact nI_le z (by omega)
          refine J_aload_n hS dX8_unlikeOf_33 rfl ?_
          refine J_bipush (v := 8) hS dX8_unlikeOf_34 (by decide) ?_
          refine J_bipush (v := 16) hS dX8_unlikeOf_36 (by decide) ?_
          refine J_iload_n hS dX8_unlikeOf_38 rfl ?_
          refine J_imul hS dX8_unlikeOf_39 ?_
          refine J_iadd hS dX8_unlikeOf_40 ?_
          refine J_bipush (v := 16) hS dX8_unlikeOf_41 (by decide) ?_
          show J S 0 0 (g2) 43 [some (.ref 162), some (.int (nI i)), some (.int (nI j)), some (.int (nI c)), none] [.int 16, .int _, .ref 162, .int (nI c), .ref (214)]
          rw [n8, n16, pk_mul, nI_add]
          refine J_callV2 (X' := fun _ _ => False) hS dX8_unlikeOf_43 mvX8_380 ob162 rfl (by first | decide | omega) (by decide) (Nat.le_of_ble_eq_true rfl) ⟨Nat.le_trans (by decide) hR.1, Nat.le_trans (by decide) hR.2⟩ (fun _ _ q => q.elim) (m_gr (c := c) (y := nI i) hI (fun z z1 z2 z3 => f2.1 z z1 z2 z3) f2.2 k1 k2 hc9 (by rw [if_pos l8]) (by rw [if_pos l8]) ?_)
          refine J_goto (tgt := 58) hS dX8_unlikeOf_46 (by decide) ?_
          exact aft
  ·
    refine J_iconst (v := (-1)) hS dX8_unlikeOf_12 (by decide) ?_
    refine J_iret hS hZ hr dX8_unlikeOf_13 (by omega) (by omega) ?_
    exact q0 (Or.inl ((nI_eq (by omega) (by decide)).mp c1)) _ f1
theorem m_unlike {y p : Int32} (hI : RI g w n) (x : ou 3 y ∨ ou 3 p → ∀ g', FrZ g g' → g' 162 0 = 1 → Q (some (.int 0)) g') (q0 : ∀ i j, i < 3 → y = nI i → j < 3 → p = nI j → ((here (thrW w (nI i)) n).length = 0 ∨ (here (thrW w (nI j)) n).length = 0) → ∀ g', FrZ g g' → g' 162 0 = 0 → Q (some (.int (-1))) g') (q : ∀ i j, i < 3 → y = nI i → j < 3 → p = nI j → ¬ (here (thrW w (nI i)) n).length = 0 → ¬ (here (thrW w (nI j)) n).length = 0 → ∀ g', FrZ g g' → g' 162 0 = 0 → Q (some (.int (nI (unN w n i j)))) g') : Ct l E lay NC 3 0 0 yX8_unlike [.ref 162, .int y, .int p] g Q X := by
  refine Ct_in k_yX8_unlike (by decide) rfl (Nat.le_of_ble_eq_true rfl) rfl ?_
  intro S hS hZ hr ht hR
  show J S 0 0 (g) 0 [some (.ref 162), some (.int y), some (.int p)] []
  refine J_aload_n hS dX8_unlike_0 rfl ?_
  refine J_iconst (v := 0) hS dX8_unlike_1 (by decide) ?_
  refine J_putI hS dX8_unlike_2 fpX8_1 ob162 rfl (fun g2 eg2 => ?_)
  have z2 : FrZ g g2 := by rw [eg2]; exact FrZ_thr
  have t2 : g2 162 0 = 0 := by rw [eg2, u2_self]
  have i2 := hI.fr z2
  have bad : ou 3 y ∨ ou 3 p → J S 0 0 g2 24 [some (.ref 162), some (.int y), some (.int p)] [.ref 162] := by
    intro b1
    refine J_iconst (v := 0) hS dX8_unlike_24 (by decide) ?_
    refine J_iconst (v := 1) hS dX8_unlike_25 (by decide) ?_
    refine J_callV2 (X' := fun _ _ => False) hS dX8_unlike_26 mvX8_110 ob162 rfl (by first | decide | omega) (by decide) (Nat.le_of_ble_eq_true rfl) ⟨Nat.le_trans (by decide) hR.1, Nat.le_trans (by decide) hR.2⟩ (fun _ _ q => q.elim) (m_mayN t2 (by decide) ?_)
    refine J_if_ne (tgt := 34) hS dX8_unlike_29 (by decide) (fun c2 => ?_) (fun c2 => ?_)
    · exact absurd rfl c2
    ·
      refine J_iconst (v := 0) hS dX8_unlike_32 (by decide) ?_
      refine J_iret hS hZ hr dX8_unlike_33 (by omega) (by omega) ?_
      exact x b1 _ (z2.trans FrZ_thr) (u2_self ..)
  rcases in_or (y := y) (b := 3) (by first | decide | omega) with ⟨i, hi, ei⟩ | hbi
  ·
    subst ei
    refine J_aload_n hS dX8_unlike_5 rfl ?_
    refine J_iload_n hS dX8_unlike_6 rfl ?_
    refine J_callS1 (X' := fun _ _ => False) hS dX8_unlike_7 msX8_117 rfl (by first | decide | omega) (by decide) (Nat.le_of_ble_eq_true rfl) ⟨Nat.le_trans (by decide) hR.1, Nat.le_trans (by decide) hR.2⟩ (fun _ _ q => q.elim) (m_yardY hi ?_)
    refine J_if_eq (tgt := 24) hS dX8_unlike_10 (by decide) (fun c1 => ?_) (fun c1 => ?_)
    · exact absurd c1 (by decide)
    ·
      rcases in_or (y := p) (b := 3) (by first | decide | omega) with ⟨j, hj, ej⟩ | hbj
      ·
        subst ej
        refine J_iload_n hS dX8_unlike_13 rfl ?_
        refine J_callS1 (X' := fun _ _ => False) hS dX8_unlike_14 msX8_117 rfl (by first | decide | omega) (by decide) (Nat.le_of_ble_eq_true rfl) ⟨Nat.le_trans (by decide) hR.1, Nat.le_trans (by decide) hR.2⟩ (fun _ _ q => q.elim) (m_yardY hj ?_)
        refine J_if_eq (tgt := 24) hS dX8_unlike_17 (by decide) (fun c2 => ?_) (fun c2 => ?_)
        · exact absurd c2 (by decide)
        ·
          refine J_iconst (v := 1) hS dX8_unlike_20 (by decide) ?_
          refine J_goto (tgt := 25) hS dX8_unlike_21 (by decide) ?_
          refine J_iconst (v := 1) hS dX8_unlike_25 (by decide) ?_
          refine J_callV2 (X' := fun _ _ => False) hS dX8_unlike_26 mvX8_110 ob162 rfl (by first | decide | omega) (by decide) (Nat.le_of_ble_eq_true rfl) ⟨Nat.le_trans (by decide) hR.1, Nat.le_trans (by decide) hR.2⟩ (fun _ _ q => q.elim) (m_mayY t2 (by decide) ?_)
          refine J_if_ne (tgt := 34) hS dX8_unlike_29 (by decide) (fun c3 => ?_) (fun c3 => ?_)
          · refine J_aload_n hS dX8_unlike_34 rfl ?_
            refine J_iload_n hS dX8_unlike_35 rfl ?_
            refine J_iload_n hS dX8_unlike_36 rfl ?_
            have fin : ∀ (v : Int32) (g3 : Mm), (Q (some (.int v)) g3) → J S 0 0 g3 40 [some (.ref 162), some (.int (nI i)), some (.int (nI j))] [.int v] := by
              intro v g3 hq
              refine J_iret hS hZ hr dX8_unlike_40 (by omega) (by omega) ?_
              exact hq
            refine J_callV2 (X' := fun _ _ => False) hS dX8_unlike_37 mvX8_377 ob162 rfl (by first | decide | omega) (by decide) (Nat.le_of_ble_eq_true rfl) ⟨Nat.le_trans (by decide) hR.1, Nat.le_trans (by decide) hR.2⟩ (fun _ _ q => q.elim) (m_unlikeOf i2 hi hj (fun z g3 f3 => fin _ g3 (q0 i j hi rfl hj rfl z g3 (z2.trans f3.z) (by rw [f3.2 0 (by decide)]; exact t2))) (fun z z' g3 f3 => fin _ g3 (q i j hi rfl hj rfl z z' g3 (z2.trans f3.z) (by rw [f3.2 0 (by decide)]; exact t2))))
          · exact absurd c3 (by decide)
      ·
        refine J_iload_n hS dX8_unlike_13 rfl ?_
        refine J_callS1 (X' := fun _ _ => False) hS dX8_unlike_14 msX8_117 rfl (by first | decide | omega) (by decide) (Nat.le_of_ble_eq_true rfl) ⟨Nat.le_trans (by decide) hR.1, Nat.le_trans (by decide) hR.2⟩ (fun _ _ q => q.elim) (m_yardN hbj ?_)
        refine J_if_eq (tgt := 24) hS dX8_unlike_17 (by decide) (fun c2 => ?_) (fun c2 => ?_)
        · exact bad (Or.inr hbj)
        · exact absurd rfl c2
  ·
    refine J_aload_n hS dX8_unlike_5 rfl ?_
    refine J_iload_n hS dX8_unlike_6 rfl ?_
    refine J_callS1 (X' := fun _ _ => False) hS dX8_unlike_7 msX8_117 rfl (by first | decide | omega) (by decide) (Nat.le_of_ble_eq_true rfl) ⟨Nat.le_trans (by decide) hR.1, Nat.le_trans (by decide) hR.2⟩ (fun _ _ q => q.elim) (m_yardN hbi ?_)
    refine J_if_eq (tgt := 24) hS dX8_unlike_10 (by decide) (fun c1 => ?_) (fun c1 => ?_)
    · exact bad (Or.inl hbi)
    · exact absurd rfl c1
end RefU


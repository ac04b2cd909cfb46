/-! THE REFERENCE: its public methods, 4 -/
theorem byt_s (x : Int32) : ∀ s, s = 24 ∨ s = 16 ∨ s = 8 ∨ s = (0 : Nat) → (x >>> (nI s &&& 31)) &&& 255 = byt x (nI s) := by
  intro s hs
  unfold byt
  apply Int32.toBitVec_inj.mp
  simp only [Int32.toBitVec_and]
  apply BitVec.eq_of_getLsbD_eq
  intro i hi
  simp only [BitVec.getLsbD_and]
  by_cases h : i < 8
  · congr 1
    have e1 : (x >>> (nI s &&& 31)).toBitVec = x.toBitVec.sshiftRight s := by
      show x.toBitVec.sshiftRight' ((nI s &&& 31).toBitVec.smod 32) = _
      show x.toBitVec.sshiftRight ((nI s &&& 31).toBitVec.smod 32).toNat = _
      rcases hs with e | e | e | e <;> subst e <;> congr 1
    have e2 : ((x.toUInt32 >>> ((nI s).toUInt32 &&& Int32.toUInt32 31)).toInt32).toBitVec = x.toBitVec >>> s := by
      show x.toBitVec.ushiftRight ((((nI s).toUInt32 &&& Int32.toUInt32 31).mod 32).toBitVec).toNat = _
      rcases hs with e | e | e | e <;> subst e <;> rfl
    rw [e1, e2, BitVec.getLsbD_sshiftRight, BitVec.getLsbD_ushiftRight]
    have : s + i < 32 := by omega
    simp [this, show ¬ 32 ≤ i by omega]
  · have z : ∀ i, i < 32 → (8 ≤ i → (255 : Int32).toBitVec.getLsbD i = false) := by decide
    rw [z i hi (by omega)]; simp
section RefP4
variable {l : Launch} {E : Ey} {g : Mm} {Q : Option Value → Mm → Prop} {X : String → Mm → Prop} {w : Wr} {n : Nat}
set_option maxRecDepth 10000 in
theorem m_feed {m : Nat} {a b c d e : Int32} (hm : m ≤ 300) (em : g 162 4 = nI m) (q0 : ¬ m + 20 ≤ 300 → ∀ g', FrZ g g' → g' 162 0 = 0 → Q (some (.int (-1))) g') (q : m + 20 ≤ 300 → ∀ g', (∀ z, z ≠ 162 → z ≠ 176 → g' z = g z) → (∀ j, j ≠ 0 → j ≠ 4 → g' 162 j = g 162 j) → g' 162 0 = 0 → g' 162 4 = nI (m + 20) → (∀ k, k < 20 → g' 176 (m + k) = byt (fed a b c d e (k / 4)) (shf (k % 4))) → (∀ i, (i < m ∨ m + 20 ≤ i) → g' 176 i = g 176 i) → Q (some (.int (nI (m + 20)))) g') : Ct l E lay NC 0 0 0 yX8_feed [.ref 162, .int a, .int b, .int c, .int d, .int e] g Q X := by
  refine Ct_in k_yX8_feed (by decide) rfl (Nat.le_of_ble_eq_true rfl) rfl ?_
  intro S hS hZ hr ht hR
  show J S 0 0 (g) 0 [some (.ref 162), some (.int a), some (.int b), some (.int c), some (.int d), some (.int e), none, none] []
  refine J_aload_n hS dX8_feed_0 rfl ?_
  refine J_iconst (v := 0) hS dX8_feed_1 (by decide) ?_
  refine J_putI hS dX8_feed_2 fpX8_1 ob162 rfl (fun g2 eg2 => ?_)
  refine J_aload_n hS dX8_feed_5 rfl ?_
  refine J_getI hS dX8_feed_6 flX8_135 ob162 rfl ?_
  have z2 : FrZ g g2 := by rw [eg2]; exact FrZ_thr
  have t2 : g2 162 0 = 0 := by rw [eg2, u2_self]
  have m2 : g2 162 4 = nI m := by rw [z2.2 4 (by decide)]; exact em
  show J S 0 0 (g2) 9 [some (.ref 162), some (.int a), some (.int b), some (.int c), some (.int d), some (.int e), none, none] [.int _]
  rw [m2]
  refine J_bipush (v := 20) hS dX8_feed_9 (by decide) ?_
  refine J_iadd hS dX8_feed_11 ?_
  show J S 0 0 (g2) 12 [some (.ref 162), some (.int a), some (.int b), some (.int c), some (.int d), some (.int e), none, none] [.int _]
  rw [n20, nI_add]
  refine J_sipush (v := 300) hS dX8_feed_12 (by decide) ?_
  refine J_icmp_le (tgt := 20) hS dX8_feed_15 (by decide) (fun c1 => ?_) (fun c1 => ?_)
  · have h20 : m + 20 ≤ 300 := by
      rcases Nat.lt_or_ge 300 (m + 20) with z | z
      · exact absurd (Int32.not_lt.mpr c1) (fun y => y (nI_lt z (by omega)))
      · exact z
    refine J_iconst (v := 0) hS dX8_feed_20 (by decide) ?_
    refine J_istore (lt := fun k6 => [some (.ref 162), some (.int a), some (.int b), some (.int c), some (.int d), some (.int e), some (.int k6), none]) hS dX8_feed_21 (Nat.le_of_ble_eq_true rfl) (fun _ => rfl) (fun k6 ek6 => ?_)
    suffices H : ∀ (s k : Nat) (i : Int32) (v7 : Option Value) (g1 : Mm), k + s = 20 → i = nI k → (∀ z, z ≠ 162 → z ≠ 176 → g1 z = g z) → (∀ j, j ≠ 0 → j ≠ 4 → g1 162 j = g 162 j) → g1 162 0 = 0 → g1 162 4 = nI (m + k) → (∀ k', k' < k → g1 176 (m + k') = byt (fed a b c d e (k' / 4)) (shf (k' % 4))) → (∀ i, (i < m ∨ m + k ≤ i) → g1 176 i = g 176 i) → J S 0 0 g1 23 [some (.ref 162), some (.int a), some (.int b), some (.int c), some (.int d), some (.int e), some (.int i), v7] [] by
      exact H 20 0 k6 none g2 (by omega) ek6 (fun z z1 _ => by rw [eg2, u2_ne z z1]) (fun j j1 _ => by rw [eg2]; unfold u2; rw [if_neg (fun z => j1 z.2)]) t2 m2 (fun k hk => absurd hk (by omega)) (fun i _ => by rw [eg2, u2_ne _ (by decide)])
    intro s
    induction s with
    | zero =>
      intro k i v7 g1 hk hi f1 f2 f3 f4 f5 f6
      have ek : k = 20 := by omega
      subst ek; subst hi
      refine J_weak (ls' := [some (.ref 162), some (.int a), some (.int b), some (.int c), some (.int d), some (.int e), some (.int (nI 20)), none]) ⟨Or.inr rfl, Or.inr rfl, Or.inr rfl, Or.inr rfl, Or.inr rfl, Or.inr rfl, Or.inr rfl, Or.inl rfl, trivial⟩ ?_
      refine J_iload hS dX8_feed_23 rfl ?_
      refine J_bipush (v := 20) hS dX8_feed_25 (by decide) ?_
      refine J_icmp_ge (tgt := 120) hS dX8_feed_27 (by decide) (fun d1 => ?_) (fun d1 => ?_)
      ·
        refine J_aload_n hS dX8_feed_120 rfl ?_
        refine J_getI hS dX8_feed_121 flX8_135 ob162 rfl ?_
        show J S 0 0 (g1) 124 [some (.ref 162), some (.int a), some (.int b), some (.int c), some (.int d), some (.int e), some (.int (nI 20)), none] [.int _]
        rw [f4]
        refine J_iret hS hZ hr dX8_feed_124 (by omega) (by omega) ?_
        exact q h20 g1 f1 f2 f3 f4 f5 f6
      · exact absurd (Int32.le_refl _) d1
    | succ s ih =>
      intro k i v7 g1 hk hi f1 f2 f3 f4 f5 f6
      subst hi
      have hk20 : k < 20 := by omega
      refine J_weak (ls' := [some (.ref 162), some (.int a), some (.int b), some (.int c), some (.int d), some (.int e), some (.int (nI k)), none]) ⟨Or.inr rfl, Or.inr rfl, Or.inr rfl, Or.inr rfl, Or.inr rfl, Or.inr rfl, Or.inr rfl, Or.inl rfl, trivial⟩ ?_
      have aft : ∀ x : Int32, x = fed a b c d e (k / 4) → J S 0 0 g1 76 [some (.ref 162), some (.int a), some (.int b), some (.int c), some (.int d), some (.int e), some (.int (nI k)), none] [.int x] := by
        intro x hx
        refine J_istore (lt := fun y7 => [some (.ref 162), some (.int a), some (.int b), some (.int c), some (.int d), some (.int e), some (.int (nI k)), some (.int y7)]) hS dX8_feed_76 (Nat.le_of_ble_eq_true rfl) (fun _ => rfl) (fun y7 ey7 => ?_)
        refine J_aload_n hS dX8_feed_78 rfl ?_
        refine J_getR (t := 176) hS dX8_feed_79 flX8_26 ob162 rfl ?_
        refine J_aload_n hS dX8_feed_82 rfl ?_
        refine J_getI hS dX8_feed_83 flX8_135 ob162 rfl ?_
        show J S 0 0 (g1) 86 [some (.ref 162), some (.int a), some (.int b), some (.int c), some (.int d), some (.int e), some (.int (nI k)), some (.int y7)] [.int _, .ref (176)]
        rw [f4]
        refine J_iload hS dX8_feed_86 rfl ?_
        refine J_bipush (v := 24) hS dX8_feed_88 (by decide) ?_
        refine J_bipush (v := 8) hS dX8_feed_90 (by decide) ?_
        refine J_iload hS dX8_feed_92 rfl ?_
        refine J_iconst (v := 4) hS dX8_feed_94 (by decide) ?_
        refine J_irem hS dX8_feed_95 (by decide) ?_
        show J S 0 0 (g1) 96 [some (.ref 162), some (.int a), some (.int b), some (.int c), some (.int d), some (.int e), some (.int (nI k)), some (.int y7)] [.int _, .int 8, .int 24, .int y7, .int _, .ref (176)]
        rw [n4, pk_rem (by omega) (by decide) (by decide), n8, n24]
        refine J_imul hS dX8_feed_96 ?_
        refine J_isub hS dX8_feed_97 ?_
        show J S 0 0 (g1) 98 [some (.ref 162), some (.int a), some (.int b), some (.int c), some (.int d), some (.int e), some (.int (nI k)), some (.int y7)] [.int _, .int y7, .int _, .ref (176)]
        rw [pk_mul, show nI 24 - nI (8 * (k % 4)) = nI (24 - 8 * (k % 4)) by rcases (show k % 4 = 0 ∨ k % 4 = 1 ∨ k % 4 = 2 ∨ k % 4 = 3 by omega) with z | z | z | z <;> rw [z] <;> rfl]
        refine J_ishr hS dX8_feed_98 ?_
        refine J_sipush (v := 255) hS dX8_feed_99 (by decide) ?_
        refine J_iand hS dX8_feed_102 ?_
        show J S 0 0 (g1) 103 [some (.ref 162), some (.int a), some (.int b), some (.int c), some (.int d), some (.int e), some (.int (nI k)), some (.int y7)] [.int _, .int _, .ref (176)]
        rw [byt_s _ (24 - 8 * (k % 4)) (by omega), show nI (24 - 8 * (k % 4)) = shf (k % 4) by rcases (show k % 4 = 0 ∨ k % 4 = 1 ∨ k % 4 = 2 ∨ k % 4 = 3 by omega) with z | z | z | z <;> rw [z] <;> rfl]
        refine J_iastN hS (m + k) dX8_feed_103 (show Ar lay NC .int 176 300 from arM 13 300 (by decide) (by decide) rfl) (by first | rfl | (simp only [n0, n1, n2, n3, n4, n5, n6, n7, n8, n9, n10, n11, n12, n13, n14, n15, n16, n17, n18, n19, n20, n24, n32, n56, n60, n64, n72, n99, n100, n128, n136, n142, n144, n200, n300, n999, n1000, n1500, n3464, nI_add, pk_mul] <;> first | rfl | (congr 1; omega))) (by omega) (by decide) (fun g103 eg103 => ?_)
        refine J_aload_n hS dX8_feed_104 rfl ?_
        refine J_dup hS dX8_feed_105 rfl ?_
        refine J_getI hS dX8_feed_106 flX8_135 ob162 rfl ?_
        show J S 0 0 (g103) 109 [some (.ref 162), some (.int a), some (.int b), some (.int c), some (.int d), some (.int e), some (.int (nI k)), some (.int y7)] [.int _, .ref 162]
        rw [show g103 162 4 = nI (m + k) by rw [eg103, u2_ne _ (by decide)]; exact f4]
        refine J_iconst (v := 1) hS dX8_feed_109 (by decide) ?_
        refine J_iadd hS dX8_feed_110 ?_
        refine J_putI hS dX8_feed_111 fpX8_135 ob162 rfl (fun g111 eg111 => ?_)
        refine J_iinc (lt := fun i2 => [some (.ref 162), some (.int a), some (.int b), some (.int c), some (.int d), some (.int e), some (.int i2), some (.int y7)]) (v := 1) hS dX8_feed_114 rfl (by decide) (fun _ => rfl) (fun i2 ei2 => ?_)
        refine J_goto (tgt := 23) hS dX8_feed_117 (by decide) ?_
        refine ih (k + 1) i2 _ g111 (by omega) (by rw [ei2]; exact nI_1 k) (fun z za zb => by rw [eg111, u2_ne z za, eg103, u2_ne z zb]; exact f1 z za zb) (fun j ja jb => ?_) ?_ (by rw [eg111, u2_self]; exact nI_1 (m + k)) (fun k' hk' => ?_) (fun i hi => ?_)
        · rw [eg111, u2_at, if_neg jb, eg103, u2_ne _ (by decide)]; exact f2 j ja jb
        · rw [eg111, u2_at, if_neg (by decide), eg103, u2_ne _ (by decide)]; exact f3
        · rw [eg111, u2_ne _ (by decide), eg103, u2_at]
          by_cases z : k' = k
          · subst z; rw [if_pos rfl, show y7 = _ from ey7, hx]
          · rw [if_neg (by omega)]; exact f5 k' (by omega)
        · rw [eg111, u2_ne _ (by decide), eg103, u2_at, if_neg (by omega)]; exact f6 i (by omega)
      refine J_iload hS dX8_feed_23 rfl ?_
      refine J_bipush (v := 20) hS dX8_feed_25 (by decide) ?_
      refine J_icmp_ge (tgt := 120) hS dX8_feed_27 (by decide) (fun d1 => ?_) (fun d1 => ?_)
      · exact absurd d1 (nI_ge hk20 (by decide))
      ·
        refine J_iload hS dX8_feed_30 rfl ?_
        refine J_iconst (v := 4) hS dX8_feed_32 (by decide) ?_
        refine J_icmp_ge (tgt := 40) hS dX8_feed_33 (by decide) (fun d2 => ?_) (fun d2 => ?_)
        · have l2 : 4 ≤ k := by
            rcases Nat.lt_or_ge k 4 with z | z
            · exact absurd d2 (nI_ge z (by decide))
            · exact z
          refine J_iload hS dX8_feed_40 rfl ?_
          refine J_bipush (v := 8) hS dX8_feed_42 (by decide) ?_
          refine J_icmp_ge (tgt := 51) hS dX8_feed_44 (by decide) (fun d3 => ?_) (fun d3 => ?_)
          · have l3 : 8 ≤ k := by
              rcases Nat.lt_or_ge k 8 with z | z
              · exact absurd d3 (nI_ge z (by decide))
              · exact z
            refine J_iload hS dX8_feed_51 rfl ?_
            refine J_bipush (v := 12) hS dX8_feed_53 (by decide) ?_
            refine J_icmp_ge (tgt := 62) hS dX8_feed_55 (by decide) (fun d4 => ?_) (fun d4 => ?_)
            · have l4 : 12 ≤ k := by
                rcases Nat.lt_or_ge k 12 with z | z
                · exact absurd d4 (nI_ge z (by decide))
                · exact z
              refine J_iload hS dX8_feed_62 rfl ?_
              refine J_bipush (v := 16) hS dX8_feed_64 (by decide) ?_
              refine J_icmp_ge (tgt := 74) hS dX8_feed_66 (by decide) (fun d5 => ?_) (fun d5 => ?_)
              · have l5 : 16 ≤ k := by
                  rcases Nat.lt_or_ge k 16 with z | z
                  · exact absurd d5 (nI_ge z (by decide))
                  · exact z
                refine J_iload hS dX8_feed_74 rfl ?_
                exact aft e (by rw [show k / 4 = 4 by omega]; rfl)
              · have l5 : k < 16 := by
                  rcases Nat.lt_or_ge k 16 with z | z
                  · exact z
                  · exact absurd (nI_le z (by omega)) d5
                refine J_iload hS dX8_feed_69 rfl ?_
                refine J_goto (tgt := 76) hS dX8_feed_71 (by decide) ?_
                exact aft d (by rw [show k / 4 = 3 by omega]; rfl)
            · have l4 : k < 12 := by
                rcases Nat.lt_or_ge k 12 with z | z
                · exact z
                · exact absurd (nI_le z (by omega)) d4
              refine J_iload_n hS dX8_feed_58 rfl ?_
              refine J_goto (tgt := 76) hS dX8_feed_59 (by decide) ?_
              exact aft c (by rw [show k / 4 = 2 by omega]; rfl)
          · have l3 : k < 8 := by
              rcases Nat.lt_or_ge k 8 with z | z
              · exact z
              · exact absurd (nI_le z (by omega)) d3
            refine J_iload_n hS dX8_feed_47 rfl ?_
            refine J_goto (tgt := 76) hS dX8_feed_48 (by decide) ?_
            exact aft b (by rw [show k / 4 = 1 by omega]; rfl)
        · have l2 : k < 4 := by
            rcases Nat.lt_or_ge k 4 with z | z
            · exact z
            · exact absurd (nI_le z (by omega)) d2
          refine J_iload_n hS dX8_feed_36 rfl ?_
          refine J_goto (tgt := 76) hS dX8_feed_37 (by decide) ?_
          exact aft a (by rw [show k / 4 = 0 by omega]; rfl)
  ·
    refine J_iconst (v := (-1)) hS dX8_feed_18 (by decide) ?_
    refine J_iret hS hZ hr dX8_feed_19 (by omega) (by omega) ?_
    refine q0 (fun z => c1 ?_) g2 z2 t2
    exact nI_le z (by decide)
theorem m_end {f : Nat} (hf : ¬ g 162 46 = -1 → f < 3 ∧ g 162 46 = nI f) (q0 : g 162 46 = -1 → ∀ g', FrZ g g' → g' 162 0 = 0 → Q (some (.int (-1))) g') (q : ¬ g 162 46 = -1 → Q (some (.int (g 211 f))) (u2 (u2 g 162 0 0) 162 46 (-1))) : Ct l E lay NC 0 0 0 yX8_end [.ref 162] g Q X := by
  refine Ct_in k_yX8_end (by decide) rfl (Nat.le_of_ble_eq_true rfl) rfl ?_
  intro S hS hZ hr ht hR
  show J S 0 0 (g) 0 [some (.ref 162), none] []
  refine J_aload_n hS dX8_end_0 rfl ?_
  refine J_iconst (v := 0) hS dX8_end_1 (by decide) ?_
  refine J_putI hS dX8_end_2 fpX8_1 ob162 rfl (fun g2 eg2 => ?_)
  refine J_aload_n hS dX8_end_5 rfl ?_
  refine J_getI hS dX8_end_6 flX8_77 ob162 rfl ?_
  have z2 : FrZ g g2 := by rw [eg2]; exact FrZ_thr
  show J S 0 0 (g2) 9 [some (.ref 162), none] [.int _]
  rw [z2.2 46 (by decide)]
  refine J_iconst (v := (-1)) hS dX8_end_9 (by decide) ?_
  refine J_icmp_ne (tgt := 15) hS dX8_end_10 (by decide) (fun c1 => ?_) (fun c1 => ?_)
  · obtain ⟨f3, ef⟩ := hf c1
    refine J_aload_n hS dX8_end_15 rfl ?_
    refine J_getR (t := 211) hS dX8_end_16 flX8_83 ob162 rfl ?_
    refine J_aload_n hS dX8_end_19 rfl ?_
    refine J_getI hS dX8_end_20 flX8_77 ob162 rfl ?_
    show J S 0 0 (g2) 23 [some (.ref 162), none] [.int _, .ref (211)]
    rw [z2.2 46 (by decide), ef]
    refine J_ialdN hS (f) dX8_end_23 (show Ar lay NC .int 211 3 from arM 48 3 (by decide) (by decide) rfl) (by first | rfl | (simp only [n0, n1, n2, n3, n4, n5, n6, n7, n8, n9, n10, n11, n12, n13, n14, n15, n16, n17, n18, n19, n20, n24, n32, n56, n60, n64, n72, n99, n100, n128, n136, n142, n144, n200, n300, n999, n1000, n1500, n3464, nI_add, pk_mul] <;> first | rfl | (congr 1; omega))) (by omega) (by decide) ?_
    refine J_istore_n (lt := fun x1 => [some (.ref 162), some (.int x1)]) hS dX8_end_24 (Nat.le_of_ble_eq_true rfl) (fun _ => rfl) (fun x1 ex1 => ?_)
    refine J_aload_n hS dX8_end_25 rfl ?_
    refine J_iconst (v := (-1)) hS dX8_end_26 (by decide) ?_
    refine J_putI hS dX8_end_27 fpX8_77 ob162 rfl (fun g27 eg27 => ?_)
    refine J_iload_n hS dX8_end_30 rfl ?_
    refine J_iret hS hZ hr dX8_end_31 (by omega) (by omega) ?_
    rw [eg27, eg2, show x1 = g 211 f by rw [ex1, eg2, u2_ne _ (by decide)]]
    exact q c1
  ·
    refine J_iconst (v := (-1)) hS dX8_end_13 (by decide) ?_
    refine J_iret hS hZ hr dX8_end_14 (by omega) (by omega) ?_
    exact q0 c1 g2 z2 (by rw [eg2, u2_self])
theorem m_gap {f0 t0 : Int32} {fc : Nat} {mn : Nat → Nat} (hfc : fc ≤ 3) (efc : g 162 45 = nI fc) (hmn : ∀ f, f < fc → mn f ≤ 100 ∧ g 211 f = nI (mn f)) (x : ou fc f0 → ∀ g', FrZ g g' → g' 162 0 = 1 → Q (some (.int 0)) g') (x2 : ∀ f, f < fc → f0 = nI f → ou (mn f) t0 → ∀ g', FrZ g g' → g' 162 0 = 2 → Q (some (.int 0)) g') (q : ∀ f t, f < fc → f0 = nI f → t < mn f → t0 = nI t → ¬ g 213 (100 * f + t) = 0 → ∀ g', FrZ g g' → g' 162 0 = 0 → Q (some (.int 0)) g') (q' : ∀ f t, f < fc → f0 = nI f → t < mn f → t0 = nI t → g 213 (100 * f + t) = 0 → Q (some (.int 1)) (u2 (u2 g 162 0 0) 213 (100 * f + t) 1)) : Ct l E lay NC 2 0 0 yX8_gap [.ref 162, .int f0, .int t0] g Q X := by
  refine Ct_in k_yX8_gap (by decide) rfl (Nat.le_of_ble_eq_true rfl) rfl ?_
  intro S hS hZ hr ht hR
  show J S 0 0 (g) 0 [some (.ref 162), some (.int f0), some (.int t0)] []
  refine J_aload_n hS dX8_gap_0 rfl ?_
  refine J_iconst (v := 0) hS dX8_gap_1 (by decide) ?_
  refine J_putI hS dX8_gap_2 fpX8_1 ob162 rfl (fun g2 eg2 => ?_)
  have z2 : FrZ g g2 := by rw [eg2]; exact FrZ_thr
  have t2 : g2 162 0 = 0 := by rw [eg2, u2_self]
  have e2 : g2 162 45 = nI fc := by rw [z2.2 45 (by decide)]; exact efc
  rcases in_or (y := f0) (b := fc) (by first | decide | omega) with ⟨f, hf, ef⟩ | hbf
  ·
    subst ef
    obtain ⟨hm1, hm2⟩ := hmn f hf
    refine J_aload_n hS dX8_gap_5 rfl ?_
    refine J_iload_n hS dX8_gap_6 rfl ?_
    refine J_callV1 (X' := fun _ _ => False) hS dX8_gap_7 mvX8_359 ob162 rfl (by first | decide | omega) (by decide) (Nat.le_of_ble_eq_true rfl) ⟨Nat.le_trans (by decide) hR.1, Nat.le_trans (by decide) hR.2⟩ (fun _ _ q => q.elim) (m_filmY hfc e2 t2 hf ?_)
    refine J_if_eq (tgt := 34) hS dX8_gap_10 (by decide) (fun c1 => ?_) (fun c1 => ?_)
    · exact absurd c1 (by decide)
    ·
      refine J_aload_n hS dX8_gap_13 rfl ?_
      refine J_iload_n hS dX8_gap_14 rfl ?_
      refine J_iconst (v := 0) hS dX8_gap_15 (by decide) ?_
      refine J_aload_n hS dX8_gap_16 rfl ?_
      refine J_getR (t := 211) hS dX8_gap_17 flX8_83 ob162 rfl ?_
      refine J_iload_n hS dX8_gap_20 rfl ?_
      refine J_ialdN hS (f) dX8_gap_21 (show Ar lay NC .int 211 3 from arM 48 3 (by decide) (by decide) rfl) (by first | rfl | (simp only [n0, n1, n2, n3, n4, n5, n6, n7, n8, n9, n10, n11, n12, n13, n14, n15, n16, n17, n18, n19, n20, n24, n32, n56, n60, n64, n72, n99, n100, n128, n136, n142, n144, n200, n300, n999, n1000, n1500, n3464, nI_add, pk_mul] <;> first | rfl | (congr 1; omega))) (by omega) (by decide) ?_
      show J S 0 0 (g2) 22 [some (.ref 162), some (.int (nI f)), some (.int t0)] [.int _, .int 0, .int t0, .ref 162]
      rw [show g2 211 f = nI (mn f) by rw [eg2, u2_ne _ (by decide)]; exact hm2]
      obtain ⟨mf, hmf⟩ : ∃ mf, mf = mn f := ⟨_, rfl⟩
      rw [← hmf]
      rw [← hmf] at hm1
      rcases in_or (y := t0) (b := mf) (by first | decide | omega) with ⟨t, ht, et⟩ | hbt
      ·
        subst et
        refine J_iconst (v := 1) hS dX8_gap_22 (by decide) ?_
        refine J_isub hS dX8_gap_23 ?_
        refine J_callS3 (X' := fun _ _ => False) hS dX8_gap_24 msX8_106 rfl (by first | decide | omega) (by decide) (Nat.le_of_ble_eq_true rfl) ⟨Nat.le_trans (by decide) hR.1, Nat.le_trans (by decide) hR.2⟩ (fun _ _ q => q.elim) (m_ouY (m := mf) (by omega) rfl ht ?_)
        refine J_iconst (v := 2) hS dX8_gap_27 (by decide) ?_
        refine J_callV2 (X' := fun _ _ => False) hS dX8_gap_28 mvX8_110 ob162 rfl (by first | decide | omega) (by decide) (Nat.le_of_ble_eq_true rfl) ⟨Nat.le_trans (by decide) hR.1, Nat.le_trans (by decide) hR.2⟩ (fun _ _ q => q.elim) (m_mayY t2 (by decide) ?_)
        refine J_if_ne (tgt := 36) hS dX8_gap_31 (by decide) (fun c2 => ?_) (fun c2 => ?_)
        ·
          refine J_aload_n hS dX8_gap_36 rfl ?_
          refine J_getR (t := 213) hS dX8_gap_37 flX8_89 ob162 rfl ?_
          refine J_bipush (v := 100) hS dX8_gap_40 (by decide) ?_
          refine J_iload_n hS dX8_gap_42 rfl ?_
          refine J_imul hS dX8_gap_43 ?_
          refine J_iload_n hS dX8_gap_44 rfl ?_
          refine J_iadd hS dX8_gap_45 ?_
          refine J_zaldN hS (100 * f + t) dX8_gap_46 az213 (by rw [n100, pk_mul, nI_add]) (by omega) (by decide) ?_
          show J S 0 0 (g2) 47 [some (.ref 162), some (.int (nI f)), some (.int (nI t))] [.int _]
          rw [show g2 213 (100 * f + t) = g 213 (100 * f + t) by rw [eg2, u2_ne _ (by decide)]]
          refine J_if_eq (tgt := 52) hS dX8_gap_47 (by decide) (fun c3 => ?_) (fun c3 => ?_)
          ·
            refine J_aload_n hS dX8_gap_52 rfl ?_
            refine J_getR (t := 213) hS dX8_gap_53 flX8_89 ob162 rfl ?_
            refine J_bipush (v := 100) hS dX8_gap_56 (by decide) ?_
            refine J_iload_n hS dX8_gap_58 rfl ?_
            refine J_imul hS dX8_gap_59 ?_
            refine J_iload_n hS dX8_gap_60 rfl ?_
            refine J_iadd hS dX8_gap_61 ?_
            refine J_iconst (v := 1) hS dX8_gap_62 (by decide) ?_
            refine J_zastN hS (100 * f + t) dX8_gap_63 az213 (by rw [n100, pk_mul, nI_add]) (by omega) (by decide) (by decide) (fun g63 eg63 => ?_)
            refine J_iconst (v := 1) hS dX8_gap_64 (by decide) ?_
            refine J_iret hS hZ hr dX8_gap_65 (by omega) (by omega) ?_
            rw [eg63, eg2]
            exact q' f t hf rfl (by rw [← hmf]; exact ht) rfl c3
          ·
            refine J_iconst (v := 0) hS dX8_gap_50 (by decide) ?_
            refine J_iret hS hZ hr dX8_gap_51 (by omega) (by omega) ?_
            exact q f t hf rfl (by rw [← hmf]; exact ht) rfl c3 g2 z2 t2
        · exact absurd c2 (by decide)
      ·
        refine J_iconst (v := 1) hS dX8_gap_22 (by decide) ?_
        refine J_isub hS dX8_gap_23 ?_
        refine J_callS3 (X' := fun _ _ => False) hS dX8_gap_24 msX8_106 rfl (by first | decide | omega) (by decide) (Nat.le_of_ble_eq_true rfl) ⟨Nat.le_trans (by decide) hR.1, Nat.le_trans (by decide) hR.2⟩ (fun _ _ q => q.elim) (m_ouN (m := mf) (by omega) rfl hbt ?_)
        refine J_iconst (v := 2) hS dX8_gap_27 (by decide) ?_
        refine J_callV2 (X' := fun _ _ => False) hS dX8_gap_28 mvX8_110 ob162 rfl (by first | decide | omega) (by decide) (Nat.le_of_ble_eq_true rfl) ⟨Nat.le_trans (by decide) hR.1, Nat.le_trans (by decide) hR.2⟩ (fun _ _ q => q.elim) (m_mayN t2 (by decide) ?_)
        refine J_if_ne (tgt := 36) hS dX8_gap_31 (by decide) (fun c2 => ?_) (fun c2 => ?_)
        · exact absurd rfl c2
        ·
          refine J_iconst (v := 0) hS dX8_gap_34 (by decide) ?_
          refine J_iret hS hZ hr dX8_gap_35 (by omega) (by omega) ?_
          exact x2 f hf rfl (by rw [← hmf]; exact hbt) _ (z2.trans FrZ_thr) (u2_self ..)
  ·
    refine J_aload_n hS dX8_gap_5 rfl ?_
    refine J_iload_n hS dX8_gap_6 rfl ?_
    refine J_callV1 (X' := fun _ _ => False) hS dX8_gap_7 mvX8_359 ob162 rfl (by first | decide | omega) (by decide) (Nat.le_of_ble_eq_true rfl) ⟨Nat.le_trans (by decide) hR.1, Nat.le_trans (by decide) hR.2⟩ (fun _ _ q => q.elim) (m_filmN hfc e2 t2 hbf ?_)
    refine J_if_eq (tgt := 34) hS dX8_gap_10 (by decide) (fun c1 => ?_) (fun c1 => ?_)
    ·
      refine J_iconst (v := 0) hS dX8_gap_34 (by decide) ?_
      refine J_iret hS hZ hr dX8_gap_35 (by omega) (by omega) ?_
      exact x hbf _ (z2.trans FrZ_thr) (u2_self ..)
    · exact absurd rfl c1
set_option maxRecDepth 10000 in
theorem m_image {ic : Nat} (hI : RI g w n) (hic : ic ≤ 4) (eic : g 162 54 = nI ic) (q4 : ic = 4 → ∀ g', FrZ g g' → g' 162 0 = 0 → Q (some (.int (-1))) g') (q : ic < 4 → ∀ g', (∀ z, z ≠ 162 → z ≠ 218 → g' z = g z) → (∀ j, j ≠ 0 → j ≠ 54 → g' 162 j = g 162 j) → g' 162 0 = 0 → g' 162 54 = nI (ic + 1) → (∀ i, i < 3464 → g' 218 (3464 * ic + i) = w i) → (∀ i, i < 3464 * ic → g' 218 i = g 218 i) → Q (some (.int (nI (ic + 1)))) g') : Ct l E lay NC 0 0 0 yX8_image [.ref 162] g Q X := by
  refine Ct_in k_yX8_image (by decide) rfl (Nat.le_of_ble_eq_true rfl) rfl ?_
  intro S hS hZ hr ht hR
  show J S 0 0 (g) 0 [some (.ref 162), none] []
  refine J_aload_n hS dX8_image_0 rfl ?_
  refine J_iconst (v := 0) hS dX8_image_1 (by decide) ?_
  refine J_putI hS dX8_image_2 fpX8_1 ob162 rfl (fun g2 eg2 => ?_)
  refine J_aload_n hS dX8_image_5 rfl ?_
  refine J_getI hS dX8_image_6 flX8_389 ob162 rfl ?_
  have z2 : FrZ g g2 := by rw [eg2]; exact FrZ_thr
  have t2 : g2 162 0 = 0 := by rw [eg2, u2_self]
  have i2 := hI.fr z2
  have e2 : g2 162 54 = nI ic := by rw [z2.2 54 (by decide)]; exact eic
  show J S 0 0 (g2) 9 [some (.ref 162), none] [.int _]
  rw [e2]
  refine J_iconst (v := 4) hS dX8_image_9 (by decide) ?_
  refine J_icmp_ne (tgt := 15) hS dX8_image_10 (by decide) (fun c1 => ?_) (fun c1 => ?_)
  · have h4 : ic < 4 := by
      rcases Nat.lt_or_ge ic 4 with z | z
      · exact z
      · have : ic = 4 := by omega
        subst this; exact absurd rfl c1
    refine J_iconst (v := 0) hS dX8_image_15 (by decide) ?_
    refine J_istore_n (lt := fun k1 => [some (.ref 162), some (.int k1)]) hS dX8_image_16 (Nat.le_of_ble_eq_true rfl) (fun _ => rfl) (fun k1 ek1 => ?_)
    suffices H : ∀ (s k : Nat) (i : Int32) (g1 : Mm), k + s = 3464 → i = nI k → (∀ z, z ≠ 218 → g1 z = g2 z) → (∀ j, j < k → g1 218 (3464 * ic + j) = w j) → (∀ i, i < 3464 * ic → g1 218 i = g2 218 i) → J S 0 0 g1 17 [some (.ref 162), some (.int i)] [] by
      exact H 3464 0 k1 g2 (by omega) ek1 (fun _ _ => rfl) (fun j hj => absurd hj (by omega)) (fun _ _ => rfl)
    intro s
    induction s with
    | zero =>
      intro k i g1 hk hi f1 f2 f3
      have ek : k = 3464 := by omega
      subst ek; subst hi
      refine J_iload_n hS dX8_image_17 rfl ?_
      refine J_sipush (v := 3464) hS dX8_image_18 (by decide) ?_
      refine J_icmp_ge (tgt := 51) hS dX8_image_21 (by decide) (fun d1 => ?_) (fun d1 => ?_)
      ·
        refine J_aload_n hS dX8_image_51 rfl ?_
        refine J_dup hS dX8_image_52 rfl ?_
        refine J_getI hS dX8_image_53 flX8_389 ob162 rfl ?_
        show J S 0 0 (g1) 56 [some (.ref 162), some (.int (nI 3464))] [.int _, .ref 162]
        rw [f1 162 (by decide), e2]
        refine J_iconst (v := 1) hS dX8_image_56 (by decide) ?_
        refine J_iadd hS dX8_image_57 ?_
        refine J_putI hS dX8_image_58 fpX8_389 ob162 rfl (fun g58 eg58 => ?_)
        refine J_aload_n hS dX8_image_61 rfl ?_
        refine J_getI hS dX8_image_62 flX8_389 ob162 rfl ?_
        show J S 0 0 (g58) 65 [some (.ref 162), some (.int (nI 3464))] [.int _]
        rw [show g58 162 54 = nI (ic + 1) by rw [eg58, u2_self]; exact nI_1 ic]
        refine J_iret hS hZ hr dX8_image_65 (by omega) (by omega) ?_
        refine q h4 g58 (fun z za zb => by rw [eg58, u2_ne z za, f1 z zb, eg2, u2_ne z za]) (fun j ja jb => by rw [eg58, u2_at, if_neg jb, f1 162 (by decide), eg2, u2_at, if_neg ja]) (by rw [eg58, u2_at, if_neg (by decide), f1 162 (by decide)]; exact t2) (by rw [eg58, u2_self]; exact nI_1 ic) (fun i hi => by rw [eg58, u2_ne _ (by decide)]; exact f2 i hi) (fun i hi => by rw [eg58, u2_ne _ (by decide), f3 i hi, eg2, u2_ne _ (by decide)])
      · exact absurd (Int32.le_refl _) d1
    | succ s ih =>
      intro k i g1 hk hi f1 f2 f3
      subst hi
      have hk3 : k < 3464 := by omega
      refine J_iload_n hS dX8_image_17 rfl ?_
      refine J_sipush (v := 3464) hS dX8_image_18 (by decide) ?_
      refine J_icmp_ge (tgt := 51) hS dX8_image_21 (by decide) (fun d1 => ?_) (fun d1 => ?_)
      · exact absurd d1 (nI_ge hk3 (by decide))
      ·
        refine J_aload_n hS dX8_image_24 rfl ?_
        refine J_getR (t := 218) hS dX8_image_25 flX8_102 ob162 rfl ?_
        refine J_sipush (v := 3464) hS dX8_image_28 (by decide) ?_
        refine J_aload_n hS dX8_image_31 rfl ?_
        refine J_getI hS dX8_image_32 flX8_389 ob162 rfl ?_
        show J S 0 0 (g1) 35 [some (.ref 162), some (.int (nI k))] [.int _, .int 3464, .ref (218)]
        rw [f1 162 (by decide), e2]
        refine J_imul hS dX8_image_35 ?_
        refine J_iload_n hS dX8_image_36 rfl ?_
        refine J_iadd hS dX8_image_37 ?_
        refine J_aload_n hS dX8_image_38 rfl ?_
        refine J_getR (t := 164) hS dX8_image_39 flX8_13 ob162 rfl ?_
        refine J_iload_n hS dX8_image_42 rfl ?_
        refine J_ialdN hS (k) dX8_image_43 (show Ar lay NC .int 164 3464 from arM 1 3464 (by decide) (by decide) rfl) (by first | rfl | (simp only [n0, n1, n2, n3, n4, n5, n6, n7, n8, n9, n10, n11, n12, n13, n14, n15, n16, n17, n18, n19, n20, n24, n32, n56, n60, n64, n72, n99, n100, n128, n136, n142, n144, n200, n300, n999, n1000, n1500, n3464, nI_add, pk_mul] <;> first | rfl | (congr 1; omega))) hk3 (by decide) ?_
        show J S 0 0 (g1) 44 [some (.ref 162), some (.int (nI k))] [.int _, .int _, .ref (218)]
        rw [show g1 164 k = w k by rw [f1 164 (by decide)]; exact i2.row k hk3]
        refine J_iastN hS (3464 * ic + k) dX8_image_44 (show Ar lay NC .int 218 13856 from arM 55 13856 (by decide) (by decide) rfl) (by rw [n3464, pk_mul, nI_add]) (by omega) (by decide) (fun g44 eg44 => ?_)
        refine J_iinc (lt := fun i3 => [some (.ref 162), some (.int i3)]) (v := 1) hS dX8_image_45 rfl (by decide) (fun _ => rfl) (fun i3 ei3 => ?_)
        refine J_goto (tgt := 17) hS dX8_image_48 (by decide) ?_
        refine ih (k + 1) i3 g44 (by omega) (by rw [ei3]; exact nI_1 k) (fun z hz => by rw [eg44, u2_ne z hz]; exact f1 z hz) (fun j hj => ?_) (fun i hi => by rw [eg44, u2_at, if_neg (by omega)]; exact f3 i hi)
        rw [eg44, u2_at]
        by_cases e : j = k
        · subst e; rw [if_pos rfl]
        · rw [if_neg (by omega)]; exact f2 j (by omega)
  ·
    refine J_iconst (v := (-1)) hS dX8_image_13 (by decide) ?_
    refine J_iret hS hZ hr dX8_image_14 (by omega) (by omega) ?_
    exact q4 ((nI_eq (by omega) (by decide)).mp (c1.trans n4)) g2 z2 t2
set_option maxRecDepth 10000 in
theorem m_restore {ic : Nat} (hic : ic ≤ 4) (eic : g 162 54 = nI ic) (q0 : ic = 0 → ∀ g', FrZ g g' → g' 162 0 = 0 → Q (some (.int (-1))) g') (q : ∀ m, ic = m + 1 → ∀ g', (∀ z, z ≠ 162 → z ≠ 164 → g' z = g z) → (∀ j, j ≠ 0 → j ≠ 46 → j ≠ 54 → g' 162 j = g 162 j) → g' 162 0 = 0 → g' 162 46 = -1 → g' 162 54 = nI m → (∀ i, i < 3464 → g' 164 i = g 218 (3464 * m + i)) → Q (some (.int (nI m))) g') : Ct l E lay NC 1 0 0 yX8_restore [.ref 162] g Q X := by
  refine Ct_in k_yX8_restore (by decide) rfl (Nat.le_of_ble_eq_true rfl) rfl ?_
  intro S hS hZ hr ht hR
  show J S 0 0 (g) 0 [some (.ref 162), none] []
  refine J_aload_n hS dX8_restore_0 rfl ?_
  refine J_iconst (v := 0) hS dX8_restore_1 (by decide) ?_
  refine J_putI hS dX8_restore_2 fpX8_1 ob162 rfl (fun g2 eg2 => ?_)
  refine J_aload_n hS dX8_restore_5 rfl ?_
  refine J_getI hS dX8_restore_6 flX8_389 ob162 rfl ?_
  have z2 : FrZ g g2 := by rw [eg2]; exact FrZ_thr
  have t2 : g2 162 0 = 0 := by rw [eg2, u2_self]
  have e2 : g2 162 54 = nI ic := by rw [z2.2 54 (by decide)]; exact eic
  show J S 0 0 (g2) 9 [some (.ref 162), none] [.int _]
  rw [e2]
  refine J_if_ne (tgt := 14) hS dX8_restore_9 (by decide) (fun c1 => ?_) (fun c1 => ?_)
  · obtain ⟨m, hm⟩ : ∃ m, ic = m + 1 := by
      cases ic with
      | zero => exact absurd rfl c1
      | succ m => exact ⟨m, rfl⟩
    subst hm
    refine J_aload_n hS dX8_restore_14 rfl ?_
    refine J_dup hS dX8_restore_15 rfl ?_
    refine J_getI hS dX8_restore_16 flX8_389 ob162 rfl ?_
    show J S 0 0 (g2) 19 [some (.ref 162), none] [.int _, .ref 162]
    rw [e2]
    refine J_iconst (v := 1) hS dX8_restore_19 (by decide) ?_
    refine J_isub hS dX8_restore_20 ?_
    show J S 0 0 (g2) 21 [some (.ref 162), none] [.int _, .ref 162]
    rw [nI_pred m]
    refine J_putI hS dX8_restore_21 fpX8_389 ob162 rfl (fun g21 eg21 => ?_)
    refine J_iconst (v := 0) hS dX8_restore_24 (by decide) ?_
    refine J_istore_n (lt := fun k1 => [some (.ref 162), some (.int k1)]) hS dX8_restore_25 (Nat.le_of_ble_eq_true rfl) (fun _ => rfl) (fun k1 ek1 => ?_)
    have s54 : g21 162 54 = nI m := by rw [eg21, u2_self]
    suffices H : ∀ (s k : Nat) (i : Int32) (g1 : Mm), k + s = 3464 → i = nI k → (∀ z, z ≠ 164 → g1 z = g21 z) → (∀ j, j < k → g1 164 j = g 218 (3464 * m + j)) → J S 0 0 g1 26 [some (.ref 162), some (.int i)] [] by
      exact H 3464 0 k1 g21 (by omega) ek1 (fun _ _ => rfl) (fun j hj => absurd hj (by omega))
    intro s
    induction s with
    | zero =>
      intro k i g1 hk hi f1 f2
      have ek : k = 3464 := by omega
      subst ek; subst hi
      refine J_iload_n hS dX8_restore_26 rfl ?_
      refine J_sipush (v := 3464) hS dX8_restore_27 (by decide) ?_
      refine J_icmp_ge (tgt := 60) hS dX8_restore_30 (by decide) (fun d1 => ?_) (fun d1 => ?_)
      ·
        refine J_aload_n hS dX8_restore_60 rfl ?_
        refine J_callV0 (X' := fun _ _ => False) hS dX8_restore_61 mvX8_114 ob162 rfl (by first | decide | omega) (by decide) (Nat.le_of_ble_eq_true rfl) ⟨Nat.le_trans (by decide) hR.1, Nat.le_trans (by decide) hR.2⟩ (fun _ _ q => q.elim) (m_ends ?_)
        refine J_aload_n hS dX8_restore_64 rfl ?_
        refine J_getI hS dX8_restore_65 flX8_389 ob162 rfl ?_
        show J S 0 0 ((u2 g1 162 46 (-1))) 68 [some (.ref 162), some (.int (nI 3464))] [.int _]
        rw [show u2 g1 162 46 (-1) 162 54 = nI m by rw [u2_at, if_neg (by decide), f1 162 (by decide)]; exact s54]
        refine J_iret hS hZ hr dX8_restore_68 (by omega) (by omega) ?_
        refine q m rfl _ (fun z za zb => by rw [u2_ne z za, f1 z zb, eg21, u2_ne z za, eg2, u2_ne z za]) (fun j ja jb jc => by rw [u2_at, if_neg jb, f1 162 (by decide), eg21, u2_at, if_neg jc, eg2, u2_at, if_neg ja]) ?_ (u2_self ..) ?_ (fun i hi => by rw [u2_ne _ (by decide)]; exact f2 i hi)
        · rw [u2_at, if_neg (by decide), f1 162 (by decide), eg21, u2_at, if_neg (by decide)]; exact t2
        · rw [u2_at, if_neg (by decide), f1 162 (by decide)]; exact s54
      · exact absurd (Int32.le_refl _) d1
    | succ s ih =>
      intro k i g1 hk hi f1 f2
      subst hi
      have hk3 : k < 3464 := by omega
      refine J_iload_n hS dX8_restore_26 rfl ?_
      refine J_sipush (v := 3464) hS dX8_restore_27 (by decide) ?_
      refine J_icmp_ge (tgt := 60) hS dX8_restore_30 (by decide) (fun d1 => ?_) (fun d1 => ?_)
      · exact absurd d1 (nI_ge hk3 (by decide))
      ·
        refine J_aload_n hS dX8_restore_33 rfl ?_
        refine J_getR (t := 164) hS dX8_restore_34 flX8_13 ob162 rfl ?_
        refine J_iload_n hS dX8_restore_37 rfl ?_
        refine J_aload_n hS dX8_restore_38 rfl ?_
        refine J_getR (t := 218) hS dX8_restore_39 flX8_102 ob162 rfl ?_
        refine J_sipush (v := 3464) hS dX8_restore_42 (by decide) ?_
        refine J_aload_n hS dX8_restore_45 rfl ?_
        refine J_getI hS dX8_restore_46 flX8_389 ob162 rfl ?_
        show J S 0 0 (g1) 49 [some (.ref 162), some (.int (nI k))] [.int _, .int 3464, .ref (218), .int (nI k), .ref (164)]
        rw [f1 162 (by decide), s54]
        refine J_imul hS dX8_restore_49 ?_
        refine J_iload_n hS dX8_restore_50 rfl ?_
        refine J_iadd hS dX8_restore_51 ?_
        refine J_ialdN hS (3464 * m + k) dX8_restore_52 (show Ar lay NC .int 218 13856 from arM 55 13856 (by decide) (by decide) rfl) (by rw [n3464, pk_mul, nI_add]) (by omega) (by decide) ?_
        show J S 0 0 (g1) 53 [some (.ref 162), some (.int (nI k))] [.int _, .int (nI k), .ref (164)]
        rw [show g1 218 (3464 * m + k) = g 218 (3464 * m + k) by rw [f1 218 (by decide), eg21, u2_ne _ (by decide), eg2, u2_ne _ (by decide)]]
        refine J_iastN hS (k) dX8_restore_53 (show Ar lay NC .int 164 3464 from arM 1 3464 (by decide) (by decide) rfl) (by first | rfl | (simp only [n0, n1, n2, n3, n4, n5, n6, n7, n8, n9, n10, n11, n12, n13, n14, n15, n16, n17, n18, n19, n20, n24, n32, n56, n60, n64, n72, n99, n100, n128, n136, n142, n144, n200, n300, n999, n1000, n1500, n3464, nI_add, pk_mul] <;> first | rfl | (congr 1; omega))) hk3 (by decide) (fun g53 eg53 => ?_)
        refine J_iinc (lt := fun i3 => [some (.ref 162), some (.int i3)]) (v := 1) hS dX8_restore_54 rfl (by decide) (fun _ => rfl) (fun i3 ei3 => ?_)
        refine J_goto (tgt := 26) hS dX8_restore_57 (by decide) ?_
        refine ih (k + 1) i3 g53 (by omega) (by rw [ei3]; exact nI_1 k) (fun z hz => by rw [eg53, u2_ne z hz]; exact f1 z hz) (fun j hj => ?_)
        rw [eg53, u2_at]
        by_cases e : j = k
        · subst e; rw [if_pos rfl]
        · rw [if_neg e]; exact f2 j (by omega)
  ·
    refine J_iconst (v := (-1)) hS dX8_restore_12 (by decide) ?_
    refine J_iret hS hZ hr dX8_restore_13 (by omega) (by omega) ?_
    exact q0 ((nI_eq (by omega) (by decide)).mp c1) g2 z2 t2
set_option maxRecDepth 10000 in
theorem m_film {fc : Nat} (hI : RI g w n) (hfc : fc ≤ 3) (efc : g 162 45 = nI fc) (q3 : fc = 3 → ∀ g', FrZ g g' → g' 162 0 = 0 → Q (some (.int (-1))) g') (qon : fc < 3 → ¬ g 162 46 = -1 → ∀ g', FrZ g g' → g' 162 0 = 0 → Q (some (.int (-2))) g') (q : fc < 3 → g 162 46 = -1 → ∀ g', (∀ z, z ≠ 162 → z ≠ 210 → z ≠ 211 → z ≠ 212 → g' z = g z) → (∀ j, j ≠ 0 → j ≠ 45 → j ≠ 46 → g' 162 j = g 162 j) → g' 162 0 = 0 → g' 162 45 = nI (fc + 1) → g' 162 46 = nI fc → (∀ f, g' 210 f = if f = fc then g 162 37 else g 210 f) → (∀ f, g' 211 f = if f = fc then 0 else g 211 f) → (∀ i, i < 3464 → g' 212 (3464 * fc + i) = w i) → (∀ i, i < 3464 * fc → g' 212 i = g 212 i) → Q (some (.int (nI fc))) g') : Ct l E lay NC 0 0 0 yX8_film [.ref 162] g Q X := by
  refine Ct_in k_yX8_film (by decide) rfl (Nat.le_of_ble_eq_true rfl) rfl ?_
  intro S hS hZ hr ht hR
  show J S 0 0 (g) 0 [some (.ref 162), none] []
  refine J_aload_n hS dX8_film_0 rfl ?_
  refine J_iconst (v := 0) hS dX8_film_1 (by decide) ?_
  refine J_putI hS dX8_film_2 fpX8_1 ob162 rfl (fun g2 eg2 => ?_)
  refine J_aload_n hS dX8_film_5 rfl ?_
  refine J_getI hS dX8_film_6 flX8_356 ob162 rfl ?_
  have z2 : FrZ g g2 := by rw [eg2]; exact FrZ_thr
  have t2 : g2 162 0 = 0 := by rw [eg2, u2_self]
  have i2 := hI.fr z2
  have e2 : g2 162 45 = nI fc := by rw [z2.2 45 (by decide)]; exact efc
  show J S 0 0 (g2) 9 [some (.ref 162), none] [.int _]
  rw [e2]
  refine J_iconst (v := 3) hS dX8_film_9 (by decide) ?_
  refine J_icmp_ne (tgt := 15) hS dX8_film_10 (by decide) (fun c1 => ?_) (fun c1 => ?_)
  · have h3 : fc < 3 := by
      rcases Nat.lt_or_ge fc 3 with z | z
      · exact z
      · have : fc = 3 := by omega
        subst this; exact absurd rfl c1
    refine J_aload_n hS dX8_film_15 rfl ?_
    refine J_getI hS dX8_film_16 flX8_77 ob162 rfl ?_
    show J S 0 0 (g2) 19 [some (.ref 162), none] [.int _]
    rw [z2.2 46 (by decide)]
    refine J_iconst (v := (-1)) hS dX8_film_19 (by decide) ?_
    refine J_icmp_eq (tgt := 26) hS dX8_film_20 (by decide) (fun c2 => ?_) (fun c2 => ?_)
    ·
      refine J_iconst (v := 0) hS dX8_film_26 (by decide) ?_
      refine J_istore_n (lt := fun k1 => [some (.ref 162), some (.int k1)]) hS dX8_film_27 (Nat.le_of_ble_eq_true rfl) (fun _ => rfl) (fun k1 ek1 => ?_)
      suffices H : ∀ (s k : Nat) (i : Int32) (g1 : Mm), k + s = 3464 → i = nI k → (∀ z, z ≠ 212 → g1 z = g2 z) → (∀ j, j < k → g1 212 (3464 * fc + j) = w j) → (∀ i, i < 3464 * fc → g1 212 i = g2 212 i) → J S 0 0 g1 28 [some (.ref 162), some (.int i)] [] by
        exact H 3464 0 k1 g2 (by omega) ek1 (fun _ _ => rfl) (fun j hj => absurd hj (by omega)) (fun _ _ => rfl)
      intro s
      induction s with
      | zero =>
        intro k i g1 hk hi f1 f2 f3
        have ek : k = 3464 := by omega
        subst ek; subst hi
        have a45 : g1 162 45 = nI fc := by rw [f1 162 (by decide)]; exact e2
        refine J_iload_n hS dX8_film_28 rfl ?_
        refine J_sipush (v := 3464) hS dX8_film_29 (by decide) ?_
        refine J_icmp_ge (tgt := 62) hS dX8_film_32 (by decide) (fun d1 => ?_) (fun d1 => ?_)
        ·
          refine J_aload_n hS dX8_film_62 rfl ?_
          refine J_getR (t := 210) hS dX8_film_63 flX8_80 ob162 rfl ?_
          refine J_aload_n hS dX8_film_66 rfl ?_
          refine J_getI hS dX8_film_67 flX8_356 ob162 rfl ?_
          show J S 0 0 (g1) 70 [some (.ref 162), some (.int (nI 3464))] [.int _, .ref (210)]
          rw [a45]
          refine J_aload_n hS dX8_film_70 rfl ?_
          refine J_getI hS dX8_film_71 flX8_329 ob162 rfl ?_
          show J S 0 0 (g1) 74 [some (.ref 162), some (.int (nI 3464))] [.int _, .int _, .ref (210)]
          rw [show g1 162 37 = g 162 37 by rw [f1 162 (by decide)]; exact z2.2 37 (by decide)]
          refine J_iastN hS (fc) dX8_film_74 (show Ar lay NC .int 210 3 from arM 47 3 (by decide) (by decide) rfl) (by first | rfl | (simp only [n0, n1, n2, n3, n4, n5, n6, n7, n8, n9, n10, n11, n12, n13, n14, n15, n16, n17, n18, n19, n20, n24, n32, n56, n60, n64, n72, n99, n100, n128, n136, n142, n144, n200, n300, n999, n1000, n1500, n3464, nI_add, pk_mul] <;> first | rfl | (congr 1; omega))) (by omega) (by decide) (fun g74 eg74 => ?_)
          refine J_aload_n hS dX8_film_75 rfl ?_
          refine J_getR (t := 211) hS dX8_film_76 flX8_83 ob162 rfl ?_
          refine J_aload_n hS dX8_film_79 rfl ?_
          refine J_getI hS dX8_film_80 flX8_356 ob162 rfl ?_
          show J S 0 0 (g74) 83 [some (.ref 162), some (.int (nI 3464))] [.int _, .ref (211)]
          rw [show g74 162 45 = nI fc by rw [eg74, u2_ne _ (by decide)]; exact a45]
          refine J_iconst (v := 0) hS dX8_film_83 (by decide) ?_
          refine J_iastN hS (fc) dX8_film_84 (show Ar lay NC .int 211 3 from arM 48 3 (by decide) (by decide) rfl) (by first | rfl | (simp only [n0, n1, n2, n3, n4, n5, n6, n7, n8, n9, n10, n11, n12, n13, n14, n15, n16, n17, n18, n19, n20, n24, n32, n56, n60, n64, n72, n99, n100, n128, n136, n142, n144, n200, n300, n999, n1000, n1500, n3464, nI_add, pk_mul] <;> first | rfl | (congr 1; omega))) (by omega) (by decide) (fun g84 eg84 => ?_)
          refine J_aload_n hS dX8_film_85 rfl ?_
          refine J_aload_n hS dX8_film_86 rfl ?_
          refine J_getI hS dX8_film_87 flX8_356 ob162 rfl ?_
          show J S 0 0 (g84) 90 [some (.ref 162), some (.int (nI 3464))] [.int _, .ref 162]
          rw [show g84 162 45 = nI fc by rw [eg84, u2_ne _ (by decide), eg74, u2_ne _ (by decide)]; exact a45]
          refine J_putI hS dX8_film_90 fpX8_77 ob162 rfl (fun g90 eg90 => ?_)
          refine J_aload_n hS dX8_film_93 rfl ?_
          refine J_dup hS dX8_film_94 rfl ?_
          refine J_getI hS dX8_film_95 flX8_356 ob162 rfl ?_
          show J S 0 0 (g90) 98 [some (.ref 162), some (.int (nI 3464))] [.int _, .ref 162]
          rw [show g90 162 45 = nI fc by rw [eg90, u2_at, if_neg (by decide), eg84, u2_ne _ (by decide), eg74, u2_ne _ (by decide)]; exact a45]
          refine J_iconst (v := 1) hS dX8_film_98 (by decide) ?_
          refine J_iadd hS dX8_film_99 ?_
          refine J_putI hS dX8_film_100 fpX8_356 ob162 rfl (fun g100 eg100 => ?_)
          refine J_aload_n hS dX8_film_103 rfl ?_
          refine J_getI hS dX8_film_104 flX8_77 ob162 rfl ?_
          show J S 0 0 (g100) 107 [some (.ref 162), some (.int (nI 3464))] [.int _]
          rw [show g100 162 46 = nI fc by rw [eg100, u2_at, if_neg (by decide), eg90, u2_self]]
          refine J_iret hS hZ hr dX8_film_107 (by omega) (by omega) ?_
          have o : ∀ z, z ≠ 162 → z ≠ 210 → z ≠ 211 → g100 z = g1 z := fun z za zb zc => by rw [eg100, u2_ne z za, eg90, u2_ne z za, eg84, u2_ne z zc, eg74, u2_ne z zb]
          refine q h3 c2 g100 (fun z za zb zc zd => by rw [o z za zb zc, f1 z zd, eg2, u2_ne z za]) (fun j ja jb jc => by rw [eg100, u2_at, if_neg jb, eg90, u2_at, if_neg jc, eg84, u2_ne _ (by decide), eg74, u2_ne _ (by decide), f1 162 (by decide), eg2, u2_at, if_neg ja]) (by rw [eg100, u2_at, if_neg (by decide), eg90, u2_at, if_neg (by decide), eg84, u2_ne _ (by decide), eg74, u2_ne _ (by decide), f1 162 (by decide)]; exact t2) (by rw [eg100, u2_self]; exact nI_1 fc) (by rw [eg100, u2_at, if_neg (by decide), eg90, u2_self]) (fun f => ?_) (fun f => ?_) (fun i hi => by rw [o 212 (by decide) (by decide) (by decide)]; exact f2 i hi) (fun i hi => by rw [o 212 (by decide) (by decide) (by decide), f3 i hi, eg2, u2_ne _ (by decide)])
          · rw [eg100, u2_ne _ (by decide), eg90, u2_ne _ (by decide), eg84, u2_ne _ (by decide), eg74, u2_at, f1 210 (by decide), eg2, u2_ne _ (by decide)]
          · rw [eg100, u2_ne _ (by decide), eg90, u2_ne _ (by decide), eg84, u2_at, eg74, u2_ne _ (by decide), f1 211 (by decide), eg2, u2_ne _ (by decide)]
        · exact absurd (Int32.le_refl _) d1
      | succ s ih =>
        intro k i g1 hk hi f1 f2 f3
        subst hi
        have hk3 : k < 3464 := by omega
        refine J_iload_n hS dX8_film_28 rfl ?_
        refine J_sipush (v := 3464) hS dX8_film_29 (by decide) ?_
        refine J_icmp_ge (tgt := 62) hS dX8_film_32 (by decide) (fun d1 => ?_) (fun d1 => ?_)
        · exact absurd d1 (nI_ge hk3 (by decide))
        ·
          refine J_aload_n hS dX8_film_35 rfl ?_
          refine J_getR (t := 212) hS dX8_film_36 flX8_86 ob162 rfl ?_
          refine J_sipush (v := 3464) hS dX8_film_39 (by decide) ?_
          refine J_aload_n hS dX8_film_42 rfl ?_
          refine J_getI hS dX8_film_43 flX8_356 ob162 rfl ?_
          show J S 0 0 (g1) 46 [some (.ref 162), some (.int (nI k))] [.int _, .int 3464, .ref (212)]
          rw [f1 162 (by decide), e2]
          refine J_imul hS dX8_film_46 ?_
          refine J_iload_n hS dX8_film_47 rfl ?_
          refine J_iadd hS dX8_film_48 ?_
          refine J_aload_n hS dX8_film_49 rfl ?_
          refine J_getR (t := 164) hS dX8_film_50 flX8_13 ob162 rfl ?_
          refine J_iload_n hS dX8_film_53 rfl ?_
          refine J_ialdN hS (k) dX8_film_54 (show Ar lay NC .int 164 3464 from arM 1 3464 (by decide) (by decide) rfl) (by first | rfl | (simp only [n0, n1, n2, n3, n4, n5, n6, n7, n8, n9, n10, n11, n12, n13, n14, n15, n16, n17, n18, n19, n20, n24, n32, n56, n60, n64, n72, n99, n100, n128, n136, n142, n144, n200, n300, n999, n1000, n1500, n3464, nI_add, pk_mul] <;> first | rfl | (congr 1; omega))) hk3 (by decide) ?_
          show J S 0 0 (g1) 55 [some (.ref 162), some (.int (nI k))] [.int _, .int _, .ref (212)]
          rw [show g1 164 k = w k by rw [f1 164 (by decide)]; exact i2.row k hk3]
          refine J_iastN hS (3464 * fc + k) dX8_film_55 (show Ar lay NC .int 212 10392 from arM 49 10392 (by decide) (by decide) rfl) (by rw [n3464, pk_mul, nI_add]) (by omega) (by decide) (fun g55 eg55 => ?_)
          refine J_iinc (lt := fun i3 => [some (.ref 162), some (.int i3)]) (v := 1) hS dX8_film_56 rfl (by decide) (fun _ => rfl) (fun i3 ei3 => ?_)
          refine J_goto (tgt := 28) hS dX8_film_59 (by decide) ?_
          refine ih (k + 1) i3 g55 (by omega) (by rw [ei3]; exact nI_1 k) (fun z hz => by rw [eg55, u2_ne z hz]; exact f1 z hz) (fun j hj => ?_) (fun i hi => by rw [eg55, u2_at, if_neg (by omega)]; exact f3 i hi)
          rw [eg55, u2_at]
          by_cases e : j = k
          · subst e; rw [if_pos rfl]
          · rw [if_neg (by omega)]; exact f2 j (by omega)
    ·
      refine J_bipush (v := (-2)) hS dX8_film_23 (by decide) ?_
      refine J_iret hS hZ hr dX8_film_25 (by omega) (by omega) ?_
      exact qon h3 c2 g2 z2 t2
  ·
    refine J_iconst (v := (-1)) hS dX8_film_13 (by decide) ?_
    refine J_iret hS hZ hr dX8_film_14 (by omega) (by omega) ?_
    exact q3 ((nI_eq (by omega) (by decide)).mp (c1.trans n3)) g2 z2 t2
end RefP4


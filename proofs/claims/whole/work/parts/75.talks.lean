/-! THE REFERENCE: a talk -/
theorem strK_lo {w : Wr} {a o j : Nat} {s mt : Nat → Nat} (hj : j < 8) : ∀ k, strK w a o s mt k (56 + 142 * a + j) = w (56 + 142 * a + j)
  | 0 => rfl
  | k + 1 => by
    show st1 (strK w a o s mt k) (sgB a (con (rN (o * 3 + k)) (mt (rN (o * 3 + k)))) + s k) (56 + 142 * a + j) = _
    unfold st1 upd
    rw [if_neg (by unfold sgB; omega)]; exact strK_lo hj k
theorem pl3 (o k : Nat) : (3 : Int32) * nI o + nI k = nI (o * 3 + k) := by rw [n3, pk_mul, nI_add, Nat.mul_comm]
section RefK
variable {l : Launch} {E : Ey} {g : Mm} {Q : Option Value → Mm → Prop} {X : String → Mm → Prop} {r : Nat} {w bb : Wr}
/-- what a talk of the reference leaves -/
def TkM (g g' : Mm) (r : Nat) (w bb : Wr) (lw : Option (List Cls)) (lo : Int32) (a b y : Nat) (mt : Nat → Nat) : Prop :=
  (∀ z, z ≠ r → z ≠ 162 → z ≠ 191 → z ≠ 198 → z ≠ 199 → g' z = g z) ∧ (∀ j, (j < 21 ∨ 33 < j ∨ j = 27 ∨ j = 28) → g' 162 j = g 162 j) ∧ RowM g' r (tW6 lw lo w a b y mt) bb ∧ g' 162 29 = nI (sayO w a) ∧ g' 162 30 = nI (tO' w a b y mt) ∧ (∀ k, k < 3 → g' 198 k = nI (sayS w a mt k)) ∧ (∀ k, k < 3 → g' 199 k = nI (tTk w a b y mt k)) ∧ g' 162 32 = tRt w a b y mt ∧ g' 162 33 = tSh w a b y mt ∧ g' 162 31 = tLn w a b y mt
set_option maxRecDepth 10000 in
set_option maxHeartbeats 8000000 in
theorem m_talks {a b y : Nat} {mt : Nat → Nat} {lo : Int32} {lw : Option (List Cls)} (hr1 : Rw r) (hw : g 162 3 = nI r) (hrow : RowM g r w bb) (ha : a < 24) (hb : b < 24) (hy : y < 3) (hya : w (56 + 142 * a) = nI y) (hmt : ∀ k, mt k < 4) (hme : ∀ k, k < 3 → g 197 k = nI (mt k)) (hwa : Wt w a) (hwb : Wt w b) (hlo : g 162 27 = lo) (hRl : RuleM g r lw)
    (q : ∀ g', TkM g g' r w bb lw lo a b y mt → Q none g') : Ct l E lay NC 4 0 0 yX8_talks [.ref 162, .int (nI a), .int (nI b)] g Q X := by
  have hr2 : r = 164 ∨ r = 165 := hr1
  have ho := sayO_lt w a
  have r5 : ¬ Mk 5 := fun z => z.1 rfl
  refine Ct_in k_yX8_talks (by decide) rfl (Nat.le_of_ble_eq_true rfl) rfl ?_
  intro S hS hZ hr ht hR
  show J S 0 0 (g) 0 [some (.ref 162), some (.int (nI a)), some (.int (nI b)), none, none, none, none, none] []
  refine J_aload_n hS dX8_talks_0 rfl ?_
  refine J_getD (v := .ref r) hS dX8_talks_1 flX8_20 ob162 rfl (wI hr1 hw) ?_
  refine J_iload_n hS dX8_talks_4 rfl ?_
  refine J_callS1 (X' := fun _ _ => False) hS dX8_talks_5 msX8_121 rfl (by first | decide | omega) (by decide) (Nat.le_of_ble_eq_true rfl) ⟨Nat.le_trans (by decide) hR.1, Nat.le_trans (by decide) hR.2⟩ (fun _ _ q => q.elim) (m_at ?_)
  refine J_iconst (v := 0) hS dX8_talks_8 (by decide) ?_
  refine J_iadd hS dX8_talks_9 ?_
  refine J_ialdN hS (56 + 142 * a) dX8_talks_10 hr1.ar (by first | rfl | (simp only [n0, n1, n2, n3, n4, n5, n6, n7, n8, n9, n10, n11, n12, n13, n14, n15, n16, n17, n18, n19, n20, n24, n32, n56, n60, n64, n72, n99, n100, n128, n136, n142, n144, n200, n300, n999, n1000, n1500, n3464, nI_add, pk_mul] <;> first | rfl | (congr 1; omega))) (by omega) (by decide) ?_
  show J S 0 0 (g) 11 [some (.ref 162), some (.int (nI a)), some (.int (nI b)), none, none, none, none, none] [.int _]
  rw [hrow.at (i := 56 + 142 * a) (by omega) (Mk_blk (k := 0) (by decide) (by decide)), hya]
  refine J_istore_n (lt := fun x3 => [some (.ref 162), some (.int (nI a)), some (.int (nI b)), some (.int x3), none, none, none, none]) hS dX8_talks_11 (Nat.le_of_ble_eq_true rfl) (fun _ => rfl) (fun x3 ex3 => ?_)
  rw [show x3 = nI y from ex3]
  refine J_aload_n hS dX8_talks_12 rfl ?_
  refine J_iload_n hS dX8_talks_13 rfl ?_
  refine J_iload_n hS dX8_talks_14 rfl ?_
  refine J_callV2 (X' := fun _ _ => False) hS dX8_talks_15 mvX8_320 ob162 rfl (by first | decide | omega) (by decide) (Nat.le_of_ble_eq_true rfl) ⟨Nat.le_trans (by decide) hR.1, Nat.le_trans (by decide) hR.2⟩ (fun _ _ q => q.elim) (m_saysIt hr1 hw hrow ha hb hy hya hmt hme hwa hwb (fun g1 s1 s2 s3 s4 s5 s6 s7 s8 => ?_))
  obtain ⟨W2, hW2⟩ : ∃ W2 : Wr, W2 = tW2 w a b y mt := ⟨_, rfl⟩
  rw [← hW2] at s3
  have w1 : g1 162 3 = nI r := by rw [s2 3 (by decide) (by decide) (by decide)]; exact hw
  refine J_aload_n hS dX8_talks_18 rfl ?_
  refine J_aload_n hS dX8_talks_19 rfl ?_
  refine J_iconst (v := 1) hS dX8_talks_20 (by decide) ?_
  refine J_bipush (v := 100) hS dX8_talks_21 (by decide) ?_
  refine J_callV2 (X' := fun _ _ => False) hS dX8_talks_23 mvX8_279 ob162 rfl (by first | decide | omega) (by decide) (Nat.le_of_ble_eq_true rfl) ⟨Nat.le_trans (by decide) hR.1, Nat.le_trans (by decide) hR.2⟩ (fun _ _ q => q.elim) (m_draw (i := 1) (m := 100) hr1 w1 (by decide) (by decide) (by decide) (fun g2 e2 => ?_))
  have g11 : g1 r 1 = W2 1 := s3.at (by decide) (Mk_lo (by decide) (by decide))
  rw [g11] at e2
  rw [g11]
  have row2 : RowM g2 r (tW3 w a b y mt) bb := by
    have : RowM g2 r (upd W2 1 (adv (W2 1))) bb := by rw [e2]; exact s3.put (Mk_lo (by decide) (by decide))
    rw [hW2] at this; exact this
  obtain ⟨W3, hW3⟩ : ∃ W3 : Wr, W3 = tW3 w a b y mt := ⟨_, rfl⟩
  rw [← hW3] at row2
  have o2 : ∀ z, z ≠ r → g2 z = g1 z := fun z hz => by rw [e2, u2_ne z hz]
  have w2 : g2 162 3 = nI r := by rw [o2 162 (by omega)]; exact w1
  have W34 : W3 4 = W2 4 := by rw [hW3, hW2]; unfold tW3 upd; rw [if_neg (by decide)]
  have hsh : tSh w a b y mt = if W2 4 ≤ nI (dr (adv (W2 1)) 100) then 0 else 1 := by rw [hW2]; rfl
  have hsh01 : tSh w a b y mt = 0 ∨ tSh w a b y mt = 1 := by rw [hsh]; split <;> simp
  have hrt01 : tRt w a b y mt = 0 ∨ tRt w a b y mt = 1 := by unfold tRt rtI; split <;> simp
  -- behind what is learnt
  have fin : ∀ (g4 : Mm) (x4 x5 x6 x7 : Option Value), (∀ z, z ≠ r → z ≠ 162 → z ≠ 191 → z ≠ 198 → z ≠ 199 → g4 z = g z) → (∀ j, (j < 21 ∨ 33 < j ∨ j = 27 ∨ j = 28) → g4 162 j = g 162 j) → RowM g4 r (tW4 lw lo w a b y mt) bb → g4 162 29 = nI (sayO w a) → g4 162 30 = nI (tO' w a b y mt) → (∀ k, k < 3 → g4 198 k = nI (sayS w a mt k)) → (∀ k, k < 3 → g4 199 k = nI (tTk w a b y mt k)) → g4 162 32 = tRt w a b y mt → g4 162 33 = tSh w a b y mt → g4 162 31 = tLn w a b y mt → J S 0 0 g4 69 [some (.ref 162), some (.int (nI a)), some (.int (nI b)), some (.int (nI y)), x4, x5, x6, x7] [] := by
    intro g4 x4 x5 x6 x7 k1 k2 k3 k4 k5 k6 k7 k8 k9 k10
    obtain ⟨W4, hW4⟩ : ∃ W4 : Wr, W4 = tW4 lw lo w a b y mt := ⟨_, rfl⟩
    rw [← hW4] at k3
    have w4 : g4 162 3 = nI r := by rw [k2 3 (by decide)]; exact hw
    refine J_weak (ls' := [some (.ref 162), some (.int (nI a)), some (.int (nI b)), some (.int (nI y)), none, none, none, none]) ⟨Or.inr rfl, Or.inr rfl, Or.inr rfl, Or.inr rfl, Or.inl rfl, Or.inl rfl, Or.inl rfl, Or.inl rfl, trivial⟩ ?_
    -- the end
    have done : ∀ (g5 : Mm) (y5 y6 y7 : Option Value), (∀ z, z ≠ r → g5 z = g4 z) → RowM g5 r (tW5 lw lo w a b y mt) bb → J S 0 0 g5 233 [some (.ref 162), some (.int (nI a)), some (.int (nI b)), some (.int (nI y)), some (.int (nI (56 + 142 * a))), y5, y6, y7] [] := by
      intro g5 y5 y6 y7 n1 n3
      have w5 : g5 162 3 = nI r := by rw [n1 162 (by omega)]; exact w4
      refine J_weak (ls' := [some (.ref 162), some (.int (nI a)), some (.int (nI b)), some (.int (nI y)), some (.int (nI (56 + 142 * a))), none, none, none]) ⟨Or.inr rfl, Or.inr rfl, Or.inr rfl, Or.inr rfl, Or.inr rfl, Or.inl rfl, Or.inl rfl, Or.inl rfl, trivial⟩ ?_
      refine J_aload_n hS dX8_talks_233 rfl ?_
      refine J_getD (v := .ref r) hS dX8_talks_234 flX8_20 ob162 rfl (wI hr1 w5) ?_
      refine J_iload_n hS dX8_talks_237 rfl ?_
      refine J_callS1 (X' := fun _ _ => False) hS dX8_talks_238 msX8_121 rfl (by first | decide | omega) (by decide) (Nat.le_of_ble_eq_true rfl) ⟨Nat.le_trans (by decide) hR.1, Nat.le_trans (by decide) hR.2⟩ (fun _ _ q => q.elim) (m_at ?_)
      refine J_iconst (v := 5) hS dX8_talks_241 (by decide) ?_
      refine J_iadd hS dX8_talks_242 ?_
      show J S 0 0 (g5) 243 [some (.ref 162), some (.int (nI a)), some (.int (nI b)), some (.int (nI y)), some (.int (nI (56 + 142 * a))), none, none, none] [.int _, .ref r]
      rw [show nI (56 + 142 * b) + 5 = nI (56 + 142 * b + 5) by rw [n5, nI_add]]
      refine J_dup2 hS dX8_talks_243 rfl rfl ?_
      refine J_ialdN hS (56 + 142 * b + 5) dX8_talks_244 hr1.ar (by first | rfl | (simp only [n0, n1, n2, n3, n4, n5, n6, n7, n8, n9, n10, n11, n12, n13, n14, n15, n16, n17, n18, n19, n20, n24, n32, n56, n60, n64, n72, n99, n100, n128, n136, n142, n144, n200, n300, n999, n1000, n1500, n3464, nI_add, pk_mul] <;> first | rfl | (congr 1; omega))) (by omega) (by decide) ?_
      refine J_iconst (v := 1) hS dX8_talks_245 (by decide) ?_
      refine J_iadd hS dX8_talks_246 ?_
      refine J_iastN hS (56 + 142 * b + 5) dX8_talks_247 hr1.ar (by first | rfl | (simp only [n0, n1, n2, n3, n4, n5, n6, n7, n8, n9, n10, n11, n12, n13, n14, n15, n16, n17, n18, n19, n20, n24, n32, n56, n60, n64, n72, n99, n100, n128, n136, n142, n144, n200, n300, n999, n1000, n1500, n3464, nI_add, pk_mul] <;> first | rfl | (congr 1; omega))) (by omega) (by decide) (fun g247 eg247 => ?_)
      have row6 : RowM g247 r (inc1 (tW5 lw lo w a b y mt) (56 + 142 * b + 5)) bb := by
        rw [eg247, n3.at (i := 56 + 142 * b + 5) (by omega) (Mk_blk (by decide) (by decide))]
        exact n3.put (Mk_blk (by decide) (by decide))
      have w6 : g247 162 3 = nI r := by rw [eg247, u2_ne _ (by omega)]; exact w5
      refine J_aload_n hS dX8_talks_248 rfl ?_
      refine J_getD (v := .ref r) hS dX8_talks_249 flX8_20 ob162 rfl (wI hr1 w6) ?_
      refine J_iload hS dX8_talks_252 rfl ?_
      refine J_bipush (v := 6) hS dX8_talks_254 (by decide) ?_
      refine J_iadd hS dX8_talks_256 ?_
      show J S 0 0 (g247) 257 [some (.ref 162), some (.int (nI a)), some (.int (nI b)), some (.int (nI y)), some (.int (nI (56 + 142 * a))), none, none, none] [.int _, .ref r]
      rw [show nI (56 + 142 * a) + 6 = nI (56 + 142 * a + 6) by rw [n6, nI_add]]
      refine J_dup2 hS dX8_talks_257 rfl rfl ?_
      refine J_ialdN hS (56 + 142 * a + 6) dX8_talks_258 hr1.ar (by first | rfl | (simp only [n0, n1, n2, n3, n4, n5, n6, n7, n8, n9, n10, n11, n12, n13, n14, n15, n16, n17, n18, n19, n20, n24, n32, n56, n60, n64, n72, n99, n100, n128, n136, n142, n144, n200, n300, n999, n1000, n1500, n3464, nI_add, pk_mul] <;> first | rfl | (congr 1; omega))) (by omega) (by decide) ?_
      refine J_iconst (v := 1) hS dX8_talks_259 (by decide) ?_
      refine J_iadd hS dX8_talks_260 ?_
      refine J_iastN hS (56 + 142 * a + 6) dX8_talks_261 hr1.ar (by first | rfl | (simp only [n0, n1, n2, n3, n4, n5, n6, n7, n8, n9, n10, n11, n12, n13, n14, n15, n16, n17, n18, n19, n20, n24, n32, n56, n60, n64, n72, n99, n100, n128, n136, n142, n144, n200, n300, n999, n1000, n1500, n3464, nI_add, pk_mul] <;> first | rfl | (congr 1; omega))) (by omega) (by decide) (fun g261 eg261 => ?_)
      refine J_vret hS hZ hr dX8_talks_262 (by omega) (by omega) ?_
      have o7 : ∀ z, z ≠ r → g261 z = g4 z := fun z hz => by rw [eg261, u2_ne z hz, eg247, u2_ne z hz]; exact n1 z hz
      refine q g261 ⟨fun z z1 z2 z3 z4 z5 => by rw [o7 z z1]; exact k1 z z1 z2 z3 z4 z5, fun j hj => by rw [o7 162 (by omega)]; exact k2 j hj, ?_, by rw [o7 162 (by omega)]; exact k4, by rw [o7 162 (by omega)]; exact k5, fun k hk => by rw [o7 198 (by omega)]; exact k6 k hk, fun k hk => by rw [o7 199 (by omega)]; exact k7 k hk, by rw [o7 162 (by omega)]; exact k8, by rw [o7 162 (by omega)]; exact k9, by rw [o7 162 (by omega)]; exact k10⟩
      rw [eg261, row6.at (i := 56 + 142 * a + 6) (by omega) (Mk_blk (by decide) (by decide))]
      exact row6.put (Mk_blk (by decide) (by decide))
    refine J_iload_n hS dX8_talks_69 rfl ?_
    refine J_callS1 (X' := fun _ _ => False) hS dX8_talks_70 msX8_121 rfl (by first | decide | omega) (by decide) (Nat.le_of_ble_eq_true rfl) ⟨Nat.le_trans (by decide) hR.1, Nat.le_trans (by decide) hR.2⟩ (fun _ _ q => q.elim) (m_at ?_)
    refine J_istore (lt := fun z4 => [some (.ref 162), some (.int (nI a)), some (.int (nI b)), some (.int (nI y)), some (.int z4), none, none, none]) hS dX8_talks_73 (Nat.le_of_ble_eq_true rfl) (fun _ => rfl) (fun z4 ez4 => ?_)
    rw [show z4 = nI (56 + 142 * a) from ez4]
    refine J_aload_n hS dX8_talks_75 rfl ?_
    refine J_getI hS dX8_talks_76 flX8_307 ob162 rfl ?_
    show J S 0 0 (g4) 79 [some (.ref 162), some (.int (nI a)), some (.int (nI b)), some (.int (nI y)), some (.int (nI (56 + 142 * a))), none, none, none] [.int _]
    rw [k8]
    refine J_if_eq (tgt := 233) hS dX8_talks_79 (by decide) (fun c1 => ?_) (fun c1 => ?_)
    · exact done g4 _ _ _ (fun _ _ => rfl) (by unfold tW5; rw [if_pos c1, ← hW4]; exact k3)
    · have e5 : tW5 lw lo w a b y mt = strW W4 a (sayO w a) (sayS w a mt) mt := by unfold tW5; rw [if_neg c1, ← hW4]
      have rk : g4 r (56 + 142 * a + 4) = W4 (56 + 142 * a + 4) := k3.at (by omega) (Mk_blk (by decide) (by decide))
      refine J_aload_n hS dX8_talks_82 rfl ?_
      refine J_getD (v := .ref r) hS dX8_talks_83 flX8_20 ob162 rfl (wI hr1 w4) ?_
      refine J_iload hS dX8_talks_86 rfl ?_
      refine J_iconst (v := 4) hS dX8_talks_88 (by decide) ?_
      refine J_iadd hS dX8_talks_89 ?_
      refine J_ialdN hS (56 + 142 * a + 4) dX8_talks_90 hr1.ar (by first | rfl | (simp only [n0, n1, n2, n3, n4, n5, n6, n7, n8, n9, n10, n11, n12, n13, n14, n15, n16, n17, n18, n19, n20, n24, n32, n56, n60, n64, n72, n99, n100, n128, n136, n142, n144, n200, n300, n999, n1000, n1500, n3464, nI_add, pk_mul] <;> first | rfl | (congr 1; omega))) (by omega) (by decide) ?_
      show J S 0 0 (g4) 91 [some (.ref 162), some (.int (nI a)), some (.int (nI b)), some (.int (nI y)), some (.int (nI (56 + 142 * a))), none, none, none] [.int _]
      rw [rk]
      refine J_iconst (v := 3) hS dX8_talks_91 (by decide) ?_
      refine J_icmp_eq (tgt := 233) hS dX8_talks_92 (by decide) (fun c2 => ?_) (fun c2 => ?_)
      · exact done g4 _ _ _ (fun _ _ => rfl) (by rw [e5]; unfold strW; rw [if_pos c2]; exact k3)
      ·
        refine J_iconst (v := 0) hS dX8_talks_95 (by decide) ?_
        refine J_istore (lt := fun i1 => [some (.ref 162), some (.int (nI a)), some (.int (nI b)), some (.int (nI y)), some (.int (nI (56 + 142 * a))), some (.int i1), none, none]) hS dX8_talks_96 (Nat.le_of_ble_eq_true rfl) (fun _ => rfl) (fun i1 ei1 => ?_)
        suffices H : ∀ (t k : Nat) (i : Int32) (y6 y7 : Option Value) (g5 : Mm), k + t = 3 → i = nI k → (∀ z, z ≠ r → g5 z = g4 z) → RowM g5 r (strK W4 a (sayO w a) (sayS w a mt) mt k) bb → J S 0 0 g5 98 [some (.ref 162), some (.int (nI a)), some (.int (nI b)), some (.int (nI y)), some (.int (nI (56 + 142 * a))), some (.int i), y6, y7] [] by
          exact H 3 0 i1 _ _ g4 (by omega) ei1 (fun _ _ => rfl) k3
        intro t
        induction t with
        | zero =>
          intro k i y6 y7 g5 hk hi n1 n3
          have ek : k = 3 := by omega
          subst ek; subst hi
          have w5 : g5 162 3 = nI r := by rw [n1 162 (by omega)]; exact w4
          refine J_weak (ls' := [some (.ref 162), some (.int (nI a)), some (.int (nI b)), some (.int (nI y)), some (.int (nI (56 + 142 * a))), some (.int (nI 3)), none, none]) ⟨Or.inr rfl, Or.inr rfl, Or.inr rfl, Or.inr rfl, Or.inr rfl, Or.inr rfl, Or.inl rfl, Or.inl rfl, trivial⟩ ?_
          refine J_iload hS dX8_talks_98 rfl ?_
          refine J_iconst (v := 3) hS dX8_talks_100 (by decide) ?_
          refine J_icmp_ge (tgt := 183) hS dX8_talks_101 (by decide) (fun c3 => ?_) (fun c3 => ?_)
          ·
            refine J_aload_n hS dX8_talks_183 rfl ?_
            refine J_getD (v := .ref r) hS dX8_talks_184 flX8_20 ob162 rfl (wI hr1 w5) ?_
            refine J_iload hS dX8_talks_187 rfl ?_
            refine J_iconst (v := 4) hS dX8_talks_189 (by decide) ?_
            refine J_iadd hS dX8_talks_190 ?_
            refine J_ialdN hS (56 + 142 * a + 4) dX8_talks_191 hr1.ar (by first | rfl | (simp only [n0, n1, n2, n3, n4, n5, n6, n7, n8, n9, n10, n11, n12, n13, n14, n15, n16, n17, n18, n19, n20, n24, n32, n56, n60, n64, n72, n99, n100, n128, n136, n142, n144, n200, n300, n999, n1000, n1500, n3464, nI_add, pk_mul] <;> first | rfl | (congr 1; omega))) (by omega) (by decide) ?_
            show J S 0 0 (g5) 192 [some (.ref 162), some (.int (nI a)), some (.int (nI b)), some (.int (nI y)), some (.int (nI (56 + 142 * a))), some (.int (nI 3)), none, none] [.int _]
            rw [n3.at (i := 56 + 142 * a + 4) (by omega) (Mk_blk (by decide) (by decide)), strK_lo (by decide)]
            refine J_iconst (v := 2) hS dX8_talks_192 (by decide) ?_
            refine J_icmp_eq (tgt := 233) hS dX8_talks_193 (by decide) (fun c4 => ?_) (fun c4 => ?_)
            · exact done g5 _ _ _ n1 (by rw [e5]; unfold strW; rw [if_neg c2, if_pos c4]; exact n3)
            · have hod : 56 + 142 * a + 136 + sayO w a = odB a + sayO w a := rfl
              have hodl : odB a + sayO w a < 3464 := by unfold odB; omega
              have o29 : g5 162 29 = nI (sayO w a) := by rw [n1 162 (by omega)]; exact k4
              refine J_aload_n hS dX8_talks_196 rfl ?_
              refine J_getD (v := .ref r) hS dX8_talks_197 flX8_20 ob162 rfl (wI hr1 w5) ?_
              refine J_iload hS dX8_talks_200 rfl ?_
              refine J_sipush (v := 136) hS dX8_talks_202 (by decide) ?_
              refine J_iadd hS dX8_talks_205 ?_
              refine J_aload_n hS dX8_talks_206 rfl ?_
              refine J_getI hS dX8_talks_207 flX8_288 ob162 rfl ?_
              show J S 0 0 (g5) 210 [some (.ref 162), some (.int (nI a)), some (.int (nI b)), some (.int (nI y)), some (.int (nI (56 + 142 * a))), some (.int (nI 3)), none, none] [.int _, .int _, .ref r]
              rw [o29, show nI (56 + 142 * a) + 136 = nI (odB a) by rw [n136, nI_add]; rfl]
              refine J_iadd hS dX8_talks_210 ?_
              refine J_aload_n hS dX8_talks_211 rfl ?_
              refine J_getD (v := .ref r) hS dX8_talks_212 flX8_20 ob162 rfl (wI hr1 w5) ?_
              refine J_iload hS dX8_talks_215 rfl ?_
              refine J_sipush (v := 136) hS dX8_talks_217 (by decide) ?_
              refine J_iadd hS dX8_talks_220 ?_
              refine J_aload_n hS dX8_talks_221 rfl ?_
              refine J_getI hS dX8_talks_222 flX8_288 ob162 rfl ?_
              show J S 0 0 (g5) 225 [some (.ref 162), some (.int (nI a)), some (.int (nI b)), some (.int (nI y)), some (.int (nI (56 + 142 * a))), some (.int (nI 3)), none, none] [.int _, .int _, .ref r, .int _, .ref r]
              rw [o29, show nI (56 + 142 * a) + 136 = nI (odB a) by rw [n136, nI_add]; rfl]
              refine J_iadd hS dX8_talks_225 ?_
              refine J_ialdN hS (odB a + sayO w a) dX8_talks_226 hr1.ar (by first | rfl | (simp only [n0, n1, n2, n3, n4, n5, n6, n7, n8, n9, n10, n11, n12, n13, n14, n15, n16, n17, n18, n19, n20, n24, n32, n56, n60, n64, n72, n99, n100, n128, n136, n142, n144, n200, n300, n999, n1000, n1500, n3464, nI_add, pk_mul] <;> first | rfl | (congr 1; omega))) hodl (by decide) ?_
              show J S 0 0 (g5) 227 [some (.ref 162), some (.int (nI a)), some (.int (nI b)), some (.int (nI y)), some (.int (nI (56 + 142 * a))), some (.int (nI 3)), none, none] [.int _, .int _, .ref r]
              rw [n3.at (i := odB a + sayO w a) hodl (Mk_od ho)]
              refine J_iconst (v := 1) hS dX8_talks_227 (by decide) ?_
              refine J_iadd hS dX8_talks_228 ?_
              refine J_callS1 (X' := fun _ _ => False) hS dX8_talks_229 msX8_269 rfl (by first | decide | omega) (by decide) (Nat.le_of_ble_eq_true rfl) ⟨Nat.le_trans (by decide) hR.1, Nat.le_trans (by decide) hR.2⟩ (fun _ _ q => q.elim) (m_bounded ?_)
              refine J_iastN hS (odB a + sayO w a) dX8_talks_232 hr1.ar (by first | rfl | (simp only [n0, n1, n2, n3, n4, n5, n6, n7, n8, n9, n10, n11, n12, n13, n14, n15, n16, n17, n18, n19, n20, n24, n32, n56, n60, n64, n72, n99, n100, n128, n136, n142, n144, n200, n300, n999, n1000, n1500, n3464, nI_add, pk_mul] <;> first | rfl | (congr 1; omega))) hodl (by decide) (fun g232 eg232 => ?_)
              refine done g232 _ _ _ (fun z hz => by rw [eg232, u2_ne z hz]; exact n1 z hz) ?_
              rw [e5]; unfold strW; rw [if_neg c2, if_neg c4, eg232]
              exact n3.put (Mk_od ho)
          · exact absurd (Int32.le_refl _) c3
        | succ t ih =>
          intro k i y6 y7 g5 hk hi n1 n3
          subst hi
          have hk3 : k < 3 := by omega
          have hsk := sayS_lt w a mt k
          have w5 : g5 162 3 = nI r := by rw [n1 162 (by omega)]; exact w4
          obtain ⟨p, hp⟩ : ∃ p, p = rN (sayO w a * 3 + k) := ⟨_, rfl⟩
          have hp3 : p < 3 := by rw [hp]; exact rN_lt ho hk3
          obtain ⟨B, hB⟩ : ∃ B, B = sgB a (con p (mt p)) := ⟨_, rfl⟩
          have hBl : B + 16 ≤ 3464 := by rw [hB]; unfold sgB; have := con_lt (r := p) (hmt p); omega
          have mkB : ∀ j, j < 16 → Mk (B + j) := fun j hj => by rw [hB]; exact Mk_sg (con_lt (hmt p)) hj
          have s98 : g5 198 k = nI (sayS w a mt k) := by rw [n1 198 (by omega)]; exact k6 k hk3
          refine J_weak (ls' := [some (.ref 162), some (.int (nI a)), some (.int (nI b)), some (.int (nI y)), some (.int (nI (56 + 142 * a))), some (.int (nI k)), none, none]) ⟨Or.inr rfl, Or.inr rfl, Or.inr rfl, Or.inr rfl, Or.inr rfl, Or.inr rfl, Or.inl rfl, Or.inl rfl, trivial⟩ ?_
          refine J_iload hS dX8_talks_98 rfl ?_
          refine J_iconst (v := 3) hS dX8_talks_100 (by decide) ?_
          refine J_icmp_ge (tgt := 183) hS dX8_talks_101 (by decide) (fun c3 => ?_) (fun c3 => ?_)
          · exact absurd c3 (nI_ge hk3 (by decide))
          ·
            refine J_gets hS dX8_talks_104 stX8_291 ro_PLACES ?_
            refine J_iconst (v := 3) hS dX8_talks_107 (by decide) ?_
            refine J_aload_n hS dX8_talks_108 rfl ?_
            refine J_getI hS dX8_talks_109 flX8_288 ob162 rfl ?_
            show J S 0 0 (g5) 112 [some (.ref 162), some (.int (nI a)), some (.int (nI b)), some (.int (nI y)), some (.int (nI (56 + 142 * a))), some (.int (nI k)), none, none] [.int _, .int 3, .ref 1003]
            rw [show g5 162 29 = nI (sayO w a) by rw [n1 162 (by omega)]; exact k4]
            refine J_imul hS dX8_talks_112 ?_
            refine J_iload hS dX8_talks_113 rfl ?_
            refine J_iadd hS dX8_talks_115 ?_
            refine J_taldN hS (sayO w a * 3 + k) dX8_talks_116 ro_PLACESt (pl3 _ _) (by omega) (by decide) ?_
            show J S 0 0 (g5) 117 [some (.ref 162), some (.int (nI a)), some (.int (nI b)), some (.int (nI y)), some (.int (nI (56 + 142 * a))), some (.int (nI k)), none, none] [.int _]
            rw [zRO_rN ho hk3, ← hp]
            refine J_istore (lt := fun z6 => [some (.ref 162), some (.int (nI a)), some (.int (nI b)), some (.int (nI y)), some (.int (nI (56 + 142 * a))), some (.int (nI k)), some (.int z6), none]) hS dX8_talks_117 (Nat.le_of_ble_eq_true rfl) (fun _ => rfl) (fun z6 ez6 => ?_)
            rw [show z6 = nI p from ez6]
            refine J_iload hS dX8_talks_119 rfl ?_
            refine J_bipush (v := 8) hS dX8_talks_121 (by decide) ?_
            refine J_iadd hS dX8_talks_123 ?_
            refine J_bipush (v := 16) hS dX8_talks_124 (by decide) ?_
            refine J_iload hS dX8_talks_126 rfl ?_
            refine J_aload_n hS dX8_talks_128 rfl ?_
            refine J_getR (t := 197) hS dX8_talks_129 flX8_56 ob162 rfl ?_
            refine J_iload hS dX8_talks_132 rfl ?_
            refine J_ialdN hS (p) dX8_talks_134 (show Ar lay NC .int 197 3 from arM 34 3 (by decide) (by decide) rfl) (by first | rfl | (simp only [n0, n1, n2, n3, n4, n5, n6, n7, n8, n9, n10, n11, n12, n13, n14, n15, n16, n17, n18, n19, n20, n24, n32, n56, n60, n64, n72, n99, n100, n128, n136, n142, n144, n200, n300, n999, n1000, n1500, n3464, nI_add, pk_mul] <;> first | rfl | (congr 1; omega))) (by omega) (by decide) ?_
            show J S 0 0 (g5) 135 [some (.ref 162), some (.int (nI a)), some (.int (nI b)), some (.int (nI y)), some (.int (nI (56 + 142 * a))), some (.int (nI k)), some (.int (nI p)), none] [.int _, .int (nI p), .int 16, .int _]
            rw [show g5 197 p = nI (mt p) by rw [n1 197 (by omega), k1 197 (by omega) (by decide) (by decide) (by decide) (by decide)]; exact hme p hp3]
            refine J_callS2 (X' := fun _ _ => False) hS dX8_talks_135 msX8_294 rfl (by first | decide | omega) (by decide) (Nat.le_of_ble_eq_true rfl) ⟨Nat.le_trans (by decide) hR.1, Nat.le_trans (by decide) hR.2⟩ (fun _ _ q => q.elim) (m_concept (show p < 2 ^ 31 by omega) ?_)
            refine J_imul hS dX8_talks_138 ?_
            refine J_iadd hS dX8_talks_139 ?_
            show J S 0 0 (g5) 140 [some (.ref 162), some (.int (nI a)), some (.int (nI b)), some (.int (nI y)), some (.int (nI (56 + 142 * a))), some (.int (nI k)), some (.int (nI p)), none] [.int _]
            rw [show nI (56 + 142 * a) + 8 + 16 * nI (con p (mt p)) = nI B by rw [n8, n16, pk_mul, nI_add, nI_add, hB]; rfl]
            refine J_istore (lt := fun z7 => [some (.ref 162), some (.int (nI a)), some (.int (nI b)), some (.int (nI y)), some (.int (nI (56 + 142 * a))), some (.int (nI k)), some (.int (nI p)), some (.int z7)]) hS dX8_talks_140 (Nat.le_of_ble_eq_true rfl) (fun _ => rfl) (fun z7 ez7 => ?_)
            rw [show z7 = nI B from ez7]
            refine J_aload_n hS dX8_talks_142 rfl ?_
            refine J_getD (v := .ref r) hS dX8_talks_143 flX8_20 ob162 rfl (wI hr1 w5) ?_
            refine J_iload hS dX8_talks_146 rfl ?_
            refine J_aload_n hS dX8_talks_148 rfl ?_
            refine J_getR (t := 198) hS dX8_talks_149 flX8_59 ob162 rfl ?_
            refine J_iload hS dX8_talks_152 rfl ?_
            refine J_ialdN hS (k) dX8_talks_154 (show Ar lay NC .int 198 3 from arM 35 3 (by decide) (by decide) rfl) (by first | rfl | (simp only [n0, n1, n2, n3, n4, n5, n6, n7, n8, n9, n10, n11, n12, n13, n14, n15, n16, n17, n18, n19, n20, n24, n32, n56, n60, n64, n72, n99, n100, n128, n136, n142, n144, n200, n300, n999, n1000, n1500, n3464, nI_add, pk_mul] <;> first | rfl | (congr 1; omega))) (by omega) (by decide) ?_
            show J S 0 0 (g5) 155 [some (.ref 162), some (.int (nI a)), some (.int (nI b)), some (.int (nI y)), some (.int (nI (56 + 142 * a))), some (.int (nI k)), some (.int (nI p)), some (.int (nI B))] [.int _, .int (nI B), .ref r]
            rw [s98]
            refine J_iadd hS dX8_talks_155 ?_
            refine J_aload_n hS dX8_talks_156 rfl ?_
            refine J_getD (v := .ref r) hS dX8_talks_157 flX8_20 ob162 rfl (wI hr1 w5) ?_
            refine J_iload hS dX8_talks_160 rfl ?_
            refine J_aload_n hS dX8_talks_162 rfl ?_
            refine J_getR (t := 198) hS dX8_talks_163 flX8_59 ob162 rfl ?_
            refine J_iload hS dX8_talks_166 rfl ?_
            refine J_ialdN hS (k) dX8_talks_168 (show Ar lay NC .int 198 3 from arM 35 3 (by decide) (by decide) rfl) (by first | rfl | (simp only [n0, n1, n2, n3, n4, n5, n6, n7, n8, n9, n10, n11, n12, n13, n14, n15, n16, n17, n18, n19, n20, n24, n32, n56, n60, n64, n72, n99, n100, n128, n136, n142, n144, n200, n300, n999, n1000, n1500, n3464, nI_add, pk_mul] <;> first | rfl | (congr 1; omega))) (by omega) (by decide) ?_
            show J S 0 0 (g5) 169 [some (.ref 162), some (.int (nI a)), some (.int (nI b)), some (.int (nI y)), some (.int (nI (56 + 142 * a))), some (.int (nI k)), some (.int (nI p)), some (.int (nI B))] [.int _, .int (nI B), .ref r, .int _, .ref r]
            rw [s98]
            refine J_iadd hS dX8_talks_169 ?_
            refine J_ialdN hS (B + sayS w a mt k) dX8_talks_170 hr1.ar (by first | rfl | (simp only [n0, n1, n2, n3, n4, n5, n6, n7, n8, n9, n10, n11, n12, n13, n14, n15, n16, n17, n18, n19, n20, n24, n32, n56, n60, n64, n72, n99, n100, n128, n136, n142, n144, n200, n300, n999, n1000, n1500, n3464, nI_add, pk_mul] <;> first | rfl | (congr 1; omega))) (by omega) (by decide) ?_
            show J S 0 0 (g5) 171 [some (.ref 162), some (.int (nI a)), some (.int (nI b)), some (.int (nI y)), some (.int (nI (56 + 142 * a))), some (.int (nI k)), some (.int (nI p)), some (.int (nI B))] [.int _, .int _, .ref r]
            rw [n3.at (i := B + sayS w a mt k) (by omega) (mkB _ hsk)]
            refine J_iconst (v := 1) hS dX8_talks_171 (by decide) ?_
            refine J_iadd hS dX8_talks_172 ?_
            refine J_callS1 (X' := fun _ _ => False) hS dX8_talks_173 msX8_269 rfl (by first | decide | omega) (by decide) (Nat.le_of_ble_eq_true rfl) ⟨Nat.le_trans (by decide) hR.1, Nat.le_trans (by decide) hR.2⟩ (fun _ _ q => q.elim) (m_bounded ?_)
            refine J_iastN hS (B + sayS w a mt k) dX8_talks_176 hr1.ar (by first | rfl | (simp only [n0, n1, n2, n3, n4, n5, n6, n7, n8, n9, n10, n11, n12, n13, n14, n15, n16, n17, n18, n19, n20, n24, n32, n56, n60, n64, n72, n99, n100, n128, n136, n142, n144, n200, n300, n999, n1000, n1500, n3464, nI_add, pk_mul] <;> first | rfl | (congr 1; omega))) (by omega) (by decide) (fun g176 eg176 => ?_)
            refine J_iinc (lt := fun i2 => [some (.ref 162), some (.int (nI a)), some (.int (nI b)), some (.int (nI y)), some (.int (nI (56 + 142 * a))), some (.int i2), some (.int (nI p)), some (.int (nI B))]) (v := 1) hS dX8_talks_177 rfl (by decide) (fun _ => rfl) (fun i2 ei2 => ?_)
            refine J_goto (tgt := 98) hS dX8_talks_180 (by decide) ?_
            refine ih (k + 1) i2 _ _ g176 (by omega) (by rw [ei2]; exact nI_1 k) (fun z hz => by rw [eg176, u2_ne z hz]; exact n1 z hz) ?_
            show RowM g176 r (st1 (strK W4 a (sayO w a) (sayS w a mt) mt k) (sgB a (con (rN (sayO w a * 3 + k)) (mt (rN (sayO w a * 3 + k)))) + sayS w a mt k)) bb
            rw [← hp, ← hB, eg176]
            exact n3.put (mkB _ hsk)
  have shown : ∀ x : Int32, x = tSh w a b y mt → J S 0 0 g2 40 [some (.ref 162), some (.int (nI a)), some (.int (nI b)), some (.int (nI y)), none, none, none, none] [.int x, .ref 162] := by
    intro x hx
    refine J_putZ hS dX8_talks_40 fpX8_311 ob162 rfl (by rw [hx]; exact hsh01) (fun g40 eg40 => ?_)
    refine J_aload_n hS dX8_talks_43 rfl ?_
    refine J_iconst (v := (-1)) hS dX8_talks_44 (by decide) ?_
    refine J_putI hS dX8_talks_45 fpX8_317 ob162 rfl (fun g45 eg45 => ?_)
    have o3 : ∀ z, z ≠ 162 → g45 z = g2 z := fun z hz => by rw [eg45, u2_ne z hz, eg40, u2_ne z hz]
    have j3 : ∀ j, j ≠ 31 → j ≠ 33 → g45 162 j = g1 162 j := fun j h1 h2 => by rw [eg45]; unfold u2; rw [if_neg (fun z => h1 z.2), eg40]; unfold u2; rw [if_neg (fun z => h2 z.2), o2 162 (by omega)]
    have j33 : g45 162 33 = tSh w a b y mt := by rw [eg45]; unfold u2; rw [if_neg (by decide), eg40]; unfold u2; rw [if_pos ⟨rfl, rfl⟩, hx]
    have j31 : g45 162 31 = -1 := by rw [eg45, u2_self]
    have row3 : RowM g45 r W3 bb := row2.fr (o3 r (by omega))
    have w3 : g45 162 3 = nI r := by rw [j3 3 (by decide) (by decide)]; exact w1
    have k1 : ∀ z, z ≠ r → z ≠ 162 → z ≠ 191 → z ≠ 198 → z ≠ 199 → g45 z = g z := fun z z1 z2 _ z4 z5 => by rw [o3 z z2, o2 z z1]; exact s1 z z1 z2 z4 z5
    have k2 : ∀ j, (j < 21 ∨ 33 < j ∨ j = 27 ∨ j = 28) → g45 162 j = g 162 j := fun j hj => by rw [j3 j (by omega) (by omega)]; exact s2 j (by omega) (by omega) (by omega)
    have rk : g45 r (56 + 142 * b + 4) = W3 (56 + 142 * b + 4) := row3.at (by omega) (Mk_blk (by decide) (by decide))
    have c198 : ∀ k, k < 3 → g45 198 k = nI (sayS w a mt k) := fun k hk => by rw [o3 198 (by decide), o2 198 (by omega)]; exact s6 k hk
    have c199 : ∀ k, k < 3 → g45 199 k = nI (tTk w a b y mt k) := fun k hk => by rw [o3 199 (by decide), o2 199 (by omega)]; exact s7 k hk
    have i29 : g45 162 29 = nI (sayO w a) := by rw [j3 29 (by decide) (by decide)]; exact s4
    have i30 : g45 162 30 = nI (tO' w a b y mt) := by rw [j3 30 (by decide) (by decide)]; exact s5
    have i32 : g45 162 32 = tRt w a b y mt := by rw [j3 32 (by decide) (by decide)]; exact s8
    refine J_aload_n hS dX8_talks_48 rfl ?_
    refine J_getD (v := .ref r) hS dX8_talks_49 flX8_20 ob162 rfl (wI hr1 w3) ?_
    refine J_iload_n hS dX8_talks_52 rfl ?_
    refine J_callS1 (X' := fun _ _ => False) hS dX8_talks_53 msX8_121 rfl (by first | decide | omega) (by decide) (Nat.le_of_ble_eq_true rfl) ⟨Nat.le_trans (by decide) hR.1, Nat.le_trans (by decide) hR.2⟩ (fun _ _ q => q.elim) (m_at ?_)
    refine J_iconst (v := 4) hS dX8_talks_56 (by decide) ?_
    refine J_iadd hS dX8_talks_57 ?_
    refine J_ialdN hS (56 + 142 * b + 4) dX8_talks_58 hr1.ar (by first | rfl | (simp only [n0, n1, n2, n3, n4, n5, n6, n7, n8, n9, n10, n11, n12, n13, n14, n15, n16, n17, n18, n19, n20, n24, n32, n56, n60, n64, n72, n99, n100, n128, n136, n142, n144, n200, n300, n999, n1000, n1500, n3464, nI_add, pk_mul] <;> first | rfl | (congr 1; omega))) (by omega) (by decide) ?_
    show J S 0 0 (g45) 59 [some (.ref 162), some (.int (nI a)), some (.int (nI b)), some (.int (nI y)), none, none, none, none] [.int _]
    rw [rk]
    refine J_iconst (v := 3) hS dX8_talks_59 (by decide) ?_
    refine J_icmp_eq (tgt := 69) hS dX8_talks_60 (by decide) (fun c1 => ?_) (fun c1 => ?_)
    · exact fin g45 _ _ _ _ k1 k2 (by unfold tW4 lrnF; rw [← hW3, if_pos c1]; exact row3) i29 i30 c198 c199 i32 j33 (by unfold tLn lrnO; rw [← hW3, if_pos c1]; exact j31)
    ·
      refine J_aload_n hS dX8_talks_63 rfl ?_
      refine J_iload_n hS dX8_talks_64 rfl ?_
      refine J_iload_n hS dX8_talks_65 rfl ?_
      refine J_callV2 (X' := fun _ _ => False) hS dX8_talks_66 mvX8_323 ob162 rfl (by first | decide | omega) (by decide) (Nat.le_of_ble_eq_true rfl) ⟨Nat.le_trans (by decide) hR.1, Nat.le_trans (by decide) hR.2⟩ (fun _ _ q => q.elim) (m_learns (s := sayS w a mt) (mt := mt) (tk := tTk w a b y mt) (rt := tRt w a b y mt) (sh := tSh w a b y mt) (lo := lo) (lw := lw) hr1 w3 row3 hb hy (sayS_lt w a mt) c198 hmt (fun k hk => by rw [k1 197 (by omega) (by decide) (by decide) (by decide) (by decide)]; exact hme k hk) (fun k _ => tTk_lt) c199 ho i29 (show tO' w a b y mt < 6 from pickO_lt (by decide)) i30 hrt01 i32 hsh01 j33 (by rw [k2 27 (by decide)]; exact hlo) (hRl.fr (by rw [row3.no (by decide) r5, hrow.no (by decide) r5]) (fun z z1 z2 => k1 z (by omega) (by omega) (by omega) (by omega) (by omega))) (fun g4 d1 d2 d3 d4 => ?_))
      refine fin g4 _ _ _ _ (fun z z1 z2 z3 z4 z5 => by rw [d1 z z1 z2 z3]; exact k1 z z1 z2 z3 z4 z5) (fun j hj => by rw [d2 j (by omega) (by omega)]; exact k2 j hj) ?_ (by rw [d2 29 (by decide) (by decide)]; exact i29) (by rw [d2 30 (by decide) (by decide)]; exact i30) (fun k hk => by rw [d1 198 (by omega) (by decide) (by decide)]; exact c198 k hk) (fun k hk => by rw [d1 199 (by omega) (by decide) (by decide)]; exact c199 k hk) (by rw [d2 32 (by decide) (by decide)]; exact i32) (by rw [d2 33 (by decide) (by decide)]; exact j33) ?_
      · have e4 : tW4 lw lo w a b y mt = lrnW W3 y b (if tSh w a b y mt = 0 then tO' w a b y mt else sayO w a) (sayS w a mt) (if tSh w a b y mt = 0 then tTk w a b y mt else mt) (VW lw lo W3 b (tRt w a b y mt) (tSh w a b y mt)) := by
          unfold tW4 lrnF
          rw [← hW3, if_neg c1]; rfl
        rw [e4]; exact d3
      · rw [d4, j31]
        unfold tLn lrnO
        rw [← hW3, if_neg c1]; rfl
  refine J_aload_n hS dX8_talks_26 rfl ?_
  refine J_getD (v := .ref r) hS dX8_talks_27 flX8_20 ob162 rfl (wI hr1 w2) ?_
  refine J_iconst (v := 4) hS dX8_talks_30 (by decide) ?_
  refine J_ialdN hS (4) dX8_talks_31 hr1.ar (by first | rfl | (simp only [n0, n1, n2, n3, n4, n5, n6, n7, n8, n9, n10, n11, n12, n13, n14, n15, n16, n17, n18, n19, n20, n24, n32, n56, n60, n64, n72, n99, n100, n128, n136, n142, n144, n200, n300, n999, n1000, n1500, n3464, nI_add, pk_mul] <;> first | rfl | (congr 1; omega))) (by decide) (by decide) ?_
  show J S 0 0 (g2) 32 [some (.ref 162), some (.int (nI a)), some (.int (nI b)), some (.int (nI y)), none, none, none, none] [.int _, .int (nI (dr (adv (W2 1)) 100)), .ref 162]
  rw [row2.at (i := 4) (by decide) (Mk_lo (by decide) (by decide)), W34]
  refine J_icmp_ge (tgt := 39) hS dX8_talks_32 (by decide) (fun c1 => ?_) (fun c1 => ?_)
  ·
    refine J_iconst (v := 0) hS dX8_talks_39 (by decide) ?_
    exact shown 0 (by rw [hsh, if_pos c1])
  ·
    refine J_iconst (v := 1) hS dX8_talks_35 (by decide) ?_
    refine J_goto (tgt := 40) hS dX8_talks_36 (by decide) ?_
    exact shown 1 (by rw [hsh, if_neg c1])
end RefK


/-! THE REFERENCE: a saying and how it is taken -/
theorem Wt.sayK {w : Wr} {a c : Nat} {mt : Nat → Nat} (h : Wt w c) (k : Nat) : Wt (sayK w a mt k) c := fun i h1 h2 => by rw [sayK_o (by omega)]; exact h i h1 h2
theorem takW_eq {w : Wr} {b i : Nat} (h : i ≠ 1) : takW w b i = w i := by unfold takW upd; rw [if_neg h]
theorem rn3 : ∀ o, o < 6 → ∀ p, p < 3 → ∃ k, k < 3 ∧ rN (o * 3 + k) = p := by decide
section RefS
variable {l : Launch} {E : Ey} {g : Mm} {Q : Option Value → Mm → Prop} {X : String → Mm → Prop} {r : Nat} {w bb : Wr}
set_option maxRecDepth 10000 in
set_option maxHeartbeats 4000000 in
theorem m_saysIt {a b y : Nat} {mt : Nat → Nat} (hr1 : Rw r) (hw : g 162 3 = nI r) (hrow : RowM g r w bb) (ha : a < 24) (hb : b < 24) (hy : y < 3) (hya : w (56 + 142 * a) = nI y) (hmt : ∀ k, mt k < 4) (hme : ∀ k, k < 3 → g 197 k = nI (mt k)) (hwa : Wt w a) (hwb : Wt w b)
    (q : ∀ g', (∀ z, z ≠ r → z ≠ 162 → z ≠ 198 → z ≠ 199 → g' z = g z) → (∀ j, j ≠ 29 → j ≠ 30 → j ≠ 32 → g' 162 j = g 162 j) → RowM g' r (tW2 w a b y mt) bb → g' 162 29 = nI (sayO w a) → g' 162 30 = nI (tO' w a b y mt) → (∀ k, k < 3 → g' 198 k = nI (sayS w a mt k)) → (∀ k, k < 3 → g' 199 k = nI (tTk w a b y mt k)) → g' 162 32 = tRt w a b y mt → Q none g') : Ct l E lay NC 2 0 0 yX8_saysIt [.ref 162, .int (nI a), .int (nI b)] g Q X := by
  have hr2 : r = 164 ∨ r = 165 := hr1
  have ho := sayO_lt w a
  refine Ct_in k_yX8_saysIt (by decide) rfl (Nat.le_of_ble_eq_true rfl) rfl ?_
  intro S hS hZ hr ht hR
  show J S 0 0 (g) 0 [some (.ref 162), some (.int (nI a)), some (.int (nI b)), none, none, none, none, none] []
  refine J_aload_n hS dX8_saysIt_0 rfl ?_
  refine J_getD (v := .ref r) hS dX8_saysIt_1 flX8_20 ob162 rfl (wI hr1 hw) ?_
  refine J_iload_n hS dX8_saysIt_4 rfl ?_
  refine J_callS1 (X' := fun _ _ => False) hS dX8_saysIt_5 msX8_121 rfl (by first | decide | omega) (by decide) (Nat.le_of_ble_eq_true rfl) ⟨Nat.le_trans (by decide) hR.1, Nat.le_trans (by decide) hR.2⟩ (fun _ _ q => q.elim) (m_at ?_)
  refine J_iconst (v := 0) hS dX8_saysIt_8 (by decide) ?_
  refine J_iadd hS dX8_saysIt_9 ?_
  refine J_ialdN hS (56 + 142 * a) dX8_saysIt_10 hr1.ar (by first | rfl | (simp only [n0, n1, n2, n3, n4, n5, n6, n7, n8, n9, n10, n11, n12, n13, n14, n15, n16, n17, n18, n19, n20, n24, n32, n56, n60, n64, n72, n99, n100, n128, n136, n142, n144, n200, n300, n999, n1000, n1500, n3464, nI_add, pk_mul] <;> first | rfl | (congr 1; omega))) (by omega) (by decide) ?_
  show J S 0 0 (g) 11 [some (.ref 162), some (.int (nI a)), some (.int (nI b)), none, none, none, none, none] [.int _]
  rw [hrow.at (i := 56 + 142 * a) (by omega) (Mk_blk (k := 0) (by decide) (by decide)), hya]
  refine J_istore_n (lt := fun x3 => [some (.ref 162), some (.int (nI a)), some (.int (nI b)), some (.int x3), none, none, none, none]) hS dX8_saysIt_11 (Nat.le_of_ble_eq_true rfl) (fun _ => rfl) (fun x3 ex3 => ?_)
  rw [show x3 = nI y from ex3]
  refine J_aload_n hS dX8_saysIt_12 rfl ?_
  refine J_aload_n hS dX8_saysIt_13 rfl ?_
  refine J_iload_n hS dX8_saysIt_14 rfl ?_
  refine J_callV1 (X' := fun _ _ => False) hS dX8_saysIt_15 mvX8_285 ob162 rfl (by first | decide | omega) (by decide) (Nat.le_of_ble_eq_true rfl) ⟨Nat.le_trans (by decide) hR.1, Nat.le_trans (by decide) hR.2⟩ (fun _ _ q => q.elim) (m_orderOf hr1 hw hrow ha hwa (fun g1 b1 b2 => ?_))
  have w1 : g1 162 3 = nI r := by rw [b1 162 (by omega)]; exact hw
  have e1 : nI (ordP w a).1 = nI (sayO w a) := rfl
  rw [e1]
  refine J_putI hS dX8_saysIt_18 fpX8_288 ob162 rfl (fun g18 eg18 => ?_)
  refine J_iconst (v := 0) hS dX8_saysIt_21 (by decide) ?_
  refine J_istore (lt := fun x4 => [some (.ref 162), some (.int (nI a)), some (.int (nI b)), some (.int (nI y)), some (.int x4), none, none, none]) hS dX8_saysIt_22 (Nat.le_of_ble_eq_true rfl) (fun _ => rfl) (fun x4 ex4 => ?_)
  have o18 : ∀ z, z ≠ 162 → g18 z = g1 z := fun z hz => by rw [eg18, u2_ne z hz]
  have s18 : ∀ j, j ≠ 29 → g18 162 j = g 162 j := fun j hj => by rw [eg18]; unfold u2; rw [if_neg (fun z => hj z.2), b1 162 (by omega)]
  have f18 : g18 162 29 = nI (sayO w a) := by rw [eg18, u2_self]
  -- the third loop and the end
  have L3 : ∀ (t k : Nat) (i : Int32) (x5 x6 x7 : Option Value) (g3 : Mm), k + t = 3 → i = nI k → (∀ z, z ≠ r → z ≠ 162 → z ≠ 198 → z ≠ 199 → g3 z = g z) → (∀ j, j ≠ 29 → j ≠ 30 → g3 162 j = g 162 j) → RowM g3 r (tW2 w a b y mt) bb → g3 162 29 = nI (sayO w a) → g3 162 30 = nI (tO' w a b y mt) → (∀ k, k < 3 → g3 198 k = nI (sayS w a mt k)) → (∀ j, j < k → g3 199 (rN (tO' w a b y mt * 3 + j)) = nI (tTk w a b y mt (rN (tO' w a b y mt * 3 + j)))) → J S 0 0 g3 126 [some (.ref 162), some (.int (nI a)), some (.int (nI b)), some (.int (nI y)), some (.int i), x5, x6, x7] [] := by
    obtain ⟨o', ho'⟩ : ∃ o', o' = tO' w a b y mt := ⟨_, rfl⟩
    have ho6 : o' < 6 := by rw [ho']; exact pickO_lt (by decide)
    obtain ⟨V, hV⟩ : ∃ V : Wr, V = tW2 w a b y mt := ⟨_, rfl⟩
    obtain ⟨tk, htk⟩ : ∃ tk : Nat → Nat, tk = tTk w a b y mt := ⟨_, rfl⟩
    have tk_at : ∀ k, k < 3 → tk (rN (o' * 3 + k)) = bst (fun v => wsW V y b (con (rN (o' * 3 + k)) v) (sayS w a mt k)) 4 := by
      intro k hk
      rw [htk, hV]
      show tk1 (takW (sayW w a y mt) b) y b (rN (o' * 3 + k)) (sayS w a mt (pN (takO (sayW w a y mt) b) (rN (o' * 3 + k)))) = _
      rw [show takO (sayW w a y mt) b = o' from ho'.symm, pN_rN o' ho6 k hk]; rfl
    rw [← ho', ← hV, ← htk]
    intro t
    induction t with
    | zero =>
      intro k i x5 x6 x7 g3 hk hi k1 k2 k3 k4 k5 k6 k7
      have ek : k = 3 := by omega
      subst ek; subst hi
      refine J_weak (ls' := [some (.ref 162), some (.int (nI a)), some (.int (nI b)), some (.int (nI y)), some (.int (nI 3)), none, none, none]) ⟨Or.inr rfl, Or.inr rfl, Or.inr rfl, Or.inr rfl, Or.inr rfl, Or.inl rfl, Or.inl rfl, Or.inl rfl, trivial⟩ ?_
      have t3 : ∀ p, p < 3 → g3 199 p = nI (tk p) := by
        intro p hp
        obtain ⟨j, hj, e⟩ := rn3 o' ho6 p hp
        rw [← e]; exact k7 j hj
      have tk4 : ∀ p, p < 3 → tk p < 4 := by
        intro p hp
        obtain ⟨j, hj, e⟩ := rn3 o' ho6 p hp
        rw [← e, tk_at j hj]; exact bst_lt (by decide)
      have m3 : ∀ p, p < 3 → g3 197 p = nI (mt p) := fun p hp => by rw [k1 197 (by omega) (by decide) (by decide) (by decide)]; exact hme p hp
      have fin : ∀ x : Int32, (x = 0 ∨ x = 1) → x = rtI tk mt → J S 0 0 g3 278 [some (.ref 162), some (.int (nI a)), some (.int (nI b)), some (.int (nI y)), some (.int (nI 3)), none, none, none] [.int x, .ref 162] := by
        intro x hx hx2
        refine J_putZ hS dX8_saysIt_278 fpX8_307 ob162 rfl hx (fun g278 eg278 => ?_)
        refine J_vret hS hZ hr dX8_saysIt_281 (by omega) (by omega) ?_
        refine q g278 (fun z z1 z2 z3 z4 => by rw [eg278, u2_ne z z2]; exact k1 z z1 z2 z3 z4) (fun j j1 j2 j3 => by rw [eg278]; unfold u2; rw [if_neg (fun z => j3 z.2)]; exact k2 j j1 j2) ?_ ?_ ?_ (fun k hk => by rw [eg278, u2_ne _ (by decide)]; exact k6 k hk) (fun k hk => by rw [eg278, u2_ne _ (by decide), t3 k hk, htk]) ?_
        · rw [← hV]; exact k3.fr (by rw [eg278, u2_ne _ (by omega)])
        · rw [eg278]; unfold u2; rw [if_neg (by decide)]; exact k4
        · rw [eg278]; unfold u2; rw [if_neg (by decide), ← ho']; exact k5
        · rw [eg278, u2_self, hx2, htk]; rfl
      have no : ¬ (tk 0 = mt 0 ∧ tk 1 = mt 1 ∧ tk 2 = mt 2) → J S 0 0 g3 277 [some (.ref 162), some (.int (nI a)), some (.int (nI b)), some (.int (nI y)), some (.int (nI 3)), none, none, none] [.ref 162] := by
        intro hno
        refine J_iconst (v := 0) hS dX8_saysIt_277 (by decide) ?_
        exact fin 0 (Or.inl rfl) (by unfold rtI; rw [if_neg hno])
      refine J_iload hS dX8_saysIt_126 rfl ?_
      refine J_iconst (v := 3) hS dX8_saysIt_128 (by decide) ?_
      refine J_icmp_ge (tgt := 227) hS dX8_saysIt_129 (by decide) (fun c1 => ?_) (fun c1 => ?_)
      ·
        refine J_aload_n hS dX8_saysIt_227 rfl ?_
        refine J_aload_n hS dX8_saysIt_228 rfl ?_
        refine J_getR (t := 199) hS dX8_saysIt_229 flX8_62 ob162 rfl ?_
        refine J_iconst (v := 0) hS dX8_saysIt_232 (by decide) ?_
        refine J_ialdN hS (0) dX8_saysIt_233 (show Ar lay NC .int 199 3 from arM 36 3 (by decide) (by decide) rfl) (by first | rfl | (simp only [n0, n1, n2, n3, n4, n5, n6, n7, n8, n9, n10, n11, n12, n13, n14, n15, n16, n17, n18, n19, n20, n24, n32, n56, n60, n64, n72, n99, n100, n128, n136, n142, n144, n200, n300, n999, n1000, n1500, n3464, nI_add, pk_mul] <;> first | rfl | (congr 1; omega))) (by decide) (by decide) ?_
        refine J_aload_n hS dX8_saysIt_234 rfl ?_
        refine J_getR (t := 197) hS dX8_saysIt_235 flX8_56 ob162 rfl ?_
        refine J_iconst (v := 0) hS dX8_saysIt_238 (by decide) ?_
        refine J_ialdN hS (0) dX8_saysIt_239 (show Ar lay NC .int 197 3 from arM 34 3 (by decide) (by decide) rfl) (by first | rfl | (simp only [n0, n1, n2, n3, n4, n5, n6, n7, n8, n9, n10, n11, n12, n13, n14, n15, n16, n17, n18, n19, n20, n24, n32, n56, n60, n64, n72, n99, n100, n128, n136, n142, n144, n200, n300, n999, n1000, n1500, n3464, nI_add, pk_mul] <;> first | rfl | (congr 1; omega))) (by decide) (by decide) ?_
        show J S 0 0 (g3) 240 [some (.ref 162), some (.int (nI a)), some (.int (nI b)), some (.int (nI y)), some (.int (nI 3)), none, none, none] [.int _, .int _, .ref 162]
        rw [t3 0 (by decide), m3 0 (by decide)]
        have a0 := tk4 0 (by decide)
        have b0 := hmt 0
        have a1 := tk4 1 (by decide)
        have b1 := hmt 1
        have a2 := tk4 2 (by decide)
        have b2 := hmt 2
        refine J_icmp_ne (tgt := 277) hS dX8_saysIt_240 (by decide) (fun c2 => ?_) (fun c2 => ?_)
        · exact no (fun z => c2 (by rw [z.1]))
        ·
          refine J_aload_n hS dX8_saysIt_243 rfl ?_
          refine J_getR (t := 199) hS dX8_saysIt_244 flX8_62 ob162 rfl ?_
          refine J_iconst (v := 1) hS dX8_saysIt_247 (by decide) ?_
          refine J_ialdN hS (1) dX8_saysIt_248 (show Ar lay NC .int 199 3 from arM 36 3 (by decide) (by decide) rfl) (by first | rfl | (simp only [n0, n1, n2, n3, n4, n5, n6, n7, n8, n9, n10, n11, n12, n13, n14, n15, n16, n17, n18, n19, n20, n24, n32, n56, n60, n64, n72, n99, n100, n128, n136, n142, n144, n200, n300, n999, n1000, n1500, n3464, nI_add, pk_mul] <;> first | rfl | (congr 1; omega))) (by decide) (by decide) ?_
          refine J_aload_n hS dX8_saysIt_249 rfl ?_
          refine J_getR (t := 197) hS dX8_saysIt_250 flX8_56 ob162 rfl ?_
          refine J_iconst (v := 1) hS dX8_saysIt_253 (by decide) ?_
          refine J_ialdN hS (1) dX8_saysIt_254 (show Ar lay NC .int 197 3 from arM 34 3 (by decide) (by decide) rfl) (by first | rfl | (simp only [n0, n1, n2, n3, n4, n5, n6, n7, n8, n9, n10, n11, n12, n13, n14, n15, n16, n17, n18, n19, n20, n24, n32, n56, n60, n64, n72, n99, n100, n128, n136, n142, n144, n200, n300, n999, n1000, n1500, n3464, nI_add, pk_mul] <;> first | rfl | (congr 1; omega))) (by decide) (by decide) ?_
          show J S 0 0 (g3) 255 [some (.ref 162), some (.int (nI a)), some (.int (nI b)), some (.int (nI y)), some (.int (nI 3)), none, none, none] [.int _, .int _, .ref 162]
          rw [t3 1 (by decide), m3 1 (by decide)]
          refine J_icmp_ne (tgt := 277) hS dX8_saysIt_255 (by decide) (fun c3 => ?_) (fun c3 => ?_)
          · exact no (fun z => c3 (by rw [z.2.1]))
          ·
            refine J_aload_n hS dX8_saysIt_258 rfl ?_
            refine J_getR (t := 199) hS dX8_saysIt_259 flX8_62 ob162 rfl ?_
            refine J_iconst (v := 2) hS dX8_saysIt_262 (by decide) ?_
            refine J_ialdN hS (2) dX8_saysIt_263 (show Ar lay NC .int 199 3 from arM 36 3 (by decide) (by decide) rfl) (by first | rfl | (simp only [n0, n1, n2, n3, n4, n5, n6, n7, n8, n9, n10, n11, n12, n13, n14, n15, n16, n17, n18, n19, n20, n24, n32, n56, n60, n64, n72, n99, n100, n128, n136, n142, n144, n200, n300, n999, n1000, n1500, n3464, nI_add, pk_mul] <;> first | rfl | (congr 1; omega))) (by decide) (by decide) ?_
            refine J_aload_n hS dX8_saysIt_264 rfl ?_
            refine J_getR (t := 197) hS dX8_saysIt_265 flX8_56 ob162 rfl ?_
            refine J_iconst (v := 2) hS dX8_saysIt_268 (by decide) ?_
            refine J_ialdN hS (2) dX8_saysIt_269 (show Ar lay NC .int 197 3 from arM 34 3 (by decide) (by decide) rfl) (by first | rfl | (simp only [n0, n1, n2, n3, n4, n5, n6, n7, n8, n9, n10, n11, n12, n13, n14, n15, n16, n17, n18, n19, n20, n24, n32, n56, n60, n64, n72, n99, n100, n128, n136, n142, n144, n200, n300, n999, n1000, n1500, n3464, nI_add, pk_mul] <;> first | rfl | (congr 1; omega))) (by decide) (by decide) ?_
            show J S 0 0 (g3) 270 [some (.ref 162), some (.int (nI a)), some (.int (nI b)), some (.int (nI y)), some (.int (nI 3)), none, none, none] [.int _, .int _, .ref 162]
            rw [t3 2 (by decide), m3 2 (by decide)]
            refine J_icmp_ne (tgt := 277) hS dX8_saysIt_270 (by decide) (fun c4 => ?_) (fun c4 => ?_)
            · exact no (fun z => c4 (by rw [z.2.2]))
            ·
              refine J_iconst (v := 1) hS dX8_saysIt_273 (by decide) ?_
              refine J_goto (tgt := 278) hS dX8_saysIt_274 (by decide) ?_
              refine fin 1 (Or.inr rfl) ?_
              unfold rtI
              rw [if_pos ⟨(nI_eq (by omega) (by omega)).mp c2, (nI_eq (by omega) (by omega)).mp c3, (nI_eq (by omega) (by omega)).mp c4⟩]
      · exact absurd (Int32.le_refl _) c1
    | succ t ih =>
      intro k i x5 x6 x7 g3 hk hi k1 k2 k3 k4 k5 k6 k7
      subst hi
      have hk3 : k < 3 := by omega
      have hsk := sayS_lt w a mt k
      have w3 : g3 162 3 = nI r := by rw [k2 3 (by decide) (by decide)]; exact hw
      obtain ⟨p, hp⟩ : ∃ p, p = rN (o' * 3 + k) := ⟨_, rfl⟩
      have hp3 : p < 3 := by rw [hp]; exact rN_lt ho6 hk3
      obtain ⟨f, hf⟩ : ∃ f : Nat → Int32, f = fun v => wsW V y b (con p v) (sayS w a mt k) := ⟨_, rfl⟩
      refine J_weak (ls' := [some (.ref 162), some (.int (nI a)), some (.int (nI b)), some (.int (nI y)), some (.int (nI k)), none, none, none]) ⟨Or.inr rfl, Or.inr rfl, Or.inr rfl, Or.inr rfl, Or.inr rfl, Or.inl rfl, Or.inl rfl, Or.inl rfl, trivial⟩ ?_
      have inner : ∀ (u v : Nat) (c i : Int32), v + u = 4 → 1 ≤ v → i = nI v → c = nI (bst f v) → J S 0 0 g3 153 [some (.ref 162), some (.int (nI a)), some (.int (nI b)), some (.int (nI y)), some (.int (nI k)), some (.int (nI p)), some (.int c), some (.int i)] [] := by
        intro u
        induction u with
        | zero =>
          intro v c i hv hv1 hi hc
          have ev : v = 4 := by omega
          subst ev; subst hi; subst hc
          refine J_iload hS dX8_saysIt_153 rfl ?_
          refine J_iconst (v := 4) hS dX8_saysIt_155 (by decide) ?_
          refine J_icmp_ge (tgt := 212) hS dX8_saysIt_156 (by decide) (fun c1 => ?_) (fun c1 => ?_)
          ·
            refine J_aload_n hS dX8_saysIt_212 rfl ?_
            refine J_getR (t := 199) hS dX8_saysIt_213 flX8_62 ob162 rfl ?_
            refine J_iload hS dX8_saysIt_216 rfl ?_
            refine J_iload hS dX8_saysIt_218 rfl ?_
            refine J_iastN hS (p) dX8_saysIt_220 (show Ar lay NC .int 199 3 from arM 36 3 (by decide) (by decide) rfl) (by first | rfl | (simp only [n0, n1, n2, n3, n4, n5, n6, n7, n8, n9, n10, n11, n12, n13, n14, n15, n16, n17, n18, n19, n20, n24, n32, n56, n60, n64, n72, n99, n100, n128, n136, n142, n144, n200, n300, n999, n1000, n1500, n3464, nI_add, pk_mul] <;> first | rfl | (congr 1; omega))) (by omega) (by decide) (fun g220 eg220 => ?_)
            refine J_iinc (lt := fun i2 => [some (.ref 162), some (.int (nI a)), some (.int (nI b)), some (.int (nI y)), some (.int i2), some (.int (nI p)), some (.int (nI (bst f 4))), some (.int (nI 4))]) (v := 1) hS dX8_saysIt_221 rfl (by decide) (fun _ => rfl) (fun i2 ei2 => ?_)
            refine J_goto (tgt := 126) hS dX8_saysIt_224 (by decide) ?_
            refine ih (k + 1) i2 _ _ _ g220 (by omega) (by rw [ei2]; exact nI_1 k) (fun z z1 z2 z3 z4 => by rw [eg220, u2_ne z z4]; exact k1 z z1 z2 z3 z4) (fun j j1 j2 => by rw [eg220, u2_ne _ (by decide)]; exact k2 j j1 j2) (k3.fr (by rw [eg220, u2_ne _ (by omega)])) (by rw [eg220, u2_ne _ (by decide)]; exact k4) (by rw [eg220, u2_ne _ (by decide)]; exact k5) (fun j hj => by rw [eg220, u2_ne _ (by decide)]; exact k6 j hj) (fun j hj => ?_)
            rw [eg220]
            by_cases e : rN (o' * 3 + j) = p
            · unfold u2
              rw [if_pos ⟨rfl, e⟩, e, hp, tk_at k hk3, hf, hp]
            · unfold u2
              rw [if_neg (fun z => e z.2)]
              exact k7 j (by
                rcases Nat.lt_or_ge j k with z | z
                · exact z
                · have : j = k := by omega
                  subst this; exact absurd hp.symm e)
          · exact absurd (Int32.le_refl _) c1
        | succ u ihu =>
          intro v c i hv hv1 hi hc
          subst hi; subst hc
          have hbv := bst_lt (f := f) (n := v) (by omega)
          have hst : bst f (v + 1) = if f (bst f v) < f v then v else bst f v := rfl
          refine J_iload hS dX8_saysIt_153 rfl ?_
          refine J_iconst (v := 4) hS dX8_saysIt_155 (by decide) ?_
          refine J_icmp_ge (tgt := 212) hS dX8_saysIt_156 (by decide) (fun c1 => ?_) (fun c1 => ?_)
          · exact absurd c1 (nI_ge (show v < 4 by omega) (by decide))
          ·
            refine J_aload_n hS dX8_saysIt_159 rfl ?_
            refine J_iload_n hS dX8_saysIt_160 rfl ?_
            refine J_iload hS dX8_saysIt_161 rfl ?_
            refine J_iload hS dX8_saysIt_163 rfl ?_
            refine J_callS2 (X' := fun _ _ => False) hS dX8_saysIt_165 msX8_294 rfl (by first | decide | omega) (by decide) (Nat.le_of_ble_eq_true rfl) ⟨Nat.le_trans (by decide) hR.1, Nat.le_trans (by decide) hR.2⟩ (fun _ _ q => q.elim) (m_concept (show p < 2 ^ 31 by omega) ?_)
            refine J_iload_n hS dX8_saysIt_168 rfl ?_
            refine J_aload_n hS dX8_saysIt_169 rfl ?_
            refine J_getR (t := 198) hS dX8_saysIt_170 flX8_59 ob162 rfl ?_
            refine J_iload hS dX8_saysIt_173 rfl ?_
            refine J_ialdN hS (k) dX8_saysIt_175 (show Ar lay NC .int 198 3 from arM 35 3 (by decide) (by decide) rfl) (by first | rfl | (simp only [n0, n1, n2, n3, n4, n5, n6, n7, n8, n9, n10, n11, n12, n13, n14, n15, n16, n17, n18, n19, n20, n24, n32, n56, n60, n64, n72, n99, n100, n128, n136, n142, n144, n200, n300, n999, n1000, n1500, n3464, nI_add, pk_mul] <;> first | rfl | (congr 1; omega))) (by omega) (by decide) ?_
            show J S 0 0 (g3) 176 [some (.ref 162), some (.int (nI a)), some (.int (nI b)), some (.int (nI y)), some (.int (nI k)), some (.int (nI p)), some (.int (nI (bst f v))), some (.int (nI v))] [.int _, .int (nI y), .int (nI (con p v)), .int (nI b), .ref 162]
            rw [k6 k hk3]
            refine J_callV4 (X' := fun _ _ => False) hS dX8_saysIt_176 mvX8_303 ob162 rfl (by first | decide | omega) (by decide) (Nat.le_of_ble_eq_true rfl) ⟨Nat.le_trans (by decide) hR.1, Nat.le_trans (by decide) hR.2⟩ (fun _ _ q => q.elim) (m_weightSeen hr1 w3 k3 hb (con_lt (by omega)) hy hsk ?_)
            refine J_aload_n hS dX8_saysIt_179 rfl ?_
            refine J_iload_n hS dX8_saysIt_180 rfl ?_
            refine J_iload hS dX8_saysIt_181 rfl ?_
            refine J_iload hS dX8_saysIt_183 rfl ?_
            refine J_callS2 (X' := fun _ _ => False) hS dX8_saysIt_185 msX8_294 rfl (by first | decide | omega) (by decide) (Nat.le_of_ble_eq_true rfl) ⟨Nat.le_trans (by decide) hR.1, Nat.le_trans (by decide) hR.2⟩ (fun _ _ q => q.elim) (m_concept (show p < 2 ^ 31 by omega) ?_)
            refine J_iload_n hS dX8_saysIt_188 rfl ?_
            refine J_aload_n hS dX8_saysIt_189 rfl ?_
            refine J_getR (t := 198) hS dX8_saysIt_190 flX8_59 ob162 rfl ?_
            refine J_iload hS dX8_saysIt_193 rfl ?_
            refine J_ialdN hS (k) dX8_saysIt_195 (show Ar lay NC .int 198 3 from arM 35 3 (by decide) (by decide) rfl) (by first | rfl | (simp only [n0, n1, n2, n3, n4, n5, n6, n7, n8, n9, n10, n11, n12, n13, n14, n15, n16, n17, n18, n19, n20, n24, n32, n56, n60, n64, n72, n99, n100, n128, n136, n142, n144, n200, n300, n999, n1000, n1500, n3464, nI_add, pk_mul] <;> first | rfl | (congr 1; omega))) (by omega) (by decide) ?_
            show J S 0 0 (g3) 196 [some (.ref 162), some (.int (nI a)), some (.int (nI b)), some (.int (nI y)), some (.int (nI k)), some (.int (nI p)), some (.int (nI (bst f v))), some (.int (nI v))] [.int _, .int (nI y), .int (nI (con p (bst f v))), .int (nI b), .ref 162, .int _]
            rw [k6 k hk3]
            refine J_callV4 (X' := fun _ _ => False) hS dX8_saysIt_196 mvX8_303 ob162 rfl (by first | decide | omega) (by decide) (Nat.le_of_ble_eq_true rfl) ⟨Nat.le_trans (by decide) hR.1, Nat.le_trans (by decide) hR.2⟩ (fun _ _ q => q.elim) (m_weightSeen hr1 w3 k3 hb (con_lt (by omega)) hy hsk ?_)
            have f1 : wsW V y b (con p v) (sayS w a mt k) = f v := by rw [hf]
            have f2 : wsW V y b (con p (bst f v)) (sayS w a mt k) = f (bst f v) := by
              have : f (bst f v) = (fun v => wsW V y b (con p v) (sayS w a mt k)) (bst f v) := congrFun hf _
              exact this.symm
            rw [f1, f2]
            refine J_icmp_le (tgt := 206) hS dX8_saysIt_199 (by decide) (fun c2 => ?_) (fun c2 => ?_)
            ·
              refine J_iinc (lt := fun i2 => [some (.ref 162), some (.int (nI a)), some (.int (nI b)), some (.int (nI y)), some (.int (nI k)), some (.int (nI p)), some (.int (nI (bst f v))), some (.int i2)]) (v := 1) hS dX8_saysIt_206 rfl (by decide) (fun _ => rfl) (fun i2 ei2 => ?_)
              refine J_goto (tgt := 153) hS dX8_saysIt_209 (by decide) ?_
              exact ihu (v + 1) _ i2 (by omega) (by omega) (by rw [ei2]; exact nI_1 v) (by rw [hst, if_neg (Int32.not_lt.mpr c2)])
            ·
              refine J_iload hS dX8_saysIt_202 rfl ?_
              refine J_istore (lt := fun c2x => [some (.ref 162), some (.int (nI a)), some (.int (nI b)), some (.int (nI y)), some (.int (nI k)), some (.int (nI p)), some (.int c2x), some (.int (nI v))]) hS dX8_saysIt_204 (Nat.le_of_ble_eq_true rfl) (fun _ => rfl) (fun c2x ec2x => ?_)
              refine J_iinc (lt := fun i2 => [some (.ref 162), some (.int (nI a)), some (.int (nI b)), some (.int (nI y)), some (.int (nI k)), some (.int (nI p)), some (.int c2x), some (.int i2)]) (v := 1) hS dX8_saysIt_206 rfl (by decide) (fun _ => rfl) (fun i2 ei2 => ?_)
              refine J_goto (tgt := 153) hS dX8_saysIt_209 (by decide) ?_
              exact ihu (v + 1) c2x i2 (by omega) (by omega) (by rw [ei2]; exact nI_1 v) (by rw [ec2x, hst, if_pos (Int32.not_le.mp c2)])
      refine J_iload hS dX8_saysIt_126 rfl ?_
      refine J_iconst (v := 3) hS dX8_saysIt_128 (by decide) ?_
      refine J_icmp_ge (tgt := 227) hS dX8_saysIt_129 (by decide) (fun c1 => ?_) (fun c1 => ?_)
      · exact absurd c1 (nI_ge hk3 (by decide))
      ·
        refine J_gets hS dX8_saysIt_132 stX8_291 ro_PLACES ?_
        refine J_iconst (v := 3) hS dX8_saysIt_135 (by decide) ?_
        refine J_aload_n hS dX8_saysIt_136 rfl ?_
        refine J_getI hS dX8_saysIt_137 flX8_300 ob162 rfl ?_
        show J S 0 0 (g3) 140 [some (.ref 162), some (.int (nI a)), some (.int (nI b)), some (.int (nI y)), some (.int (nI k)), none, none, none] [.int _, .int 3, .ref 1003]
        rw [k5]
        refine J_imul hS dX8_saysIt_140 ?_
        refine J_iload hS dX8_saysIt_141 rfl ?_
        refine J_iadd hS dX8_saysIt_143 ?_
        refine J_taldN hS (o' * 3 + k) dX8_saysIt_144 ro_PLACESt (by rw [n3, pk_mul, nI_add]; congr 1; omega) (by omega) (by decide) ?_
        show J S 0 0 (g3) 145 [some (.ref 162), some (.int (nI a)), some (.int (nI b)), some (.int (nI y)), some (.int (nI k)), none, none, none] [.int _]
        rw [zRO_rN ho6 hk3, ← hp]
        refine J_istore (lt := fun y5 => [some (.ref 162), some (.int (nI a)), some (.int (nI b)), some (.int (nI y)), some (.int (nI k)), some (.int y5), none, none]) hS dX8_saysIt_145 (Nat.le_of_ble_eq_true rfl) (fun _ => rfl) (fun y5 ey5 => ?_)
        refine J_iconst (v := 0) hS dX8_saysIt_147 (by decide) ?_
        refine J_istore (lt := fun y6 => [some (.ref 162), some (.int (nI a)), some (.int (nI b)), some (.int (nI y)), some (.int (nI k)), some (.int y5), some (.int y6), none]) hS dX8_saysIt_148 (Nat.le_of_ble_eq_true rfl) (fun _ => rfl) (fun y6 ey6 => ?_)
        refine J_iconst (v := 1) hS dX8_saysIt_150 (by decide) ?_
        refine J_istore (lt := fun y7 => [some (.ref 162), some (.int (nI a)), some (.int (nI b)), some (.int (nI y)), some (.int (nI k)), some (.int y5), some (.int y6), some (.int y7)]) hS dX8_saysIt_151 (Nat.le_of_ble_eq_true rfl) (fun _ => rfl) (fun y7 ey7 => ?_)
        rw [show y5 = nI p from ey5]
        exact inner 3 1 y6 y7 (by omega) (by omega) ey7 (by rw [ey6]; unfold bst; split <;> rfl)
  -- the second loop
  have L2 : ∀ (t k : Nat) (i : Int32) (x5 : Option Value) (g3 : Mm), k + t = 3 → i = nI k → (∀ z, z ≠ r → z ≠ 162 → z ≠ 198 → z ≠ 199 → g3 z = g z) → (∀ j, j ≠ 29 → g3 162 j = g 162 j) → RowM g3 r (useK (sayK w a mt 3) y (sayS w a mt) k) bb → g3 162 29 = nI (sayO w a) → (∀ k, k < 3 → g3 198 k = nI (sayS w a mt k)) → J S 0 0 g3 78 [some (.ref 162), some (.int (nI a)), some (.int (nI b)), some (.int (nI y)), some (.int i), x5, none, none] [] := by
    intro t
    induction t with
    | zero =>
      intro k i x5 g3 hk hi k1 k2 k3 k4 k6
      have ek : k = 3 := by omega
      subst ek; subst hi
      have w3 : g3 162 3 = nI r := by rw [k2 3 (by decide)]; exact hw
      have wt3 : Wt (sayW w a y mt) b := fun i h1 h2 => by rw [sayW_o hy (by omega) (by omega)]; exact hwb i h1 h2
      refine J_weak (ls' := [some (.ref 162), some (.int (nI a)), some (.int (nI b)), some (.int (nI y)), some (.int (nI 3)), none, none, none]) ⟨Or.inr rfl, Or.inr rfl, Or.inr rfl, Or.inr rfl, Or.inr rfl, Or.inl rfl, Or.inl rfl, Or.inl rfl, trivial⟩ ?_
      refine J_iload hS dX8_saysIt_78 rfl ?_
      refine J_iconst (v := 3) hS dX8_saysIt_80 (by decide) ?_
      refine J_icmp_ge (tgt := 114) hS dX8_saysIt_81 (by decide) (fun c1 => ?_) (fun c1 => ?_)
      ·
        refine J_aload_n hS dX8_saysIt_114 rfl ?_
        refine J_aload_n hS dX8_saysIt_115 rfl ?_
        refine J_iload_n hS dX8_saysIt_116 rfl ?_
        refine J_callV1 (X' := fun _ _ => False) hS dX8_saysIt_117 mvX8_285 ob162 rfl (by first | decide | omega) (by decide) (Nat.le_of_ble_eq_true rfl) ⟨Nat.le_trans (by decide) hR.1, Nat.le_trans (by decide) hR.2⟩ (fun _ _ q => q.elim) (m_orderOf hr1 w3 (show RowM g3 r (sayW w a y mt) bb from k3) hb wt3 (fun g4 d1 d2 => ?_))
        rw [show nI (ordP (sayW w a y mt) b).1 = nI (tO' w a b y mt) from rfl]
        refine J_putI hS dX8_saysIt_120 fpX8_300 ob162 rfl (fun g120 eg120 => ?_)
        refine J_iconst (v := 0) hS dX8_saysIt_123 (by decide) ?_
        refine J_istore (lt := fun i2 => [some (.ref 162), some (.int (nI a)), some (.int (nI b)), some (.int (nI y)), some (.int i2), none, none, none]) hS dX8_saysIt_124 (Nat.le_of_ble_eq_true rfl) (fun _ => rfl) (fun i2 ei2 => ?_)
        refine L3 3 0 i2 _ _ _ g120 (by omega) ei2 (fun z z1 z2 z3 z4 => by rw [eg120, u2_ne z z2, d1 z z1]; exact k1 z z1 z2 z3 z4) (fun j j1 j2 => by rw [eg120]; unfold u2; rw [if_neg (fun z => j2 z.2), d1 162 (by omega)]; exact k2 j j1) (RowM.fr d2 (by rw [eg120, u2_ne _ (by omega)])) (by rw [eg120]; unfold u2; rw [if_neg (by decide), d1 162 (by omega)]; exact k4) (by rw [eg120, u2_self]) (fun j hj => by rw [eg120, u2_ne _ (by decide), d1 198 (by omega)]; exact k6 j hj) (fun j hj => absurd hj (by omega))
      · exact absurd (Int32.le_refl _) c1
    | succ t ih =>
      intro k i x5 g3 hk hi k1 k2 k3 k4 k6
      subst hi
      have hk3 : k < 3 := by omega
      have hsk := sayS_lt w a mt k
      have w3 : g3 162 3 = nI r := by rw [k2 3 (by decide)]; exact hw
      refine J_weak (ls' := [some (.ref 162), some (.int (nI a)), some (.int (nI b)), some (.int (nI y)), some (.int (nI k)), none, none, none]) ⟨Or.inr rfl, Or.inr rfl, Or.inr rfl, Or.inr rfl, Or.inr rfl, Or.inl rfl, Or.inl rfl, Or.inl rfl, trivial⟩ ?_
      refine J_iload hS dX8_saysIt_78 rfl ?_
      refine J_iconst (v := 3) hS dX8_saysIt_80 (by decide) ?_
      refine J_icmp_ge (tgt := 114) hS dX8_saysIt_81 (by decide) (fun c1 => ?_) (fun c1 => ?_)
      · exact absurd c1 (nI_ge hk3 (by decide))
      ·
        refine J_aload_n hS dX8_saysIt_84 rfl ?_
        refine J_getD (v := .ref r) hS dX8_saysIt_85 flX8_20 ob162 rfl (wI hr1 w3) ?_
        refine J_bipush (v := 8) hS dX8_saysIt_88 (by decide) ?_
        refine J_bipush (v := 16) hS dX8_saysIt_90 (by decide) ?_
        refine J_iload_n hS dX8_saysIt_92 rfl ?_
        refine J_imul hS dX8_saysIt_93 ?_
        refine J_iadd hS dX8_saysIt_94 ?_
        refine J_aload_n hS dX8_saysIt_95 rfl ?_
        refine J_getR (t := 198) hS dX8_saysIt_96 flX8_59 ob162 rfl ?_
        refine J_iload hS dX8_saysIt_99 rfl ?_
        refine J_ialdN hS (k) dX8_saysIt_101 (show Ar lay NC .int 198 3 from arM 35 3 (by decide) (by decide) rfl) (by first | rfl | (simp only [n0, n1, n2, n3, n4, n5, n6, n7, n8, n9, n10, n11, n12, n13, n14, n15, n16, n17, n18, n19, n20, n24, n32, n56, n60, n64, n72, n99, n100, n128, n136, n142, n144, n200, n300, n999, n1000, n1500, n3464, nI_add, pk_mul] <;> first | rfl | (congr 1; omega))) (by omega) (by decide) ?_
        show J S 0 0 (g3) 102 [some (.ref 162), some (.int (nI a)), some (.int (nI b)), some (.int (nI y)), some (.int (nI k)), none, none, none] [.int _, .int _, .ref r]
        rw [k6 k hk3]
        refine J_iadd hS dX8_saysIt_102 ?_
        show J S 0 0 (g3) 103 [some (.ref 162), some (.int (nI a)), some (.int (nI b)), some (.int (nI y)), some (.int (nI k)), none, none, none] [.int _, .ref r]
        rw [show (8 : Int32) + 16 * nI y + nI (sayS w a mt k) = nI (8 + 16 * y + sayS w a mt k) by rw [n8, n16, pk_mul, nI_add, nI_add]]
        refine J_dup2 hS dX8_saysIt_103 rfl rfl ?_
        refine J_ialdN hS (8 + 16 * y + sayS w a mt k) dX8_saysIt_104 hr1.ar (by first | rfl | (simp only [n0, n1, n2, n3, n4, n5, n6, n7, n8, n9, n10, n11, n12, n13, n14, n15, n16, n17, n18, n19, n20, n24, n32, n56, n60, n64, n72, n99, n100, n128, n136, n142, n144, n200, n300, n999, n1000, n1500, n3464, nI_add, pk_mul] <;> first | rfl | (congr 1; omega))) (by omega) (by decide) ?_
        show J S 0 0 (g3) 105 [some (.ref 162), some (.int (nI a)), some (.int (nI b)), some (.int (nI y)), some (.int (nI k)), none, none, none] [.int _, .int (nI (8 + 16 * y + sayS w a mt k)), .ref r]
        rw [k3.at (i := 8 + 16 * y + sayS w a mt k) (by omega) (Mk_lo (by omega) (by omega))]
        refine J_iconst (v := 1) hS dX8_saysIt_105 (by decide) ?_
        refine J_iadd hS dX8_saysIt_106 ?_
        refine J_iastN hS (8 + 16 * y + sayS w a mt k) dX8_saysIt_107 hr1.ar (by first | rfl | (simp only [n0, n1, n2, n3, n4, n5, n6, n7, n8, n9, n10, n11, n12, n13, n14, n15, n16, n17, n18, n19, n20, n24, n32, n56, n60, n64, n72, n99, n100, n128, n136, n142, n144, n200, n300, n999, n1000, n1500, n3464, nI_add, pk_mul] <;> first | rfl | (congr 1; omega))) (by omega) (by decide) (fun g107 eg107 => ?_)
        refine J_iinc (lt := fun i2 => [some (.ref 162), some (.int (nI a)), some (.int (nI b)), some (.int (nI y)), some (.int i2), none, none, none]) (v := 1) hS dX8_saysIt_108 rfl (by decide) (fun _ => rfl) (fun i2 ei2 => ?_)
        refine J_goto (tgt := 78) hS dX8_saysIt_111 (by decide) ?_
        refine ih (k + 1) i2 _ g107 (by omega) (by rw [ei2]; exact nI_1 k) (fun z z1 z2 z3 z4 => by rw [eg107, u2_ne z z1]; exact k1 z z1 z2 z3 z4) (fun j j1 => by rw [eg107, u2_ne _ (by omega)]; exact k2 j j1) (by rw [eg107]; exact k3.put (Mk_lo (by omega) (by omega))) (by rw [eg107, u2_ne _ (by omega)]; exact k4) (fun j hj => by rw [eg107, u2_ne _ (by omega)]; exact k6 j hj)
  -- the first loop
  suffices H : ∀ (t k : Nat) (i : Int32) (x5 : Option Value) (g3 : Mm), k + t = 3 → i = nI k → (∀ z, z ≠ r → z ≠ 162 → z ≠ 198 → z ≠ 199 → g3 z = g z) → (∀ j, j ≠ 29 → g3 162 j = g 162 j) → RowM g3 r (sayK w a mt k) bb → g3 162 29 = nI (sayO w a) → (∀ j, j < k → g3 198 j = nI (sayS w a mt j)) → J S 0 0 g3 24 [some (.ref 162), some (.int (nI a)), some (.int (nI b)), some (.int (nI y)), some (.int i), x5, none, none] [] by
    exact H 3 0 x4 none g18 (by omega) ex4 (fun z z1 z2 _ _ => by rw [o18 z z2]; exact b1 z z1) s18 (RowM.fr b2 (o18 r (by omega))) f18 (fun j hj => absurd hj (by omega))
  intro t
  induction t with
  | zero =>
    intro k i x5 g3 hk hi k1 k2 k3 k4 k6
    have ek : k = 3 := by omega
    subst ek; subst hi
    refine J_weak (ls' := [some (.ref 162), some (.int (nI a)), some (.int (nI b)), some (.int (nI y)), some (.int (nI 3)), none, none, none]) ⟨Or.inr rfl, Or.inr rfl, Or.inr rfl, Or.inr rfl, Or.inr rfl, Or.inl rfl, Or.inl rfl, Or.inl rfl, trivial⟩ ?_
    refine J_iload hS dX8_saysIt_24 rfl ?_
    refine J_iconst (v := 3) hS dX8_saysIt_26 (by decide) ?_
    refine J_icmp_ge (tgt := 75) hS dX8_saysIt_27 (by decide) (fun c1 => ?_) (fun c1 => ?_)
    ·
      refine J_iconst (v := 0) hS dX8_saysIt_75 (by decide) ?_
      refine J_istore (lt := fun i2 => [some (.ref 162), some (.int (nI a)), some (.int (nI b)), some (.int (nI y)), some (.int i2), none, none, none]) hS dX8_saysIt_76 (Nat.le_of_ble_eq_true rfl) (fun _ => rfl) (fun i2 ei2 => ?_)
      exact L2 3 0 i2 _ g3 (by omega) ei2 k1 k2 k3 k4 k6
    · exact absurd (Int32.le_refl _) c1
  | succ t ih =>
    intro k i x5 g3 hk hi k1 k2 k3 k4 k6
    subst hi
    have hk3 : k < 3 := by omega
    have w3 : g3 162 3 = nI r := by rw [k2 3 (by decide)]; exact hw
    obtain ⟨p, hp⟩ : ∃ p, p = rN (sayO w a * 3 + k) := ⟨_, rfl⟩
    have hp3 : p < 3 := by rw [hp]; exact rN_lt ho hk3
    refine J_weak (ls' := [some (.ref 162), some (.int (nI a)), some (.int (nI b)), some (.int (nI y)), some (.int (nI k)), none, none, none]) ⟨Or.inr rfl, Or.inr rfl, Or.inr rfl, Or.inr rfl, Or.inr rfl, Or.inl rfl, Or.inl rfl, Or.inl rfl, trivial⟩ ?_
    refine J_iload hS dX8_saysIt_24 rfl ?_
    refine J_iconst (v := 3) hS dX8_saysIt_26 (by decide) ?_
    refine J_icmp_ge (tgt := 75) hS dX8_saysIt_27 (by decide) (fun c1 => ?_) (fun c1 => ?_)
    · exact absurd c1 (nI_ge hk3 (by decide))
    ·
      refine J_gets hS dX8_saysIt_30 stX8_291 ro_PLACES ?_
      refine J_iconst (v := 3) hS dX8_saysIt_33 (by decide) ?_
      refine J_aload_n hS dX8_saysIt_34 rfl ?_
      refine J_getI hS dX8_saysIt_35 flX8_288 ob162 rfl ?_
      show J S 0 0 (g3) 38 [some (.ref 162), some (.int (nI a)), some (.int (nI b)), some (.int (nI y)), some (.int (nI k)), none, none, none] [.int _, .int 3, .ref 1003]
      rw [k4]
      refine J_imul hS dX8_saysIt_38 ?_
      refine J_iload hS dX8_saysIt_39 rfl ?_
      refine J_iadd hS dX8_saysIt_41 ?_
      refine J_taldN hS (sayO w a * 3 + k) dX8_saysIt_42 ro_PLACESt (by rw [n3, pk_mul, nI_add]; congr 1; omega) (by omega) (by decide) ?_
      show J S 0 0 (g3) 43 [some (.ref 162), some (.int (nI a)), some (.int (nI b)), some (.int (nI y)), some (.int (nI k)), none, none, none] [.int _]
      rw [zRO_rN ho hk3, ← hp]
      refine J_istore (lt := fun y5 => [some (.ref 162), some (.int (nI a)), some (.int (nI b)), some (.int (nI y)), some (.int (nI k)), some (.int y5), none, none]) hS dX8_saysIt_43 (Nat.le_of_ble_eq_true rfl) (fun _ => rfl) (fun y5 ey5 => ?_)
      rw [show y5 = nI p from ey5]
      refine J_aload_n hS dX8_saysIt_45 rfl ?_
      refine J_getR (t := 198) hS dX8_saysIt_46 flX8_59 ob162 rfl ?_
      refine J_iload hS dX8_saysIt_49 rfl ?_
      refine J_aload_n hS dX8_saysIt_51 rfl ?_
      refine J_iload_n hS dX8_saysIt_52 rfl ?_
      refine J_iload hS dX8_saysIt_53 rfl ?_
      refine J_aload_n hS dX8_saysIt_55 rfl ?_
      refine J_getR (t := 197) hS dX8_saysIt_56 flX8_56 ob162 rfl ?_
      refine J_iload hS dX8_saysIt_59 rfl ?_
      refine J_ialdN hS (p) dX8_saysIt_61 (show Ar lay NC .int 197 3 from arM 34 3 (by decide) (by decide) rfl) (by first | rfl | (simp only [n0, n1, n2, n3, n4, n5, n6, n7, n8, n9, n10, n11, n12, n13, n14, n15, n16, n17, n18, n19, n20, n24, n32, n56, n60, n64, n72, n99, n100, n128, n136, n142, n144, n200, n300, n999, n1000, n1500, n3464, nI_add, pk_mul] <;> first | rfl | (congr 1; omega))) (by omega) (by decide) ?_
      show J S 0 0 (g3) 62 [some (.ref 162), some (.int (nI a)), some (.int (nI b)), some (.int (nI y)), some (.int (nI k)), some (.int (nI p)), none, none] [.int _, .int (nI p), .int (nI a), .ref 162, .int (nI k), .ref (198)]
      rw [show g3 197 p = nI (mt p) by rw [k1 197 (by omega) (by decide) (by decide) (by decide)]; exact hme p hp3]
      refine J_callS2 (X' := fun _ _ => False) hS dX8_saysIt_62 msX8_294 rfl (by first | decide | omega) (by decide) (Nat.le_of_ble_eq_true rfl) ⟨Nat.le_trans (by decide) hR.1, Nat.le_trans (by decide) hR.2⟩ (fun _ _ q => q.elim) (m_concept (show p < 2 ^ 31 by omega) ?_)
      refine J_callV2 (X' := fun _ _ => False) hS dX8_saysIt_65 mvX8_297 ob162 rfl (by first | decide | omega) (by decide) (Nat.le_of_ble_eq_true rfl) ⟨Nat.le_trans (by decide) hR.1, Nat.le_trans (by decide) hR.2⟩ (fun _ _ q => q.elim) (m_signOf hr1 w3 k3 ha (con_lt (hmt p)) (hwa.sayK k) (fun g4 d1 d2 => ?_))
      have es : (sgnP (sayK w a mt k) a (con p (mt p))).1 = sayS w a mt k := by unfold sayS say1; rw [← hp]
      have ew : upd (sayK w a mt k) 1 (sgnP (sayK w a mt k) a (con p (mt p))).2 = sayK w a mt (k + 1) := by
        show _ = (say1 (sayK w a mt k) a (sayO w a) mt k).2
        unfold say1; rw [← hp]
      rw [es]
      rw [ew] at d2
      refine J_iastN hS (k) dX8_saysIt_68 (show Ar lay NC .int 198 3 from arM 35 3 (by decide) (by decide) rfl) (by first | rfl | (simp only [n0, n1, n2, n3, n4, n5, n6, n7, n8, n9, n10, n11, n12, n13, n14, n15, n16, n17, n18, n19, n20, n24, n32, n56, n60, n64, n72, n99, n100, n128, n136, n142, n144, n200, n300, n999, n1000, n1500, n3464, nI_add, pk_mul] <;> first | rfl | (congr 1; omega))) (by omega) (by decide) (fun g68 eg68 => ?_)
      refine J_iinc (lt := fun i2 => [some (.ref 162), some (.int (nI a)), some (.int (nI b)), some (.int (nI y)), some (.int i2), some (.int (nI p)), none, none]) (v := 1) hS dX8_saysIt_69 rfl (by decide) (fun _ => rfl) (fun i2 ei2 => ?_)
      refine J_goto (tgt := 24) hS dX8_saysIt_72 (by decide) ?_
      refine ih (k + 1) i2 _ g68 (by omega) (by rw [ei2]; exact nI_1 k) (fun z z1 z2 z3 z4 => by rw [eg68, u2_ne z z3, d1 z z1]; exact k1 z z1 z2 z3 z4) (fun j j1 => by rw [eg68, u2_ne _ (by decide), d1 162 (by omega)]; exact k2 j j1) (RowM.fr d2 (by rw [eg68, u2_ne _ (by omega)])) (by rw [eg68, u2_ne _ (by decide), d1 162 (by omega)]; exact k4) (fun j hj => ?_)
      rw [eg68]
      unfold u2
      by_cases e : j = k
      · subst e; rw [if_pos ⟨rfl, rfl⟩]
      · rw [if_neg (fun z => e z.2), d1 198 (by omega)]; exact k6 j (by omega)
end RefS


/-! THE READER: tokens -/
theorem ab_nI {h : Nat} (h0 : 0 < h) (h1 : h < 2 ^ 31) : ab 2 (nI h) = .ref h := by
  show (if nI h = 0 then Value.null else .ref (nI h).toNatClampNeg) = _
  rw [if_neg (fun z => absurd ((nI_eq h1 (by decide)).mp (z.trans n0)) (by omega)), nI_clamp h1]
def TxC (g : Mm) (T : Wr) (n : Nat) : Prop := g 155 0 = nI 156 ∧ g 155 1 = nI n ∧ n ≤ 300 ∧ g 156 = T
theorem TxC.txt {g : Mm} {T : Wr} {n : Nat} (h : TxC g T n) : ab 2 (g 155 0) = .ref 156 := by rw [h.1]; exact ab_nI (by decide) (by decide)
theorem TxC.fr {g g' : Mm} {T : Wr} {n : Nat} (h : TxC g T n) (e1 : g' 156 = g 156) (e2 : g' 155 0 = g 155 0) (e3 : g' 155 1 = g 155 1) : TxC g' T n := ⟨by rw [e2]; exact h.1, by rw [e3]; exact h.2.1, h.2.2.1, by rw [e1]; exact h.2.2.2⟩
def FrR (g g' : Mm) : Prop := (∀ z, z ≠ 155 → g' z = g z) ∧ ∀ j, (j < 3 ∨ 7 ≤ j) → g' 155 j = g 155 j
theorem FrR.refl {g : Mm} : FrR g g := ⟨fun _ _ => rfl, fun _ _ => rfl⟩
theorem FrR.trans {g g1 g2 : Mm} (a : FrR g g1) (b : FrR g1 g2) : FrR g g2 := ⟨fun z hz => (b.1 z hz).trans (a.1 z hz), fun j hj => (b.2 j hj).trans (a.2 j hj)⟩
theorem FrR.u {g : Mm} {j : Nat} {v : Int32} (h1 : 3 ≤ j) (h2 : j < 7) : FrR g (u2 g 155 j v) := ⟨fun z hz => u2_ne z hz, fun i hi => by unfold u2; rw [if_neg (by omega)]⟩
theorem TxC.frR {g g' : Mm} {T : Wr} {n : Nat} (h : TxC g T n) (e : FrR g g') : TxC g' T n := h.fr (e.1 156 (by decide)) (e.2 0 (by decide)) (e.2 1 (by decide))
def RdC (g : Mm) (T : Wr) (n h s : Nat) : Prop := TxC g T n ∧ g 155 2 = nI h ∧ s ≤ n ∧ g 155 3 = nI (tkK T n s) ∧ g 155 4 = nI s ∧ g 155 5 = nI (tkE T n s) ∧ (tkK T n s = 1 → g 155 6 = tkN T n s)
theorem u2_row155 {g : Mm} {j i : Nat} {v : Int32} (h : i ≠ j) : u2 g 155 j v 155 i = g 155 i := by unfold u2; rw [if_neg (fun z => h z.2)]
section RdT
variable {l : Launch} {E : Ey} {g : Mm} {Q : Option Value → Mm → Prop} {X : String → Mm → Prop} {h : Nat} {T : Wr} {n : Nat}
theorem c_isDigit {x : Int32} (q : ∀ r : Int32, (r = 0 ∨ r = 1) → (r = 1 ↔ dgB x = true) → Q (some (.int r)) g) : Ct l E lay NC 0 0 0 yX2_isDigit [.int x] g Q X := by
  refine Ct_in k_yX2_isDigit (by decide) rfl (Nat.le_of_ble_eq_true rfl) rfl ?_
  intro S hS hZ hr ht hR
  show J S 0 0 (g) 0 [some (.int x)] []
  refine J_iload_n hS dX2_isDigit_0 rfl ?_
  refine J_bipush (v := 48) hS dX2_isDigit_1 (by decide) ?_
  refine J_icmp_lt (tgt := 16) hS dX2_isDigit_3 (by decide) (fun c1 => ?_) (fun c1 => ?_)
  ·
    refine J_iconst (v := 0) hS dX2_isDigit_16 (by decide) ?_
    refine J_zret hS hZ hr dX2_isDigit_17 (by decide) (by omega) (by omega) ?_
    exact q 0 (Or.inl rfl) ⟨fun z => absurd z (by decide), fun z => absurd c1 (Int32.not_lt.mpr (of_decide_eq_true z).1)⟩
  ·
    refine J_iload_n hS dX2_isDigit_6 rfl ?_
    refine J_bipush (v := 57) hS dX2_isDigit_7 (by decide) ?_
    refine J_icmp_gt (tgt := 16) hS dX2_isDigit_9 (by decide) (fun c2 => ?_) (fun c2 => ?_)
    ·
      refine J_iconst (v := 0) hS dX2_isDigit_16 (by decide) ?_
      refine J_zret hS hZ hr dX2_isDigit_17 (by decide) (by omega) (by omega) ?_
      exact q 0 (Or.inl rfl) ⟨fun z => absurd z (by decide), fun z => absurd c2 (Int32.not_lt.mpr (of_decide_eq_true z).2)⟩
    ·
      refine J_iconst (v := 1) hS dX2_isDigit_12 (by decide) ?_
      refine J_goto (tgt := 17) hS dX2_isDigit_13 (by decide) ?_
      refine J_zret hS hZ hr dX2_isDigit_17 (by decide) (by omega) (by omega) ?_
      exact q 1 (Or.inr rfl) ⟨fun _ => decide_eq_true ⟨Int32.not_lt.mp c1, Int32.not_lt.mp c2⟩, fun _ => rfl⟩
theorem c_isLetter {x : Int32} (q : ∀ r : Int32, (r = 0 ∨ r = 1) → (r = 1 ↔ ltB x = true) → Q (some (.int r)) g) : Ct l E lay NC 0 0 0 yX2_isLetter [.int x] g Q X := by
  refine Ct_in k_yX2_isLetter (by decide) rfl (Nat.le_of_ble_eq_true rfl) rfl ?_
  intro S hS hZ hr ht hR
  show J S 0 0 (g) 0 [some (.int x)] []
  refine J_iload_n hS dX2_isLetter_0 rfl ?_
  refine J_bipush (v := 97) hS dX2_isLetter_1 (by decide) ?_
  refine J_icmp_lt (tgt := 16) hS dX2_isLetter_3 (by decide) (fun c1 => ?_) (fun c1 => ?_)
  ·
    refine J_iconst (v := 0) hS dX2_isLetter_16 (by decide) ?_
    refine J_zret hS hZ hr dX2_isLetter_17 (by decide) (by omega) (by omega) ?_
    exact q 0 (Or.inl rfl) ⟨fun z => absurd z (by decide), fun z => absurd c1 (Int32.not_lt.mpr (of_decide_eq_true z).1)⟩
  ·
    refine J_iload_n hS dX2_isLetter_6 rfl ?_
    refine J_bipush (v := 122) hS dX2_isLetter_7 (by decide) ?_
    refine J_icmp_gt (tgt := 16) hS dX2_isLetter_9 (by decide) (fun c2 => ?_) (fun c2 => ?_)
    ·
      refine J_iconst (v := 0) hS dX2_isLetter_16 (by decide) ?_
      refine J_zret hS hZ hr dX2_isLetter_17 (by decide) (by omega) (by omega) ?_
      exact q 0 (Or.inl rfl) ⟨fun z => absurd z (by decide), fun z => absurd c2 (Int32.not_lt.mpr (of_decide_eq_true z).2)⟩
    ·
      refine J_iconst (v := 1) hS dX2_isLetter_12 (by decide) ?_
      refine J_goto (tgt := 17) hS dX2_isLetter_13 (by decide) ?_
      refine J_zret hS hZ hr dX2_isLetter_17 (by decide) (by omega) (by omega) ?_
      exact q 1 (Or.inr rfl) ⟨fun _ => decide_eq_true ⟨Int32.not_lt.mp c1, Int32.not_lt.mp c2⟩, fun _ => rfl⟩
set_option maxRecDepth 10000 in
set_option maxHeartbeats 4000000 in
theorem c_step {e : Nat} (tx : TxC g T n) (hh : g 155 2 = nI h) (he : e ≤ n) (ee : g 155 5 = nI e) (q : ∀ g', FrR g g' → RdC g' T n h (skp T n e) → Q none g') : Ct l E lay NC 2 0 0 yX2_step [.ref 155] g Q X := by
  have hn3 := tx.2.2.1
  refine Ct_in k_yX2_step (by decide) rfl (Nat.le_of_ble_eq_true rfl) rfl ?_
  intro S hS hZ hr ht hR
  show J S 0 0 (g) 0 [some (.ref 155)] []
  refine J_aload_n hS dX2_step_0 rfl ?_
  refine J_aload_n hS dX2_step_1 rfl ?_
  refine J_getI hS dX2_step_2 flX2_29 ob155 rfl ?_
  show J S 0 0 (g) 5 [some (.ref 155)] [.int _, .ref 155]
  rw [ee]
  refine J_putI hS dX2_step_5 fpX2_26 ob155 rfl (fun g5 eg5 => ?_)
  have two : ∀ g1 : Mm, FrR g g1 → g1 155 4 = nI (skp T n e) → J S 0 0 g1 46 [some (.ref 155)] [] := by
    intro g1 k1 k2
    obtain ⟨s, es⟩ : ∃ s, s = skp T n e := ⟨_, rfl⟩
    rw [← es] at k2
    have hs : s ≤ n := by rw [es]; exact skp_le.2 he
    have q2 : ∀ g', FrR g1 g' → g' 155 3 = nI (tkK T n s) → g' 155 4 = nI s → g' 155 5 = nI (tkE T n s) → (tkK T n s = 1 → g' 155 6 = tkN T n s) → Q none g' := fun g' f1 f2 f3 f4 f5 => q g' (k1.trans f1) (by rw [← es]; exact ⟨tx.frR (k1.trans f1), by rw [f1.2 2 (by decide), k1.2 2 (by decide)]; exact hh, hs, f2, f3, f4, f5⟩)
    have tx1 := tx.frR k1
    refine J_aload_n hS dX2_step_46 rfl ?_
    refine J_aload_n hS dX2_step_47 rfl ?_
    refine J_getI hS dX2_step_48 flX2_26 ob155 rfl ?_
    show J S 0 0 (g1) 51 [some (.ref 155)] [.int _, .ref 155]
    rw [k2]
    refine J_putI hS dX2_step_51 fpX2_29 ob155 rfl (fun g51 eg51 => ?_)
    have f51 : FrR g1 g51 := by rw [eg51]; exact FrR.u (by decide) (by decide)
    have s51 : g51 155 4 = nI s := by rw [eg51, u2_row155 (by decide)]; exact k2
    have e51 : g51 155 5 = nI s := by rw [eg51, u2_self]
    have tx5 := tx1.frR f51
    refine J_aload_n hS dX2_step_54 rfl ?_
    refine J_getI hS dX2_step_55 flX2_26 ob155 rfl ?_
    refine J_aload_n hS dX2_step_58 rfl ?_
    refine J_getI hS dX2_step_59 flX2_15 ob155 rfl ?_
    show J S 0 0 (g51) 62 [some (.ref 155)] [.int _, .int _]
    rw [s51, tx5.2.1]
    refine J_icmp_lt (tgt := 73) hS dX2_step_62 (by decide) (fun c1 => ?_) (fun c1 => ?_)
    · have hlt : s < n := by
        rcases Nat.lt_or_ge s n with z | z
        · exact z
        · exact absurd c1 (nI_nlt z (by omega))
      refine J_aload_n hS dX2_step_73 rfl ?_
      refine J_getD (v := .ref 156) hS dX2_step_74 flX2_9 ob155 rfl tx5.txt ?_
      refine J_aload_n hS dX2_step_77 rfl ?_
      refine J_getI hS dX2_step_78 flX2_26 ob155 rfl ?_
      show J S 0 0 (g51) 81 [some (.ref 155)] [.int _, .ref 156]
      rw [s51]
      refine J_ialdN hS (s) dX2_step_81 ar156 (by first | rfl | (simp only [n0, n1, n2, n3, n4, n5, n6, n7, n8, n9, n10, n11, n12, n13, n14, n15, n16, n17, n18, n19, n20, n24, n32, n56, n60, n64, n72, n99, n100, n128, n136, n142, n144, n200, n300, n999, n1000, n1500, n3464, nI_add, pk_mul] <;> first | rfl | (congr 1; omega))) (by omega) (by decide) ?_
      show J S 0 0 (g51) 82 [some (.ref 155)] [.int _]
      rw [tx5.2.2.2]
      refine J_callS1 (X' := fun _ _ => False) hS dX2_step_82 msX2_59 rfl (by first | decide | omega) (by decide) (Nat.le_of_ble_eq_true rfl) ⟨Nat.le_trans (by decide) hR.1, Nat.le_trans (by decide) hR.2⟩ (fun _ _ q => q.elim) (c_isDigit (fun rr t1 t2 => ?_))
      refine J_if_eq (tgt := 171) hS dX2_step_85 (by decide) (fun c2 => ?_) (fun c2 => ?_)
      · have nd : ¬ dgB (T s) = true := fun z => by rw [t2.mpr z] at c2; exact absurd c2 (by decide)
        refine J_aload_n hS dX2_step_171 rfl ?_
        refine J_getD (v := .ref 156) hS dX2_step_172 flX2_9 ob155 rfl tx5.txt ?_
        refine J_aload_n hS dX2_step_175 rfl ?_
        refine J_getI hS dX2_step_176 flX2_26 ob155 rfl ?_
        show J S 0 0 (g51) 179 [some (.ref 155)] [.int _, .ref 156]
        rw [s51]
        refine J_ialdN hS (s) dX2_step_179 ar156 (by first | rfl | (simp only [n0, n1, n2, n3, n4, n5, n6, n7, n8, n9, n10, n11, n12, n13, n14, n15, n16, n17, n18, n19, n20, n24, n32, n56, n60, n64, n72, n99, n100, n128, n136, n142, n144, n200, n300, n999, n1000, n1500, n3464, nI_add, pk_mul] <;> first | rfl | (congr 1; omega))) (by omega) (by decide) ?_
        show J S 0 0 (g51) 180 [some (.ref 155)] [.int _]
        rw [tx5.2.2.2]
        refine J_callS1 (X' := fun _ _ => False) hS dX2_step_180 msX2_62 rfl (by first | decide | omega) (by decide) (Nat.le_of_ble_eq_true rfl) ⟨Nat.le_trans (by decide) hR.1, Nat.le_trans (by decide) hR.2⟩ (fun _ _ q => q.elim) (c_isLetter (fun r2 t3 t4 => ?_))
        refine J_if_eq (tgt := 230) hS dX2_step_183 (by decide) (fun c3 => ?_) (fun c3 => ?_)
        · have nl : ¬ ltB (T s) = true := fun z => by rw [t4.mpr z] at c3; exact absurd c3 (by decide)
          have hk : tkK T n s = 3 := by unfold tkK; rw [if_neg (by omega), if_neg nd, if_neg nl]
          have hE2 : tkE T n s = s + 1 := by unfold tkE; rw [if_neg (by omega), if_neg nd, if_neg nl]
          refine J_aload_n hS dX2_step_230 rfl ?_
          refine J_iconst (v := 3) hS dX2_step_231 (by decide) ?_
          refine J_putI hS dX2_step_232 fpX2_23 ob155 rfl (fun g232 eg232 => ?_)
          refine J_aload_n hS dX2_step_235 rfl ?_
          refine J_dup hS dX2_step_236 rfl ?_
          refine J_getI hS dX2_step_237 flX2_29 ob155 rfl ?_
          refine J_iconst (v := 1) hS dX2_step_240 (by decide) ?_
          refine J_iadd hS dX2_step_241 ?_
          refine J_putI hS dX2_step_242 fpX2_29 ob155 rfl (fun g242 eg242 => ?_)
          refine J_vret hS hZ hr dX2_step_245 (by omega) (by omega) ?_
          refine q2 g242 (f51.trans ((show FrR g51 g232 by rw [eg232]; exact FrR.u (by decide) (by decide)).trans (show FrR g232 g242 by rw [eg242]; exact FrR.u (by decide) (by decide)))) ?_ ?_ ?_ (fun z => absurd z (by rw [hk]; decide))
          · rw [eg242, u2_row155 (by decide), eg232, u2_self, hk]; rfl
          · rw [eg242, u2_row155 (by decide), eg232, u2_row155 (by decide)]; exact s51
          · rw [eg242, u2_self, eg232, u2_row155 (by decide), e51, hE2]; exact nI_1 s
        · have yl : ltB (T s) = true := t4.mp (t3.resolve_left c3)
          have hk : tkK T n s = 2 := by unfold tkK; rw [if_neg (by omega), if_neg nd, if_pos yl]
          have hE2 : tkE T n s = whR ltB T s (n - s) := by unfold tkE; rw [if_neg (by omega), if_neg nd, if_pos yl]
          refine J_aload_n hS dX2_step_186 rfl ?_
          refine J_iconst (v := 2) hS dX2_step_187 (by decide) ?_
          refine J_putI hS dX2_step_188 fpX2_23 ob155 rfl (fun g188 eg188 => ?_)
          suffices H : ∀ (r p : Nat) (g3 : Mm), p + r = n → s ≤ p → FrR g1 g3 → g3 155 3 = nI 2 → g3 155 4 = nI s → g3 155 5 = nI p → whR ltB T s (n - s) = whR ltB T p r → J S 0 0 g3 191 [some (.ref 155)] [] by
            exact H (n - s) s g188 (by omega) (Nat.le_refl _) (f51.trans (by rw [eg188]; exact FrR.u (by decide) (by decide))) (by rw [eg188, u2_self]; rfl) (by rw [eg188, u2_row155 (by decide)]; exact s51) (by rw [eg188, u2_row155 (by decide)]; exact e51) rfl
          intro r
          induction r with
          | zero =>
            intro p g3 hp hsp f1 f2 f3 f4 f5
            have tx3 := tx1.frR f1
            refine J_aload_n hS dX2_step_191 rfl ?_
            refine J_getI hS dX2_step_192 flX2_29 ob155 rfl ?_
            refine J_aload_n hS dX2_step_195 rfl ?_
            refine J_getI hS dX2_step_196 flX2_15 ob155 rfl ?_
            show J S 0 0 (g3) 199 [some (.ref 155)] [.int _, .int _]
            rw [f4, tx3.2.1]
            refine J_icmp_ge (tgt := 245) hS dX2_step_199 (by decide) (fun c4 => ?_) (fun c4 => ?_)
            ·
              refine J_vret hS hZ hr dX2_step_245 (by omega) (by omega) ?_
              exact q2 g3 f1 (by rw [f2, hk]) f3 (by rw [f4, hE2, f5]; rfl) (fun z => absurd z (by rw [hk]; decide))
            · exact absurd (nI_le (show n ≤ p by omega) (by omega)) c4
          | succ r ih =>
            intro p g3 hp hsp f1 f2 f3 f4 f5
            have tx3 := tx1.frR f1
            have w1 : whR ltB T p (r + 1) = if ltB (T p) = true then whR ltB T (p + 1) r else p := rfl
            refine J_aload_n hS dX2_step_191 rfl ?_
            refine J_getI hS dX2_step_192 flX2_29 ob155 rfl ?_
            refine J_aload_n hS dX2_step_195 rfl ?_
            refine J_getI hS dX2_step_196 flX2_15 ob155 rfl ?_
            show J S 0 0 (g3) 199 [some (.ref 155)] [.int _, .int _]
            rw [f4, tx3.2.1]
            refine J_icmp_ge (tgt := 245) hS dX2_step_199 (by decide) (fun c4 => ?_) (fun c4 => ?_)
            · exact absurd c4 (nI_ge (show p < n by omega) (by omega))
            ·
              refine J_aload_n hS dX2_step_202 rfl ?_
              refine J_getD (v := .ref 156) hS dX2_step_203 flX2_9 ob155 rfl tx3.txt ?_
              refine J_aload_n hS dX2_step_206 rfl ?_
              refine J_getI hS dX2_step_207 flX2_29 ob155 rfl ?_
              show J S 0 0 (g3) 210 [some (.ref 155)] [.int _, .ref 156]
              rw [f4]
              refine J_ialdN hS (p) dX2_step_210 ar156 (by first | rfl | (simp only [n0, n1, n2, n3, n4, n5, n6, n7, n8, n9, n10, n11, n12, n13, n14, n15, n16, n17, n18, n19, n20, n24, n32, n56, n60, n64, n72, n99, n100, n128, n136, n142, n144, n200, n300, n999, n1000, n1500, n3464, nI_add, pk_mul] <;> first | rfl | (congr 1; omega))) (by omega) (by decide) ?_
              show J S 0 0 (g3) 211 [some (.ref 155)] [.int _]
              rw [tx3.2.2.2]
              refine J_callS1 (X' := fun _ _ => False) hS dX2_step_211 msX2_62 rfl (by first | decide | omega) (by decide) (Nat.le_of_ble_eq_true rfl) ⟨Nat.le_trans (by decide) hR.1, Nat.le_trans (by decide) hR.2⟩ (fun _ _ q => q.elim) (c_isLetter (fun r5 t5 t6 => ?_))
              refine J_if_eq (tgt := 245) hS dX2_step_214 (by decide) (fun c5 => ?_) (fun c5 => ?_)
              · have hno : ¬ ltB (T p) = true := fun z => by rw [t6.mpr z] at c5; exact absurd c5 (by decide)
                refine J_vret hS hZ hr dX2_step_245 (by omega) (by omega) ?_
                exact q2 g3 f1 (by rw [f2, hk]) f3 (by rw [f4, hE2, f5, w1, if_neg hno]) (fun z => absurd z (by rw [hk]; decide))
              · have hyes : ltB (T p) = true := t6.mp (t5.resolve_left c5)
                refine J_aload_n hS dX2_step_217 rfl ?_
                refine J_dup hS dX2_step_218 rfl ?_
                refine J_getI hS dX2_step_219 flX2_29 ob155 rfl ?_
                refine J_iconst (v := 1) hS dX2_step_222 (by decide) ?_
                refine J_iadd hS dX2_step_223 ?_
                refine J_putI hS dX2_step_224 fpX2_29 ob155 rfl (fun g224 eg224 => ?_)
                refine J_goto (tgt := 191) hS dX2_step_227 (by decide) ?_
                refine ih (p + 1) g224 (by omega) (by omega) (f1.trans (by rw [eg224]; exact FrR.u (by decide) (by decide))) (by rw [eg224, u2_row155 (by decide)]; exact f2) (by rw [eg224, u2_row155 (by decide)]; exact f3) (by rw [eg224, u2_self, f4]; exact nI_1 p) (by rw [f5, w1, if_pos hyes])
      · have yd : dgB (T s) = true := t2.mp (t1.resolve_left c2)
        have hk : tkK T n s = 1 := by unfold tkK; rw [if_neg (by omega), if_pos yd]
        have hE2 : tkE T n s = whR dgB T s (n - s) := by unfold tkE; rw [if_neg (by omega), if_pos yd]
        refine J_aload_n hS dX2_step_88 rfl ?_
        refine J_iconst (v := 1) hS dX2_step_89 (by decide) ?_
        refine J_putI hS dX2_step_90 fpX2_23 ob155 rfl (fun g90 eg90 => ?_)
        refine J_aload_n hS dX2_step_93 rfl ?_
        refine J_iconst (v := 0) hS dX2_step_94 (by decide) ?_
        refine J_putI hS dX2_step_95 fpX2_32 ob155 rfl (fun g95 eg95 => ?_)
        have f95 : FrR g1 g95 := f51.trans ((show FrR g51 g90 by rw [eg90]; exact FrR.u (by decide) (by decide)).trans (by rw [eg95]; exact FrR.u (by decide) (by decide)))
        suffices H : ∀ (r p : Nat) (v : Int32) (g3 : Mm), p + r = n → s ≤ p → FrR g1 g3 → g3 155 3 = nI 1 → g3 155 4 = nI s → g3 155 5 = nI p → g3 155 6 = v → whR dgB T s (n - s) = whR dgB T p r → nbR T s (n - s) 0 = nbR T p r v → J S 0 0 g3 98 [some (.ref 155)] [] by
          exact H (n - s) s 0 g95 (by omega) (Nat.le_refl _) f95 (by rw [eg95, u2_row155 (by decide), eg90, u2_self]; rfl) (by rw [eg95, u2_row155 (by decide), eg90, u2_row155 (by decide)]; exact s51) (by rw [eg95, u2_row155 (by decide), eg90, u2_row155 (by decide)]; exact e51) (by rw [eg95, u2_self]) rfl rfl
        intro r
        induction r with
        | zero =>
          intro p v g3 hp hsp f1 f2 f3 f4 f6 f5 f7
          have tx3 := tx1.frR f1
          refine J_aload_n hS dX2_step_98 rfl ?_
          refine J_getI hS dX2_step_99 flX2_29 ob155 rfl ?_
          refine J_aload_n hS dX2_step_102 rfl ?_
          refine J_getI hS dX2_step_103 flX2_15 ob155 rfl ?_
          show J S 0 0 (g3) 106 [some (.ref 155)] [.int _, .int _]
          rw [f4, tx3.2.1]
          refine J_icmp_ge (tgt := 245) hS dX2_step_106 (by decide) (fun c4 => ?_) (fun c4 => ?_)
          ·
            refine J_vret hS hZ hr dX2_step_245 (by omega) (by omega) ?_
            exact q2 g3 f1 (by rw [f2, hk]) f3 (by rw [f4, hE2, f5]; rfl) (fun _ => by rw [f6]; exact f7.symm)
          · exact absurd (nI_le (show n ≤ p by omega) (by omega)) c4
        | succ r ih =>
          intro p v g3 hp hsp f1 f2 f3 f4 f6 f5 f7
          have tx3 := tx1.frR f1
          have w1 : whR dgB T p (r + 1) = if dgB (T p) = true then whR dgB T (p + 1) r else p := rfl
          have w2 : nbR T p (r + 1) v = if dgB (T p) = true then nbR T (p + 1) r (if v ≤ 999 then v * 10 + T p - 48 else v) else v := rfl
          have nxt : ∀ (v2 : Int32) (g4 : Mm), dgB (T p) = true → v2 = (if v ≤ 999 then v * 10 + T p - 48 else v) → FrR g3 g4 → (∀ j, j = 3 ∨ j = 4 ∨ j = 5 → g4 155 j = g3 155 j) → g4 155 6 = v2 → J S 0 0 g4 158 [some (.ref 155)] [] := by
            intro v2 g4 hd hv2 d1 d2 d3
            refine J_aload_n hS dX2_step_158 rfl ?_
            refine J_dup hS dX2_step_159 rfl ?_
            refine J_getI hS dX2_step_160 flX2_29 ob155 rfl ?_
            refine J_iconst (v := 1) hS dX2_step_163 (by decide) ?_
            refine J_iadd hS dX2_step_164 ?_
            refine J_putI hS dX2_step_165 fpX2_29 ob155 rfl (fun g165 eg165 => ?_)
            refine J_goto (tgt := 98) hS dX2_step_168 (by decide) ?_
            exact ih (p + 1) v2 g165 (by omega) (by omega) ((f1.trans d1).trans (by rw [eg165]; exact FrR.u (by decide) (by decide))) (by rw [eg165, u2_row155 (by decide), d2 3 (by decide)]; exact f2) (by rw [eg165, u2_row155 (by decide), d2 4 (by decide)]; exact f3) (by rw [eg165, u2_self, d2 5 (by decide), f4]; exact nI_1 p) (by rw [eg165, u2_row155 (by decide)]; exact d3) (by rw [f5, w1, if_pos hd]) (by rw [f7, w2, if_pos hd, hv2])
          refine J_aload_n hS dX2_step_98 rfl ?_
          refine J_getI hS dX2_step_99 flX2_29 ob155 rfl ?_
          refine J_aload_n hS dX2_step_102 rfl ?_
          refine J_getI hS dX2_step_103 flX2_15 ob155 rfl ?_
          show J S 0 0 (g3) 106 [some (.ref 155)] [.int _, .int _]
          rw [f4, tx3.2.1]
          refine J_icmp_ge (tgt := 245) hS dX2_step_106 (by decide) (fun c4 => ?_) (fun c4 => ?_)
          · exact absurd c4 (nI_ge (show p < n by omega) (by omega))
          ·
            refine J_aload_n hS dX2_step_109 rfl ?_
            refine J_getD (v := .ref 156) hS dX2_step_110 flX2_9 ob155 rfl tx3.txt ?_
            refine J_aload_n hS dX2_step_113 rfl ?_
            refine J_getI hS dX2_step_114 flX2_29 ob155 rfl ?_
            show J S 0 0 (g3) 117 [some (.ref 155)] [.int _, .ref 156]
            rw [f4]
            refine J_ialdN hS (p) dX2_step_117 ar156 (by first | rfl | (simp only [n0, n1, n2, n3, n4, n5, n6, n7, n8, n9, n10, n11, n12, n13, n14, n15, n16, n17, n18, n19, n20, n24, n32, n56, n60, n64, n72, n99, n100, n128, n136, n142, n144, n200, n300, n999, n1000, n1500, n3464, nI_add, pk_mul] <;> first | rfl | (congr 1; omega))) (by omega) (by decide) ?_
            show J S 0 0 (g3) 118 [some (.ref 155)] [.int _]
            rw [tx3.2.2.2]
            refine J_callS1 (X' := fun _ _ => False) hS dX2_step_118 msX2_59 rfl (by first | decide | omega) (by decide) (Nat.le_of_ble_eq_true rfl) ⟨Nat.le_trans (by decide) hR.1, Nat.le_trans (by decide) hR.2⟩ (fun _ _ q => q.elim) (c_isDigit (fun r5 t5 t6 => ?_))
            refine J_if_eq (tgt := 245) hS dX2_step_121 (by decide) (fun c5 => ?_) (fun c5 => ?_)
            · have hno : ¬ dgB (T p) = true := fun z => by rw [t6.mpr z] at c5; exact absurd c5 (by decide)
              have hv : nbR T s (n - s) 0 = v := by rw [f7, w2, if_neg hno]
              refine J_vret hS hZ hr dX2_step_245 (by omega) (by omega) ?_
              exact q2 g3 f1 (by rw [f2, hk]) f3 (by rw [f4, hE2, f5, w1, if_neg hno]) (fun _ => by rw [f6]; exact hv.symm)
            · have hyes : dgB (T p) = true := t6.mp (t5.resolve_left c5)
              refine J_aload_n hS dX2_step_124 rfl ?_
              refine J_getI hS dX2_step_125 flX2_32 ob155 rfl ?_
              refine J_sipush (v := 999) hS dX2_step_128 (by decide) ?_
              show J S 0 0 (g3) 131 [some (.ref 155)] [.int 999, .int _]
              rw [f6]
              refine J_icmp_gt (tgt := 158) hS dX2_step_131 (by decide) (fun c6 => ?_) (fun c6 => ?_)
              · exact nxt v g3 hyes (by rw [if_neg (Int32.not_le.mpr c6)]) FrR.refl (fun _ _ => rfl) f6
              ·
                refine J_aload_n hS dX2_step_134 rfl ?_
                refine J_aload_n hS dX2_step_135 rfl ?_
                refine J_getI hS dX2_step_136 flX2_32 ob155 rfl ?_
                refine J_bipush (v := 10) hS dX2_step_139 (by decide) ?_
                refine J_imul hS dX2_step_141 ?_
                refine J_aload_n hS dX2_step_142 rfl ?_
                refine J_getD (v := .ref 156) hS dX2_step_143 flX2_9 ob155 rfl tx3.txt ?_
                refine J_aload_n hS dX2_step_146 rfl ?_
                refine J_getI hS dX2_step_147 flX2_29 ob155 rfl ?_
                show J S 0 0 (g3) 150 [some (.ref 155)] [.int _, .ref 156, .int _, .ref 155]
                rw [f6, f4]
                refine J_ialdN hS (p) dX2_step_150 ar156 (by first | rfl | (simp only [n0, n1, n2, n3, n4, n5, n6, n7, n8, n9, n10, n11, n12, n13, n14, n15, n16, n17, n18, n19, n20, n24, n32, n56, n60, n64, n72, n99, n100, n128, n136, n142, n144, n200, n300, n999, n1000, n1500, n3464, nI_add, pk_mul] <;> first | rfl | (congr 1; omega))) (by omega) (by decide) ?_
                show J S 0 0 (g3) 151 [some (.ref 155)] [.int _, .int _, .ref 155]
                rw [tx3.2.2.2]
                refine J_iadd hS dX2_step_151 ?_
                refine J_bipush (v := 48) hS dX2_step_152 (by decide) ?_
                refine J_isub hS dX2_step_154 ?_
                refine J_putI hS dX2_step_155 fpX2_32 ob155 rfl (fun g155 eg155 => ?_)
                exact nxt _ g155 hyes (by rw [if_pos (Int32.not_lt.mp c6)]) (by rw [eg155]; exact FrR.u (by decide) (by decide)) (fun j hj => by rw [eg155]; exact u2_row155 (by omega)) (by rw [eg155, u2_self])
    · have hge : n ≤ s := by
        rcases Nat.lt_or_ge s n with z | z
        · exact absurd (nI_lt z (by omega)) c1
        · exact z
      have hk : tkK T n s = 0 := by unfold tkK; rw [if_pos hge]
      have hE2 : tkE T n s = s := by unfold tkE; rw [if_pos hge]
      refine J_aload_n hS dX2_step_65 rfl ?_
      refine J_iconst (v := 0) hS dX2_step_66 (by decide) ?_
      refine J_putI hS dX2_step_67 fpX2_23 ob155 rfl (fun g67 eg67 => ?_)
      refine J_goto (tgt := 245) hS dX2_step_70 (by decide) ?_
      refine J_vret hS hZ hr dX2_step_245 (by omega) (by omega) ?_
      refine q2 g67 (f51.trans (by rw [eg67]; exact FrR.u (by decide) (by decide))) ?_ ?_ ?_ (fun z => absurd z (by rw [hk]; decide))
      · rw [eg67, u2_self, hk]; rfl
      · rw [eg67, u2_row155 (by decide)]; exact s51
      · rw [eg67, u2_row155 (by decide), hE2]; exact e51
  suffices H : ∀ (r p : Nat) (g1 : Mm), p + r = n → e ≤ p → FrR g g1 → g1 155 4 = nI p → skp T n e = whR spB T p r → J S 0 0 g1 8 [some (.ref 155)] [] by
    exact H (n - e) e g5 (by omega) (Nat.le_refl _) (by rw [eg5]; exact FrR.u (by decide) (by decide)) (by rw [eg5, u2_self]) rfl
  intro r
  induction r with
  | zero =>
    intro p g1 hp hep k1 k2 k3
    have tx1 := tx.frR k1
    refine J_aload_n hS dX2_step_8 rfl ?_
    refine J_getI hS dX2_step_9 flX2_26 ob155 rfl ?_
    refine J_aload_n hS dX2_step_12 rfl ?_
    refine J_getI hS dX2_step_13 flX2_15 ob155 rfl ?_
    show J S 0 0 (g1) 16 [some (.ref 155)] [.int _, .int _]
    rw [k2, tx1.2.1]
    refine J_icmp_ge (tgt := 46) hS dX2_step_16 (by decide) (fun c1 => ?_) (fun c1 => ?_)
    · exact two g1 k1 (by rw [k2, k3]; rfl)
    · exact absurd (nI_le (show n ≤ p by omega) (by omega)) c1
  | succ r ih =>
    intro p g1 hp hep k1 k2 k3
    have tx1 := tx.frR k1
    have w1 : whR spB T p (r + 1) = if spB (T p) = true then whR spB T (p + 1) r else p := rfl
    refine J_aload_n hS dX2_step_8 rfl ?_
    refine J_getI hS dX2_step_9 flX2_26 ob155 rfl ?_
    refine J_aload_n hS dX2_step_12 rfl ?_
    refine J_getI hS dX2_step_13 flX2_15 ob155 rfl ?_
    show J S 0 0 (g1) 16 [some (.ref 155)] [.int _, .int _]
    rw [k2, tx1.2.1]
    refine J_icmp_ge (tgt := 46) hS dX2_step_16 (by decide) (fun c1 => ?_) (fun c1 => ?_)
    · exact absurd c1 (nI_ge (show p < n by omega) (by omega))
    ·
      refine J_aload_n hS dX2_step_19 rfl ?_
      refine J_getD (v := .ref 156) hS dX2_step_20 flX2_9 ob155 rfl tx1.txt ?_
      refine J_aload_n hS dX2_step_23 rfl ?_
      refine J_getI hS dX2_step_24 flX2_26 ob155 rfl ?_
      show J S 0 0 (g1) 27 [some (.ref 155)] [.int _, .ref 156]
      rw [k2]
      refine J_ialdN hS (p) dX2_step_27 ar156 (by first | rfl | (simp only [n0, n1, n2, n3, n4, n5, n6, n7, n8, n9, n10, n11, n12, n13, n14, n15, n16, n17, n18, n19, n20, n24, n32, n56, n60, n64, n72, n99, n100, n128, n136, n142, n144, n200, n300, n999, n1000, n1500, n3464, nI_add, pk_mul] <;> first | rfl | (congr 1; omega))) (by omega) (by decide) ?_
      show J S 0 0 (g1) 28 [some (.ref 155)] [.int _]
      rw [tx1.2.2.2]
      refine J_bipush (v := 32) hS dX2_step_28 (by decide) ?_
      refine J_icmp_ne (tgt := 46) hS dX2_step_30 (by decide) (fun c2 => ?_) (fun c2 => ?_)
      · exact two g1 k1 (by rw [k2, k3, w1, if_neg (show ¬ spB (T p) = true from fun z => c2 (of_decide_eq_true z))])
      ·
        refine J_aload_n hS dX2_step_33 rfl ?_
        refine J_dup hS dX2_step_34 rfl ?_
        refine J_getI hS dX2_step_35 flX2_26 ob155 rfl ?_
        refine J_iconst (v := 1) hS dX2_step_38 (by decide) ?_
        refine J_iadd hS dX2_step_39 ?_
        refine J_putI hS dX2_step_40 fpX2_26 ob155 rfl (fun g40 eg40 => ?_)
        refine J_goto (tgt := 8) hS dX2_step_43 (by decide) ?_
        refine ih (p + 1) g40 (by omega) (by omega) (k1.trans (by rw [eg40]; exact FrR.u (by decide) (by decide))) (by rw [eg40, u2_self, k2]; exact nI_1 p) (by rw [k3, w1, if_pos (show spB (T p) = true from decide_eq_true c2)])
end RdT


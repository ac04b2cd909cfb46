/-! THE CLASS: Speech: what is learnt of a talk, who said it is the stronger -/
section ClsK
variable {l : Launch} {E : Ey} {g : Mm} {Q : Option Value → Mm → Prop} {X : String → Mm → Prop} {h : Nat}
set_option maxRecDepth 10000 in
set_option maxHeartbeats 4000000 in
theorem c_strengthenIn (hW : Wo h) {a b o : Nat} {mt s : Nat → Nat} (hs : SpC g a b mt) (hsg : SgC g s) (ho : o < 6) (ho2 : g 148 3 = nI o) (q : ∀ g', (∀ z, z ≠ h + 8 → z ≠ h + 9 → g' z = g z) → wv g' h = strW (wv g h) a o s mt → Q none g') : Ct l E lay NC 3 0 0 yX5_strengthenIn [.ref 148, .ref h] g Q X := by
  have hh : h + 10 < 107 := by obtain ⟨i, hi, e⟩ := hW; omega
  have ha := hs.1
  have ekd : g (h + 4) a = wv g h (56 + 142 * a + 4) := (wv_at (wx_kind ha)).symm
  refine Ct_in k_yX5_strengthenIn (by decide) rfl (Nat.le_of_ble_eq_true rfl) rfl ?_
  intro S hS hZ hr ht hR
  show J S 0 0 g 0 [some (.ref 148), some (.ref h), none] []
  refine J_aload_n hS dX5_strengthenIn_0 rfl ?_
  refine J_getR (t := h + 4) hS dX5_strengthenIn_1 flX5_103 hW.ob rfl ?_
  refine J_aload_n hS dX5_strengthenIn_4 rfl ?_
  refine J_getI hS dX5_strengthenIn_5 flX5_9 ob148 rfl ?_
  show J S 0 0 g 8 [some (.ref 148), some (.ref h), none] [.int _, .ref (h + 4)]
  rw [hs.2.2.1]
  refine J_ialdN hS (a) dX5_strengthenIn_8 (show Ar lay NC .int (h + 4) 24 from hW.ar 4 (by decide) (by decide)) (by first | rfl | (simp only [n0, n1, n2, n3, n4, n5, n6, n7, n8, n9, n10, n11, n12, n13, n14, n15, n16, n17, n18, n19, n20, n24, n32, n56, n60, n64, n72, n99, n100, n128, n136, n142, n144, n200, n300, n999, n1000, n1500, n3464, nI_add, pk_mul] <;> first | rfl | (congr 1; omega))) ha (by decide) ?_
  refine J_iconst (v := 3) hS dX5_strengthenIn_9 (by decide) ?_
  show J S 0 0 g 10 [some (.ref 148), some (.ref h), none] [.int 3, .int _]
  rw [ekd]
  refine J_icmp_ne (tgt := 14) hS dX5_strengthenIn_10 (by decide) (fun c1 => ?_) (fun c1 => ?_)
  ·
    refine J_iconst (v := 0) hS dX5_strengthenIn_14 (by decide) ?_
    refine J_istore_n (lt := fun i1 => [some (.ref 148), some (.ref h), some (.int i1)]) hS dX5_strengthenIn_15 (Nat.le_of_ble_eq_true rfl) (fun _ => rfl) (fun i1 ei1 => ?_)
    suffices H : ∀ (n k : Nat) (i : Int32) (g1 : Mm), k + n = 3 → i = nI k → (∀ z, z ≠ h + 8 → g1 z = g z) → wv g1 h = strK (wv g h) a o s mt k → J S 0 0 g1 16 [some (.ref 148), some (.ref h), some (.int i)] [] by
      exact H 3 0 i1 g rfl ei1 (fun _ _ => rfl) rfl
    intro n
    induction n with
    | zero =>
      intro k i g1 hk hi f1 w1
      have hk3 : k = 3 := by omega
      subst hk3
      have e1 : g1 148 0 = nI a := by rw [f1 148 (by omega)]; exact hs.2.2.1
      have e3 : g1 148 3 = nI o := by rw [f1 148 (by omega)]; exact ho2
      refine J_iload_n hS dX5_strengthenIn_16 rfl ?_
      refine J_iconst (v := 3) hS dX5_strengthenIn_17 (by decide) ?_
      refine J_icmp_ge (tgt := 47) hS dX5_strengthenIn_18 (by decide) (fun c2 => ?_) (fun c2 => ?_)
      ·
        refine J_aload_n hS dX5_strengthenIn_47 rfl ?_
        refine J_getR (t := h + 4) hS dX5_strengthenIn_48 flX5_103 hW.ob rfl ?_
        refine J_aload_n hS dX5_strengthenIn_51 rfl ?_
        refine J_getI hS dX5_strengthenIn_52 flX5_9 ob148 rfl ?_
        show J S 0 0 g1 55 [some (.ref 148), some (.ref h), some (.int i)] [.int _, .ref (h + 4)]
        rw [e1]
        refine J_ialdN hS (a) dX5_strengthenIn_55 (show Ar lay NC .int (h + 4) 24 from hW.ar 4 (by decide) (by decide)) (by first | rfl | (simp only [n0, n1, n2, n3, n4, n5, n6, n7, n8, n9, n10, n11, n12, n13, n14, n15, n16, n17, n18, n19, n20, n24, n32, n56, n60, n64, n72, n99, n100, n128, n136, n142, n144, n200, n300, n999, n1000, n1500, n3464, nI_add, pk_mul] <;> first | rfl | (congr 1; omega))) ha (by decide) ?_
        refine J_iconst (v := 2) hS dX5_strengthenIn_56 (by decide) ?_
        show J S 0 0 g1 57 [some (.ref 148), some (.ref h), some (.int i)] [.int 2, .int _]
        rw [f1 (h + 4) (by omega), ekd]
        refine J_icmp_eq (tgt := 73) hS dX5_strengthenIn_57 (by decide) (fun c3 => ?_) (fun c3 => ?_)
        ·
          refine J_vret hS hZ hr dX5_strengthenIn_73 (by omega) (by omega) ?_
          refine q g1 (fun z h1 _ => f1 z h1) ?_
          rw [w1]; unfold strW; rw [if_neg c1, if_pos c3]
        ·
          refine J_aload_n hS dX5_strengthenIn_60 rfl ?_
          refine J_aload_n hS dX5_strengthenIn_61 rfl ?_
          refine J_getI hS dX5_strengthenIn_62 flX5_9 ob148 rfl ?_
          show J S 0 0 g1 65 [some (.ref 148), some (.ref h), some (.int i)] [.int _, .ref h]
          rw [e1]
          refine J_aload_n hS dX5_strengthenIn_65 rfl ?_
          refine J_getI hS dX5_strengthenIn_66 flX5_22 ob148 rfl ?_
          show J S 0 0 g1 69 [some (.ref 148), some (.ref h), some (.int i)] [.int _, .int _, .ref h]
          rw [e3]
          refine J_iconst (v := 1) hS dX5_strengthenIn_69 (by decide) ?_
          refine J_callV3 (X' := fun _ _ => False) hS dX5_strengthenIn_70 mvX5_140 hW.ob rfl (by decide) (by decide) (Nat.le_of_ble_eq_true rfl) hR (fun _ _ q => q.elim) (c_addToOrder hW ha ho ?_)
          refine J_vret hS hZ hr dX5_strengthenIn_73 (by omega) (by omega) ?_
          refine q _ (fun z h1 h2 => by rw [u2_ne z h2]; exact f1 z h1) ?_
          rw [wv_u2 (wx_order ha ho), ← wv_o (g := g1) (h := h) ha ho, w1]
          unfold strW; rw [if_neg c1, if_neg c3]; rfl
      · exact absurd (by rw [hi]; decide) c2
    | succ n ih =>
      intro k i g1 hk hi f1 w1
      subst hi
      have hk3 : k < 3 := by omega
      have hs1 : SpC g1 a b mt := hs.fr (by rw [f1 148 (by omega)]) (by rw [f1 148 (by omega)]) (f1 149 (by omega))
      have hr3 := rN_lt ho hk3
      have hp := con_lt (r := rN (o * 3 + k)) (hs.2.2.2.2 _ hr3).1
      have e150 : g1 150 k = nI (s k) := by rw [f1 150 (by omega)]; exact (hsg k hk3).2
      refine J_iload_n hS dX5_strengthenIn_16 rfl ?_
      refine J_iconst (v := 3) hS dX5_strengthenIn_17 (by decide) ?_
      refine J_icmp_ge (tgt := 47) hS dX5_strengthenIn_18 (by decide) (fun c2 => ?_) (fun c2 => ?_)
      · exact absurd c2 (nI_ge (show k < 3 by omega) (by decide))
      ·
        refine J_aload_n hS dX5_strengthenIn_21 rfl ?_
        refine J_aload_n hS dX5_strengthenIn_22 rfl ?_
        refine J_getI hS dX5_strengthenIn_23 flX5_9 ob148 rfl ?_
        show J S 0 0 g1 26 [some (.ref 148), some (.ref h), some (.int (nI k))] [.int _, .ref h]
        rw [hs1.2.2.1]
        refine J_aload_n hS dX5_strengthenIn_26 rfl ?_
        refine J_iload_n hS dX5_strengthenIn_27 rfl ?_
        refine J_callV1 (X' := fun _ _ => False) hS dX5_strengthenIn_28 mvX5_76 ob148 rfl (by decide) (by decide) (Nat.le_of_ble_eq_true rfl) hR (fun _ _ q => q.elim) (c_conceptMeant hs1 ho (by rw [f1 148 (by omega)]; exact ho2) hk3 ?_)
        refine J_aload_n hS dX5_strengthenIn_31 rfl ?_
        refine J_getR (t := 150) hS dX5_strengthenIn_32 flX5_25 ob148 rfl ?_
        refine J_iload_n hS dX5_strengthenIn_35 rfl ?_
        refine J_ialdN hS (k) dX5_strengthenIn_36 ar150 (by first | rfl | (simp only [n0, n1, n2, n3, n4, n5, n6, n7, n8, n9, n10, n11, n12, n13, n14, n15, n16, n17, n18, n19, n20, n24, n32, n56, n60, n64, n72, n99, n100, n128, n136, n142, n144, n200, n300, n999, n1000, n1500, n3464, nI_add, pk_mul] <;> first | rfl | (congr 1; omega))) (by omega) (by decide) ?_
        show J S 0 0 g1 37 [some (.ref 148), some (.ref h), some (.int (nI k))] [.int _, .int _, .int _, .ref h]
        rw [e150]
        refine J_iconst (v := 1) hS dX5_strengthenIn_37 (by decide) ?_
        refine J_callV4 (X' := fun _ _ => False) hS dX5_strengthenIn_38 mvX5_133 hW.ob rfl (by decide) (by decide) (Nat.le_of_ble_eq_true rfl) hR (fun _ _ q => q.elim) (c_addToSign hW ha hp (hsg k hk3).1 ?_)
        refine J_iinc (lt := fun i2 => [some (.ref 148), some (.ref h), some (.int i2)]) (v := 1) hS dX5_strengthenIn_41 rfl (by decide) (fun _ => rfl) (fun i2 ei2 => ?_)
        refine J_goto (tgt := 16) hS dX5_strengthenIn_44 (by decide) ?_
        refine ih (k + 1) i2 _ (by omega) (by rw [ei2]; exact nI_1 k) (fun z hz => by rw [u2_ne z hz]; exact f1 z hz) ?_
        rw [wv_u2 (wx_sign ha hp (hsg k hk3).1), ← wv_s (g := g1) (h := h) ha hp (hsg k hk3).1, w1]; rfl
  ·
    refine J_vret hS hZ hr dX5_strengthenIn_13 (by omega) (by omega) ?_
    refine q g (fun _ _ _ => rfl) ?_
    unfold strW; rw [if_pos c1]
theorem lrnS_k {w : Wr} {y b its : Nat} {s part : Nat → Nat} {V : Nat → Int32 → Int32} {k i : Nat} (hb : b < 24) (hp : ∀ r, part r < 4) (hi : i < 56 + 142 * b + 8 ∨ 56 + 142 * b + 136 ≤ i) : lrnS w y b its s part V k i = w i := by
  unfold lrnS
  have := con_lt (r := rN (its * 3 + k)) (hp (rN (its * 3 + k)))
  exact lrn_at (by unfold sgB; omega)
theorem lrnK_k {w : Wr} {y b its : Nat} {s part : Nat → Nat} {V : Nat → Int32 → Int32} {i : Nat} (hb : b < 24) (hp : ∀ r, part r < 4) (hi : i < 56 + 142 * b + 8 ∨ 56 + 142 * b + 136 ≤ i) : ∀ k, lrnK w y b its s part V k i = w i
  | 0 => rfl
  | k + 1 => by show lrnS _ _ _ _ _ _ _ _ _ = _; rw [lrnS_k hb hp hi]; exact lrnK_k hb hp hi k
theorem lrn_rng {w : Wr} {B n x i : Nat} {V V' : Int32 → Int32} (h : 0 ≤ w i ∧ w i ≤ 999) : 0 ≤ lrn w B n x V V' i ∧ lrn w B n x V V' i ≤ 999 := by
  unfold lrn
  split
  · split <;> exact kb_rng _
  · exact h
theorem lrnK_Wt {w : Wr} {y b its c : Nat} {s part : Nat → Nat} {V : Nat → Int32 → Int32} (h : Wt w c) : ∀ k, Wt (lrnK w y b its s part V k) c
  | 0 => h
  | k + 1 => fun r h1 h2 => lrn_rng (lrnK_Wt h k r h1 h2)
theorem snW_fr {w w' : Wr} {y s : Nat} (hy : y < 3) (hs : s < 16) (e : ∀ i, i < 56 → w' i = w i) : snW w' y s = snW w y s := by
  unfold snW wrW
  rw [e (8 + 16 * y + s / 2 * 2) (by omega), e (8 + 16 * y + (s / 2 * 2 + 1)) (by omega), e 3 (by omega)]
/-- the row and the order that are learnt of a talk: its is the order, part what is meant or taken -/
def lrnF (w : Wr) (y b its : Nat) (s part : Nat → Nat) (V : Nat → Int32 → Int32) : Wr := if w (56 + 142 * b + 4) = 3 then w else lrnW w y b its s part V
def lrnO (w : Wr) (b its : Nat) : Int32 := if w (56 + 142 * b + 4) = 3 then -1 else if w (56 + 142 * b + 4) = 2 then -1 else nI its
/-- the law's words on the one who takes -/
def VW (lw : Option (List Cls)) (lo : Int32) (w : Wr) (b : Nat) (rt sh : Int32) : Nat → Int32 → Int32 := fun wd v => rval lw lo (fac w b rt sh v) wd
set_option maxRecDepth 10000 in
set_option maxHeartbeats 4000000 in
theorem c_learnIn (hW : Wo h) {a b o o' y : Nat} {mt s tk : Nat → Nat} {rt sh : Int32} {lw : Option (List Cls)} (hs : SpC g a b mt) (hsg : SgC g s) (ho : o < 6) (ho2 : g 148 3 = nI o) (ho' : o' < 6) (ho2' : g 148 5 = nI o') (htk : ∀ r, r < 3 → tk r < 4 ∧ g 151 r = nI (tk r)) (hmt4 : ∀ r, mt r < 4) (htk4 : ∀ r, tk r < 4) (hrt : rt = 0 ∨ rt = 1) (hrt2 : g 148 7 = rt) (hsh : sh = 0 ∨ sh = 1) (hsh2 : g 148 8 = sh) (hy : y < 3) (hyb : wv g h (56 + 142 * b) = nI y) (hwt : Wt (wv g h) b) (hR0 : RuleC g lw)
    (q : ∀ g', (∀ z, z ≠ h + 8 → z ≠ h + 9 → z ≠ 148 → z ≠ 153 → z ≠ 154 → g' z = g z) → (∀ j, j ≠ 9 → g' 148 j = g 148 j) → wv g' h = lrnF (wv g h) y b (if sh = 0 then o' else o) s (if sh = 0 then tk else mt) (VW lw (g 152 3) (wv g h) b rt sh) → g' 148 9 = lrnO (wv g h) b (if sh = 0 then o' else o) → Q none g') : Ct l E lay NC 4 0 0 yX5_learnIn [.ref 148, .ref h, .ref 152] g Q X := by
  have hh : h + 10 < 107 := by obtain ⟨i, hi, e⟩ := hW; omega
  have hb := hs.2.1
  obtain ⟨its, hits⟩ : ∃ its : Nat, its = if sh = 0 then o' else o := ⟨_, rfl⟩
  obtain ⟨part, hpart⟩ : ∃ part : Nat → Nat, part = if sh = 0 then tk else mt := ⟨_, rfl⟩
  have hi6 : its < 6 := by rw [hits]; split <;> assumption
  have hp4 : ∀ r, part r < 4 := fun r => by rw [hpart]; split; exact htk4 r; exact hmt4 r
  rw [← hits, ← hpart] at q
  refine Ct_in k_yX5_learnIn (by decide) rfl (Nat.le_of_ble_eq_true rfl) rfl ?_
  intro S hS hZ hr ht hR
  show J S 0 0 g 0 [some (.ref 148), some (.ref h), some (.ref 152), none, none, none, none] []
  refine J_aload_n hS dX5_learnIn_0 rfl ?_
  refine J_iconst (v := (-1)) hS dX5_learnIn_1 (by decide) ?_
  refine J_putI hS dX5_learnIn_2 fpX5_41 ob148 rfl (fun g2 eg2 => ?_)
  have f2 : ∀ z, z ≠ 148 → g2 z = g z := fun z hz => by rw [eg2, u2_ne z hz]
  have p2 : ∀ j, j ≠ 9 → g2 148 j = g 148 j := fun j hj => by rw [eg2]; simp [u2, hj]
  have w2 : wv g2 h = wv g h := wv_fr (fun z h1 h2 => f2 z (by omega))
  have l2 : g2 148 9 = -1 := by rw [eg2]; simp [u2]
  have ekd : ∀ gx : Mm, (∀ z, z ≠ h + 8 → z ≠ h + 9 → z ≠ 148 → z ≠ 153 → z ≠ 154 → gx z = g z) → gx (h + 4) b = wv g h (56 + 142 * b + 4) := fun gx e => by
    rw [e _ (by omega) (by omega) (by omega) (by omega) (by omega)]; exact (wv_at (wx_kind hb)).symm
  refine J_aload_n hS dX5_learnIn_5 rfl ?_
  refine J_getR (t := h + 4) hS dX5_learnIn_6 flX5_103 hW.ob rfl ?_
  refine J_aload_n hS dX5_learnIn_9 rfl ?_
  refine J_getI hS dX5_learnIn_10 flX5_15 ob148 rfl ?_
  show J S 0 0 g2 13 [some (.ref 148), some (.ref h), some (.ref 152), none, none, none, none] [.int _, .ref (h + 4)]
  rw [p2 1 (by decide), hs.2.2.2.1]
  refine J_ialdN hS (b) dX5_learnIn_13 (show Ar lay NC .int (h + 4) 24 from hW.ar 4 (by decide) (by decide)) (by first | rfl | (simp only [n0, n1, n2, n3, n4, n5, n6, n7, n8, n9, n10, n11, n12, n13, n14, n15, n16, n17, n18, n19, n20, n24, n32, n56, n60, n64, n72, n99, n100, n128, n136, n142, n144, n200, n300, n999, n1000, n1500, n3464, nI_add, pk_mul] <;> first | rfl | (congr 1; omega))) hb (by decide) ?_
  refine J_iconst (v := 3) hS dX5_learnIn_14 (by decide) ?_
  show J S 0 0 g2 15 [some (.ref 148), some (.ref h), some (.ref 152), none, none, none, none] [.int 3, .int _]
  rw [ekd g2 (fun z _ _ h1 _ _ => f2 z h1)]
  refine J_icmp_ne (tgt := 19) hS dX5_learnIn_15 (by decide) (fun c1 => ?_) (fun c1 => ?_)
  ·
    refine J_aload_n hS dX5_learnIn_19 rfl ?_
    refine J_aload_n hS dX5_learnIn_20 rfl ?_
    refine J_aload_n hS dX5_learnIn_21 rfl ?_
    refine J_getI hS dX5_learnIn_22 flX5_15 ob148 rfl ?_
    show J S 0 0 g2 25 [some (.ref 148), some (.ref h), some (.ref 152), none, none, none, none] [.int _, .ref h, .ref 152]
    rw [p2 1 (by decide), hs.2.2.2.1]
    refine J_callV2 (X' := fun _ _ => False) hS dX5_learnIn_25 mvX5_106 ob152 rfl (by decide) (by decide) (Nat.le_of_ble_eq_true rfl) hR (fun _ _ q => q.elim) (c_ofChild hW hb (fun g3 k1 k2 k3 k4 k5 => ?_))
    refine J_aload_n hS dX5_learnIn_28 rfl ?_
    refine J_aload_n hS dX5_learnIn_29 rfl ?_
    refine J_getI hS dX5_learnIn_30 flX5_34 ob148 rfl ?_
    show J S 0 0 g3 33 [some (.ref 148), some (.ref h), some (.ref 152), none, none, none, none] [.int _, .ref 152]
    have q3 : ∀ j, g3 148 j = g2 148 j := fun j => by rw [k1 148 (by decide)]
    rw [q3, p2 7 (by decide), hrt2]
    refine J_aload_n hS dX5_learnIn_33 rfl ?_
    refine J_getI hS dX5_learnIn_34 flX5_38 ob148 rfl ?_
    show J S 0 0 g3 37 [some (.ref 148), some (.ref h), some (.ref 152), none, none, none, none] [.int _, .int _, .ref 152]
    rw [q3, p2 8 (by decide), hsh2]
    refine J_callV2 (X' := fun _ _ => False) hS dX5_learnIn_37 mvX5_112 ob152 rfl (by decide) (by decide) (Nat.le_of_ble_eq_true rfl) hR (fun _ _ q => q.elim) (c_ofTalk hrt hsh (fun gT m1 m2 m3 m4 => ?_))
    have fT : ∀ z, z ≠ 148 → z ≠ 153 → gT z = g z := fun z h1 h2 => by rw [m1 z h2, k1 z h2]; exact f2 z h1
    have pT : ∀ j, gT 148 j = g2 148 j := fun j => by rw [m1 148 (by decide)]; exact q3 j
    have wT : wv gT h = wv g h := wv_fr (fun z h1 h2 => fT z (by omega) (by omega))
    have VT : VG gT lw = VW lw (g 152 3) (wv g h) b rt sh := by
      funext wd v
      unfold VG VW
      rw [fT 152 (by decide) (by decide)]
      refine rval_congr (fun j hj => ?_)
      have : j = 0 ∨ j = 1 ∨ j = 2 ∨ j = 3 ∨ j = 4 ∨ j = 5 := by omega
      rw [w2] at k2 k3 k4
      rcases this with rfl | rfl | rfl | rfl | rfl | rfl
      · simp [upd, fac, m4 0, k2]
      · simp [upd, fac, m4 1, k3]
      · simp [upd, fac, m2]
      · simp [upd, fac, m3]
      · simp [upd, fac]
      · simp [upd, fac, m4 5, k4]
    have lp : ∀ (x : Int32), x = nI its → J S 0 0 gT 59 [some (.ref 148), some (.ref h), some (.ref 152), some (.int x), none, none, none] [] := by
      intro x ex
      subst ex
      refine J_iconst (v := 0) hS dX5_learnIn_59 (by decide) ?_
      refine J_istore (lt := fun i1 => [some (.ref 148), some (.ref h), some (.ref 152), some (.int (nI its)), some (.int i1), none, none]) hS dX5_learnIn_60 (Nat.le_of_ble_eq_true rfl) (fun _ => rfl) (fun i1 ei1 => ?_)
      suffices H : ∀ (n k : Nat) (i : Int32) (g1 : Mm), k + n = 3 → i = nI k → (∀ z, z ≠ h + 8 → z ≠ 153 → z ≠ 154 → g1 z = gT z) → wv g1 h = lrnK (wv g h) y b its s part (VG gT lw) k → (∀ v, upd (g1 153) 4 v = upd (gT 153) 4 v) → J S 0 0 g1 62 [some (.ref 148), some (.ref h), some (.ref 152), some (.int (nI its)), some (.int i), none, none] [] by
        exact H 3 0 i1 gT rfl ei1 (fun _ _ _ _ => rfl) wT (fun _ => rfl)
      intro n
      induction n with
      | zero =>
        intro k i g1 hk hi f1 w1 r1
        have hk3 : k = 3 := by omega
        subst hk3
        have p1 : ∀ j, g1 148 j = g2 148 j := fun j => by rw [f1 148 (by omega) (by decide) (by decide)]; exact pT j
        have fg : ∀ z, z ≠ h + 8 → z ≠ h + 9 → z ≠ 148 → z ≠ 153 → z ≠ 154 → g1 z = g z := fun z h1 _ h3 h4 h5 => by rw [f1 z h1 h4 h5]; exact fT z h3 h4
        refine J_iload hS dX5_learnIn_62 rfl ?_
        refine J_iconst (v := 3) hS dX5_learnIn_64 (by decide) ?_
        refine J_icmp_ge (tgt := 141) hS dX5_learnIn_65 (by decide) (fun c2 => ?_) (fun c2 => ?_)
        ·
          refine J_aload_n hS dX5_learnIn_141 rfl ?_
          refine J_getR (t := h + 4) hS dX5_learnIn_142 flX5_103 hW.ob rfl ?_
          refine J_aload_n hS dX5_learnIn_145 rfl ?_
          refine J_getI hS dX5_learnIn_146 flX5_15 ob148 rfl ?_
          show J S 0 0 g1 149 [some (.ref 148), some (.ref h), some (.ref 152), some (.int (nI its)), some (.int i), none, none] [.int _, .ref (h + 4)]
          rw [p1, p2 1 (by decide), hs.2.2.2.1]
          refine J_ialdN hS (b) dX5_learnIn_149 (show Ar lay NC .int (h + 4) 24 from hW.ar 4 (by decide) (by decide)) (by first | rfl | (simp only [n0, n1, n2, n3, n4, n5, n6, n7, n8, n9, n10, n11, n12, n13, n14, n15, n16, n17, n18, n19, n20, n24, n32, n56, n60, n64, n72, n99, n100, n128, n136, n142, n144, n200, n300, n999, n1000, n1500, n3464, nI_add, pk_mul] <;> first | rfl | (congr 1; omega))) hb (by decide) ?_
          refine J_iconst (v := 2) hS dX5_learnIn_150 (by decide) ?_
          show J S 0 0 g1 151 [some (.ref 148), some (.ref h), some (.ref 152), some (.int (nI its)), some (.int i), none, none] [.int 2, .int _]
          rw [ekd g1 fg]
          refine J_icmp_eq (tgt := 165) hS dX5_learnIn_151 (by decide) (fun c3 => ?_) (fun c3 => ?_)
          ·
            refine J_vret hS hZ hr dX5_learnIn_165 (by omega) (by omega) ?_
            refine q g1 fg (fun j hj => by rw [p1]; exact p2 j hj) ?_ ?_
            · rw [w1, VT]; unfold lrnF lrnW; rw [if_neg c1, if_pos c3]
            · rw [p1, l2]; unfold lrnO; rw [if_neg c1, if_pos c3]
          ·
            refine J_aload_n hS dX5_learnIn_154 rfl ?_
            refine J_iload_n hS dX5_learnIn_155 rfl ?_
            refine J_putI hS dX5_learnIn_156 fpX5_41 ob148 rfl (fun g156 eg156 => ?_)
            have f5 : ∀ z, z ≠ 148 → g156 z = g1 z := fun z hz => by rw [eg156, u2_ne z hz]
            have p5 : ∀ j, j ≠ 9 → g156 148 j = g1 148 j := fun j hj => by rw [eg156]; simp [u2, hj]
            have l5 : g156 148 9 = nI its := by rw [eg156]; simp [u2]
            have w5 : wv g156 h = lrnK (wv g h) y b its s part (VG gT lw) 3 := by rw [wv_fr (g := g1) (fun z h1 h2 => f5 z (by omega))]; exact w1
            have V5 : VG g156 lw = VG gT lw := VG_fr (by rw [f5 152 (by decide), f1 152 (by omega) (by decide) (by decide)]) (fun v => by rw [f5 153 (by decide)]; exact r1 v)
            refine J_aload_n hS dX5_learnIn_159 rfl ?_
            refine J_aload_n hS dX5_learnIn_160 rfl ?_
            refine J_aload_n hS dX5_learnIn_161 rfl ?_
            refine J_callV2 (X' := fun _ _ => False) hS dX5_learnIn_162 mvX5_123 ob148 rfl (by decide) (by decide) (Nat.le_of_ble_eq_true rfl) hR (fun _ _ q => q.elim) (c_learnOrder hW hb (by rw [p5 1 (by decide), p1, p2 1 (by decide)]; exact hs.2.2.2.1) hi6 l5 (by rw [w5]; exact lrnK_Wt hwt 3) (hR0.fr (fun a ha => by rw [f5 a (by omega), f1 a (by omega) (by omega) (by omega)]; exact fT a (by omega) (by omega))) (fun g6 n1 n2 n3 => ?_))
            refine J_vret hS hZ hr dX5_learnIn_165 (by omega) (by omega) ?_
            refine q g6 (fun z h1 h2 h3 h4 h5 => by rw [n1 z h2 h4 h5, f5 z h3]; exact fg z h1 h2 h3 h4 h5) (fun j hj => by rw [n1 148 (by omega) (by decide) (by decide), p5 j hj, p1]; exact p2 j hj) ?_ ?_
            · rw [n2, w5, V5, VT]; unfold lrnF lrnW; rw [if_neg c1, if_neg c3]
            · rw [n1 148 (by omega) (by decide) (by decide), l5]; unfold lrnO; rw [if_neg c1, if_neg c3]
        · exact absurd (by rw [hi]; decide) c2
      | succ n ih =>
        intro k i g1 hk hi f1 w1 r1
        subst hi
        have hk3 : k < 3 := by omega
        have hr3 := rN_lt hi6 hk3
        have hpc := con_lt (r := rN (its * 3 + k)) (hp4 (rN (its * 3 + k)))
        have p1 : ∀ j, g1 148 j = g2 148 j := fun j => by rw [f1 148 (by omega) (by decide) (by decide)]; exact pT j
        have fr1 : ∀ z, z ≠ h + 8 → z ≠ 148 → z ≠ 153 → z ≠ 154 → g1 z = g z := fun z h1 h3 h4 h5 => by rw [f1 z h1 h4 h5]; exact fT z h3 h4
        have hsk := (hsg k hk3).1
        have fin : ∀ (ls4 : Int32), ls4 = nI (part (rN (its * 3 + k))) → J S 0 0 g1 102 [some (.ref 148), some (.ref h), some (.ref 152), some (.int (nI its)), some (.int (nI k)), some (.int (nI (rN (its * 3 + k)))), none] [.int ls4, .int (nI (rN (its * 3 + k)))] := by
          intro v4 ev4
          subst ev4
          refine J_callN2 hS dX5_learnIn_102 mnX5_92 rfl (by decide) (by decide) (Nat.le_of_ble_eq_true rfl) hR (c_conceptOf ?_)
          refine J_istore (lt := fun cc => [some (.ref 148), some (.ref h), some (.ref 152), some (.int (nI its)), some (.int (nI k)), some (.int (nI (rN (its * 3 + k)))), some (.int cc)]) hS dX5_learnIn_105 (Nat.le_of_ble_eq_true rfl) (fun _ => rfl) (fun cc ecc => ?_)
          rw [con_nI _ _ hr3] at ecc
          subst ecc
          refine J_aload_n hS dX5_learnIn_107 rfl ?_
          refine J_aload_n hS dX5_learnIn_108 rfl ?_
          refine J_aload_n hS dX5_learnIn_109 rfl ?_
          refine J_iload hS dX5_learnIn_110 rfl ?_
          refine J_aload_n hS dX5_learnIn_112 rfl ?_
          refine J_aload_n hS dX5_learnIn_113 rfl ?_
          refine J_getR (t := h + 1) hS dX5_learnIn_114 flX5_86 hW.ob rfl ?_
          refine J_aload_n hS dX5_learnIn_117 rfl ?_
          refine J_getI hS dX5_learnIn_118 flX5_15 ob148 rfl ?_
          show J S 0 0 g1 121 [some (.ref 148), some (.ref h), some (.ref 152), some (.int (nI its)), some (.int (nI k)), some (.int (nI (rN (its * 3 + k)))), some (.int (nI (con (rN (its * 3 + k)) (part (rN (its * 3 + k))))))] [.int _, .ref (h + 1), .ref h, .int (nI (con (rN (its * 3 + k)) (part (rN (its * 3 + k))))), .ref 152, .ref h, .ref 148]
          rw [p1, p2 1 (by decide), hs.2.2.2.1]
          refine J_ialdN hS (b) dX5_learnIn_121 (show Ar lay NC .int (h + 1) 24 from hW.ar 1 (by decide) (by decide)) (by first | rfl | (simp only [n0, n1, n2, n3, n4, n5, n6, n7, n8, n9, n10, n11, n12, n13, n14, n15, n16, n17, n18, n19, n20, n24, n32, n56, n60, n64, n72, n99, n100, n128, n136, n142, n144, n200, n300, n999, n1000, n1500, n3464, nI_add, pk_mul] <;> first | rfl | (congr 1; omega))) hb (by decide) ?_
          show J S 0 0 g1 122 [some (.ref 148), some (.ref h), some (.ref 152), some (.int (nI its)), some (.int (nI k)), some (.int (nI (rN (its * 3 + k)))), some (.int (nI (con (rN (its * 3 + k)) (part (rN (its * 3 + k))))))] [.int _, .ref h, .int (nI (con (rN (its * 3 + k)) (part (rN (its * 3 + k))))), .ref 152, .ref h, .ref 148]
          rw [show g1 (h + 1) b = nI y by rw [fr1 _ (by omega) (by omega) (by omega) (by omega), ← wv_at (g := g) (h := h) (wx_yard hb)]; exact hyb]
          refine J_aload_n hS dX5_learnIn_122 rfl ?_
          refine J_getR (t := 150) hS dX5_learnIn_123 flX5_25 ob148 rfl ?_
          refine J_iload hS dX5_learnIn_126 rfl ?_
          refine J_ialdN hS (k) dX5_learnIn_128 ar150 (by first | rfl | (simp only [n0, n1, n2, n3, n4, n5, n6, n7, n8, n9, n10, n11, n12, n13, n14, n15, n16, n17, n18, n19, n20, n24, n32, n56, n60, n64, n72, n99, n100, n128, n136, n142, n144, n200, n300, n999, n1000, n1500, n3464, nI_add, pk_mul] <;> first | rfl | (congr 1; omega))) (by omega) (by decide) ?_
          show J S 0 0 g1 129 [some (.ref 148), some (.ref h), some (.ref 152), some (.int (nI its)), some (.int (nI k)), some (.int (nI (rN (its * 3 + k)))), some (.int (nI (con (rN (its * 3 + k)) (part (rN (its * 3 + k))))))] [.int _, .int _, .ref h, .int (nI (con (rN (its * 3 + k)) (part (rN (its * 3 + k))))), .ref 152, .ref h, .ref 148]
          rw [show g1 150 k = nI (s k) by rw [fr1 150 (by omega) (by decide) (by decide) (by decide)]; exact (hsg k hk3).2]
          refine J_callV2 (X' := fun _ _ => False) hS dX5_learnIn_129 mvX5_116 hW.ob rfl (by decide) (by decide) (Nat.le_of_ble_eq_true rfl) hR (fun _ _ q => q.elim) (c_seenAs hW hy hsk ?_)
          show J S 0 0 g1 132 [some (.ref 148), some (.ref h), some (.ref 152), some (.int (nI its)), some (.int (nI k)), some (.int (nI (rN (its * 3 + k)))), some (.int (nI (con (rN (its * 3 + k)) (part (rN (its * 3 + k))))))] [.int _, .int (nI (con (rN (its * 3 + k)) (part (rN (its * 3 + k))))), .ref 152, .ref h, .ref 148]
          rw [sna_W hy hsk]
          refine J_callV4 (X' := fun _ _ => False) hS dX5_learnIn_132 mvX5_119 ob148 rfl (by decide) (by decide) (Nat.le_of_ble_eq_true rfl) hR (fun _ _ q => q.elim) (c_learnSign hW hb (by rw [p1, p2 1 (by decide)]; exact hs.2.2.2.1) hpc (snW_lt hsk) (by rw [w1]; exact lrnK_Wt hwt k) (hR0.fr (fun a ha => fr1 a (by omega) (by omega) (by omega) (by omega))) (fun g5 n1 n2 n3 => ?_))
          refine J_iinc (lt := fun i2 => [some (.ref 148), some (.ref h), some (.ref 152), some (.int (nI its)), some (.int i2), some (.int (nI (rN (its * 3 + k)))), some (.int (nI (con (rN (its * 3 + k)) (part (rN (its * 3 + k))))))]) (v := 1) hS dX5_learnIn_135 rfl (by decide) (fun _ => rfl) (fun i2 ei2 => ?_)
          refine J_goto (tgt := 62) hS dX5_learnIn_138 (by decide) ?_
          refine J_weak (ls' := [some (.ref 148), some (.ref h), some (.ref 152), some (.int (nI its)), some (.int i2), none, none]) ⟨Or.inr rfl, Or.inr rfl, Or.inr rfl, Or.inr rfl, Or.inr rfl, Or.inl rfl, Or.inl rfl, trivial⟩ ?_
          have V1 : VG g1 lw = VG gT lw := VG_fr (f1 152 (by omega) (by decide) (by decide)) r1
          refine ih (k + 1) i2 g5 (by omega) (by rw [ei2]; exact nI_1 k) (fun z h1 h2 h3 => by rw [n1 z h1 h2 h3]; exact f1 z h1 h2 h3) ?_ (fun v => by rw [n3]; exact r1 v)
          rw [n2, V1, w1]; rfl
        refine J_iload hS dX5_learnIn_62 rfl ?_
        refine J_iconst (v := 3) hS dX5_learnIn_64 (by decide) ?_
        refine J_icmp_ge (tgt := 141) hS dX5_learnIn_65 (by decide) (fun c2 => ?_) (fun c2 => ?_)
        · exact absurd c2 (nI_ge (show k < 3 by omega) (by decide))
        ·
          refine J_iload_n hS dX5_learnIn_68 rfl ?_
          refine J_iload hS dX5_learnIn_69 rfl ?_
          refine J_callN2 hS dX5_learnIn_71 mnX5_89 rfl (by decide) (by decide) (Nat.le_of_ble_eq_true rfl) hR (c_roleAt hi6 hk3 ?_)
          refine J_istore (lt := fun r => [some (.ref 148), some (.ref h), some (.ref 152), some (.int (nI its)), some (.int (nI k)), some (.int r), none]) hS dX5_learnIn_74 (Nat.le_of_ble_eq_true rfl) (fun _ => rfl) (fun r er => ?_)
          rw [zRO_rN hi6 hk3] at er
          subst er
          refine J_iload hS dX5_learnIn_76 rfl ?_
          refine J_aload_n hS dX5_learnIn_78 rfl ?_
          refine J_getI hS dX5_learnIn_79 flX5_38 ob148 rfl ?_
          show J S 0 0 g1 82 [some (.ref 148), some (.ref h), some (.ref 152), some (.int (nI its)), some (.int (nI k)), some (.int (nI (rN (its * 3 + k)))), none] [.int _, .int (nI (rN (its * 3 + k)))]
          rw [p1, p2 8 (by decide), hsh2]
          refine J_if_eq (tgt := 95) hS dX5_learnIn_82 (by decide) (fun c4 => ?_) (fun c4 => ?_)
          ·
            refine J_aload_n hS dX5_learnIn_95 rfl ?_
            refine J_getR (t := 151) hS dX5_learnIn_96 flX5_31 ob148 rfl ?_
            refine J_iload hS dX5_learnIn_99 rfl ?_
            refine J_ialdN hS (rN (its * 3 + k)) dX5_learnIn_101 ar151 (by first | rfl | (simp only [n0, n1, n2, n3, n4, n5, n6, n7, n8, n9, n10, n11, n12, n13, n14, n15, n16, n17, n18, n19, n20, n24, n32, n56, n60, n64, n72, n99, n100, n128, n136, n142, n144, n200, n300, n999, n1000, n1500, n3464, nI_add, pk_mul] <;> first | rfl | (congr 1; omega))) (by omega) (by decide) ?_
            refine fin _ ?_
            rw [fr1 151 (by omega) (by decide) (by decide) (by decide), (htk _ hr3).2, hpart, if_pos c4]
          ·
            refine J_aload_n hS dX5_learnIn_85 rfl ?_
            refine J_getR (t := 149) hS dX5_learnIn_86 flX5_18 ob148 rfl ?_
            refine J_iload hS dX5_learnIn_89 rfl ?_
            refine J_ialdN hS (rN (its * 3 + k)) dX5_learnIn_91 ar149 (by first | rfl | (simp only [n0, n1, n2, n3, n4, n5, n6, n7, n8, n9, n10, n11, n12, n13, n14, n15, n16, n17, n18, n19, n20, n24, n32, n56, n60, n64, n72, n99, n100, n128, n136, n142, n144, n200, n300, n999, n1000, n1500, n3464, nI_add, pk_mul] <;> first | rfl | (congr 1; omega))) (by omega) (by decide) ?_
            refine J_goto (tgt := 102) hS dX5_learnIn_92 (by decide) ?_
            refine fin _ ?_
            rw [fr1 149 (by omega) (by decide) (by decide) (by decide), (hs.2.2.2.2 _ hr3).2, hpart, if_neg c4]
    refine J_aload_n hS dX5_learnIn_40 rfl ?_
    refine J_getI hS dX5_learnIn_41 flX5_38 ob148 rfl ?_
    show J S 0 0 gT 44 [some (.ref 148), some (.ref h), some (.ref 152), none, none, none, none] [.int _]
    rw [pT, p2 8 (by decide), hsh2]
    refine J_if_eq (tgt := 54) hS dX5_learnIn_44 (by decide) (fun c4 => ?_) (fun c4 => ?_)
    ·
      refine J_aload_n hS dX5_learnIn_54 rfl ?_
      refine J_getI hS dX5_learnIn_55 flX5_28 ob148 rfl ?_
      refine J_istore_n (lt := fun x => [some (.ref 148), some (.ref h), some (.ref 152), some (.int x), none, none, none]) hS dX5_learnIn_58 (Nat.le_of_ble_eq_true rfl) (fun _ => rfl) (fun x ex => ?_)
      exact lp x (by rw [ex, pT, p2 5 (by decide), ho2', hits, if_pos c4])
    ·
      refine J_aload_n hS dX5_learnIn_47 rfl ?_
      refine J_getI hS dX5_learnIn_48 flX5_22 ob148 rfl ?_
      refine J_goto (tgt := 58) hS dX5_learnIn_51 (by decide) ?_
      refine J_istore_n (lt := fun x => [some (.ref 148), some (.ref h), some (.ref 152), some (.int x), none, none, none]) hS dX5_learnIn_58 (Nat.le_of_ble_eq_true rfl) (fun _ => rfl) (fun x ex => ?_)
      exact lp x (by rw [ex, pT, p2 3 (by decide), ho2, hits, if_neg c4])
  ·
    refine J_vret hS hZ hr dX5_learnIn_18 (by omega) (by omega) ?_
    refine q g2 (fun z _ _ h3 _ _ => f2 z h3) p2 ?_ ?_
    · rw [w2]; unfold lrnF; rw [if_pos c1]
    · rw [l2]; unfold lrnO; rw [if_pos c1]
end ClsK


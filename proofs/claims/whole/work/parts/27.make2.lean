/-! THE CLASS: Speech.makeIn: a talk -/
theorem useK_o {w : Wr} {y i : Nat} {s : Nat → Nat} (hy : y < 3) (hs : ∀ k, s k < 16) (hi : i < 8 ∨ 56 ≤ i) : ∀ k, useK w y s k i = w i
  | 0 => rfl
  | k + 1 => by
    show use1 _ _ _ _ = _
    unfold use1 upd
    have := hs k
    rw [if_neg (by omega)]; exact useK_o hy hs hi k
theorem sayK_o {w : Wr} {a i : Nat} {mt : Nat → Nat} (hi : i ≠ 1) : ∀ k, sayK w a mt k i = w i
  | 0 => by show upd w 1 _ i = w i; simp [upd, hi]
  | k + 1 => by show upd (sayK w a mt k) 1 _ i = w i; rw [show upd (sayK w a mt k) 1 _ i = sayK w a mt k i by simp [upd, hi]]; exact sayK_o hi k
theorem sayW_o {w : Wr} {a y i : Nat} {mt : Nat → Nat} (hy : y < 3) (hi : i < 8 ∨ 56 ≤ i) (h1 : i ≠ 1) : sayW w a y mt i = w i := by
  unfold sayW
  rw [useK_o hy (sayS_lt w a mt) hi, sayK_o h1]
def rtI (tk mt : Nat → Nat) : Int32 := if tk 0 = mt 0 ∧ tk 1 = mt 1 ∧ tk 2 = mt 2 then 1 else 0
/-- A TALK: the rows of the world one behind the other -/
def tW1 (w : Wr) (a y : Nat) (mt : Nat → Nat) : Wr := sayW w a y mt
def tTk (w : Wr) (a b y : Nat) (mt : Nat → Nat) : Nat → Nat := takT (sayW w a y mt) y b (sayS w a mt)
def tO' (w : Wr) (a b y : Nat) (mt : Nat → Nat) : Nat := takO (sayW w a y mt) b
def tW2 (w : Wr) (a b y : Nat) (mt : Nat → Nat) : Wr := takW (sayW w a y mt) b
def tRt (w : Wr) (a b y : Nat) (mt : Nat → Nat) : Int32 := rtI (tTk w a b y mt) mt
def tW3 (w : Wr) (a b y : Nat) (mt : Nat → Nat) : Wr := upd (tW2 w a b y mt) 1 (adv (tW2 w a b y mt 1))
def tSh (w : Wr) (a b y : Nat) (mt : Nat → Nat) : Int32 := if tW2 w a b y mt 4 ≤ nI (dr (adv (tW2 w a b y mt 1)) 100) then 0 else 1
def tIts (w : Wr) (a b y : Nat) (mt : Nat → Nat) : Nat := if tSh w a b y mt = 0 then tO' w a b y mt else sayO w a
def tPt (w : Wr) (a b y : Nat) (mt : Nat → Nat) : Nat → Nat := if tSh w a b y mt = 0 then tTk w a b y mt else mt
def tW4 (lw : Option (List Cls)) (lo : Int32) (w : Wr) (a b y : Nat) (mt : Nat → Nat) : Wr := lrnF (tW3 w a b y mt) y b (tIts w a b y mt) (sayS w a mt) (tPt w a b y mt) (VW lw lo (tW3 w a b y mt) b (tRt w a b y mt) (tSh w a b y mt))
def tLn (w : Wr) (a b y : Nat) (mt : Nat → Nat) : Int32 := lrnO (tW3 w a b y mt) b (tIts w a b y mt)
def tW5 (lw : Option (List Cls)) (lo : Int32) (w : Wr) (a b y : Nat) (mt : Nat → Nat) : Wr := if tRt w a b y mt = 0 then tW4 lw lo w a b y mt else strW (tW4 lw lo w a b y mt) a (sayO w a) (sayS w a mt) mt
def tW6 (lw : Option (List Cls)) (lo : Int32) (w : Wr) (a b y : Nat) (mt : Nat → Nat) : Wr := inc1 (inc1 (tW5 lw lo w a b y mt) (56 + 142 * b + 5)) (56 + 142 * a + 6)
section ClsL
variable {l : Launch} {E : Ey} {g : Mm} {Q : Option Value → Mm → Prop} {X : String → Mm → Prop} {h : Nat}
set_option maxRecDepth 10000 in
set_option maxHeartbeats 4000000 in
theorem c_makeIn (hW : Wo h) {a b y : Nat} {mt : Nat → Nat} {lw : Option (List Cls)} (hs : SpC g a b mt) (hmt4 : ∀ r, mt r < 4) (hy : y < 3) (hya : wv g h (56 + 142 * a) = nI y) (hyb : wv g h (56 + 142 * b) = nI y) (hwt : Wt (wv g h) b) (hR0 : RuleC g lw)
    (q : ∀ g', (∀ z, (z < h ∨ h + 10 < z) → z ≠ 148 → z ≠ 150 → z ≠ 151 → z ≠ 153 → z ≠ 154 → g' z = g z) → wv g' h = tW6 lw (g 152 3) (wv g h) a b y mt → SpC g' a b mt → g' 148 3 = nI (sayO (wv g h) a) → SgC g' (sayS (wv g h) a mt) → g' 148 5 = nI (tO' (wv g h) a b y mt) → (∀ r, r < 3 → g' 151 r = nI (tTk (wv g h) a b y mt r)) → g' 148 7 = tRt (wv g h) a b y mt → g' 148 8 = tSh (wv g h) a b y mt → g' 148 9 = tLn (wv g h) a b y mt → Q none g') : Ct l E lay NC 5 0 0 yX5_makeIn [.ref 148, .ref h, .ref 152] g Q X := by
  have hh : h + 10 < 107 := by obtain ⟨i, hi, e⟩ := hW; omega
  have ha := hs.1
  have hb := hs.2.1
  obtain ⟨w, hw⟩ : ∃ w : Wr, w = wv g h := ⟨_, rfl⟩
  rw [← hw] at hya hyb hwt q
  refine Ct_in k_yX5_makeIn (by decide) rfl (Nat.le_of_ble_eq_true rfl) rfl ?_
  intro S hS hZ hr ht hR
  show J S 0 0 g 0 [some (.ref 148), some (.ref h), some (.ref 152)] []
  refine J_aload_n hS dX5_makeIn_0 rfl ?_
  refine J_aload_n hS dX5_makeIn_1 rfl ?_
  refine J_callV1 (X' := fun _ _ => False) hS dX5_makeIn_2 mvX5_44 ob148 rfl (by decide) (by decide) (Nat.le_of_ble_eq_true rfl) hR (fun _ _ q => q.elim) (c_sayIn hW hs hy (by rw [← hw]; exact hya) (fun g1 i1 i2 i3 i4 i5 => ?_))
  rw [← hw] at i2 i3 i5
  have hs1 : SpC g1 a b mt := hs.fr (i4 0 (by decide)) (i4 1 (by decide)) (i1 149 (by omega) (by decide) (by decide))
  have hsg1 : SgC g1 (sayS w a mt) := fun k hk => ⟨sayS_lt w a mt k, i5 k hk⟩
  have hyb1 : wv g1 h (56 + 142 * b) = nI y := by rw [i2, sayW_o hy (by omega) (by omega)]; exact hyb
  have hwt1 : Wt (wv g1 h) b := fun r h8 h142 => by rw [i2, sayW_o hy (by omega) (by omega)]; exact hwt r h8 h142
  refine J_aload_n hS dX5_makeIn_5 rfl ?_
  refine J_aload_n hS dX5_makeIn_6 rfl ?_
  refine J_callV1 (X' := fun _ _ => False) hS dX5_makeIn_7 mvX5_48 ob148 rfl (by decide) (by decide) (Nat.le_of_ble_eq_true rfl) hR (fun _ _ q => q.elim) (c_takeIn hW hs1 hsg1 hy hyb1 hwt1 (fun g2 j1 j2 j3 j4 j5 j6 j7 => ?_))
  rw [i2] at j2 j3 j6 j7
  have ert : g2 148 7 = tRt w a b y mt := by
    unfold tRt rtI
    by_cases c : tTk w a b y mt 0 = mt 0 ∧ tTk w a b y mt 1 = mt 1 ∧ tTk w a b y mt 2 = mt 2
    · rw [if_pos c]
      refine j6.mpr (fun r hr => ?_)
      have : r = 0 ∨ r = 1 ∨ r = 2 := by omega
      rcases this with rfl | rfl | rfl
      · exact c.1
      · exact c.2.1
      · exact c.2.2
    · rw [if_neg c]
      refine j5.resolve_right (fun z => c ?_)
      have := j6.mp z
      exact ⟨this 0 (by decide), this 1 (by decide), this 2 (by decide)⟩
  have hrt01 : tRt w a b y mt = 0 ∨ tRt w a b y mt = 1 := by rw [← ert]; exact j5
  have hs2 : SpC g2 a b mt := hs1.fr (j4 0 (by decide) (by decide)) (j4 1 (by decide) (by decide)) (j1 149 (by omega) (by decide) (by decide))
  refine J_aload_n hS dX5_makeIn_10 rfl ?_
  refine J_aload_n hS dX5_makeIn_11 rfl ?_
  refine J_bipush (v := 100) hS dX5_makeIn_12 (by decide) ?_
  refine J_callV1 (X' := fun _ _ => False) hS dX5_makeIn_14 mvX5_51 hW.ob rfl (by decide) (by decide) (Nat.le_of_ble_eq_true rfl) hR (fun _ _ q => q.elim) (c_drawChance (n := 100) hW (by decide) (by decide) ?_)
  obtain ⟨g3, eg3⟩ : ∃ g3, g3 = u2 g2 h 1 (adv (g2 h 1)) := ⟨_, rfl⟩
  rw [← eg3]
  have e21 : g2 h 1 = tW2 w a b y mt 1 := by rw [show g2 h 1 = wv g2 h 1 from rfl, j2]; rfl
  have w3 : wv g3 h = tW3 w a b y mt := by rw [eg3, wv_ch, j2, e21]; rfl
  have f3 : ∀ z, z ≠ h → g3 z = g2 z := fun z hz => by rw [eg3, u2_ne z hz]
  have e34 : g3 h 4 = tW2 w a b y mt 4 := by
    rw [show g3 h 4 = wv g3 h 4 from rfl, w3]; unfold tW3; rw [ch_eq (by decide)]
  have go : ∀ (x : Int32) (g4 : Mm), x = tSh w a b y mt → g4 = u2 g3 148 8 x → J S 0 0 g4 32 [some (.ref 148), some (.ref h), some (.ref 152)] [] := by
    intro x g4 hx eg4
    have f4 : ∀ z, z ≠ h → z ≠ 148 → g4 z = g2 z := fun z h1 h2 => by rw [eg4, u2_ne z h2]; exact f3 z h1
    have p4 : ∀ j, j ≠ 8 → g4 148 j = g2 148 j := fun j hj => by rw [eg4]; simp only [u2, hj, and_false, if_false]; rw [f3 148 (by omega)]
    have l4 : g4 148 8 = tSh w a b y mt := by rw [eg4, hx]; simp [u2]
    have w4 : wv g4 h = tW3 w a b y mt := by rw [wv_fr (g := g3) (fun z h1 h2 => by rw [eg4, u2_ne z (by omega)])]; exact w3
    have fg4 : ∀ z, (z < h ∨ h + 10 < z) → z ≠ 148 → z ≠ 150 → z ≠ 151 → g4 z = g z := fun z h1 h2 h3 h4 => by rw [f4 z (by omega) h2, j1 z h1 h2 h4]; exact i1 z h1 h2 h3
    have hs4 : SpC g4 a b mt := hs2.fr (p4 0 (by decide)) (p4 1 (by decide)) (f4 149 (by omega) (by decide))
    have hsg4 : SgC g4 (sayS w a mt) := fun k hk => ⟨sayS_lt w a mt k, by rw [f4 150 (by omega) (by decide), j1 150 (by omega) (by decide) (by decide)]; exact i5 k hk⟩
    have hyb4 : wv g4 h (56 + 142 * b) = nI y := by rw [w4]; unfold tW3 tW2 takW; rw [ch_eq (by omega), ch_eq (by omega), sayW_o hy (by omega) (by omega)]; exact hyb
    have hwt4 : Wt (wv g4 h) b := fun r h8 h142 => by rw [w4]; unfold tW3 tW2 takW; rw [ch_eq (by omega), ch_eq (by omega), sayW_o hy (by omega) (by omega)]; exact hwt r h8 h142
    have sh01 : tSh w a b y mt = 0 ∨ tSh w a b y mt = 1 := by unfold tSh; split <;> simp
    have ho' : tO' w a b y mt < 6 := pickO_lt (by decide)
    refine J_aload_n hS dX5_makeIn_32 rfl ?_
    refine J_aload_n hS dX5_makeIn_33 rfl ?_
    refine J_aload_n hS dX5_makeIn_34 rfl ?_
    refine J_callV2 (X' := fun _ _ => False) hS dX5_makeIn_35 mvX5_60 ob148 rfl (by decide) (by decide) (Nat.le_of_ble_eq_true rfl) hR (fun _ _ q => q.elim) (c_learnIn (o := sayO w a) (o' := tO' w a b y mt) (tk := tTk w a b y mt) hW hs4 hsg4 (sayO_lt w a) (by rw [p4 3 (by decide), j4 3 (by decide) (by decide)]; exact i3) ho' (by rw [p4 5 (by decide)]; exact j3) (fun r hr => ⟨bst_lt (by decide), by rw [f4 151 (by omega) (by decide)]; exact j7 r hr⟩) hmt4 (fun r => bst_lt (by decide)) hrt01 (by rw [p4 7 (by decide)]; exact ert) sh01 l4 hy hyb4 hwt4 (hR0.fr (fun z hz => fg4 z (by omega) (by omega) (by omega) (by omega))) (fun g5 k1 k2 k3 k4 => ?_))
    rw [w4, fg4 152 (by omega) (by decide) (by decide) (by decide)] at k3
    rw [w4] at k4
    have w5 : wv g5 h = tW4 lw (g 152 3) w a b y mt := k3
    have l5 : g5 148 9 = tLn w a b y mt := k4
    have hs5 : SpC g5 a b mt := hs4.fr (k2 0 (by decide)) (k2 1 (by decide)) (k1 149 (by omega) (by omega) (by decide) (by decide) (by decide))
    have hsg5 : SgC g5 (sayS w a mt) := fun k hk => ⟨sayS_lt w a mt k, by rw [k1 150 (by omega) (by omega) (by decide) (by decide) (by decide)]; exact (hsg4 k hk).2⟩
    have fin : ∀ g6 : Mm, (∀ z, z ≠ h + 8 → z ≠ h + 9 → g6 z = g5 z) → wv g6 h = tW5 lw (g 152 3) w a b y mt → J S 0 0 g6 50 [some (.ref 148), some (.ref h), some (.ref 152)] [] := by
      intro g6 f6 w6
      have e61 : g6 148 1 = nI b := by rw [f6 148 (by omega) (by omega)]; exact hs5.2.2.2.1
      have e60 : g6 148 0 = nI a := by rw [f6 148 (by omega) (by omega)]; exact hs5.2.2.1
      refine J_aload_n hS dX5_makeIn_50 rfl ?_
      refine J_getR (t := h + 6) hS dX5_makeIn_51 flX5_67 hW.ob rfl ?_
      refine J_aload_n hS dX5_makeIn_54 rfl ?_
      refine J_getI hS dX5_makeIn_55 flX5_15 ob148 rfl ?_
      show J S 0 0 g6 58 [some (.ref 148), some (.ref h), some (.ref 152)] [.int _, .ref (h + 6)]
      rw [e61]
      refine J_dup2 hS dX5_makeIn_58 rfl rfl ?_
      refine J_ialdN hS (b) dX5_makeIn_59 (show Ar lay NC .int (h + 6) 24 from hW.ar 6 (by decide) (by decide)) (by first | rfl | (simp only [n0, n1, n2, n3, n4, n5, n6, n7, n8, n9, n10, n11, n12, n13, n14, n15, n16, n17, n18, n19, n20, n24, n32, n56, n60, n64, n72, n99, n100, n128, n136, n142, n144, n200, n300, n999, n1000, n1500, n3464, nI_add, pk_mul] <;> first | rfl | (congr 1; omega))) hb (by decide) ?_
      refine J_iconst (v := 1) hS dX5_makeIn_60 (by decide) ?_
      refine J_iadd hS dX5_makeIn_61 ?_
      refine J_iastN hS (b) dX5_makeIn_62 (show Ar lay NC .int (h + 6) 24 from hW.ar 6 (by decide) (by decide)) (by first | rfl | (simp only [n0, n1, n2, n3, n4, n5, n6, n7, n8, n9, n10, n11, n12, n13, n14, n15, n16, n17, n18, n19, n20, n24, n32, n56, n60, n64, n72, n99, n100, n128, n136, n142, n144, n200, n300, n999, n1000, n1500, n3464, nI_add, pk_mul] <;> first | rfl | (congr 1; omega))) hb (by decide) (fun g62 eg62 => ?_)
      refine J_aload_n hS dX5_makeIn_63 rfl ?_
      refine J_getR (t := h + 7) hS dX5_makeIn_64 flX5_70 hW.ob rfl ?_
      refine J_aload_n hS dX5_makeIn_67 rfl ?_
      refine J_getI hS dX5_makeIn_68 flX5_9 ob148 rfl ?_
      show J S 0 0 g62 71 [some (.ref 148), some (.ref h), some (.ref 152)] [.int _, .ref (h + 7)]
      rw [show g62 148 0 = nI a by rw [eg62, u2_ne 148 (by omega)]; exact e60]
      refine J_dup2 hS dX5_makeIn_71 rfl rfl ?_
      refine J_ialdN hS (a) dX5_makeIn_72 (show Ar lay NC .int (h + 7) 24 from hW.ar 7 (by decide) (by decide)) (by first | rfl | (simp only [n0, n1, n2, n3, n4, n5, n6, n7, n8, n9, n10, n11, n12, n13, n14, n15, n16, n17, n18, n19, n20, n24, n32, n56, n60, n64, n72, n99, n100, n128, n136, n142, n144, n200, n300, n999, n1000, n1500, n3464, nI_add, pk_mul] <;> first | rfl | (congr 1; omega))) ha (by decide) ?_
      refine J_iconst (v := 1) hS dX5_makeIn_73 (by decide) ?_
      refine J_iadd hS dX5_makeIn_74 ?_
      refine J_iastN hS (a) dX5_makeIn_75 (show Ar lay NC .int (h + 7) 24 from hW.ar 7 (by decide) (by decide)) (by first | rfl | (simp only [n0, n1, n2, n3, n4, n5, n6, n7, n8, n9, n10, n11, n12, n13, n14, n15, n16, n17, n18, n19, n20, n24, n32, n56, n60, n64, n72, n99, n100, n128, n136, n142, n144, n200, n300, n999, n1000, n1500, n3464, nI_add, pk_mul] <;> first | rfl | (congr 1; omega))) ha (by decide) (fun g75 eg75 => ?_)
      refine J_vret hS hZ hr dX5_makeIn_76 (by omega) (by omega) ?_
      have f8 : ∀ z, z ≠ h + 6 → z ≠ h + 7 → g75 z = g6 z := fun z h1 h2 => by rw [eg75, u2_ne z h2, eg62, u2_ne z h1]
      have p8 : ∀ j, j ≠ 9 → j ≠ 8 → g75 148 j = g2 148 j := fun j h9 h8 => by rw [f8 148 (by omega) (by omega), f6 148 (by omega) (by omega), k2 j h9]; exact p4 j h8
      refine q g75 (fun z h1 h2 h3 h4 h5 h6 => by rw [f8 z (by omega) (by omega), f6 z (by omega) (by omega), k1 z (by omega) (by omega) h2 h5 h6]; exact fg4 z h1 h2 h3 h4) ?_ ?_ ?_ ?_ ?_ ?_ ?_ ?_ ?_
      · rw [eg75, wv_u2 (wx_said ha), ← wv_at (g := g62) (h := h) (wx_said ha), eg62, wv_u2 (wx_took hb), ← wv_at (g := g6) (h := h) (wx_took hb), w6]; rfl
      · exact hs5.fr (by rw [f8 148 (by omega) (by omega), f6 148 (by omega) (by omega)]) (by rw [f8 148 (by omega) (by omega), f6 148 (by omega) (by omega)]) (by rw [f8 149 (by omega) (by omega), f6 149 (by omega) (by omega)])
      · rw [p8 3 (by decide) (by decide), j4 3 (by decide) (by decide)]; exact i3
      · intro k hk; exact ⟨sayS_lt w a mt k, by rw [f8 150 (by omega) (by omega), f6 150 (by omega) (by omega)]; exact (hsg5 k hk).2⟩
      · rw [p8 5 (by decide) (by decide)]; exact j3
      · intro r hr; rw [f8 151 (by omega) (by omega), f6 151 (by omega) (by omega), k1 151 (by omega) (by omega) (by decide) (by decide) (by decide), f4 151 (by omega) (by decide)]; exact j7 r hr
      · rw [p8 7 (by decide) (by decide)]; exact ert
      · rw [f8 148 (by omega) (by omega), f6 148 (by omega) (by omega), k2 8 (by decide)]; exact l4
      · rw [f8 148 (by omega) (by omega), f6 148 (by omega) (by omega)]; exact l5
    have e57 : g5 148 7 = tRt w a b y mt := by rw [k2 7 (by decide), p4 7 (by decide)]; exact ert
    refine J_aload_n hS dX5_makeIn_38 rfl ?_
    refine J_getI hS dX5_makeIn_39 flX5_34 ob148 rfl ?_
    show J S 0 0 g5 42 [some (.ref 148), some (.ref h), some (.ref 152)] [.int _]
    rw [e57]
    refine J_if_eq (tgt := 50) hS dX5_makeIn_42 (by decide) (fun c3 => ?_) (fun c3 => ?_)
    · refine fin g5 (fun _ _ _ => rfl) ?_
      rw [w5]; unfold tW5; rw [if_pos c3]
    ·
      refine J_aload_n hS dX5_makeIn_45 rfl ?_
      refine J_aload_n hS dX5_makeIn_46 rfl ?_
      refine J_callV1 (X' := fun _ _ => False) hS dX5_makeIn_47 mvX5_64 ob148 rfl (by decide) (by decide) (Nat.le_of_ble_eq_true rfl) hR (fun _ _ q => q.elim) (c_strengthenIn hW hs5 hsg5 (sayO_lt w a) (by rw [k2 3 (by decide), p4 3 (by decide), j4 3 (by decide) (by decide)]; exact i3) (fun g6 m1 m2 => ?_))
      refine fin g6 m1 ?_
      rw [m2, w5]; unfold tW5; rw [if_neg c3]
  refine J_aload_n hS dX5_makeIn_17 rfl ?_
  refine J_getI hS dX5_makeIn_18 flX5_57 hW.ob rfl ?_
  show J S 0 0 g3 21 [some (.ref 148), some (.ref h), some (.ref 152)] [.int _, .int _, .ref 148]
  rw [e34, e21]
  refine J_icmp_ge (tgt := 28) hS dX5_makeIn_21 (by decide) (fun c1 => ?_) (fun c1 => ?_)
  ·
    refine J_iconst (v := 0) hS dX5_makeIn_28 (by decide) ?_
    refine J_putZ hS dX5_makeIn_29 fpX5_38 ob148 rfl (by decide) (fun g29 eg29 => ?_)
    exact go 0 g29 (by unfold tSh; rw [if_pos c1]) eg29
  ·
    refine J_iconst (v := 1) hS dX5_makeIn_24 (by decide) ?_
    refine J_goto (tgt := 29) hS dX5_makeIn_25 (by decide) ?_
    refine J_putZ hS dX5_makeIn_29 fpX5_38 ob148 rfl (by decide) (fun g29 eg29 => ?_)
    exact go 1 g29 (by unfold tSh; rw [if_neg c1]) eg29
end ClsL


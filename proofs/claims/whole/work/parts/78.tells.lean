/-! THE REFERENCE: a talk that is noted -/
/-- behind some writes into the note m: the offsets written, and what -/
def NW (g0 g : Mm) (m : Nat) (P : Nat → Option Int32) : Prop := (∀ z, z ≠ 201 → g z = g0 z) ∧ (∀ i, (i < 20 * m ∨ 20 * m + 20 ≤ i) → g 201 i = g0 201 i) ∧ ∀ j, j < 20 → g 201 (20 * m + j) = (match P j with
  | some v => v
  | none => g0 201 (20 * m + j))
theorem NW.put {g0 g : Mm} {m : Nat} {P : Nat → Option Int32} (h : NW g0 g m P) {j : Nat} (hj : j < 20) (v : Int32) : NW g0 (u2 g 201 (20 * m + j) v) m (fun k => if k = j then some v else P k) := by
  refine ⟨fun z hz => by rw [u2_ne z hz]; exact h.1 z hz, fun i hi => ?_, fun k hk => ?_⟩
  · unfold u2; rw [if_neg (by omega)]; exact h.2.1 i hi
  · by_cases e : k = j
    · subst e; rw [u2_self]; dsimp only; rw [if_pos rfl]
    · dsimp only
      rw [if_neg e]
      have : u2 g 201 (20 * m + j) v 201 (20 * m + k) = g 201 (20 * m + k) := by unfold u2; rw [if_neg (by omega)]
      rw [this]; exact h.2.2 k hk
section RefN
variable {l : Launch} {E : Ey} {g : Mm} {Q : Option Value → Mm → Prop} {X : String → Mm → Prop} {r : Nat} {w bb : Wr}
/-- what a noted talk of the reference leaves -/
def TlM (g g' : Mm) (r : Nat) (w bb : Wr) (lw : Option (List Cls)) (lo : Int32) (a b y m : Nat) (mt : Nat → Nat) : Prop :=
  (∀ z, z ≠ r → z ≠ 162 → z ≠ 191 → z ≠ 198 → z ≠ 199 → z ≠ 201 → z ≠ 202 → z ≠ 203 → z ≠ 211 → g' z = g z) ∧ (∀ j, (j < 21 ∨ 33 < j ∨ j = 27 ∨ j = 28) → j ≠ 37 → j ≠ 46 → g' 162 j = g 162 j) ∧ RowM g' r (tW6 lw lo w a b y mt) bb ∧ g' 162 32 = tRt w a b y mt ∧
  g' 162 37 = nI (m + 1) ∧ (∀ i, (i < 20 * m ∨ 20 * m + 19 ≤ i) → g' 201 i = g 201 i) ∧ (∀ j, j < 19 → g' 201 (20 * m + j) = ntV lw lo w a b y mt j) ∧
  (∀ i, i < 144 → g' 203 i = if (i / 6 = a ∨ i / 6 = b) ∧ nwH lw lo (tW6 lw lo w a b y mt) (g 203) (i / 6) (i % 6) = true then nI m else g 203 i) ∧
  (∀ o, o < 6 → g' 202 (2 * o) = if g 202 (2 * o) = -1 then (if hldB lw lo (tW6 lw lo w a b y mt) b o = true then nI b else if hldB lw lo (tW6 lw lo w a b y mt) a o = true then nI a else g 202 (2 * o)) else g 202 (2 * o)) ∧
  (∀ o, o < 6 → g' 202 (2 * o + 1) = if g 202 (2 * o) = -1 ∧ (hldB lw lo (tW6 lw lo w a b y mt) b o = true ∨ hldB lw lo (tW6 lw lo w a b y mt) a o = true) then nI m else g 202 (2 * o + 1)) ∧
  (g 162 46 = -1 → g' 162 46 = -1 ∧ g' 211 = g 211) ∧
  (∀ f mn, f < 3 → mn < 100 → g 162 46 = nI f → g 211 f = nI mn → g' 211 f = nI (mn + 1) ∧ (∀ j, j ≠ f → g' 211 j = g 211 j) ∧ g' 162 46 = if mn + 1 = 100 then -1 else nI f)
set_option maxRecDepth 10000 in
set_option maxHeartbeats 8000000 in
theorem m_tells {a b y m : Nat} {mt : Nat → Nat} {lo : Int32} {lw : Option (List Cls)} (hr1 : Rw r) (hw : g 162 3 = nI r) (hrow : RowM g r w bb) (hab : a ≠ b) (ha : a < 24) (hb : b < 24) (hy : y < 3) (hya : w (56 + 142 * a) = nI y) (hmt : ∀ k, mt k < 4) (hme : ∀ k, k < 3 → g 197 k = nI (mt k)) (hwa : Wt w a) (hwb : Wt w b) (hlo : g 162 27 = lo) (hRl : RuleM g r lw) (hm : m < 1500) (em : g 162 37 = nI m) (hfl : g 162 46 = -1 ∨ ∃ f mn : Nat, f < 3 ∧ mn < 100 ∧ g 162 46 = nI f ∧ g 211 f = nI mn)
    (q : ∀ g', TlM g g' r w bb lw lo a b y m mt → Q none g') : Ct l E lay NC 5 0 0 yX8_tells [.ref 162, .int (nI a), .int (nI b)] g Q X := by
  have hr2 : r = 164 ∨ r = 165 := hr1
  refine Ct_in k_yX8_tells (by decide) rfl (Nat.le_of_ble_eq_true rfl) rfl ?_
  intro S hS hZ hr ht hR
  show J S 0 0 (g) 0 [some (.ref 162), some (.int (nI a)), some (.int (nI b)), none, none, none, none] []
  refine J_aload_n hS dX8_tells_0 rfl ?_
  refine J_iload_n hS dX8_tells_1 rfl ?_
  refine J_iload_n hS dX8_tells_2 rfl ?_
  refine J_callV2 (X' := fun _ _ => False) hS dX8_tells_3 mvX8_326 ob162 rfl (by first | decide | omega) (by decide) (Nat.le_of_ble_eq_true rfl) ⟨Nat.le_trans (by decide) hR.1, Nat.le_trans (by decide) hR.2⟩ (fun _ _ q => q.elim) (m_talks hr1 hw hrow ha hb hy hya hmt hme hwa hwb hlo hRl (fun g1 tk => ?_))
  obtain ⟨t1, t2, t3, t4, t5, t6, t7, t8, t9, t10⟩ := tk
  obtain ⟨W6, hW6⟩ : ∃ W6 : Wr, W6 = tW6 lw lo w a b y mt := ⟨_, rfl⟩
  obtain ⟨v6, e6⟩ : ∃ v6 : Int32, v6 = nI (sayO w a) := ⟨_, rfl⟩
  obtain ⟨v10, e10⟩ : ∃ v10 : Int32, v10 = nI (tO' w a b y mt) := ⟨_, rfl⟩
  obtain ⟨v14, e14⟩ : ∃ v14 : Int32, v14 = tRt w a b y mt := ⟨_, rfl⟩
  obtain ⟨v15, e15⟩ : ∃ v15 : Int32, v15 = tSh w a b y mt := ⟨_, rfl⟩
  obtain ⟨v16, e16⟩ : ∃ v16 : Int32, v16 = tLn w a b y mt := ⟨_, rfl⟩
  obtain ⟨sv, esv⟩ : ∃ sv : Nat → Int32, sv = fun k => nI (sayS w a mt k) := ⟨_, rfl⟩
  obtain ⟨tv, etv⟩ : ∃ tv : Nat → Int32, tv = fun k => nI (tTk w a b y mt k) := ⟨_, rfl⟩
  have hrt01 : v14 = 0 ∨ v14 = 1 := by rw [e14]; unfold tRt rtI; split <;> simp
  have hsh01 : v15 = 0 ∨ v15 = 1 := by rw [e15]; unfold tSh; split <;> simp
  rw [← hW6] at t3
  rw [← e6] at t4
  rw [← e10] at t5
  rw [← e14] at t8
  rw [← e15] at t9
  rw [← e16] at t10
  have s6 : ∀ k, k < 3 → g1 198 k = sv k := fun k hk => by rw [esv]; exact t6 k hk
  have s7 : ∀ k, k < 3 → g1 199 k = tv k := fun k hk => by rw [etv]; exact t7 k hk
  have w1 : g1 162 3 = nI r := by rw [t2 3 (by decide)]; exact hw
  have m1 : g1 162 37 = nI m := by rw [t2 37 (by decide)]; exact em
  refine J_bipush (v := 20) hS dX8_tells_6 (by decide) ?_
  refine J_aload_n hS dX8_tells_8 rfl ?_
  refine J_getI hS dX8_tells_9 flX8_329 ob162 rfl ?_
  show J S 0 0 (g1) 12 [some (.ref 162), some (.int (nI a)), some (.int (nI b)), none, none, none, none] [.int _, .int 20]
  rw [m1]
  refine J_imul hS dX8_tells_12 ?_
  show J S 0 0 (g1) 13 [some (.ref 162), some (.int (nI a)), some (.int (nI b)), none, none, none, none] [.int _]
  rw [n20, pk_mul]
  refine J_istore_n (lt := fun x3 => [some (.ref 162), some (.int (nI a)), some (.int (nI b)), some (.int x3), none, none, none]) hS dX8_tells_13 (Nat.le_of_ble_eq_true rfl) (fun _ => rfl) (fun x3 ex3 => ?_)
  rw [show x3 = nI (20 * m) from ex3]
  refine J_aload_n hS dX8_tells_14 rfl ?_
  refine J_getR (t := 201) hS dX8_tells_15 flX8_65 ob162 rfl ?_
  refine J_iload_n hS dX8_tells_18 rfl ?_
  refine J_aload_n hS dX8_tells_19 rfl ?_
  refine J_getD (v := .ref r) hS dX8_tells_20 flX8_20 ob162 rfl (wI hr1 w1) ?_
  refine J_iconst (v := 2) hS dX8_tells_23 (by decide) ?_
  refine J_ialdN hS (2) dX8_tells_24 hr1.ar (by first | rfl | (simp only [n0, n1, n2, n3, n4, n5, n6, n7, n8, n9, n10, n11, n12, n13, n14, n15, n16, n17, n18, n19, n20, n24, n32, n56, n60, n64, n72, n99, n100, n128, n136, n142, n144, n200, n300, n999, n1000, n1500, n3464, nI_add, pk_mul] <;> first | rfl | (congr 1; omega))) (by decide) (by decide) ?_
  show J S 0 0 (g1) 25 [some (.ref 162), some (.int (nI a)), some (.int (nI b)), some (.int (nI (20 * m))), none, none, none] [.int _, .int (nI (20 * m)), .ref (201)]
  rw [t3.at (i := 2) (by decide) (Mk_lo (by decide) (by decide))]
  refine J_iastN hS (20 * m) dX8_tells_25 (show Ar lay NC .int 201 30000 from arM 38 30000 (by decide) (by decide) rfl) (by first | rfl | (simp only [n0, n1, n2, n3, n4, n5, n6, n7, n8, n9, n10, n11, n12, n13, n14, n15, n16, n17, n18, n19, n20, n24, n32, n56, n60, n64, n72, n99, n100, n128, n136, n142, n144, n200, n300, n999, n1000, n1500, n3464, nI_add, pk_mul] <;> first | rfl | (congr 1; omega))) (by omega) (by decide) (fun g25 eg25 => ?_)
  refine J_aload_n hS dX8_tells_26 rfl ?_
  refine J_getR (t := 201) hS dX8_tells_27 flX8_65 ob162 rfl ?_
  refine J_iload_n hS dX8_tells_30 rfl ?_
  refine J_iconst (v := 1) hS dX8_tells_31 (by decide) ?_
  refine J_iadd hS dX8_tells_32 ?_
  refine J_iload_n hS dX8_tells_33 rfl ?_
  refine J_iastN hS (20 * m + 1) dX8_tells_34 (show Ar lay NC .int 201 30000 from arM 38 30000 (by decide) (by decide) rfl) (by first | rfl | (simp only [n0, n1, n2, n3, n4, n5, n6, n7, n8, n9, n10, n11, n12, n13, n14, n15, n16, n17, n18, n19, n20, n24, n32, n56, n60, n64, n72, n99, n100, n128, n136, n142, n144, n200, n300, n999, n1000, n1500, n3464, nI_add, pk_mul] <;> first | rfl | (congr 1; omega))) (by omega) (by decide) (fun g34 eg34 => ?_)
  refine J_aload_n hS dX8_tells_35 rfl ?_
  refine J_getR (t := 201) hS dX8_tells_36 flX8_65 ob162 rfl ?_
  refine J_iload_n hS dX8_tells_39 rfl ?_
  refine J_iconst (v := 2) hS dX8_tells_40 (by decide) ?_
  refine J_iadd hS dX8_tells_41 ?_
  refine J_iload_n hS dX8_tells_42 rfl ?_
  refine J_iastN hS (20 * m + 2) dX8_tells_43 (show Ar lay NC .int 201 30000 from arM 38 30000 (by decide) (by decide) rfl) (by first | rfl | (simp only [n0, n1, n2, n3, n4, n5, n6, n7, n8, n9, n10, n11, n12, n13, n14, n15, n16, n17, n18, n19, n20, n24, n32, n56, n60, n64, n72, n99, n100, n128, n136, n142, n144, n200, n300, n999, n1000, n1500, n3464, nI_add, pk_mul] <;> first | rfl | (congr 1; omega))) (by omega) (by decide) (fun g43 eg43 => ?_)
  refine J_iconst (v := 0) hS dX8_tells_44 (by decide) ?_
  refine J_istore (lt := fun x4 => [some (.ref 162), some (.int (nI a)), some (.int (nI b)), some (.int (nI (20 * m))), some (.int x4), none, none]) hS dX8_tells_45 (Nat.le_of_ble_eq_true rfl) (fun _ => rfl) (fun x4 ex4 => ?_)
  rw [show x4 = nI 0 from ex4]
  have N0 : NW g1 g43 m (fun k => if k = 2 then some (nI b) else if k = 1 then some (nI a) else if k = 0 then some (W6 2) else none) := by
    have z : NW g1 g1 m (fun _ => none) := ⟨fun _ _ => rfl, fun _ _ => rfl, fun _ _ => rfl⟩
    rw [eg43, eg34, eg25]
    exact ((z.put (j := 0) (by decide) (W6 2)).put (j := 1) (by decide) (nI a)).put (j := 2) (by decide) (nI b)
  have body : ∀ (k : Nat), k < 3 → ∀ (g5 : Mm) (P : Nat → Option Int32), NW g1 g5 m P → (∀ g6, NW g1 g6 m (fun j => if j = 11 + k then some (tv k) else if j = 7 + k then some (sv k) else if j = 3 + k then some (nI (mt k)) else P j) → J S 0 0 g6 47 [some (.ref 162), some (.int (nI a)), some (.int (nI b)), some (.int (nI (20 * m))), some (.int (nI (k + 1))), none, none] []) → J S 0 0 g5 47 [some (.ref 162), some (.int (nI a)), some (.int (nI b)), some (.int (nI (20 * m))), some (.int (nI k)), none, none] [] := by
    intro k hk g5 P nw nx2
    refine J_iload hS dX8_tells_47 rfl ?_
    refine J_iconst (v := 3) hS dX8_tells_49 (by decide) ?_
    refine J_icmp_ge (tgt := 115) hS dX8_tells_50 (by decide) (fun c1 => ?_) (fun c1 => ?_)
    · exact absurd c1 (nI_ge hk (by decide))
    ·
      refine J_aload_n hS dX8_tells_53 rfl ?_
      refine J_getR (t := 201) hS dX8_tells_54 flX8_65 ob162 rfl ?_
      refine J_iload_n hS dX8_tells_57 rfl ?_
      refine J_iconst (v := 3) hS dX8_tells_58 (by decide) ?_
      refine J_iadd hS dX8_tells_59 ?_
      refine J_iload hS dX8_tells_60 rfl ?_
      refine J_iadd hS dX8_tells_62 ?_
      refine J_aload_n hS dX8_tells_63 rfl ?_
      refine J_getR (t := 197) hS dX8_tells_64 flX8_56 ob162 rfl ?_
      refine J_iload hS dX8_tells_67 rfl ?_
      refine J_ialdN hS (k) dX8_tells_69 (show Ar lay NC .int 197 3 from arM 34 3 (by decide) (by decide) rfl) (by first | rfl | (simp only [n0, n1, n2, n3, n4, n5, n6, n7, n8, n9, n10, n11, n12, n13, n14, n15, n16, n17, n18, n19, n20, n24, n32, n56, n60, n64, n72, n99, n100, n128, n136, n142, n144, n200, n300, n999, n1000, n1500, n3464, nI_add, pk_mul] <;> first | rfl | (congr 1; omega))) (by omega) (by decide) ?_
      show J S 0 0 (g5) 70 [some (.ref 162), some (.int (nI a)), some (.int (nI b)), some (.int (nI (20 * m))), some (.int (nI k)), none, none] [.int _, .int _, .ref (201)]
      rw [show g5 197 k = nI (mt k) by rw [nw.1 197 (by decide), t1 197 (by omega) (by decide) (by decide) (by decide) (by decide)]; exact hme k hk]
      refine J_iastN hS (20 * m + (3 + k)) dX8_tells_70 (show Ar lay NC .int 201 30000 from arM 38 30000 (by decide) (by decide) rfl) (by rw [n3, nI_add, nI_add, Nat.add_assoc]) (by omega) (by decide) (fun g70 eg70 => ?_)
      refine J_aload_n hS dX8_tells_71 rfl ?_
      refine J_getR (t := 201) hS dX8_tells_72 flX8_65 ob162 rfl ?_
      refine J_iload_n hS dX8_tells_75 rfl ?_
      refine J_bipush (v := 7) hS dX8_tells_76 (by decide) ?_
      refine J_iadd hS dX8_tells_78 ?_
      refine J_iload hS dX8_tells_79 rfl ?_
      refine J_iadd hS dX8_tells_81 ?_
      refine J_aload_n hS dX8_tells_82 rfl ?_
      refine J_getR (t := 198) hS dX8_tells_83 flX8_59 ob162 rfl ?_
      refine J_iload hS dX8_tells_86 rfl ?_
      refine J_ialdN hS (k) dX8_tells_88 (show Ar lay NC .int 198 3 from arM 35 3 (by decide) (by decide) rfl) (by first | rfl | (simp only [n0, n1, n2, n3, n4, n5, n6, n7, n8, n9, n10, n11, n12, n13, n14, n15, n16, n17, n18, n19, n20, n24, n32, n56, n60, n64, n72, n99, n100, n128, n136, n142, n144, n200, n300, n999, n1000, n1500, n3464, nI_add, pk_mul] <;> first | rfl | (congr 1; omega))) (by omega) (by decide) ?_
      have n1 := nw.put (j := 3 + k) (by omega) (nI (mt k))
      rw [← eg70] at n1
      show J S 0 0 (g70) 89 [some (.ref 162), some (.int (nI a)), some (.int (nI b)), some (.int (nI (20 * m))), some (.int (nI k)), none, none] [.int _, .int _, .ref (201)]
      rw [show g70 198 k = sv k by rw [n1.1 198 (by decide)]; exact s6 k hk]
      refine J_iastN hS (20 * m + (7 + k)) dX8_tells_89 (show Ar lay NC .int 201 30000 from arM 38 30000 (by decide) (by decide) rfl) (by rw [n7, nI_add, nI_add, Nat.add_assoc]) (by omega) (by decide) (fun g89 eg89 => ?_)
      refine J_aload_n hS dX8_tells_90 rfl ?_
      refine J_getR (t := 201) hS dX8_tells_91 flX8_65 ob162 rfl ?_
      refine J_iload_n hS dX8_tells_94 rfl ?_
      refine J_bipush (v := 11) hS dX8_tells_95 (by decide) ?_
      refine J_iadd hS dX8_tells_97 ?_
      refine J_iload hS dX8_tells_98 rfl ?_
      refine J_iadd hS dX8_tells_100 ?_
      refine J_aload_n hS dX8_tells_101 rfl ?_
      refine J_getR (t := 199) hS dX8_tells_102 flX8_62 ob162 rfl ?_
      refine J_iload hS dX8_tells_105 rfl ?_
      refine J_ialdN hS (k) dX8_tells_107 (show Ar lay NC .int 199 3 from arM 36 3 (by decide) (by decide) rfl) (by first | rfl | (simp only [n0, n1, n2, n3, n4, n5, n6, n7, n8, n9, n10, n11, n12, n13, n14, n15, n16, n17, n18, n19, n20, n24, n32, n56, n60, n64, n72, n99, n100, n128, n136, n142, n144, n200, n300, n999, n1000, n1500, n3464, nI_add, pk_mul] <;> first | rfl | (congr 1; omega))) (by omega) (by decide) ?_
      have n2 := n1.put (j := 7 + k) (by omega) (sv k)
      rw [← eg89] at n2
      show J S 0 0 (g89) 108 [some (.ref 162), some (.int (nI a)), some (.int (nI b)), some (.int (nI (20 * m))), some (.int (nI k)), none, none] [.int _, .int _, .ref (201)]
      rw [show g89 199 k = tv k by rw [n2.1 199 (by decide)]; exact s7 k hk]
      refine J_iastN hS (20 * m + (11 + k)) dX8_tells_108 (show Ar lay NC .int 201 30000 from arM 38 30000 (by decide) (by decide) rfl) (by rw [n11, nI_add, nI_add, Nat.add_assoc]) (by omega) (by decide) (fun g108 eg108 => ?_)
      refine J_iinc (lt := fun i2 => [some (.ref 162), some (.int (nI a)), some (.int (nI b)), some (.int (nI (20 * m))), some (.int i2), none, none]) (v := 1) hS dX8_tells_109 rfl (by decide) (fun _ => rfl) (fun i2 ei2 => ?_)
      refine J_goto (tgt := 47) hS dX8_tells_112 (by decide) ?_
      have n3' := n2.put (j := 11 + k) (by omega) (tv k)
      rw [← eg108] at n3'
      rw [show i2 = nI (k + 1) by rw [ei2]; exact nI_1 k]
      exact nx2 g108 n3'
  refine body 0 (by decide) g43 _ N0 (fun g5 N1 => body 1 (by decide) g5 _ N1 (fun g6 N2 => body 2 (by decide) g6 _ N2 (fun g7 N3 => ?_)))
  refine J_iload hS dX8_tells_47 rfl ?_
  refine J_iconst (v := 3) hS dX8_tells_49 (by decide) ?_
  refine J_icmp_ge (tgt := 115) hS dX8_tells_50 (by decide) (fun c1 => ?_) (fun c1 => ?_)
  ·
    refine J_aload_n hS dX8_tells_115 rfl ?_
    refine J_getR (t := 201) hS dX8_tells_116 flX8_65 ob162 rfl ?_
    refine J_iload_n hS dX8_tells_119 rfl ?_
    refine J_bipush (v := 6) hS dX8_tells_120 (by decide) ?_
    refine J_iadd hS dX8_tells_122 ?_
    refine J_aload_n hS dX8_tells_123 rfl ?_
    refine J_getI hS dX8_tells_124 flX8_288 ob162 rfl ?_
    show J S 0 0 (g7) 127 [some (.ref 162), some (.int (nI a)), some (.int (nI b)), some (.int (nI (20 * m))), some (.int (nI 3)), none, none] [.int _, .int _, .ref (201)]
    rw [show g7 162 29 = v6 by rw [N3.1 162 (by decide)]; exact t4]
    refine J_iastN hS (20 * m + 6) dX8_tells_127 (show Ar lay NC .int 201 30000 from arM 38 30000 (by decide) (by decide) rfl) (by first | rfl | (simp only [n0, n1, n2, n3, n4, n5, n6, n7, n8, n9, n10, n11, n12, n13, n14, n15, n16, n17, n18, n19, n20, n24, n32, n56, n60, n64, n72, n99, n100, n128, n136, n142, n144, n200, n300, n999, n1000, n1500, n3464, nI_add, pk_mul] <;> first | rfl | (congr 1; omega))) (by omega) (by decide) (fun g127 eg127 => ?_)
    refine J_aload_n hS dX8_tells_128 rfl ?_
    refine J_getR (t := 201) hS dX8_tells_129 flX8_65 ob162 rfl ?_
    refine J_iload_n hS dX8_tells_132 rfl ?_
    refine J_bipush (v := 10) hS dX8_tells_133 (by decide) ?_
    refine J_iadd hS dX8_tells_135 ?_
    refine J_aload_n hS dX8_tells_136 rfl ?_
    refine J_getI hS dX8_tells_137 flX8_300 ob162 rfl ?_
    have N4 := N3.put (j := 6) (by decide) v6
    rw [← eg127] at N4
    show J S 0 0 (g127) 140 [some (.ref 162), some (.int (nI a)), some (.int (nI b)), some (.int (nI (20 * m))), some (.int (nI 3)), none, none] [.int _, .int _, .ref (201)]
    rw [show g127 162 30 = v10 by rw [N4.1 162 (by decide)]; exact t5]
    refine J_iastN hS (20 * m + 10) dX8_tells_140 (show Ar lay NC .int 201 30000 from arM 38 30000 (by decide) (by decide) rfl) (by first | rfl | (simp only [n0, n1, n2, n3, n4, n5, n6, n7, n8, n9, n10, n11, n12, n13, n14, n15, n16, n17, n18, n19, n20, n24, n32, n56, n60, n64, n72, n99, n100, n128, n136, n142, n144, n200, n300, n999, n1000, n1500, n3464, nI_add, pk_mul] <;> first | rfl | (congr 1; omega))) (by omega) (by decide) (fun g140 eg140 => ?_)
    refine J_aload_n hS dX8_tells_141 rfl ?_
    refine J_getR (t := 201) hS dX8_tells_142 flX8_65 ob162 rfl ?_
    refine J_iload_n hS dX8_tells_145 rfl ?_
    refine J_bipush (v := 14) hS dX8_tells_146 (by decide) ?_
    refine J_iadd hS dX8_tells_148 ?_
    refine J_aload_n hS dX8_tells_149 rfl ?_
    refine J_getI hS dX8_tells_150 flX8_307 ob162 rfl ?_
    have N5 := N4.put (j := 10) (by decide) v10
    rw [← eg140] at N5
    show J S 0 0 (g140) 153 [some (.ref 162), some (.int (nI a)), some (.int (nI b)), some (.int (nI (20 * m))), some (.int (nI 3)), none, none] [.int _, .int _, .ref (201)]
    rw [show g140 162 32 = v14 by rw [N5.1 162 (by decide)]; exact t8]
    obtain ⟨P5, hP5⟩ : ∃ P5 : Nat → Option Int32, P5 = fun k => if k = 10 then some v10 else if k = 6 then some v6 else if k = 11 + 2 then some (tv 2) else if k = 7 + 2 then some (sv 2) else if k = 3 + 2 then some (nI (mt 2)) else if k = 11 + 1 then some (tv 1) else if k = 7 + 1 then some (sv 1) else if k = 3 + 1 then some (nI (mt 1)) else if k = 11 + 0 then some (tv 0) else if k = 7 + 0 then some (sv 0) else if k = 3 + 0 then some (nI (mt 0)) else if k = 2 then some (nI b) else if k = 1 then some (nI a) else if k = 0 then some (W6 2) else none := ⟨_, rfl⟩
    have N5' : NW g1 g140 m P5 := by rw [hP5]; exact N5
    have aft : ∀ g8 : Mm, NW g1 g8 m (fun k => if k = 15 then some v15 else if k = 14 then some v14 else P5 k) → J S 0 0 g8 183 [some (.ref 162), some (.int (nI a)), some (.int (nI b)), some (.int (nI (20 * m))), some (.int (nI 3)), none, none] [] := by
      intro g8 N7
      refine J_aload_n hS dX8_tells_183 rfl ?_
      refine J_getR (t := 201) hS dX8_tells_184 flX8_65 ob162 rfl ?_
      refine J_iload_n hS dX8_tells_187 rfl ?_
      refine J_bipush (v := 16) hS dX8_tells_188 (by decide) ?_
      refine J_iadd hS dX8_tells_190 ?_
      refine J_aload_n hS dX8_tells_191 rfl ?_
      refine J_getI hS dX8_tells_192 flX8_317 ob162 rfl ?_
      show J S 0 0 (g8) 195 [some (.ref 162), some (.int (nI a)), some (.int (nI b)), some (.int (nI (20 * m))), some (.int (nI 3)), none, none] [.int _, .int _, .ref (201)]
      rw [show g8 162 31 = v16 by rw [N7.1 162 (by decide)]; exact t10]
      refine J_iastN hS (20 * m + 16) dX8_tells_195 (show Ar lay NC .int 201 30000 from arM 38 30000 (by decide) (by decide) rfl) (by first | rfl | (simp only [n0, n1, n2, n3, n4, n5, n6, n7, n8, n9, n10, n11, n12, n13, n14, n15, n16, n17, n18, n19, n20, n24, n32, n56, n60, n64, n72, n99, n100, n128, n136, n142, n144, n200, n300, n999, n1000, n1500, n3464, nI_add, pk_mul] <;> first | rfl | (congr 1; omega))) (by omega) (by decide) (fun g195 eg195 => ?_)
      refine J_aload_n hS dX8_tells_196 rfl ?_
      refine J_getR (t := 201) hS dX8_tells_197 flX8_65 ob162 rfl ?_
      refine J_iload_n hS dX8_tells_200 rfl ?_
      refine J_bipush (v := 17) hS dX8_tells_201 (by decide) ?_
      refine J_iadd hS dX8_tells_203 ?_
      have N8 := N7.put (j := 16) (by decide) v16
      rw [← eg195] at N8
      have r8 : g195 r = g1 r := N8.1 r (by omega)
      refine J_aload_n hS dX8_tells_204 rfl ?_
      refine J_getD (v := .ref r) hS dX8_tells_205 flX8_20 ob162 rfl (by rw [N8.1 162 (by decide)]; exact wI hr1 w1) ?_
      refine J_iload_n hS dX8_tells_208 rfl ?_
      refine J_callS1 (X' := fun _ _ => False) hS dX8_tells_209 msX8_121 rfl (by first | decide | omega) (by decide) (Nat.le_of_ble_eq_true rfl) ⟨Nat.le_trans (by decide) hR.1, Nat.le_trans (by decide) hR.2⟩ (fun _ _ q => q.elim) (m_at ?_)
      refine J_iconst (v := 4) hS dX8_tells_212 (by decide) ?_
      refine J_iadd hS dX8_tells_213 ?_
      refine J_ialdN hS (56 + 142 * a + 4) dX8_tells_214 hr1.ar (by first | rfl | (simp only [n0, n1, n2, n3, n4, n5, n6, n7, n8, n9, n10, n11, n12, n13, n14, n15, n16, n17, n18, n19, n20, n24, n32, n56, n60, n64, n72, n99, n100, n128, n136, n142, n144, n200, n300, n999, n1000, n1500, n3464, nI_add, pk_mul] <;> first | rfl | (congr 1; omega))) (by omega) (by decide) ?_
      show J S 0 0 (g195) 215 [some (.ref 162), some (.int (nI a)), some (.int (nI b)), some (.int (nI (20 * m))), some (.int (nI 3)), none, none] [.int _, .int _, .ref (201)]
      rw [r8, t3.at (i := 56 + 142 * a + 4) (by omega) (Mk_blk (by decide) (by decide))]
      refine J_iastN hS (20 * m + 17) dX8_tells_215 (show Ar lay NC .int 201 30000 from arM 38 30000 (by decide) (by decide) rfl) (by first | rfl | (simp only [n0, n1, n2, n3, n4, n5, n6, n7, n8, n9, n10, n11, n12, n13, n14, n15, n16, n17, n18, n19, n20, n24, n32, n56, n60, n64, n72, n99, n100, n128, n136, n142, n144, n200, n300, n999, n1000, n1500, n3464, nI_add, pk_mul] <;> first | rfl | (congr 1; omega))) (by omega) (by decide) (fun g215 eg215 => ?_)
      refine J_aload_n hS dX8_tells_216 rfl ?_
      refine J_getR (t := 201) hS dX8_tells_217 flX8_65 ob162 rfl ?_
      refine J_iload_n hS dX8_tells_220 rfl ?_
      refine J_bipush (v := 18) hS dX8_tells_221 (by decide) ?_
      refine J_iadd hS dX8_tells_223 ?_
      have N9 := N8.put (j := 17) (by decide) (W6 (56 + 142 * a + 4))
      rw [← eg215] at N9
      have r9 : g215 r = g1 r := N9.1 r (by omega)
      refine J_aload_n hS dX8_tells_224 rfl ?_
      refine J_getD (v := .ref r) hS dX8_tells_225 flX8_20 ob162 rfl (by rw [N9.1 162 (by decide)]; exact wI hr1 w1) ?_
      refine J_iload_n hS dX8_tells_228 rfl ?_
      refine J_callS1 (X' := fun _ _ => False) hS dX8_tells_229 msX8_121 rfl (by first | decide | omega) (by decide) (Nat.le_of_ble_eq_true rfl) ⟨Nat.le_trans (by decide) hR.1, Nat.le_trans (by decide) hR.2⟩ (fun _ _ q => q.elim) (m_at ?_)
      refine J_iconst (v := 4) hS dX8_tells_232 (by decide) ?_
      refine J_iadd hS dX8_tells_233 ?_
      refine J_ialdN hS (56 + 142 * b + 4) dX8_tells_234 hr1.ar (by first | rfl | (simp only [n0, n1, n2, n3, n4, n5, n6, n7, n8, n9, n10, n11, n12, n13, n14, n15, n16, n17, n18, n19, n20, n24, n32, n56, n60, n64, n72, n99, n100, n128, n136, n142, n144, n200, n300, n999, n1000, n1500, n3464, nI_add, pk_mul] <;> first | rfl | (congr 1; omega))) (by omega) (by decide) ?_
      show J S 0 0 (g215) 235 [some (.ref 162), some (.int (nI a)), some (.int (nI b)), some (.int (nI (20 * m))), some (.int (nI 3)), none, none] [.int _, .int _, .ref (201)]
      rw [r9, t3.at (i := 56 + 142 * b + 4) (by omega) (Mk_blk (by decide) (by decide))]
      refine J_iastN hS (20 * m + 18) dX8_tells_235 (show Ar lay NC .int 201 30000 from arM 38 30000 (by decide) (by decide) rfl) (by first | rfl | (simp only [n0, n1, n2, n3, n4, n5, n6, n7, n8, n9, n10, n11, n12, n13, n14, n15, n16, n17, n18, n19, n20, n24, n32, n56, n60, n64, n72, n99, n100, n128, n136, n142, n144, n200, n300, n999, n1000, n1500, n3464, nI_add, pk_mul] <;> first | rfl | (congr 1; omega))) (by omega) (by decide) (fun g235 eg235 => ?_)
      refine J_iconst (v := 0) hS dX8_tells_236 (by decide) ?_
      refine J_istore (lt := fun x4 => [some (.ref 162), some (.int (nI a)), some (.int (nI b)), some (.int (nI (20 * m))), some (.int x4), none, none]) hS dX8_tells_237 (Nat.le_of_ble_eq_true rfl) (fun _ => rfl) (fun x4 ex4 => ?_)
      have NA := N9.put (j := 18) (by decide) (W6 (56 + 142 * b + 4))
      rw [← eg235] at NA
      rw [show x4 = nI 0 from ex4]
      have nts : ∀ j, j < 19 → g235 201 (20 * m + j) = ntV lw lo w a b y mt j := by
        unfold ntV
        rw [← hW6, ← e6, ← e10, ← e14, ← e15, ← e16, show (fun k => nI (sayS w a mt k)) = sv from esv.symm, show (fun k => nI (tTk w a b y mt k)) = tv from etv.symm]
        have nv := NA.2.2
        rw [hP5] at nv
        refine ntF_all (B := 20 * m) (nv 0 (by decide)) (nv 1 (by decide)) (nv 2 (by decide)) (fun k hk => ?_) (nv 6 (by decide)) (fun k hk => ?_) (nv 10 (by decide)) (fun k hk => ?_) (nv 14 (by decide)) (nv 15 (by decide)) (nv 16 (by decide)) (nv 17 (by decide)) (nv 18 (by decide))
        · rcases (show k = 0 ∨ k = 1 ∨ k = 2 by omega) with e | e | e
          · subst e; exact nv 3 (by decide)
          · subst e; exact nv 4 (by decide)
          · subst e; exact nv 5 (by decide)
        · rcases (show k = 0 ∨ k = 1 ∨ k = 2 by omega) with e | e | e
          · subst e; exact nv 7 (by decide)
          · subst e; exact nv 8 (by decide)
          · subst e; exact nv 9 (by decide)
        · rcases (show k = 0 ∨ k = 1 ∨ k = 2 by omega) with e | e | e
          · subst e; exact nv 11 (by decide)
          · subst e; exact nv 12 (by decide)
          · subst e; exact nv 13 (by decide)
      have n19 : ∀ i, (i < 20 * m ∨ 20 * m + 19 ≤ i) → g235 201 i = g 201 i := by
        intro i hi
        rcases (show (i < 20 * m ∨ 20 * m + 20 ≤ i) ∨ i = 20 * m + 19 by omega) with z | z
        · rw [NA.2.1 i z, t1 201 (by omega) (by decide) (by decide) (by decide) (by decide)]
        · subst z
          have := NA.2.2 19 (by decide)
          rw [hP5] at this
          rw [show g235 201 (20 * m + 19) = g1 201 (20 * m + 19) from this, t1 201 (by omega) (by decide) (by decide) (by decide) (by decide)]
      obtain ⟨HB, hHB⟩ : ∃ HB : Nat → Bool, HB = fun o => hldB lw lo W6 b o := ⟨_, rfl⟩
      obtain ⟨HA, hHA⟩ : ∃ HA : Nat → Bool, HA = fun o => hldB lw lo W6 a o := ⟨_, rfl⟩
      have nm1 : ¬ nI m = -1 := nI_nem1 (by omega)
      -- the orders held
      suffices H : ∀ (t o : Nat) (i : Int32) (y5 y6 : Option Value) (g9 : Mm), o + t = 6 → i = nI o → (∀ z, z ≠ 162 → z ≠ 191 → z ≠ 202 → z ≠ 203 → g9 z = g235 z) → (∀ j, (j < 21 ∨ 26 < j) → g9 162 j = g235 162 j) → (∀ i, i < 144 → g9 203 i = if i % 6 < o ∧ ((i / 6 = b ∧ g 203 i = -1 ∧ HB (i % 6) = true) ∨ (i / 6 = a ∧ g 203 i = -1 ∧ HA (i % 6) = true)) then nI m else g 203 i) → (∀ k, k < 6 → g9 202 (2 * k) = if k < o ∧ g 202 (2 * k) = -1 then (if HB k = true then nI b else if HA k = true then nI a else g 202 (2 * k)) else g 202 (2 * k)) → (∀ k, k < 6 → g9 202 (2 * k + 1) = if k < o ∧ g 202 (2 * k) = -1 ∧ (HB k = true ∨ HA k = true) then nI m else g 202 (2 * k + 1)) → J S 0 0 g9 239 [some (.ref 162), some (.int (nI a)), some (.int (nI b)), some (.int (nI (20 * m))), some (.int i), y5, y6] [] by
        have c202 : g235 202 = g 202 := by rw [NA.1 202 (by decide), t1 202 (by omega) (by decide) (by decide) (by decide) (by decide)]
        have c203 : g235 203 = g 203 := by rw [NA.1 203 (by decide), t1 203 (by omega) (by decide) (by decide) (by decide) (by decide)]
        refine H 6 0 _ _ _ g235 (by omega) rfl (fun _ _ _ _ _ => rfl) (fun _ _ => rfl) (fun i hi => ?_) (fun k hk => ?_) (fun k hk => ?_)
        · rw [c203, if_neg (by omega)]
        · rw [c202, if_neg (by omega)]
        · rw [c202, if_neg (by omega)]
      have w235 : g235 162 3 = nI r := by rw [NA.1 162 (by decide)]; exact w1
      have lo235 : g235 162 27 = lo := by rw [NA.1 162 (by decide), t2 27 (by decide)]; exact hlo
      have row235 : RowM g235 r W6 bb := t3.fr (NA.1 r (by omega))
      have r5 : ¬ Mk 5 := fun z => z.1 rfl
      have rul235 : RuleM g235 r lw := hRl.fr (by rw [row235.no (by decide) r5, hrow.no (by decide) r5]) (fun z z1 z2 => by rw [NA.1 z (by omega), t1 z (by omega) (by omega) (by omega) (by omega) (by omega)])
      have m235 : g235 162 37 = nI m := by rw [NA.1 162 (by decide)]; exact m1
      have f235 : g235 162 46 = g 162 46 := by rw [NA.1 162 (by decide)]; exact t2 46 (by decide)
      have c211 : g235 211 = g 211 := by rw [NA.1 211 (by decide), t1 211 (by omega) (by decide) (by decide) (by decide) (by decide)]
      intro t
      induction t with
      | zero =>
        intro o i y5 y6 g9 ho hi k1 k2 k3 k4 k5
        have eo : o = 6 := by omega
        subst eo; subst hi
        refine J_weak (ls' := [some (.ref 162), some (.int (nI a)), some (.int (nI b)), some (.int (nI (20 * m))), some (.int (nI 6)), none, none]) ⟨Or.inr rfl, Or.inr rfl, Or.inr rfl, Or.inr rfl, Or.inr rfl, Or.inl rfl, Or.inl rfl, trivial⟩ ?_
        have fin : ∀ g10 : Mm, (∀ z, z ≠ 162 → z ≠ 211 → g10 z = g9 z) → (∀ j, j ≠ 37 → j ≠ 46 → g10 162 j = g9 162 j) → g10 162 37 = nI (m + 1) → (g 162 46 = -1 → g10 162 46 = -1 ∧ g10 211 = g 211) → (∀ f mn, f < 3 → mn < 100 → g 162 46 = nI f → g 211 f = nI mn → g10 211 f = nI (mn + 1) ∧ (∀ j, j ≠ f → g10 211 j = g 211 j) ∧ g10 162 46 = if mn + 1 = 100 then -1 else nI f) → Q none g10 := by
          intro g10 n1 n2 n37 n46 nf
          refine q g10 ⟨fun z z1 z2 z3 z4 z5 z6 z7 z8 z9 => ?_, fun j hj h37 h46 => ?_, ?_, ?_, n37, fun i hi => ?_, fun j hj => ?_, fun i hi => ?_, fun o ho => ?_, fun o ho => ?_, n46, nf⟩
          · rw [n1 z z2 z9, k1 z z2 z3 z7 z8, NA.1 z z6]; exact t1 z z1 z2 z3 z4 z5
          · rw [n2 j h37 h46, k2 j (by omega), NA.1 162 (by decide)]; exact t2 j hj
          · rw [← hW6]; exact row235.fr (by rw [n1 r (by omega) (by omega), k1 r (by omega) (by omega) (by omega) (by omega)])
          · rw [n2 32 (by decide) (by decide), k2 32 (by decide), NA.1 162 (by decide), ← e14]; exact t8
          · rw [n1 201 (by decide) (by decide), k1 201 (by decide) (by decide) (by decide) (by decide)]; exact n19 i hi
          · rw [n1 201 (by decide) (by decide), k1 201 (by decide) (by decide) (by decide) (by decide)]; exact nts j hj
          · rw [n1 203 (by decide) (by decide), k3 i hi, ← hW6]
            by_cases c : (i / 6 = a ∨ i / 6 = b) ∧ nwH lw lo W6 (g 203) (i / 6) (i % 6) = true
            · obtain ⟨c0, c1⟩ := c
              obtain ⟨c2, c3⟩ := nwH_t.mp c1
              rw [show i / 6 * 6 + i % 6 = i by omega] at c2
              have D : i % 6 < 6 ∧ ((i / 6 = b ∧ g 203 i = -1 ∧ HB (i % 6) = true) ∨ (i / 6 = a ∧ g 203 i = -1 ∧ HA (i % 6) = true)) := by
                refine ⟨by omega, ?_⟩
                rcases c0 with e | e
                · exact Or.inr ⟨e, c2, by rw [hHA, ← e]; exact c3⟩
                · exact Or.inl ⟨e, c2, by rw [hHB, ← e]; exact c3⟩
              rw [if_pos D, if_pos ⟨c0, c1⟩]
            · rw [if_neg c, if_neg ?_]
              rintro ⟨-, (⟨e, c2, c3⟩ | ⟨e, c2, c3⟩)⟩
              · exact c ⟨Or.inr e, nwH_t.mpr ⟨by rw [show i / 6 * 6 + i % 6 = i by omega]; exact c2, by rw [e]; rw [hHB] at c3; exact c3⟩⟩
              · exact c ⟨Or.inl e, nwH_t.mpr ⟨by rw [show i / 6 * 6 + i % 6 = i by omega]; exact c2, by rw [e]; rw [hHA] at c3; exact c3⟩⟩
          · rw [n1 202 (by decide) (by decide), k4 o ho, ← hW6, hHB, hHA]
            by_cases c : g 202 (2 * o) = -1
            · rw [if_pos ⟨ho, c⟩, if_pos c]
            · rw [if_neg (fun z => c z.2), if_neg c]
          · rw [n1 202 (by decide) (by decide), k5 o ho, ← hW6, hHB, hHA]
            by_cases c : g 202 (2 * o) = -1 ∧ (hldB lw lo W6 b o = true ∨ hldB lw lo W6 a o = true)
            · rw [if_pos ⟨ho, c⟩, if_pos c]
            · rw [if_neg (fun z => c z.2), if_neg c]
        have m9 : g9 162 37 = nI m := by rw [k2 37 (by decide)]; exact m235
        have f9 : g9 162 46 = g 162 46 := by rw [k2 46 (by decide)]; exact f235
        have c9 : g9 211 = g 211 := by rw [k1 211 (by decide) (by decide) (by decide) (by decide)]; exact c211
        refine J_iload hS dX8_tells_239 rfl ?_
        refine J_bipush (v := 6) hS dX8_tells_241 (by decide) ?_
        refine J_icmp_ge (tgt := 404) hS dX8_tells_243 (by decide) (fun e1 => ?_) (fun e1 => ?_)
        ·
          refine J_aload_n hS dX8_tells_404 rfl ?_
          refine J_dup hS dX8_tells_405 rfl ?_
          refine J_getI hS dX8_tells_406 flX8_329 ob162 rfl ?_
          show J S 0 0 (g9) 409 [some (.ref 162), some (.int (nI a)), some (.int (nI b)), some (.int (nI (20 * m))), some (.int (nI 6)), none, none] [.int _, .ref 162]
          rw [m9]
          refine J_iconst (v := 1) hS dX8_tells_409 (by decide) ?_
          refine J_iadd hS dX8_tells_410 ?_
          refine J_putI hS dX8_tells_411 fpX8_329 ob162 rfl (fun g411 eg411 => ?_)
          refine J_aload_n hS dX8_tells_414 rfl ?_
          refine J_getI hS dX8_tells_415 flX8_77 ob162 rfl ?_
          have o411 : ∀ z, z ≠ 162 → g411 z = g9 z := fun z hz => by rw [eg411, u2_ne z hz]
          have j411 : ∀ j, j ≠ 37 → g411 162 j = g9 162 j := fun j hj => by rw [eg411]; unfold u2; rw [if_neg (fun z => hj z.2)]
          have m411 : g411 162 37 = nI (m + 1) := by rw [eg411, u2_self]; exact nI_1 m
          have f411 : g411 162 46 = g 162 46 := by rw [j411 46 (by decide)]; exact f9
          show J S 0 0 (g411) 418 [some (.ref 162), some (.int (nI a)), some (.int (nI b)), some (.int (nI (20 * m))), some (.int (nI 6)), none, none] [.int _]
          rw [f411]
          refine J_iconst (v := (-1)) hS dX8_tells_418 (by decide) ?_
          refine J_icmp_ne (tgt := 423) hS dX8_tells_419 (by decide) (fun e2 => ?_) (fun e2 => ?_)
          · obtain ⟨f, mn, hf3, hmn, ef, emn⟩ : ∃ f mn : Nat, f < 3 ∧ mn < 100 ∧ g 162 46 = nI f ∧ g 211 f = nI mn := hfl.resolve_left e2
            have uniq : ∀ f' mn', f' < 3 → mn' < 100 → g 162 46 = nI f' → g 211 f' = nI mn' → f' = f ∧ mn' = mn := by
              intro f' mn' h1 h2 h3 h4
              have e : f' = f := (nI_eq (by omega) (by omega)).mp (h3.symm.trans ef)
              subst e
              exact ⟨rfl, (nI_eq (by omega) (by omega)).mp (h4.symm.trans emn)⟩
            refine J_aload_n hS dX8_tells_423 rfl ?_
            refine J_getR (t := 211) hS dX8_tells_424 flX8_83 ob162 rfl ?_
            refine J_aload_n hS dX8_tells_427 rfl ?_
            refine J_getI hS dX8_tells_428 flX8_77 ob162 rfl ?_
            show J S 0 0 (g411) 431 [some (.ref 162), some (.int (nI a)), some (.int (nI b)), some (.int (nI (20 * m))), some (.int (nI 6)), none, none] [.int _, .ref (211)]
            rw [f411, ef]
            refine J_dup2 hS dX8_tells_431 rfl rfl ?_
            refine J_ialdN hS (f) dX8_tells_432 (show Ar lay NC .int 211 3 from arM 48 3 (by decide) (by decide) rfl) (by first | rfl | (simp only [n0, n1, n2, n3, n4, n5, n6, n7, n8, n9, n10, n11, n12, n13, n14, n15, n16, n17, n18, n19, n20, n24, n32, n56, n60, n64, n72, n99, n100, n128, n136, n142, n144, n200, n300, n999, n1000, n1500, n3464, nI_add, pk_mul] <;> first | rfl | (congr 1; omega))) (by omega) (by decide) ?_
            show J S 0 0 (g411) 433 [some (.ref 162), some (.int (nI a)), some (.int (nI b)), some (.int (nI (20 * m))), some (.int (nI 6)), none, none] [.int _, .int (nI f), .ref 211]
            rw [show g411 211 f = nI mn by rw [o411 211 (by decide), c9]; exact emn]
            refine J_iconst (v := 1) hS dX8_tells_433 (by decide) ?_
            refine J_iadd hS dX8_tells_434 ?_
            refine J_iastN hS (f) dX8_tells_435 (show Ar lay NC .int 211 3 from arM 48 3 (by decide) (by decide) rfl) (by first | rfl | (simp only [n0, n1, n2, n3, n4, n5, n6, n7, n8, n9, n10, n11, n12, n13, n14, n15, n16, n17, n18, n19, n20, n24, n32, n56, n60, n64, n72, n99, n100, n128, n136, n142, n144, n200, n300, n999, n1000, n1500, n3464, nI_add, pk_mul] <;> first | rfl | (congr 1; omega))) (by omega) (by decide) (fun g435 eg435 => ?_)
            refine J_aload_n hS dX8_tells_436 rfl ?_
            refine J_getR (t := 211) hS dX8_tells_437 flX8_83 ob162 rfl ?_
            refine J_aload_n hS dX8_tells_440 rfl ?_
            refine J_getI hS dX8_tells_441 flX8_77 ob162 rfl ?_
            show J S 0 0 (g435) 444 [some (.ref 162), some (.int (nI a)), some (.int (nI b)), some (.int (nI (20 * m))), some (.int (nI 6)), none, none] [.int _, .ref (211)]
            rw [show g435 162 46 = nI f by rw [eg435, u2_ne _ (by decide), f411]; exact ef]
            refine J_ialdN hS (f) dX8_tells_444 (show Ar lay NC .int 211 3 from arM 48 3 (by decide) (by decide) rfl) (by first | rfl | (simp only [n0, n1, n2, n3, n4, n5, n6, n7, n8, n9, n10, n11, n12, n13, n14, n15, n16, n17, n18, n19, n20, n24, n32, n56, n60, n64, n72, n99, n100, n128, n136, n142, n144, n200, n300, n999, n1000, n1500, n3464, nI_add, pk_mul] <;> first | rfl | (congr 1; omega))) (by omega) (by decide) ?_
            show J S 0 0 (g435) 445 [some (.ref 162), some (.int (nI a)), some (.int (nI b)), some (.int (nI (20 * m))), some (.int (nI 6)), none, none] [.int _]
            rw [show g435 211 f = nI (mn + 1) by rw [eg435, u2_self]; exact nI_1 mn]
            refine J_bipush (v := 100) hS dX8_tells_445 (by decide) ?_
            have n1 : ∀ z, z ≠ 162 → z ≠ 211 → g435 z = g9 z := fun z z1 z2 => by rw [eg435, u2_ne z z2]; exact o411 z z1
            have n2 : ∀ j, j ≠ 37 → g435 162 j = g9 162 j := fun j h => by rw [eg435, u2_ne _ (by decide)]; exact j411 j h
            have n37 : g435 162 37 = nI (m + 1) := by rw [eg435, u2_ne _ (by decide)]; exact m411
            have n211 : g435 211 f = nI (mn + 1) := by rw [eg435, u2_self]; exact nI_1 mn
            have n211' : ∀ j, j ≠ f → g435 211 j = g 211 j := fun j hj => by rw [eg435]; unfold u2; rw [if_neg (fun z => hj z.2), o411 211 (by decide), c9]
            refine J_icmp_ne (tgt := 455) hS dX8_tells_447 (by decide) (fun e3 => ?_) (fun e3 => ?_)
            · have ne : ¬ mn + 1 = 100 := fun z => e3 (by rw [z]; rfl)
              refine J_vret hS hZ hr dX8_tells_455 (by omega) (by omega) ?_
              refine fin g435 n1 (fun j h1 _ => n2 j h1) n37 (fun z => absurd z e2) (fun f' mn' h1 h2 h3 h4 => ?_)
              obtain ⟨u1, u2'⟩ := uniq f' mn' h1 h2 h3 h4
              subst u1; subst u2'
              exact ⟨n211, n211', by rw [if_neg ne, n2 46 (by decide), f9]; exact ef⟩
            · have ee : mn + 1 = 100 := (nI_eq (by omega) (by decide)).mp e3
              refine J_aload_n hS dX8_tells_450 rfl ?_
              refine J_iconst (v := (-1)) hS dX8_tells_451 (by decide) ?_
              refine J_putI hS dX8_tells_452 fpX8_77 ob162 rfl (fun g452 eg452 => ?_)
              refine J_vret hS hZ hr dX8_tells_455 (by omega) (by omega) ?_
              refine fin g452 (fun z z1 z2 => by rw [eg452, u2_ne z z1]; exact n1 z z1 z2) (fun j h1 h2 => by rw [eg452]; unfold u2; rw [if_neg (fun z => h2 z.2)]; exact n2 j h1) (by rw [eg452]; unfold u2; rw [if_neg (by decide)]; exact n37) (fun z => absurd z e2) (fun f' mn' h1 h2 h3 h4 => ?_)
              obtain ⟨u1, u2'⟩ := uniq f' mn' h1 h2 h3 h4
              subst u1; subst u2'
              exact ⟨by rw [eg452, u2_ne _ (by decide)]; exact n211, fun j hj => by rw [eg452, u2_ne _ (by decide)]; exact n211' j hj, by rw [if_pos ee, eg452, u2_self]⟩
          ·
            refine J_vret hS hZ hr dX8_tells_422 (by omega) (by omega) ?_
            refine fin g411 (fun z z1 _ => o411 z z1) (fun j h1 _ => j411 j h1) m411 (fun _ => ⟨by rw [f411]; exact e2, by rw [o411 211 (by decide)]; exact c9⟩) (fun f mn _ _ h3 _ => ?_)
            rw [e2] at h3; exact absurd h3.symm (nI_nem1 (by omega))
        · exact absurd (Int32.le_refl _) e1
      | succ t ih =>
        intro o i y5 y6 g9 ho hi k1 k2 k3 k4 k5
        subst hi
        have ho6 : o < 6 := by omega
        refine J_weak (ls' := [some (.ref 162), some (.int (nI a)), some (.int (nI b)), some (.int (nI (20 * m))), some (.int (nI o)), none, none]) ⟨Or.inr rfl, Or.inr rfl, Or.inr rfl, Or.inr rfl, Or.inr rfl, Or.inl rfl, Or.inl rfl, trivial⟩ ?_
        have row9 : RowM g9 r W6 bb := row235.fr (k1 r (by omega) (by omega) (by omega) (by omega))
        have w9 : g9 162 3 = nI r := by rw [k2 3 (by decide)]; exact w235
        have lo9 : g9 162 27 = lo := by rw [k2 27 (by decide)]; exact lo235
        have rul9 : RuleM g9 r lw := rul235.fr (by rw [k1 r (by omega) (by omega) (by omega) (by omega)]) (fun z z1 z2 => k1 z (by omega) (by omega) (by omega) (by omega))
        refine J_iload hS dX8_tells_239 rfl ?_
        refine J_bipush (v := 6) hS dX8_tells_241 (by decide) ?_
        refine J_icmp_ge (tgt := 404) hS dX8_tells_243 (by decide) (fun e1 => ?_) (fun e1 => ?_)
        · exact absurd e1 (nI_ge ho6 (by decide))
        ·
          refine J_aload_n hS dX8_tells_246 rfl ?_
          refine J_iload_n hS dX8_tells_247 rfl ?_
          refine J_iload hS dX8_tells_248 rfl ?_
          refine J_callV2 (X' := fun _ _ => False) hS dX8_tells_250 mvX8_128 ob162 rfl (by first | decide | omega) (by decide) (Nat.le_of_ble_eq_true rfl) ⟨Nat.le_trans (by decide) hR.1, Nat.le_trans (by decide) hR.2⟩ (fun _ _ q => q.elim) (m_holdsNow hr1 w9 row9 hb ho6 lo9 rul9 (fun gA xB p1 p2 p3 p4 => ?_))
          refine J_istore (lt := fun z5 => [some (.ref 162), some (.int (nI a)), some (.int (nI b)), some (.int (nI (20 * m))), some (.int (nI o)), some (.int z5), none]) hS dX8_tells_253 (Nat.le_of_ble_eq_true rfl) (fun _ => rfl) (fun z5 ez5 => ?_)
          rw [show z5 = xB from ez5]
          have rA : gA r = g9 r := p1 r (by omega) (by omega)
          refine J_aload_n hS dX8_tells_255 rfl ?_
          refine J_iload_n hS dX8_tells_256 rfl ?_
          refine J_iload hS dX8_tells_257 rfl ?_
          refine J_callV2 (X' := fun _ _ => False) hS dX8_tells_259 mvX8_128 ob162 rfl (by first | decide | omega) (by decide) (Nat.le_of_ble_eq_true rfl) ⟨Nat.le_trans (by decide) hR.1, Nat.le_trans (by decide) hR.2⟩ (fun _ _ q => q.elim) (m_holdsNow hr1 (show gA 162 3 = nI r by rw [p2 3 (by decide)]; exact w9) (row9.fr rA) ha ho6 (show gA 162 27 = lo by rw [p2 27 (by decide)]; exact lo9) (rul9.fr (by rw [rA]) (fun z z1 z2 => p1 z (by omega) (by omega))) (fun gB xA q1 q2 q3 q4 => ?_))
          refine J_istore (lt := fun z6 => [some (.ref 162), some (.int (nI a)), some (.int (nI b)), some (.int (nI (20 * m))), some (.int (nI o)), some (.int xB), some (.int z6)]) hS dX8_tells_262 (Nat.le_of_ble_eq_true rfl) (fun _ => rfl) (fun z6 ez6 => ?_)
          rw [show z6 = xA from ez6]
          have hB : xB = 1 ↔ HB o = true := by rw [hHB]; exact p4
          have hA : xA = 1 ↔ HA o = true := by rw [hHA]; exact q4
          have oB : ∀ z, z ≠ 162 → z ≠ 191 → gB z = g9 z := fun z z1 z2 => by rw [q1 z z1 z2]; exact p1 z z1 z2
          have jB : ∀ j, (j < 21 ∨ 26 < j) → gB 162 j = g235 162 j := fun j hj => by rw [q2 j hj, p2 j hj]; exact k2 j hj
          have mB : gB 162 37 = nI m := by rw [jB 37 (by decide)]; exact m235
          -- on to the next order
          have S3 : ∀ g10 : Mm, (∀ z, z ≠ 202 → z ≠ 203 → g10 z = gB z) → (∀ i, i < 144 → g10 203 i = if (i = 6 * b + o ∧ g 203 i = -1 ∧ HB o = true) ∨ (i = 6 * a + o ∧ g 203 i = -1 ∧ HA o = true) then nI m else g9 203 i) → (∀ k, k < 6 → g10 202 (2 * k) = if k < o + 1 ∧ g 202 (2 * k) = -1 then (if HB k = true then nI b else if HA k = true then nI a else g 202 (2 * k)) else g 202 (2 * k)) → (∀ k, k < 6 → g10 202 (2 * k + 1) = if k < o + 1 ∧ g 202 (2 * k) = -1 ∧ (HB k = true ∨ HA k = true) then nI m else g 202 (2 * k + 1)) → J S 0 0 g10 398 [some (.ref 162), some (.int (nI a)), some (.int (nI b)), some (.int (nI (20 * m))), some (.int (nI o)), some (.int xB), some (.int xA)] [] := by
            intro g10 n1 n3' n4' n5'
            refine J_iinc (lt := fun i2 => [some (.ref 162), some (.int (nI a)), some (.int (nI b)), some (.int (nI (20 * m))), some (.int i2), some (.int xB), some (.int xA)]) (v := 1) hS dX8_tells_398 rfl (by decide) (fun _ => rfl) (fun i2 ei2 => ?_)
            refine J_goto (tgt := 239) hS dX8_tells_401 (by decide) ?_
            refine ih (o + 1) i2 _ _ g10 (by omega) (by rw [ei2]; exact nI_1 o) (fun z z1 z2 z3 z4 => by rw [n1 z z3 z4, oB z z1 z2]; exact k1 z z1 z2 z3 z4) (fun j hj => by rw [n1 162 (by decide) (by decide)]; exact jB j hj) (fun i hi => ?_) n4' n5'
            rw [n3' i hi, k3 i hi]
            by_cases e : i % 6 = o
            · by_cases D : (i / 6 = b ∧ g 203 i = -1 ∧ HB (i % 6) = true) ∨ (i / 6 = a ∧ g 203 i = -1 ∧ HA (i % 6) = true)
              · rw [if_pos (show i % 6 < o + 1 ∧ ((i / 6 = b ∧ g 203 i = -1 ∧ HB (i % 6) = true) ∨ (i / 6 = a ∧ g 203 i = -1 ∧ HA (i % 6) = true)) from ⟨by omega, D⟩), if_pos ?_]
                rcases D with ⟨d1, d2, d3⟩ | ⟨d1, d2, d3⟩
                · exact Or.inl ⟨by omega, d2, by rw [← e]; exact d3⟩
                · exact Or.inr ⟨by omega, d2, by rw [← e]; exact d3⟩
              · rw [if_neg (show ¬ (i % 6 < o + 1 ∧ ((i / 6 = b ∧ g 203 i = -1 ∧ HB (i % 6) = true) ∨ (i / 6 = a ∧ g 203 i = -1 ∧ HA (i % 6) = true))) from fun z => D z.2), if_neg ?_, if_neg (fun z => D z.2)]
                rintro (⟨d1, d2, d3⟩ | ⟨d1, d2, d3⟩)
                · exact D (Or.inl ⟨by omega, d2, by rw [e]; exact d3⟩)
                · exact D (Or.inr ⟨by omega, d2, by rw [e]; exact d3⟩)
            · rw [if_neg (show ¬ ((i = 6 * b + o ∧ g 203 i = -1 ∧ HB o = true) ∨ (i = 6 * a + o ∧ g 203 i = -1 ∧ HA o = true)) from fun z => z.elim (fun z => e (by omega)) (fun z => e (by omega)))]
              by_cases c : i % 6 < o
              · by_cases D : (i / 6 = b ∧ g 203 i = -1 ∧ HB (i % 6) = true) ∨ (i / 6 = a ∧ g 203 i = -1 ∧ HA (i % 6) = true)
                · rw [if_pos ⟨c, D⟩, if_pos ⟨by omega, D⟩]
                · rw [if_neg (fun z => D z.2), if_neg (fun z => D z.2)]
              · rw [if_neg (fun z => c z.1), if_neg (fun z => by omega)]
          -- the first who held it
          have S2 : ∀ g10 : Mm, (∀ z, z ≠ 203 → g10 z = gB z) → (∀ i, i < 144 → g10 203 i = if (i = 6 * b + o ∧ g 203 i = -1 ∧ HB o = true) ∨ (i = 6 * a + o ∧ g 203 i = -1 ∧ HA o = true) then nI m else g9 203 i) → J S 0 0 g10 338 [some (.ref 162), some (.int (nI a)), some (.int (nI b)), some (.int (nI (20 * m))), some (.int (nI o)), some (.int xB), some (.int xA)] [] := by
            intro g10 n1 n3'
            have c10 : g10 202 = g9 202 := by rw [n1 202 (by decide)]; exact oB 202 (by decide) (by decide)
            have v0 : g9 202 (2 * o) = g 202 (2 * o) := by rw [k4 o ho6, if_neg (fun z => by omega)]
            have v1 : g9 202 (2 * o + 1) = g 202 (2 * o + 1) := by rw [k5 o ho6, if_neg (fun z => by omega)]
            have keep : (¬ g 202 (2 * o) = -1 ∨ (¬ HB o = true ∧ ¬ HA o = true)) → J S 0 0 g10 398 [some (.ref 162), some (.int (nI a)), some (.int (nI b)), some (.int (nI (20 * m))), some (.int (nI o)), some (.int xB), some (.int xA)] [] := by
              intro hno
              refine S3 g10 (fun z _ z2 => n1 z z2) n3' (fun k hk => ?_) (fun k hk => ?_)
              · rw [c10]
                rcases Nat.lt_or_ge k o with z | z
                · rw [k4 k hk]
                  by_cases c : g 202 (2 * k) = -1
                  · rw [if_pos ⟨z, c⟩, if_pos (show k < o + 1 ∧ g 202 (2 * k) = -1 from ⟨by omega, c⟩)]
                  · rw [if_neg (fun y => c y.2), if_neg (fun y => c y.2)]
                · rcases Nat.eq_or_lt_of_le z with z2 | z2
                  · subst z2
                    rw [v0]
                    by_cases c : g 202 (2 * o) = -1
                    · obtain ⟨h1, h2⟩ := hno.resolve_left (fun y => y c)
                      rw [if_pos ⟨by omega, c⟩, if_neg h1, if_neg h2]
                    · rw [if_neg (fun y => c y.2)]
                  · rw [k4 k hk, if_neg (fun y => by omega), if_neg (fun y => by omega)]
              · rw [c10]
                rcases Nat.lt_or_ge k o with z | z
                · rw [k5 k hk]
                  by_cases c : g 202 (2 * k) = -1 ∧ (HB k = true ∨ HA k = true)
                  · rw [if_pos ⟨z, c⟩, if_pos ⟨by omega, c⟩]
                  · rw [if_neg (fun y => c y.2), if_neg (fun y => c y.2)]
                · rcases Nat.eq_or_lt_of_le z with z2 | z2
                  · subst z2
                    rw [v1, if_neg (fun y => ?_)]
                    rcases hno with h | h
                    · exact h y.2.1
                    · exact y.2.2.elim h.1 h.2
                  · rw [k5 k hk, if_neg (fun y => by omega), if_neg (fun y => by omega)]
            have wr : ∀ x : Int32, g 202 (2 * o) = -1 → (HB o = true ∨ HA o = true) → x = (if HB o = true then nI b else if HA o = true then nI a else g 202 (2 * o)) → J S 0 0 g10 382 [some (.ref 162), some (.int (nI a)), some (.int (nI b)), some (.int (nI (20 * m))), some (.int (nI o)), some (.int xB), some (.int xA)] [.int x, .int ((2 : Int32) * nI o), .ref 202] := by
              intro x h0 h1 hx
              refine J_iastN hS (2 * o) dX8_tells_382 (show Ar lay NC .int 202 12 from arM 39 12 (by decide) (by decide) rfl) (by rw [n2, pk_mul]) (by omega) (by decide) (fun g382 eg382 => ?_)
              refine J_aload_n hS dX8_tells_383 rfl ?_
              refine J_getR (t := 202) hS dX8_tells_384 flX8_68 ob162 rfl ?_
              refine J_iconst (v := 2) hS dX8_tells_387 (by decide) ?_
              refine J_iload hS dX8_tells_388 rfl ?_
              refine J_imul hS dX8_tells_390 ?_
              refine J_iconst (v := 1) hS dX8_tells_391 (by decide) ?_
              refine J_iadd hS dX8_tells_392 ?_
              refine J_aload_n hS dX8_tells_393 rfl ?_
              refine J_getI hS dX8_tells_394 flX8_329 ob162 rfl ?_
              show J S 0 0 (g382) 397 [some (.ref 162), some (.int (nI a)), some (.int (nI b)), some (.int (nI (20 * m))), some (.int (nI o)), some (.int xB), some (.int xA)] [.int _, .int _, .ref (202)]
              rw [show g382 162 37 = nI m by rw [eg382, u2_ne _ (by decide), n1 162 (by decide)]; exact mB]
              refine J_iastN hS (2 * o + 1) dX8_tells_397 (show Ar lay NC .int 202 12 from arM 39 12 (by decide) (by decide) rfl) (by rw [n2, pk_mul, nI_1]) (by omega) (by decide) (fun g397 eg397 => ?_)
              have c3 : ∀ i, i ≠ 2 * o → i ≠ 2 * o + 1 → g397 202 i = g9 202 i := fun i h2 h3 => by rw [eg397]; unfold u2; rw [if_neg (fun z => h3 z.2), eg382]; unfold u2; rw [if_neg (fun z => h2 z.2), c10]
              have c30 : g397 202 (2 * o) = x := by rw [eg397]; unfold u2; rw [if_neg (fun z => by omega), eg382]; unfold u2; rw [if_pos ⟨rfl, rfl⟩]
              have c31 : g397 202 (2 * o + 1) = nI m := by rw [eg397, u2_self]
              refine S3 g397 (fun z z1 z2 => by rw [eg397, u2_ne z z1, eg382, u2_ne z z1]; exact n1 z z2) (fun i hi => by rw [eg397, u2_ne _ (by decide), eg382, u2_ne _ (by decide)]; exact n3' i hi) (fun k hk => ?_) (fun k hk => ?_)
              · by_cases z : k = o
                · subst z; rw [c30, if_pos ⟨by omega, h0⟩, hx]
                · rw [c3 _ (by omega) (by omega), k4 k hk]
                  by_cases c : k < o ∧ g 202 (2 * k) = -1
                  · rw [if_pos c, if_pos (show k < o + 1 ∧ g 202 (2 * k) = -1 from ⟨by omega, c.2⟩)]
                  · rw [if_neg c, if_neg (fun y => c ⟨by omega, y.2⟩)]
              · by_cases z : k = o
                · subst z; rw [c31, if_pos ⟨by omega, h0, h1⟩]
                · rw [c3 _ (by omega) (by omega), k5 k hk]
                  by_cases c : k < o ∧ g 202 (2 * k) = -1 ∧ (HB k = true ∨ HA k = true)
                  · rw [if_pos c, if_pos ⟨by omega, c.2⟩]
                  · rw [if_neg c, if_neg (fun y => c ⟨by omega, y.2⟩)]
            have wr2 : g 202 (2 * o) = -1 → (HB o = true ∨ HA o = true) → J S 0 0 g10 364 [some (.ref 162), some (.int (nI a)), some (.int (nI b)), some (.int (nI (20 * m))), some (.int (nI o)), some (.int xB), some (.int xA)] [] := by
              intro h0 h1
              refine J_aload_n hS dX8_tells_364 rfl ?_
              refine J_getR (t := 202) hS dX8_tells_365 flX8_68 ob162 rfl ?_
              refine J_iconst (v := 2) hS dX8_tells_368 (by decide) ?_
              refine J_iload hS dX8_tells_369 rfl ?_
              refine J_imul hS dX8_tells_371 ?_
              refine J_iload hS dX8_tells_372 rfl ?_
              refine J_if_eq (tgt := 381) hS dX8_tells_374 (by decide) (fun c2 => ?_) (fun c2 => ?_)
              · have nb : ¬ HB o = true := fun z => by rw [hB.mpr z] at c2; exact absurd c2 (by decide)
                refine J_iload_n hS dX8_tells_381 rfl ?_
                exact wr _ h0 h1 (by rw [if_neg nb, if_pos (h1.resolve_left nb)])
              · have yb : HB o = true := hB.mp (p3.resolve_left c2)
                refine J_iload_n hS dX8_tells_377 rfl ?_
                refine J_goto (tgt := 382) hS dX8_tells_378 (by decide) ?_
                exact wr _ h0 h1 (by rw [if_pos yb])
            refine J_aload_n hS dX8_tells_338 rfl ?_
            refine J_getR (t := 202) hS dX8_tells_339 flX8_68 ob162 rfl ?_
            refine J_iconst (v := 2) hS dX8_tells_342 (by decide) ?_
            refine J_iload hS dX8_tells_343 rfl ?_
            refine J_imul hS dX8_tells_345 ?_
            refine J_ialdN hS (2 * o) dX8_tells_346 (show Ar lay NC .int 202 12 from arM 39 12 (by decide) (by decide) rfl) (by rw [n2, pk_mul]) (by omega) (by decide) ?_
            show J S 0 0 (g10) 347 [some (.ref 162), some (.int (nI a)), some (.int (nI b)), some (.int (nI (20 * m))), some (.int (nI o)), some (.int xB), some (.int xA)] [.int _]
            rw [c10, v0]
            refine J_iconst (v := (-1)) hS dX8_tells_347 (by decide) ?_
            refine J_icmp_ne (tgt := 398) hS dX8_tells_348 (by decide) (fun c1 => ?_) (fun c1 => ?_)
            · exact keep (Or.inl c1)
            ·
              refine J_iload hS dX8_tells_351 rfl ?_
              refine J_if_ne (tgt := 364) hS dX8_tells_353 (by decide) (fun c2 => ?_) (fun c2 => ?_)
              · exact wr2 c1 (Or.inl (hB.mp (p3.resolve_left c2)))
              · have nb : ¬ HB o = true := fun z => by rw [hB.mpr z] at c2; exact absurd c2 (by decide)
                refine J_iload hS dX8_tells_356 rfl ?_
                refine J_if_ne (tgt := 364) hS dX8_tells_358 (by decide) (fun c3 => ?_) (fun c3 => ?_)
                · exact wr2 c1 (Or.inr (hA.mp (q3.resolve_left c3)))
                · have na : ¬ HA o = true := fun z => by rw [hA.mpr z] at c3; exact absurd c3 (by decide)
                  refine J_goto (tgt := 398) hS dX8_tells_361 (by decide) ?_
                  exact keep (Or.inr ⟨nb, na⟩)
          have s9a : g9 203 (6 * a + o) = g 203 (6 * a + o) := by rw [k3 _ (by omega), if_neg (fun z => by omega)]
          have s9b : g9 203 (6 * b + o) = g 203 (6 * b + o) := by rw [k3 _ (by omega), if_neg (fun z => by omega)]
          have S1 : ∀ g10 : Mm, (∀ z, z ≠ 203 → g10 z = gB z) → (∀ i, i < 144 → g10 203 i = if i = 6 * b + o ∧ g 203 i = -1 ∧ HB o = true then nI m else g9 203 i) → J S 0 0 g10 301 [some (.ref 162), some (.int (nI a)), some (.int (nI b)), some (.int (nI (20 * m))), some (.int (nI o)), some (.int xB), some (.int xA)] [] := by
            intro g10 n1 n3'
            have va : g10 203 (6 * a + o) = g 203 (6 * a + o) := by rw [n3' _ (by omega), if_neg (fun z => by omega), s9a]
            have keep : ¬ (g 203 (6 * a + o) = -1 ∧ HA o = true) → J S 0 0 g10 338 [some (.ref 162), some (.int (nI a)), some (.int (nI b)), some (.int (nI (20 * m))), some (.int (nI o)), some (.int xB), some (.int xA)] [] := by
              intro hno
              refine S2 g10 n1 (fun i hi => ?_)
              rw [n3' i hi]
              by_cases c : i = 6 * b + o ∧ g 203 i = -1 ∧ HB o = true
              · rw [if_pos c, if_pos (Or.inl c)]
              · rw [if_neg c, if_neg ?_]
                rintro (z | ⟨z1, z2, z3⟩)
                · exact c z
                · subst z1; exact hno ⟨z2, z3⟩
            refine J_iload hS dX8_tells_301 rfl ?_
            refine J_if_eq (tgt := 338) hS dX8_tells_303 (by decide) (fun c1 => ?_) (fun c1 => ?_)
            · exact keep (fun z => by rw [hA.mpr z.2] at c1; exact absurd c1 (by decide))
            · have ya : HA o = true := hA.mp (q3.resolve_left c1)
              refine J_aload_n hS dX8_tells_306 rfl ?_
              refine J_getR (t := 203) hS dX8_tells_307 flX8_71 ob162 rfl ?_
              refine J_bipush (v := 6) hS dX8_tells_310 (by decide) ?_
              refine J_iload_n hS dX8_tells_312 rfl ?_
              refine J_imul hS dX8_tells_313 ?_
              refine J_iload hS dX8_tells_314 rfl ?_
              refine J_iadd hS dX8_tells_316 ?_
              refine J_ialdN hS (6 * a + o) dX8_tells_317 (show Ar lay NC .int 203 144 from arM 40 144 (by decide) (by decide) rfl) (by first | rfl | (simp only [n0, n1, n2, n3, n4, n5, n6, n7, n8, n9, n10, n11, n12, n13, n14, n15, n16, n17, n18, n19, n20, n24, n32, n56, n60, n64, n72, n99, n100, n128, n136, n142, n144, n200, n300, n999, n1000, n1500, n3464, nI_add, pk_mul] <;> first | rfl | (congr 1; omega))) (by omega) (by decide) ?_
              show J S 0 0 (g10) 318 [some (.ref 162), some (.int (nI a)), some (.int (nI b)), some (.int (nI (20 * m))), some (.int (nI o)), some (.int xB), some (.int xA)] [.int _]
              rw [va]
              refine J_iconst (v := (-1)) hS dX8_tells_318 (by decide) ?_
              refine J_icmp_ne (tgt := 338) hS dX8_tells_319 (by decide) (fun c2 => ?_) (fun c2 => ?_)
              · exact keep (fun z => c2 z.1)
              ·
                refine J_aload_n hS dX8_tells_322 rfl ?_
                refine J_getR (t := 203) hS dX8_tells_323 flX8_71 ob162 rfl ?_
                refine J_bipush (v := 6) hS dX8_tells_326 (by decide) ?_
                refine J_iload_n hS dX8_tells_328 rfl ?_
                refine J_imul hS dX8_tells_329 ?_
                refine J_iload hS dX8_tells_330 rfl ?_
                refine J_iadd hS dX8_tells_332 ?_
                refine J_aload_n hS dX8_tells_333 rfl ?_
                refine J_getI hS dX8_tells_334 flX8_329 ob162 rfl ?_
                show J S 0 0 (g10) 337 [some (.ref 162), some (.int (nI a)), some (.int (nI b)), some (.int (nI (20 * m))), some (.int (nI o)), some (.int xB), some (.int xA)] [.int _, .int _, .ref (203)]
                rw [show g10 162 37 = nI m by rw [n1 162 (by decide)]; exact mB]
                refine J_iastN hS (6 * a + o) dX8_tells_337 (show Ar lay NC .int 203 144 from arM 40 144 (by decide) (by decide) rfl) (by first | rfl | (simp only [n0, n1, n2, n3, n4, n5, n6, n7, n8, n9, n10, n11, n12, n13, n14, n15, n16, n17, n18, n19, n20, n24, n32, n56, n60, n64, n72, n99, n100, n128, n136, n142, n144, n200, n300, n999, n1000, n1500, n3464, nI_add, pk_mul] <;> first | rfl | (congr 1; omega))) (by omega) (by decide) (fun g337 eg337 => ?_)
                refine S2 g337 (fun z hz => by rw [eg337, u2_ne z hz]; exact n1 z hz) (fun i hi => ?_)
                rw [eg337]
                by_cases e : i = 6 * a + o
                · subst e; rw [u2_self, if_pos (Or.inr ⟨rfl, c2, ya⟩)]
                · have : u2 g10 203 (6 * a + o) (nI m) 203 i = g10 203 i := by unfold u2; rw [if_neg (fun z => e z.2)]
                  rw [this, n3' i hi]
                  by_cases c : i = 6 * b + o ∧ g 203 i = -1 ∧ HB o = true
                  · rw [if_pos c, if_pos (Or.inl c)]
                  · rw [if_neg c, if_neg (fun z => z.elim c (fun z => e z.1))]
          have cB : gB 203 = g9 203 := oB 203 (by decide) (by decide)
          have keepB : ¬ (g 203 (6 * b + o) = -1 ∧ HB o = true) → J S 0 0 gB 301 [some (.ref 162), some (.int (nI a)), some (.int (nI b)), some (.int (nI (20 * m))), some (.int (nI o)), some (.int xB), some (.int xA)] [] := by
            intro hno
            refine S1 gB (fun _ _ => rfl) (fun i hi => ?_)
            rw [cB, if_neg ?_]
            rintro ⟨z1, z2, z3⟩
            subst z1; exact hno ⟨z2, z3⟩
          refine J_iload hS dX8_tells_264 rfl ?_
          refine J_if_eq (tgt := 301) hS dX8_tells_266 (by decide) (fun c2 => ?_) (fun c2 => ?_)
          · exact keepB (fun z => by rw [hB.mpr z.2] at c2; exact absurd c2 (by decide))
          · have yb : HB o = true := hB.mp (p3.resolve_left c2)
            refine J_aload_n hS dX8_tells_269 rfl ?_
            refine J_getR (t := 203) hS dX8_tells_270 flX8_71 ob162 rfl ?_
            refine J_bipush (v := 6) hS dX8_tells_273 (by decide) ?_
            refine J_iload_n hS dX8_tells_275 rfl ?_
            refine J_imul hS dX8_tells_276 ?_
            refine J_iload hS dX8_tells_277 rfl ?_
            refine J_iadd hS dX8_tells_279 ?_
            refine J_ialdN hS (6 * b + o) dX8_tells_280 (show Ar lay NC .int 203 144 from arM 40 144 (by decide) (by decide) rfl) (by first | rfl | (simp only [n0, n1, n2, n3, n4, n5, n6, n7, n8, n9, n10, n11, n12, n13, n14, n15, n16, n17, n18, n19, n20, n24, n32, n56, n60, n64, n72, n99, n100, n128, n136, n142, n144, n200, n300, n999, n1000, n1500, n3464, nI_add, pk_mul] <;> first | rfl | (congr 1; omega))) (by omega) (by decide) ?_
            show J S 0 0 (gB) 281 [some (.ref 162), some (.int (nI a)), some (.int (nI b)), some (.int (nI (20 * m))), some (.int (nI o)), some (.int xB), some (.int xA)] [.int _]
            rw [cB, s9b]
            refine J_iconst (v := (-1)) hS dX8_tells_281 (by decide) ?_
            refine J_icmp_ne (tgt := 301) hS dX8_tells_282 (by decide) (fun c3 => ?_) (fun c3 => ?_)
            · exact keepB (fun z => c3 z.1)
            ·
              refine J_aload_n hS dX8_tells_285 rfl ?_
              refine J_getR (t := 203) hS dX8_tells_286 flX8_71 ob162 rfl ?_
              refine J_bipush (v := 6) hS dX8_tells_289 (by decide) ?_
              refine J_iload_n hS dX8_tells_291 rfl ?_
              refine J_imul hS dX8_tells_292 ?_
              refine J_iload hS dX8_tells_293 rfl ?_
              refine J_iadd hS dX8_tells_295 ?_
              refine J_aload_n hS dX8_tells_296 rfl ?_
              refine J_getI hS dX8_tells_297 flX8_329 ob162 rfl ?_
              show J S 0 0 (gB) 300 [some (.ref 162), some (.int (nI a)), some (.int (nI b)), some (.int (nI (20 * m))), some (.int (nI o)), some (.int xB), some (.int xA)] [.int _, .int _, .ref (203)]
              rw [mB]
              refine J_iastN hS (6 * b + o) dX8_tells_300 (show Ar lay NC .int 203 144 from arM 40 144 (by decide) (by decide) rfl) (by first | rfl | (simp only [n0, n1, n2, n3, n4, n5, n6, n7, n8, n9, n10, n11, n12, n13, n14, n15, n16, n17, n18, n19, n20, n24, n32, n56, n60, n64, n72, n99, n100, n128, n136, n142, n144, n200, n300, n999, n1000, n1500, n3464, nI_add, pk_mul] <;> first | rfl | (congr 1; omega))) (by omega) (by decide) (fun g300 eg300 => ?_)
              refine S1 g300 (fun z hz => by rw [eg300, u2_ne z hz]) (fun i hi => ?_)
              rw [eg300]
              by_cases e : i = 6 * b + o
              · subst e; rw [u2_self, if_pos ⟨rfl, c3, yb⟩]
              · have : u2 gB 203 (6 * b + o) (nI m) 203 i = gB 203 i := by unfold u2; rw [if_neg (fun z => e z.2)]
                rw [this, cB, if_neg (fun z => e z.1)]
    have aft15 : ∀ (g8 : Mm) (x : Int32), x = v15 → NW g1 g8 m (fun k => if k = 14 then some v14 else P5 k) → J S 0 0 g8 182 [some (.ref 162), some (.int (nI a)), some (.int (nI b)), some (.int (nI (20 * m))), some (.int (nI 3)), none, none] [.int x, .int (nI (20 * m) + 15), .ref 201] := by
      intro g8 x hx N6
      refine J_iastN hS (20 * m + 15) dX8_tells_182 (show Ar lay NC .int 201 30000 from arM 38 30000 (by decide) (by decide) rfl) (by first | rfl | (simp only [n0, n1, n2, n3, n4, n5, n6, n7, n8, n9, n10, n11, n12, n13, n14, n15, n16, n17, n18, n19, n20, n24, n32, n56, n60, n64, n72, n99, n100, n128, n136, n142, n144, n200, n300, n999, n1000, n1500, n3464, nI_add, pk_mul] <;> first | rfl | (congr 1; omega))) (by omega) (by decide) (fun g182 eg182 => ?_)
      have N7 := N6.put (j := 15) (by decide) v15
      rw [← hx, ← eg182] at N7
      rw [hx] at N7
      exact aft g182 N7
    have aft14 : ∀ (x : Int32), x = v14 → J S 0 0 g140 161 [some (.ref 162), some (.int (nI a)), some (.int (nI b)), some (.int (nI (20 * m))), some (.int (nI 3)), none, none] [.int x, .int (nI (20 * m) + 14), .ref 201] := by
      intro x hx
      refine J_iastN hS (20 * m + 14) dX8_tells_161 (show Ar lay NC .int 201 30000 from arM 38 30000 (by decide) (by decide) rfl) (by first | rfl | (simp only [n0, n1, n2, n3, n4, n5, n6, n7, n8, n9, n10, n11, n12, n13, n14, n15, n16, n17, n18, n19, n20, n24, n32, n56, n60, n64, n72, n99, n100, n128, n136, n142, n144, n200, n300, n999, n1000, n1500, n3464, nI_add, pk_mul] <;> first | rfl | (congr 1; omega))) (by omega) (by decide) (fun g161 eg161 => ?_)
      refine J_aload_n hS dX8_tells_162 rfl ?_
      refine J_getR (t := 201) hS dX8_tells_163 flX8_65 ob162 rfl ?_
      refine J_iload_n hS dX8_tells_166 rfl ?_
      refine J_bipush (v := 15) hS dX8_tells_167 (by decide) ?_
      refine J_iadd hS dX8_tells_169 ?_
      refine J_aload_n hS dX8_tells_170 rfl ?_
      refine J_getI hS dX8_tells_171 flX8_311 ob162 rfl ?_
      have N6 := N5'.put (j := 14) (by decide) v14
      rw [← hx, ← eg161] at N6
      rw [hx] at N6
      show J S 0 0 (g161) 174 [some (.ref 162), some (.int (nI a)), some (.int (nI b)), some (.int (nI (20 * m))), some (.int (nI 3)), none, none] [.int _, .int _, .ref (201)]
      rw [show g161 162 33 = v15 by rw [N6.1 162 (by decide)]; exact t9]
      refine J_if_eq (tgt := 181) hS dX8_tells_174 (by decide) (fun c2 => ?_) (fun c2 => ?_)
      ·
        refine J_iconst (v := 0) hS dX8_tells_181 (by decide) ?_
        exact aft15 g161 0 c2.symm N6
      ·
        refine J_iconst (v := 1) hS dX8_tells_177 (by decide) ?_
        refine J_goto (tgt := 182) hS dX8_tells_178 (by decide) ?_
        exact aft15 g161 1 (hsh01.resolve_left c2).symm N6
    refine J_if_eq (tgt := 160) hS dX8_tells_153 (by decide) (fun c2 => ?_) (fun c2 => ?_)
    ·
      refine J_iconst (v := 0) hS dX8_tells_160 (by decide) ?_
      exact aft14 0 c2.symm
    ·
      refine J_iconst (v := 1) hS dX8_tells_156 (by decide) ?_
      refine J_goto (tgt := 161) hS dX8_tells_157 (by decide) ?_
      exact aft14 1 (hrt01.resolve_left c2).symm
  · exact absurd (Int32.le_refl _) c1
end RefN


/-! THE REFERENCE'S READER: clauses and laws -/
def LawMB (g : Mm) (k : Nat) (cl : List Cls) (m : Nat) : Prop := ∀ (j : Nat) (c : Cls), cl[j]? = some c → clsOk c ∧ ∃ s : Nat, s + c.2.1.length + c.2.2.length ≤ m ∧ g 178 (12 * k + j) = nI c.1 ∧ g 179 (12 * k + j) = nI s ∧ g 180 (12 * k + j) = nI (s + c.2.1.length) ∧ g 181 (12 * k + j) = nI (s + c.2.1.length + c.2.2.length) ∧ CodM g (300 * k + s) c.2.1 ∧ CodM g (300 * k + s + c.2.1.length) c.2.2
/-- what reading a clause leaves alone -/
def FrC (k : Nat) (g g' : Mm) : Prop := (∀ z, z ≠ 162 → (z < 177 ∨ 183 < z) → g' z = g z) ∧ (∀ j, (j < 6 ∨ 10 < j) → g' 162 j = g 162 j) ∧ (∀ i, i ≠ k → g' 177 i = g 177 i) ∧ (∀ z, 178 ≤ z → z ≤ 181 → ∀ i, i < 12 * k → g' z i = g z i) ∧ ∀ i, i < 300 * k → g' 182 i = g 182 i ∧ g' 183 i = g 183 i
theorem FrC.trans {k : Nat} {g g1 g2 : Mm} (a : FrC k g g1) (b : FrC k g1 g2) : FrC k g g2 := ⟨fun z h1 h2 => (b.1 z h1 h2).trans (a.1 z h1 h2), fun j hj => (b.2.1 j hj).trans (a.2.1 j hj), fun i hi => (b.2.2.1 i hi).trans (a.2.2.1 i hi), fun z h1 h2 i hi => (b.2.2.2.1 z h1 h2 i hi).trans (a.2.2.2.1 z h1 h2 i hi), fun i hi => ⟨(b.2.2.2.2 i hi).1.trans (a.2.2.2.2 i hi).1, (b.2.2.2.2 i hi).2.trans (a.2.2.2.2 i hi).2⟩⟩
theorem FrP.fc {k c : Nat} {g g' : Mm} (a : FrP k g g' c) : FrC k g g' := ⟨fun z h1 h2 => a.1 z h1 (by omega) (by omega), a.2.1, fun i _ => by rw [a.1 177 (by decide) (by decide) (by decide)], fun z h1 h2 i _ => by rw [a.1 z (by omega) (by omega) (by omega)], fun i hi => a.2.2 i (by omega)⟩
theorem LawMB.fp {k m c : Nat} {g g' : Mm} {cl : List Cls} (h : LawMB g k cl m) (a : FrP k g g' c) (hc : m ≤ c) : LawMB g' k cl m := by
  intro j cc hj
  obtain ⟨h1, s, h2, h3, h4, h5, h6, h7, h8⟩ := h j cc hj
  have e : ∀ z, 178 ≤ z → z ≤ 181 → g' z = g z := fun z z1 z2 => a.1 z (by omega) (by omega) (by omega)
  exact ⟨h1, s, h2, by rw [e 178 (by decide) (by decide)]; exact h3, by rw [e 179 (by decide) (by decide)]; exact h4, by rw [e 180 (by decide) (by decide)]; exact h5, by rw [e 181 (by decide) (by decide)]; exact h6, h7.lt (m := 300 * k + c) (by omega) a.2.2, h8.lt (m := 300 * k + c) (by omega) a.2.2⟩
section RdC3
variable {l : Launch} {E : Ey} {T : Wr} {n k : Nat} {g : Mm} {Q : Option Value → Mm → Prop} {X : String → Mm → Prop}
/-- a memory that differs in the clauses' rows alone -/
theorem RdM.cl {g' : Mm} {c d s : Nat} (h : RdM T n k g c d s) (e : ∀ z, (z < 177 ∨ 181 < z) → g' z = g z) : RdM T n k g' c d s := by
  obtain ⟨⟨h1, h2, h3, h4, h5⟩, h6, h7, h8, h9, h10, p, hp, ep, es⟩ := h
  have e2 := e 162 (by decide)
  exact ⟨⟨by rw [e2]; exact h1, h2, by rw [e 176 (by decide)]; exact h3, by rw [e2]; exact h4, h5⟩, by rw [e2]; exact h6, by rw [e2]; exact h7, by rw [e2]; exact h8, h9, h10, p, hp, by rw [e2]; exact ep, es⟩
theorem m_isMore {c d s : Nat} (h : RdM T n k g c d s) (q1 : ¬ tkK T n s = 0 → ∀ g', FrH g g' → RdM T n k g' c d s → Q (some (.int 1)) g') (q0 : tkK T n s = 0 → ∀ g', FrH g g' → RdM T n k g' c d s → Q (some (.int 0)) g') : Ct l E lay NC 1 0 0 yX8_isMore [.ref 162] g Q X := by
  refine Ct_in k_yX8_isMore (by decide) rfl (Nat.le_of_ble_eq_true rfl) rfl ?_
  intro S hS hZ hr ht hR
  show J S 0 0 (g) 0 [some (.ref 162)] []
  refine J_aload_n hS dX8_isMore_0 rfl ?_
  refine J_callV0 (X' := fun _ _ => False) hS dX8_isMore_1 mvX8_150 ob162 rfl (by first | decide | omega) (by decide) (Nat.le_of_ble_eq_true rfl) ⟨Nat.le_trans (by decide) hR.1, Nat.le_trans (by decide) hR.2⟩ (fun _ _ q => q.elim) (m_here h (fun g1 f1 e1 r1 => ?_))
  refine J_pop hS dX8_isMore_4 rfl ?_
  have hn3 := r1.1.2.1
  refine J_aload_n hS dX8_isMore_5 rfl ?_
  refine J_getI hS dX8_isMore_6 flX8_144 ob162 rfl ?_
  refine J_aload_n hS dX8_isMore_9 rfl ?_
  refine J_getI hS dX8_isMore_10 flX8_147 ob162 rfl ?_
  show J S 0 0 (g1) 13 [some (.ref 162)] [.int _, .int _]
  rw [e1, r1.1.1]
  refine J_icmp_ge (tgt := 20) hS dX8_isMore_13 (by decide) (fun c1 => ?_) (fun c1 => ?_)
  ·
    refine J_iconst (v := 0) hS dX8_isMore_20 (by decide) ?_
    refine J_zret hS hZ hr dX8_isMore_21 (by decide) (by omega) (by omega) ?_
    have hs := r1.2.2.2.2.2.1
    have : n ≤ s := Nat.le_of_not_lt (fun z => absurd c1 (nI_ge z (by omega)))
    exact q0 (by unfold tkK; rw [if_pos this]) g1 f1 r1
  ·
    refine J_iconst (v := 1) hS dX8_isMore_16 (by decide) ?_
    refine J_goto (tgt := 21) hS dX8_isMore_17 (by decide) ?_
    refine J_zret hS hZ hr dX8_isMore_21 (by decide) (by omega) (by omega) ?_
    refine q1 (fun z => ?_) g1 f1 r1
    have hs := r1.2.2.2.2.2.1
    have : ¬ n ≤ s := fun y => c1 (nI_le y (by omega))
    unfold tkK at z
    rw [if_neg this] at z
    split at z
    · cases z
    · split at z <;> cases z
set_option maxRecDepth 10000 in
set_option maxHeartbeats 4000000 in
theorem m_readClause {kc c s : Nat} {cl : List Cls} (hcl : cl.length = kc) (hkc : kc ≤ 12) (hp : RdM T n k g c 6 s) (ek : g 177 k = nI kc) (hB : LawMB g k cl c) (q1 : ∀ cc s' g' c', clR T n kc s = .inr (cc, s') → FrC k g g' → RdM T n k g' c' 6 s' → g' 177 k = nI (kc + 1) → LawMB g' k (cl ++ [cc]) c' → Q none g') (q0 : ∀ e g', clR T n kc s = .inl e → FrC k g g' → e.2 ≤ 300 → g' 162 7 = nI e.2 → g' 162 8 = nI e.1 → Q none g') : Ct l E lay NC 61 0 0 yX8_readClause [.ref 162] g Q X := by
  have hn3 := hp.1.2.1
  have hk6 := hp.1.2.2.2.2
  have hsn := hp.2.2.2.2.2.1
  have hcs := hp.2.2.2.2.1
  have gx := nx_le (T := T) hsn
  refine Ct_in k_yX8_readClause (by decide) rfl (Nat.le_of_ble_eq_true rfl) rfl ?_
  intro S hS hZ hr ht hR
  show J S 0 0 (g) 0 [some (.ref 162), none, none, none] []
  refine J_aload_n hS dX8_readClause_0 rfl ?_
  refine J_callV0 (X' := fun _ _ => False) hS dX8_readClause_1 mvX8_201 ob162 rfl (by first | decide | omega) (by decide) (Nat.le_of_ble_eq_true rfl) ⟨Nat.le_trans (by decide) hR.1, Nat.le_trans (by decide) hR.2⟩ (fun _ _ q => q.elim) (m_word hp (fun g1 f1 e1 r1 => ?_))
  refine J_istore_n (lt := fun x1 => [some (.ref 162), some (.int x1), none, none]) hS dX8_readClause_4 (Nat.le_of_ble_eq_true rfl) (fun _ => rfl) (fun x1 ex1 => ?_)
  rw [show x1 = nI (wcN T n s) from ex1]
  have e177 : g1 177 k = nI kc := by rw [f1.1 177 (by decide)]; exact ek
  have e11 := r1.1.2.2.2.1
  have w0 := wcI (T := T) (n := n) (s := s) (i := 0) (W := 12748366) (by decide) rfl
  have w1 := wcI (T := T) (n := n) (s := s) (i := 1) (W := 16322738) (by decide) rfl
  have w2 := wcI (T := T) (n := n) (s := s) (i := 2) (W := 409189) (by decide) rfl
  have w3 := wcI (T := T) (n := n) (s := s) (i := 3) (W := 448116) (by decide) rfl
  have badly : ∀ (e : Nat) (v2 : Int32), clR T n kc s = .inl (e, s) → J S 0 0 (u2 (u2 g1 162 7 (nI s)) 162 8 (nI e)) 87 [some (.ref 162), some (.int (nI (wcN T n s))), some (.int v2), none] [] := by
    intro e v2 he
    have b := r1.bad (e := e)
    obtain ⟨g2, eg2⟩ : ∃ g2, g2 = u2 (u2 g1 162 7 (nI s)) 162 8 (nI e) := ⟨_, rfl⟩
    rw [← eg2] at b ⊢
    refine J_aload_n hS dX8_readClause_87 rfl ?_
    refine J_callV0 (X' := fun _ _ => False) hS dX8_readClause_88 mvX8_164 ob162 rfl (by first | decide | omega) (by decide) (Nat.le_of_ble_eq_true rfl) ⟨Nat.le_trans (by decide) hR.1, Nat.le_trans (by decide) hR.2⟩ (fun _ _ q => q.elim) (m_fineN b.bd ?_)
    refine J_if_ne (tgt := 95) hS dX8_readClause_91 (by decide) (fun d1 => ?_) (fun d1 => ?_)
    · exact absurd rfl d1
    ·
      refine J_vret hS hZ hr dX8_readClause_94 (by omega) (by omega) ?_
      exact q0 (e, s) g2 he ((f1.p (k := k) (c := c)).fc.trans b.1.fc) b.2.1 b.2.2.1 b.2.2.2
  have good : ∀ (w i : Nat), isW T n s i = true → clN T n s = some w → J S 0 0 g1 46 [some (.ref 162), some (.int (nI (wcN T n s))), none, none] [.int (nI w)] := by
    intro w i hi hw
    obtain ⟨hlt, hw4⟩ := clN_ok hw
    have glt := gx.2.2 hlt
    refine J_istore_n (lt := fun x2 => [some (.ref 162), some (.int (nI (wcN T n s))), some (.int x2), none]) hS dX8_readClause_46 (Nat.le_of_ble_eq_true rfl) (fun _ => rfl) (fun x2 ex2 => ?_)
    rw [show x2 = nI w from ex2]
    refine J_iload_n hS dX8_readClause_47 rfl ?_
    refine J_iconst (v := (-1)) hS dX8_readClause_48 (by decide) ?_
    refine J_icmp_ne (tgt := 64) hS dX8_readClause_49 (by decide) (fun d1 => ?_) (fun d1 => ?_)
    ·
      refine J_aload_n hS dX8_readClause_64 rfl ?_
      refine J_getR (t := 177) hS dX8_readClause_65 flX8_29 ob162 rfl ?_
      refine J_aload_n hS dX8_readClause_68 rfl ?_
      refine J_getI hS dX8_readClause_69 flX8_168 ob162 rfl ?_
      refine J_ialdN hS (k) dX8_readClause_72 (show Ar lay NC .int 177 6 from arM 14 6 (by decide) (by decide) rfl) e11 (by omega) (by decide) ?_
      show J S 0 0 (g1) 73 [some (.ref 162), some (.int (nI (wcN T n s))), some (.int (nI w)), none] [.int _]
      rw [e177]
      refine J_bipush (v := 12) hS dX8_readClause_73 (by decide) ?_
      refine J_icmp_ne (tgt := 87) hS dX8_readClause_75 (by decide) (fun d2 => ?_) (fun d2 => ?_)
      · have hk12 : kc < 12 := Nat.lt_of_le_of_ne hkc (fun z => d2 (by rw [z]; rfl))
        refine J_aload_n hS dX8_readClause_87 rfl ?_
        refine J_callV0 (X' := fun _ _ => False) hS dX8_readClause_88 mvX8_164 ob162 rfl (by first | decide | omega) (by decide) (Nat.le_of_ble_eq_true rfl) ⟨Nat.le_trans (by decide) hR.1, Nat.le_trans (by decide) hR.2⟩ (fun _ _ q => q.elim) (m_fineY r1.2.1 ?_)
        refine J_if_ne (tgt := 95) hS dX8_readClause_91 (by decide) (fun d3 => ?_) (fun d3 => ?_)
        ·
          refine J_aload_n hS dX8_readClause_95 rfl ?_
          refine J_callV0 (X' := fun _ _ => False) hS dX8_readClause_96 mvX8_206 ob162 rfl (by first | decide | omega) (by decide) (Nat.le_of_ble_eq_true rfl) ⟨Nat.le_trans (by decide) hR.1, Nat.le_trans (by decide) hR.2⟩ (fun _ _ q => q.elim) (m_passW r1 e1 hi (fun g2 f2 r2 => ?_))
          have f12 := f1.trans f2
          have k2 : g2 177 k = nI kc := by rw [f2.1 177 (by decide)]; exact e177
          have l2 : g2 162 11 = nI k := r2.1.2.2.2.1
          refine J_bipush (v := 12) hS dX8_readClause_99 (by decide) ?_
          refine J_aload_n hS dX8_readClause_101 rfl ?_
          refine J_getI hS dX8_readClause_102 flX8_168 ob162 rfl ?_
          refine J_imul hS dX8_readClause_105 ?_
          refine J_aload_n hS dX8_readClause_106 rfl ?_
          refine J_getR (t := 177) hS dX8_readClause_107 flX8_29 ob162 rfl ?_
          refine J_aload_n hS dX8_readClause_110 rfl ?_
          refine J_getI hS dX8_readClause_111 flX8_168 ob162 rfl ?_
          refine J_ialdN hS (k) dX8_readClause_114 (show Ar lay NC .int 177 6 from arM 14 6 (by decide) (by decide) rfl) l2 (by omega) (by decide) ?_
          show J S 0 0 (g2) 115 [some (.ref 162), some (.int (nI (wcN T n s))), some (.int (nI w)), none] [.int _, .int _]
          rw [l2, k2, n12, pk_mul]
          refine J_iadd hS dX8_readClause_115 ?_
          show J S 0 0 (g2) 116 [some (.ref 162), some (.int (nI (wcN T n s))), some (.int (nI w)), none] [.int _]
          rw [nI_add]
          refine J_istore_n (lt := fun x3 => [some (.ref 162), some (.int (nI (wcN T n s))), some (.int (nI w)), some (.int x3)]) hS dX8_readClause_116 (Nat.le_of_ble_eq_true rfl) (fun _ => rfl) (fun x3 ex3 => ?_)
          rw [show x3 = nI (12 * k + kc) from ex3]
          refine J_aload_n hS dX8_readClause_117 rfl ?_
          refine J_getR (t := 177) hS dX8_readClause_118 flX8_29 ob162 rfl ?_
          refine J_aload_n hS dX8_readClause_121 rfl ?_
          refine J_getI hS dX8_readClause_122 flX8_168 ob162 rfl ?_
          refine J_dup2 hS dX8_readClause_125 rfl rfl ?_
          refine J_ialdN hS (k) dX8_readClause_126 (show Ar lay NC .int 177 6 from arM 14 6 (by decide) (by decide) rfl) l2 (by omega) (by decide) ?_
          show J S 0 0 (g2) 127 [some (.ref 162), some (.int (nI (wcN T n s))), some (.int (nI w)), some (.int (nI (12 * k + kc)))] [.int _, .int _, .ref (177)]
          rw [k2]
          refine J_iconst (v := 1) hS dX8_readClause_127 (by decide) ?_
          refine J_iadd hS dX8_readClause_128 ?_
          show J S 0 0 (g2) 129 [some (.ref 162), some (.int (nI (wcN T n s))), some (.int (nI w)), some (.int (nI (12 * k + kc)))] [.int _, .int _, .ref (177)]
          rw [nI_1]
          refine J_iastN hS (k) dX8_readClause_129 (show Ar lay NC .int 177 6 from arM 14 6 (by decide) (by decide) rfl) l2 (by omega) (by decide) (fun g129 eg129 => ?_)
          refine J_aload_n hS dX8_readClause_130 rfl ?_
          refine J_getR (t := 178) hS dX8_readClause_131 flX8_32 ob162 rfl ?_
          refine J_iload_n hS dX8_readClause_134 rfl ?_
          refine J_iload_n hS dX8_readClause_135 rfl ?_
          refine J_iastN hS (12 * k + kc) dX8_readClause_136 (show Ar lay NC .int 178 72 from arM 15 72 (by decide) (by decide) rfl) (by first | rfl | (simp only [n0, n1, n2, n3, n4, n5, n6, n7, n8, n9, n10, n11, n12, n13, n14, n15, n16, n17, n18, n19, n20, n24, n32, n56, n60, n64, n72, n99, n100, n128, n136, n142, n144, n200, n300, n999, n1000, n1500, n3464, nI_add, pk_mul] <;> first | rfl | (congr 1; omega))) (by omega) (by decide) (fun g136 eg136 => ?_)
          refine J_aload_n hS dX8_readClause_137 rfl ?_
          refine J_getR (t := 179) hS dX8_readClause_138 flX8_35 ob162 rfl ?_
          refine J_iload_n hS dX8_readClause_141 rfl ?_
          refine J_aload_n hS dX8_readClause_142 rfl ?_
          refine J_getI hS dX8_readClause_143 flX8_171 ob162 rfl ?_
          show J S 0 0 (g136) 146 [some (.ref 162), some (.int (nI (wcN T n s))), some (.int (nI w)), some (.int (nI (12 * k + kc)))] [.int _, .int (nI (12 * k + kc)), .ref (179)]
          rw [show g136 162 10 = nI c by rw [eg136, u2_ne 162 (by decide), eg129, u2_ne 162 (by decide)]; exact r2.2.2.2.1]
          refine J_iastN hS (12 * k + kc) dX8_readClause_146 (show Ar lay NC .int 179 72 from arM 16 72 (by decide) (by decide) rfl) (by first | rfl | (simp only [n0, n1, n2, n3, n4, n5, n6, n7, n8, n9, n10, n11, n12, n13, n14, n15, n16, n17, n18, n19, n20, n24, n32, n56, n60, n64, n72, n99, n100, n128, n136, n142, n144, n200, n300, n999, n1000, n1500, n3464, nI_add, pk_mul] <;> first | rfl | (congr 1; omega))) (by omega) (by decide) (fun g146 eg146 => ?_)
          have o3 : ∀ z, (z < 177 ∨ 181 < z) → g146 z = g2 z := fun z hz => by rw [eg146, u2_ne z (by omega), eg136, u2_ne z (by omega), eg129, u2_ne z (by omega)]
          have r3 : RdM T n k g146 c 6 (nx T n s) := r2.cl o3
          have c3 : FrC k g g146 := (f12.p (k := k) (c := c)).fc.trans ⟨fun z z1 z2 => o3 z (by omega), fun j _ => by rw [o3 162 (by decide)], fun i hi => by rw [eg146, u2_ne 177 (by decide), eg136, u2_ne 177 (by decide), eg129, u2_at, if_neg hi], fun z z1 z2 i hi => by
            rw [eg146]; unfold u2; rw [if_neg (by omega), eg136]; unfold u2; rw [if_neg (by omega), eg129]; unfold u2; rw [if_neg (by omega)], fun i _ => ⟨by rw [o3 182 (by decide)], by rw [o3 183 (by decide)]⟩⟩
          have a177 : g146 177 k = nI (kc + 1) := by rw [eg146, u2_ne 177 (by decide), eg136, u2_ne 177 (by decide), eg129, u2_self]
          have a178 : g146 178 (12 * k + kc) = nI w := by rw [eg146, u2_ne 178 (by decide), eg136, u2_self]
          have a179 : g146 179 (12 * k + kc) = nI c := by rw [eg146, u2_self]
          have o178 : ∀ z, 178 ≤ z → z ≤ 181 → ∀ i, i ≠ 12 * k + kc → g146 z i = g z i := by
            intro z z1 z2 i hi
            rw [← f12.1 z (by omega), eg146]; unfold u2; rw [if_neg (by omega), eg136]; unfold u2; rw [if_neg (by omega), eg129]; unfold u2; rw [if_neg (by omega)]
          have B3 : LawMB g146 k cl c := by
            intro j cc hj
            have hjl := (List.getElem?_eq_some_iff.mp hj).1
            obtain ⟨y1, s0, y2, y3, y4, y5, y6, y7, y8⟩ := hB j cc hj
            have fe : ∀ z, z = 182 ∨ z = 183 → g146 z = g z := fun z hz => by rw [o3 z (by omega), f12.1 z (by omega)]
            exact ⟨y1, s0, y2, by rw [o178 178 (by decide) (by decide) _ (by omega)]; exact y3, by rw [o178 179 (by decide) (by decide) _ (by omega)]; exact y4, by rw [o178 180 (by decide) (by decide) _ (by omega)]; exact y5, by rw [o178 181 (by decide) (by decide) _ (by omega)]; exact y6, y7.fr (fe 182 (by decide)) (fe 183 (by decide)), y8.fr (fe 182 (by decide)) (fe 183 (by decide))⟩
          have tailB : ∀ (g9 : Mm) (e : Nat × Nat), clR T n kc s = .inl e → FrC k g g9 → e.2 ≤ 300 → g9 162 7 = nI e.2 → g9 162 8 = nI e.1 → J S 0 0 g9 186 [some (.ref 162), some (.int (nI (wcN T n s))), some (.int (nI w)), some (.int (nI (12 * k + kc)))] [] := by
            intro g9 e he f9 h30 h7 h8
            have nb : ¬ g9 162 7 = -1 := by rw [h7]; exact nI_nem1 (by omega)
            refine J_aload_n hS dX8_readClause_186 rfl ?_
            refine J_getR (t := 181) hS dX8_readClause_187 flX8_41 ob162 rfl ?_
            refine J_iload_n hS dX8_readClause_190 rfl ?_
            refine J_aload_n hS dX8_readClause_191 rfl ?_
            refine J_getI hS dX8_readClause_192 flX8_171 ob162 rfl ?_
            refine J_iastN hS (12 * k + kc) dX8_readClause_195 (show Ar lay NC .int 181 72 from arM 18 72 (by decide) (by decide) rfl) (by first | rfl | (simp only [n0, n1, n2, n3, n4, n5, n6, n7, n8, n9, n10, n11, n12, n13, n14, n15, n16, n17, n18, n19, n20, n24, n32, n56, n60, n64, n72, n99, n100, n128, n136, n142, n144, n200, n300, n999, n1000, n1500, n3464, nI_add, pk_mul] <;> first | rfl | (congr 1; omega))) (by omega) (by decide) (fun g195 eg195 => ?_)
            have o9 : ∀ z, z ≠ 181 → g195 z = g9 z := fun z hz => by rw [eg195, u2_ne z hz]
            refine J_aload_n hS dX8_readClause_196 rfl ?_
            refine J_bipush (v := 59) hS dX8_readClause_197 (by decide) ?_
            refine J_callV1 (X' := fun _ _ => False) hS dX8_readClause_199 mvX8_177 ob162 rfl (by first | decide | omega) (by decide) (Nat.le_of_ble_eq_true rfl) ⟨Nat.le_trans (by decide) hR.1, Nat.le_trans (by decide) hR.2⟩ (fun _ _ q => q.elim) (m_needN (by rw [o9 162 (by decide)]; exact nb) ?_)
            refine J_vret hS hZ hr dX8_readClause_202 (by omega) (by omega) ?_
            refine q0 e g195 he (f9.trans ⟨fun z z1 z2 => o9 z (by omega), fun j _ => by rw [o9 162 (by decide)], fun i _ => by rw [o9 177 (by decide)], fun z z1 z2 i hi => by rw [eg195]; unfold u2; rw [if_neg (by omega)], fun i _ => ⟨by rw [o9 182 (by decide)], by rw [o9 183 (by decide)]⟩⟩) h30 (by rw [o9 162 (by decide)]; exact h7) (by rw [o9 162 (by decide)]; exact h8)
          refine J_aload_n hS dX8_readClause_147 rfl ?_
          refine J_callV0 (X' := fun _ _ => False) hS dX8_readClause_148 mvX8_195 ob162 rfl (by first | decide | omega) (by decide) (Nat.le_of_ble_eq_true rfl) ⟨Nat.le_trans (by decide) hR.1, Nat.le_trans (by decide) hR.2⟩ (fun _ _ q => q.elim) (m_sumD 6 24 (by omega) g146 c (nx T n s) _ _ r3 (fun L s1 g4 y1 y2 => ?_) (fun e g4 y1 y2 => ?_))
          · have dL := gd_sumD 6 (nx T n s) gx.2.1 L s1 y1
            have gx1 := nx_le (T := T) dL.2.1
            have r4 := y2.r
            refine J_aload_n hS dX8_readClause_151 rfl ?_
            refine J_getR (t := 180) hS dX8_readClause_152 flX8_38 ob162 rfl ?_
            refine J_iload_n hS dX8_readClause_155 rfl ?_
            refine J_aload_n hS dX8_readClause_156 rfl ?_
            refine J_getI hS dX8_readClause_157 flX8_171 ob162 rfl ?_
            show J S 0 0 (g4) 160 [some (.ref 162), some (.int (nI (wcN T n s))), some (.int (nI w)), some (.int (nI (12 * k + kc)))] [.int _, .int (nI (12 * k + kc)), .ref (180)]
            rw [r4.2.2.2.1]
            refine J_iastN hS (12 * k + kc) dX8_readClause_160 (show Ar lay NC .int 180 72 from arM 17 72 (by decide) (by decide) rfl) (by first | rfl | (simp only [n0, n1, n2, n3, n4, n5, n6, n7, n8, n9, n10, n11, n12, n13, n14, n15, n16, n17, n18, n19, n20, n24, n32, n56, n60, n64, n72, n99, n100, n128, n136, n142, n144, n200, n300, n999, n1000, n1500, n3464, nI_add, pk_mul] <;> first | rfl | (congr 1; omega))) (by omega) (by decide) (fun g160 eg160 => ?_)
            have o5 : ∀ z, z ≠ 180 → g160 z = g4 z := fun z hz => by rw [eg160, u2_ne z hz]
            have r5 : RdM T n k g160 (c + L.length) 6 s1 := r4.cl (fun z hz => o5 z (by omega))
            have c5 : FrC k g g160 := c3.trans (y2.1.fc.trans ⟨fun z z1 z2 => o5 z (by omega), fun j _ => by rw [o5 162 (by decide)], fun i _ => by rw [o5 177 (by decide)], fun z z1 z2 i hi => by rw [eg160]; unfold u2; rw [if_neg (by omega)], fun i _ => ⟨by rw [o5 182 (by decide)], by rw [o5 183 (by decide)]⟩⟩)
            have z4 : ∀ z, 177 ≤ z → z ≤ 181 → g4 z = g146 z := fun z z1 z2 => y2.1.1 z (by omega) (by omega) (by omega)
            have fin : ∀ (C : List Tok) (s2 : Nat) (g6 : Mm), FrP k g160 g6 (c + L.length) → RdM T n k g6 (c + L.length + C.length) 6 s2 → CodM g6 (300 * k + (c + L.length)) C → s2 ≤ n → (∀ t ∈ C, tokOk t) → (C = [] ∨ tck C [] = some [true]) → (if isW T n s1 4 = true then eit T n (basD T n 6) (nx T n s1) else .inr ([], s1) : Res) = .inr (C, s2) → J S 0 0 g6 186 [some (.ref 162), some (.int (nI (wcN T n s))), some (.int (nI w)), some (.int (nI (12 * k + kc)))] [] := by
              intro C s2 g6 f6 r6 k6 hs2 tC tyC hif
              refine J_aload_n hS dX8_readClause_186 rfl ?_
              refine J_getR (t := 181) hS dX8_readClause_187 flX8_41 ob162 rfl ?_
              refine J_iload_n hS dX8_readClause_190 rfl ?_
              refine J_aload_n hS dX8_readClause_191 rfl ?_
              refine J_getI hS dX8_readClause_192 flX8_171 ob162 rfl ?_
              show J S 0 0 (g6) 195 [some (.ref 162), some (.int (nI (wcN T n s))), some (.int (nI w)), some (.int (nI (12 * k + kc)))] [.int _, .int (nI (12 * k + kc)), .ref (181)]
              rw [r6.2.2.2.1]
              refine J_iastN hS (12 * k + kc) dX8_readClause_195 (show Ar lay NC .int 181 72 from arM 18 72 (by decide) (by decide) rfl) (by first | rfl | (simp only [n0, n1, n2, n3, n4, n5, n6, n7, n8, n9, n10, n11, n12, n13, n14, n15, n16, n17, n18, n19, n20, n24, n32, n56, n60, n64, n72, n99, n100, n128, n136, n142, n144, n200, n300, n999, n1000, n1500, n3464, nI_add, pk_mul] <;> first | rfl | (congr 1; omega))) (by omega) (by decide) (fun g195 eg195 => ?_)
              have o7 : ∀ z, z ≠ 181 → g195 z = g6 z := fun z hz => by rw [eg195, u2_ne z hz]
              have r7 : RdM T n k g195 (c + L.length + C.length) 6 s2 := r6.cl (fun z hz => o7 z (by omega))
              have c7 : FrC k g g195 := c5.trans (f6.fc.trans ⟨fun z z1 z2 => o7 z (by omega), fun j _ => by rw [o7 162 (by decide)], fun i _ => by rw [o7 177 (by decide)], fun z z1 z2 i hi => by rw [eg195]; unfold u2; rw [if_neg (by omega)], fun i _ => ⟨by rw [o7 182 (by decide)], by rw [o7 183 (by decide)]⟩⟩)
              have z6 : ∀ z, 177 ≤ z → z ≤ 181 → g6 z = g160 z := fun z z1 z2 => f6.1 z (by omega) (by omega) (by omega)
              have B7 : LawMB g195 k (cl ++ [(w, L, C)]) (c + L.length + C.length) := by
                intro j cc hj
                by_cases z : j < cl.length
                · rw [List.getElem?_append_left z] at hj
                  have B6 := (B3.fp y2.1 (Nat.le_refl _)) j cc hj
                  obtain ⟨q1', s0, q2, q3, q4, q5, q6, q7, q8⟩ := B6
                  refine ⟨q1', s0, by omega, ?_, ?_, ?_, ?_, ?_, ?_⟩
                  · rw [o7 178 (by decide), z6 178 (by decide) (by decide), o5 178 (by decide)]; exact q3
                  · rw [o7 179 (by decide), z6 179 (by decide) (by decide), o5 179 (by decide)]; exact q4
                  · rw [o7 180 (by decide), z6 180 (by decide) (by decide), eg160, u2_at, if_neg (by omega)]; exact q5
                  · rw [eg195, u2_at, if_neg (by omega), z6 181 (by decide) (by decide), o5 181 (by decide)]; exact q6
                  · refine CodM.fr ?_ (o7 182 (by decide)) (o7 183 (by decide))
                    refine CodM.lt (m := 300 * k + c) ?_ (by omega) (fun i hi => f6.2.2 i (by omega))
                    exact q7.fr (o5 182 (by decide)) (o5 183 (by decide))
                  · refine CodM.fr ?_ (o7 182 (by decide)) (o7 183 (by decide))
                    refine CodM.lt (m := 300 * k + c) ?_ (by omega) (fun i hi => f6.2.2 i (by omega))
                    exact q8.fr (o5 182 (by decide)) (o5 183 (by decide))
                · rw [List.getElem?_append_right (by omega)] at hj
                  obtain ⟨j', ej⟩ : ∃ j', j - cl.length = j' := ⟨_, rfl⟩
                  rw [ej] at hj
                  cases j' with
                  | succ j' => cases hj
                  | zero =>
                    cases hj
                    have ejk : j = kc := by omega
                    subst ejk
                    refine ⟨⟨hw4, dL.2.2.2.1, tC, dL.2.2.2.2 [], tyC⟩, c, Nat.le_refl _, ?_, ?_, ?_, ?_, ?_, ?_⟩
                    · rw [o7 178 (by decide), z6 178 (by decide) (by decide), o5 178 (by decide), z4 178 (by decide) (by decide)]; exact a178
                    · rw [o7 179 (by decide), z6 179 (by decide) (by decide), o5 179 (by decide), z4 179 (by decide) (by decide)]; exact a179
                    · rw [o7 180 (by decide), z6 180 (by decide) (by decide), eg160, u2_self]
                    · rw [eg195, u2_self]
                    · refine CodM.fr ?_ (o7 182 (by decide)) (o7 183 (by decide))
                      refine CodM.lt (m := 300 * k + (c + L.length)) ?_ (by show 300 * k + c + L.length ≤ _; omega) (fun i hi => f6.2.2 i hi)
                      exact y2.2.2.fr (o5 182 (by decide)) (o5 183 (by decide))
                    · refine CodM.fr ?_ (o7 182 (by decide)) (o7 183 (by decide))
                      rw [Nat.add_assoc]; exact k6
              have a7 : g195 177 k = nI (kc + 1) := by rw [o7 177 (by decide), z6 177 (by decide) (by decide), o5 177 (by decide), z4 177 (by decide) (by decide)]; exact a177
              have ec := clR_ok hw hk12 y1 hif
              refine J_aload_n hS dX8_readClause_196 rfl ?_
              refine J_bipush (v := 59) hS dX8_readClause_197 (by decide) ?_
              refine J_callV1 (X' := fun _ _ => False) hS dX8_readClause_199 mvX8_177 ob162 rfl (by first | decide | omega) (by decide) (Nat.le_of_ble_eq_true rfl) ⟨Nat.le_trans (by decide) hR.1, Nat.le_trans (by decide) hR.2⟩ (fun _ _ q => q.elim) (m_need r7 (by decide) (by decide) (by decide) (fun g8 n1 n2 => ?_) (fun g8 n1 n2 => ?_))
              ·
                refine J_vret hS hZ hr dX8_readClause_202 (by omega) (by omega) ?_
                have h59 := (psC_inr hs2 n1).2.2.2.2
                rw [if_pos h59] at ec
                refine q1 (w, L, C) _ g8 _ ec (c7.trans n2.1.fc) n2.r ?_ ?_
                · rw [n2.1.1 177 (by decide) (by decide) (by decide)]; exact a7
                · exact B7.fp n2.1 (Nat.le_refl _)
              ·
                refine J_vret hS hZ hr dX8_readClause_202 (by omega) (by omega) ?_
                have h59 : ¬ isC T n s2 59 = true := fun z => by unfold psC at n1; rw [if_pos z] at n1; cases n1
                rw [if_neg h59] at ec
                exact q0 (1, s2) g8 ec (c7.trans n2.1.fc) n2.2.1 n2.2.2.1 n2.2.2.2
            have wi4 := wcI (T := T) (n := n) (s := s1) (i := 4) (W := 294) (by decide) rfl
            refine J_aload_n hS dX8_readClause_161 rfl ?_
            refine J_callV0 (X' := fun _ _ => False) hS dX8_readClause_162 mvX8_164 ob162 rfl (by first | decide | omega) (by decide) (Nat.le_of_ble_eq_true rfl) ⟨Nat.le_trans (by decide) hR.1, Nat.le_trans (by decide) hR.2⟩ (fun _ _ q => q.elim) (m_fineY r5.2.1 ?_)
            refine J_if_eq (tgt := 186) hS dX8_readClause_165 (by decide) (fun d4 => ?_) (fun d4 => ?_)
            · exact absurd d4 (by decide)
            ·
              refine J_aload_n hS dX8_readClause_168 rfl ?_
              refine J_callV0 (X' := fun _ _ => False) hS dX8_readClause_169 mvX8_201 ob162 rfl (by first | decide | omega) (by decide) (Nat.le_of_ble_eq_true rfl) ⟨Nat.le_trans (by decide) hR.1, Nat.le_trans (by decide) hR.2⟩ (fun _ _ q => q.elim) (m_word r5 (fun g6 f6 e6 r6 => ?_))
              refine J_sipush (v := 294) hS dX8_readClause_172 (by decide) ?_
              refine J_icmp_ne (tgt := 186) hS dX8_readClause_175 (by decide) (fun d5 => ?_) (fun d5 => ?_)
              · have n4' : ¬ isW T n s1 4 = true := fun z => d5 (wi4.mpr z)
                exact fin [] s1 g6 f6.p r6 (fun j t hj => by cases hj) dL.2.1 (fun t ht => by cases ht) (Or.inl rfl) (by rw [if_neg n4'])
              · have h4' := wi4.mp d5
                refine J_aload_n hS dX8_readClause_178 rfl ?_
                refine J_callV0 (X' := fun _ _ => False) hS dX8_readClause_179 mvX8_206 ob162 rfl (by first | decide | omega) (by decide) (Nat.le_of_ble_eq_true rfl) ⟨Nat.le_trans (by decide) hR.1, Nat.le_trans (by decide) hR.2⟩ (fun _ _ q => q.elim) (m_passW r6 e6 h4' (fun g7 f7 r7 => ?_))
                refine J_aload_n hS dX8_readClause_182 rfl ?_
                refine J_callV0 (X' := fun _ _ => False) hS dX8_readClause_183 mvX8_224 ob162 rfl (by first | decide | omega) (by decide) (Nat.le_of_ble_eq_true rfl) ⟨Nat.le_trans (by decide) hR.1, Nat.le_trans (by decide) hR.2⟩ (fun _ _ q => q.elim) (m_eitD g7 (c + L.length) (nx T n s1) _ _ r7 (fun C s2 g8 y3 y4 => ?_) (fun e g8 y3 y4 => ?_))
                · have dC := gd_eit (fun s hs => gd_basD 6 s hs) gx1.2.1 C s2 y3
                  refine fin C s2 g8 ((f6.trans f7).p.trans y4.1 (Nat.le_refl _)) y4.r y4.2.2 dC.2.1 dC.2.2.2.1 (Or.inr (dC.2.2.2.2 [])) (by rw [if_pos h4']; exact y3)
                · refine tailB g8 e (clR_b2 hw hk12 y1 (by rw [if_pos h4']; exact y3)) (c5.trans (((f6.trans f7).p (k := k) (c := c)).fc.trans y4.1.fc)) y4.2.1 y4.2.2.1 y4.2.2.2
          · have hb := y2.bd
            refine J_aload_n hS dX8_readClause_151 rfl ?_
            refine J_getR (t := 180) hS dX8_readClause_152 flX8_38 ob162 rfl ?_
            refine J_iload_n hS dX8_readClause_155 rfl ?_
            refine J_aload_n hS dX8_readClause_156 rfl ?_
            refine J_getI hS dX8_readClause_157 flX8_171 ob162 rfl ?_
            refine J_iastN hS (12 * k + kc) dX8_readClause_160 (show Ar lay NC .int 180 72 from arM 17 72 (by decide) (by decide) rfl) (by first | rfl | (simp only [n0, n1, n2, n3, n4, n5, n6, n7, n8, n9, n10, n11, n12, n13, n14, n15, n16, n17, n18, n19, n20, n24, n32, n56, n60, n64, n72, n99, n100, n128, n136, n142, n144, n200, n300, n999, n1000, n1500, n3464, nI_add, pk_mul] <;> first | rfl | (congr 1; omega))) (by omega) (by decide) (fun g160 eg160 => ?_)
            have o5 : ∀ z, z ≠ 180 → g160 z = g4 z := fun z hz => by rw [eg160, u2_ne z hz]
            have c5 : FrC k g g160 := c3.trans (y2.1.fc.trans ⟨fun z z1 z2 => o5 z (by omega), fun j _ => by rw [o5 162 (by decide)], fun i _ => by rw [o5 177 (by decide)], fun z z1 z2 i hi => by rw [eg160]; unfold u2; rw [if_neg (by omega)], fun i _ => ⟨by rw [o5 182 (by decide)], by rw [o5 183 (by decide)]⟩⟩)
            refine J_aload_n hS dX8_readClause_161 rfl ?_
            refine J_callV0 (X' := fun _ _ => False) hS dX8_readClause_162 mvX8_164 ob162 rfl (by first | decide | omega) (by decide) (Nat.le_of_ble_eq_true rfl) ⟨Nat.le_trans (by decide) hR.1, Nat.le_trans (by decide) hR.2⟩ (fun _ _ q => q.elim) (m_fineN (by rw [o5 162 (by decide)]; exact hb) ?_)
            refine J_if_eq (tgt := 186) hS dX8_readClause_165 (by decide) (fun d4 => ?_) (fun d4 => ?_)
            · exact tailB g160 e (clR_b1 hw hk12 y1) c5 y2.2.1 (by rw [o5 162 (by decide)]; exact y2.2.2.1) (by rw [o5 162 (by decide)]; exact y2.2.2.2)
            · exact absurd rfl d4
        · exact absurd d3 (by decide)
      · have hk12 : kc = 12 := (nI_eq (a := kc) (b := 12) (by omega) (by decide)).mp d2
        refine J_aload_n hS dX8_readClause_78 rfl ?_
        refine J_iconst (v := 3) hS dX8_readClause_79 (by decide) ?_
        refine J_aload_n hS dX8_readClause_80 rfl ?_
        refine J_getI hS dX8_readClause_81 flX8_144 ob162 rfl ?_
        show J S 0 0 (g1) 84 [some (.ref 162), some (.int (nI (wcN T n s))), some (.int (nI w)), none] [.int _, .int 3, .ref 162]
        rw [e1]
        refine J_callV2 (X' := fun _ _ => False) hS dX8_readClause_84 mvX8_160 ob162 rfl (by first | decide | omega) (by decide) (Nat.le_of_ble_eq_true rfl) ⟨Nat.le_trans (by decide) hR.1, Nat.le_trans (by decide) hR.2⟩ (fun _ _ q => q.elim) (m_wrongY r1.2.1 ?_)
        exact badly 3 _ (by unfold clR; rw [hw]; dsimp only; rw [if_pos (by omega)])
    · exact absurd d1 (nI_nem1 (by omega))
  refine J_iload_n hS dX8_readClause_5 rfl ?_
  refine J_ldc hS dX8_readClause_6 ctX8_227 ?_
  refine J_icmp_ne (tgt := 15) hS dX8_readClause_8 (by decide) (fun c1 => ?_) (fun c1 => ?_)
  · have n0' : ¬ isW T n s 0 = true := fun z => c1 (w0.mpr z)
    refine J_iload_n hS dX8_readClause_15 rfl ?_
    refine J_ldc hS dX8_readClause_16 ctX8_228 ?_
    refine J_icmp_ne (tgt := 25) hS dX8_readClause_18 (by decide) (fun c2 => ?_) (fun c2 => ?_)
    · have n1' : ¬ isW T n s 1 = true := fun z => c2 (w1.mpr z)
      refine J_iload_n hS dX8_readClause_25 rfl ?_
      refine J_ldc hS dX8_readClause_26 ctX8_229 ?_
      refine J_icmp_ne (tgt := 35) hS dX8_readClause_28 (by decide) (fun c3 => ?_) (fun c3 => ?_)
      · have n2' : ¬ isW T n s 2 = true := fun z => c3 (w2.mpr z)
        refine J_iload_n hS dX8_readClause_35 rfl ?_
        refine J_ldc hS dX8_readClause_36 ctX8_230 ?_
        refine J_icmp_ne (tgt := 45) hS dX8_readClause_38 (by decide) (fun c4 => ?_) (fun c4 => ?_)
        · have n3' : ¬ isW T n s 3 = true := fun z => c4 (w3.mpr z)
          have hw : clN T n s = none := by unfold clN; rw [if_neg n0', if_neg n1', if_neg n2', if_neg n3']
          refine J_iconst (v := (-1)) hS dX8_readClause_45 (by decide) ?_
          refine J_istore_n (lt := fun x2 => [some (.ref 162), some (.int (nI (wcN T n s))), some (.int x2), none]) hS dX8_readClause_46 (Nat.le_of_ble_eq_true rfl) (fun _ => rfl) (fun x2 ex2 => ?_)
          rw [show x2 = -1 from ex2]
          refine J_iload_n hS dX8_readClause_47 rfl ?_
          refine J_iconst (v := (-1)) hS dX8_readClause_48 (by decide) ?_
          refine J_icmp_ne (tgt := 64) hS dX8_readClause_49 (by decide) (fun c5 => ?_) (fun c5 => ?_)
          · exact absurd rfl c5
          ·
            refine J_aload_n hS dX8_readClause_52 rfl ?_
            refine J_iconst (v := 1) hS dX8_readClause_53 (by decide) ?_
            refine J_aload_n hS dX8_readClause_54 rfl ?_
            refine J_getI hS dX8_readClause_55 flX8_144 ob162 rfl ?_
            show J S 0 0 (g1) 58 [some (.ref 162), some (.int (nI (wcN T n s))), some (.int (-1)), none] [.int _, .int 1, .ref 162]
            rw [e1]
            refine J_callV2 (X' := fun _ _ => False) hS dX8_readClause_58 mvX8_160 ob162 rfl (by first | decide | omega) (by decide) (Nat.le_of_ble_eq_true rfl) ⟨Nat.le_trans (by decide) hR.1, Nat.le_trans (by decide) hR.2⟩ (fun _ _ q => q.elim) (m_wrongY r1.2.1 ?_)
            refine J_goto (tgt := 87) hS dX8_readClause_61 (by decide) ?_
            exact badly 1 _ (by unfold clR; rw [hw])
        · have h := w3.mp c4
          refine J_iconst (v := 3) hS dX8_readClause_41 (by decide) ?_
          refine J_goto (tgt := 46) hS dX8_readClause_42 (by decide) ?_
          exact good 3 3 h (by unfold clN; rw [if_neg n0', if_neg n1', if_neg n2', if_pos h])
      · have h := w2.mp c3
        refine J_iconst (v := 2) hS dX8_readClause_31 (by decide) ?_
        refine J_goto (tgt := 46) hS dX8_readClause_32 (by decide) ?_
        exact good 2 2 h (by unfold clN; rw [if_neg n0', if_neg n1', if_pos h])
    · have h := w1.mp c2
      refine J_iconst (v := 1) hS dX8_readClause_21 (by decide) ?_
      refine J_goto (tgt := 46) hS dX8_readClause_22 (by decide) ?_
      exact good 1 1 h (by unfold clN; rw [if_neg n0', if_pos h])
  · have h := w0.mp c1
    refine J_iconst (v := 0) hS dX8_readClause_11 (by decide) ?_
    refine J_goto (tgt := 46) hS dX8_readClause_12 (by decide) ?_
    exact good 0 0 h (by unfold clN; rw [if_pos h])
end RdC3


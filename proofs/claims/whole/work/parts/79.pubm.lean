/-! THE REFERENCE: its public methods -/
/-- only the rows for work are changed, and 'thrown' -/
def FrZ (g g' : Mm) : Prop := (∀ z, z ≠ 162 → z ≠ 165 → z ≠ 191 → z ≠ 197 → z ≠ 198 → z ≠ 199 → z ≠ 205 → z ≠ 214 → z ≠ 215 → z ≠ 216 → g' z = g z) ∧ ∀ j, (j = 3 ∨ j = 4 ∨ j = 11 ∨ j = 12 ∨ j = 27 ∨ j = 37 ∨ j = 45 ∨ j = 46 ∨ j = 54) → g' 162 j = g 162 j
theorem FrZ.refl {g : Mm} : FrZ g g := ⟨fun _ _ _ _ _ _ _ _ _ _ _ => rfl, fun _ _ => rfl⟩
theorem FrZ.trans {g g1 g2 : Mm} (a : FrZ g g1) (b : FrZ g1 g2) : FrZ g g2 := ⟨fun z z1 z2 z3 z4 z5 z6 z7 z8 z9 za => (b.1 z z1 z2 z3 z4 z5 z6 z7 z8 z9 za).trans (a.1 z z1 z2 z3 z4 z5 z6 z7 z8 z9 za), fun j hj => (b.2 j hj).trans (a.2 j hj)⟩
theorem FrZ_thr {g : Mm} {v : Int32} : FrZ g (u2 g 162 0 v) := ⟨fun z z1 _ _ _ _ _ _ _ _ _ => u2_ne z z1, fun j hj => by unfold u2; rw [if_neg (by omega)]⟩
/-- the row 'real' is changed, the film ends -/
def FrRm (g g' : Mm) : Prop := (∀ z, z ≠ 162 → z ≠ 164 → g' z = g z) ∧ (∀ j, j ≠ 0 → j ≠ 46 → g' 162 j = g 162 j) ∧ g' 162 46 = -1 ∧ g' 162 0 = 0
def RI (g : Mm) (w : Wr) (n : Nat) : Prop := g 162 3 = nI 164 ∧ g 162 27 = -1 ∧ (∀ i, i < 3464 → g 164 i = w i) ∧ n ≤ 24 ∧ w 6 = nI n ∧ WOk w ∧ ∀ c, c < 24 → w (56 + 142 * c + 3) = 0 ∨ w (56 + 142 * c + 3) = 1
theorem RI.w3 {g : Mm} {w : Wr} {n : Nat} (h : RI g w n) : g 162 3 = nI 164 := h.1
theorem RI.lo {g : Mm} {w : Wr} {n : Nat} (h : RI g w n) : g 162 27 = -1 := h.2.1
theorem RI.row {g : Mm} {w : Wr} {n : Nat} (h : RI g w n) : ∀ i, i < 3464 → g 164 i = w i := h.2.2.1
theorem RI.hn {g : Mm} {w : Wr} {n : Nat} (h : RI g w n) : n ≤ 24 := h.2.2.2.1
theorem RI.mn {g : Mm} {w : Wr} {n : Nat} (h : RI g w n) : w 6 = nI n := h.2.2.2.2.1
theorem RI.ok {g : Mm} {w : Wr} {n : Nat} (h : RI g w n) : WOk w := h.2.2.2.2.2.1
theorem RI.th {g : Mm} {w : Wr} {n : Nat} (h : RI g w n) : ∀ c, c < 24 → w (56 + 142 * c + 3) = 0 ∨ w (56 + 142 * c + 3) = 1 := h.2.2.2.2.2.2
theorem RI.fr {g g' : Mm} {w : Wr} {n : Nat} (h : RI g w n) (e : FrZ g g') : RI g' w n :=
  ⟨by rw [e.2 3 (by decide)]; exact h.w3, by rw [e.2 27 (by decide)]; exact h.lo, fun i hi => by rw [e.1 164 (by decide) (by decide) (by decide) (by decide) (by decide) (by decide) (by decide) (by decide) (by decide) (by decide)]; exact h.row i hi, h.hn, h.mn, h.ok, h.th⟩
theorem RI.m6 {g : Mm} {w : Wr} {n : Nat} (h : RI g w n) : g 164 6 = nI n := by rw [h.row 6 (by decide)]; exact h.mn
theorem RI.rw {g : Mm} {w : Wr} {n : Nat} (h : RI g w n) : RowM g 164 w w := fun i hi => ⟨fun _ => h.row i hi, fun _ => h.row i hi⟩
theorem Rw4 : Rw 164 := Or.inl rfl
theorem Rw5 : Rw 165 := Or.inr rfl
theorem RI.tm {g : Mm} {w : Wr} {n : Nat} {y : Int32} (h : RI g w n) : ThM g 164 n y (thrW w y) := by
  intro c hc
  have := h.hn
  rw [h.row _ (by omega), h.row _ (by omega)]
  unfold thrW
  have := h.th c (by omega)
  rcases this with e | e
  · simp [e]
  · simp [e]
def LawsM (g : Mm) (Ls : List (List Cls)) : Prop := Ls.length ≤ 6 ∧ g 162 11 = nI Ls.length ∧ ∀ (k : Nat) (L : List Cls), Ls[k]? = some L → LawM g k L
theorem LawsM.fr {g g' : Mm} {Ls : List (List Cls)} (h : LawsM g Ls) (e11 : g' 162 11 = g 162 11) (e : ∀ z, 177 ≤ z → z ≤ 183 → g' z = g z) : LawsM g' Ls := ⟨h.1, by rw [e11]; exact h.2.1, fun k L hk => (h.2.2 k L hk).fr e⟩
theorem LawsM.z {g g' : Mm} {Ls : List (List Cls)} (h : LawsM g Ls) (e : FrZ g g') : LawsM g' Ls := h.fr (e.2 11 (by decide)) (fun z z1 z2 => e.1 z (by omega) (by omega) (by omega) (by omega) (by omega) (by omega) (by omega) (by omega) (by omega) (by omega))
theorem LawsM.rule {g : Mm} {Ls : List (List Cls)} {r : Nat} {v : Int32} (h : LawsM g Ls) (e5 : g r 5 = v) (hv : isLw Ls.length v) : RuleM g r (lwOf Ls v) := by
  rcases hv with e | ⟨k, hk, e⟩
  · subst e; exact Or.inl ⟨by unfold lwOf; rw [if_pos rfl], e5⟩
  · subst e
    have h6 := h.1
    refine Or.inr ⟨k, Ls[k], by omega, ?_, e5, h.2.2 k _ (List.getElem?_eq_getElem hk)⟩
    unfold lwOf; rw [if_neg (nI_nem1 (by omega)), nI_clamp (by omega), List.getElem?_eq_getElem hk]
section RefP
variable {l : Launch} {E : Ey} {g : Mm} {Q : Option Value → Mm → Prop} {X : String → Mm → Prop} {w : Wr} {n : Nat}
theorem m_mayY {c : Int32} (e0 : g 162 0 = 0) (hc : ¬ c = 0) (q : Q (some (.int 1)) g) : Ct l E lay NC 0 0 0 yX8_may [.ref 162, .int 1, .int c] g Q X := m_may e0 hc (fun _ => q) (fun z => absurd z (by decide))
theorem m_mayN {c : Int32} (e0 : g 162 0 = 0) (hc : ¬ c = 0) (q : Q (some (.int 0)) (u2 g 162 0 c)) : Ct l E lay NC 0 0 0 yX8_may [.ref 162, .int 0, .int c] g Q X := m_may e0 hc (fun z => absurd rfl z) (fun _ => q)
theorem m_childY {k : Nat} (hI : RI g w n) (e0 : g 162 0 = 0) (hk : k < n) (q : Q (some (.int 1)) g) : Ct l E lay NC 1 0 0 yX8_isChild [.ref 162, .int (nI k)] g Q X := m_isChild hI.hn hI.m6 e0 (fun _ => q) (fun z => absurd z (nou hk (by have := hI.hn; omega)))
theorem m_childN {c : Int32} (hI : RI g w n) (e0 : g 162 0 = 0) (hk : ou n c) (q : Q (some (.int 0)) (u2 g 162 0 1)) : Ct l E lay NC 1 0 0 yX8_isChild [.ref 162, .int c] g Q X := m_isChild hI.hn hI.m6 e0 (fun z => absurd hk z) (fun _ => q)
theorem m_yardY {k : Nat} (hk : k < 3) (q : Q (some (.int 1)) g) : Ct l E lay NC 1 0 0 yX8_isYard [.int (nI k)] g Q X := m_isYard (fun x _ h => by rw [h.mpr (nou hk (by decide))]; exact q)
theorem m_yardN {c : Int32} (hk : ou 3 c) (q : Q (some (.int 0)) g) : Ct l E lay NC 1 0 0 yX8_isYard [.int c] g Q X := m_isYard (fun x h0 h => by rw [h0.resolve_right (fun z => (h.mp z) hk)]; exact q)
theorem m_ordY {k : Nat} (hk : k < 6) (q : Q (some (.int 1)) g) : Ct l E lay NC 1 0 0 yX8_isOrder [.int (nI k)] g Q X := m_isOrder (fun x _ h => by rw [h.mpr (nou hk (by decide))]; exact q)
theorem m_ordN {c : Int32} (hk : ou 6 c) (q : Q (some (.int 0)) g) : Ct l E lay NC 1 0 0 yX8_isOrder [.int c] g Q X := m_isOrder (fun x h0 h => by rw [h0.resolve_right (fun z => (h.mp z) hk)]; exact q)
theorem m_winY {v a b : Int32} (h : a ≤ v ∧ v ≤ b) (q : Q (some (.int 1)) g) : Ct l E lay NC 0 0 0 yX8_within [.int v, .int a, .int b] g Q X := m_within (fun x _ z => by rw [z.mpr h]; exact q)
theorem m_winN {v a b : Int32} (h : ¬ (a ≤ v ∧ v ≤ b)) (q : Q (some (.int 0)) g) : Ct l E lay NC 0 0 0 yX8_within [.int v, .int a, .int b] g Q X := m_within (fun x h0 z => by rw [h0.resolve_right (fun y => h (z.mp y))]; exact q)
/-- 0 to m - 1 -/
theorem m_ouY {k m : Nat} {b : Int32} (hm : m < 2 ^ 31) (hb : b = nI m - 1) (hk : k < m) (q : Q (some (.int 1)) g) : Ct l E lay NC 0 0 0 yX8_within [.int (nI k), .int 0, .int b] g Q X := m_winY ((ou_w hm hb).mpr (nou hk hm)) q
theorem m_ouN {m : Nat} {v b : Int32} (hm : m < 2 ^ 31) (hb : b = nI m - 1) (hk : ou m v) (q : Q (some (.int 0)) g) : Ct l E lay NC 0 0 0 yX8_within [.int v, .int 0, .int b] g Q X := m_winN (fun z => (ou_w hm hb).mp z hk) q
theorem m_seeds {a b : Int32} (hI : RI g w n) (q : ∀ g', FrRm g g' → (∀ i, i < 3464 → g' 164 i = upd (upd w 0 a) 1 b i) → Q none g') : Ct l E lay NC 1 0 0 yX8_seeds [.ref 162, .int a, .int b] g Q X := by
  refine Ct_in k_yX8_seeds (by decide) rfl (Nat.le_of_ble_eq_true rfl) rfl ?_
  intro S hS hZ hr ht hR
  show J S 0 0 (g) 0 [some (.ref 162), some (.int a), some (.int b)] []
  refine J_aload_n hS dX8_seeds_0 rfl ?_
  refine J_iconst (v := 0) hS dX8_seeds_1 (by decide) ?_
  refine J_putI hS dX8_seeds_2 fpX8_1 ob162 rfl (fun g2 eg2 => ?_)
  refine J_aload_n hS dX8_seeds_5 rfl ?_
  refine J_getR (t := 164) hS dX8_seeds_6 flX8_13 ob162 rfl ?_
  refine J_iconst (v := 0) hS dX8_seeds_9 (by decide) ?_
  refine J_iload_n hS dX8_seeds_10 rfl ?_
  refine J_iastN hS (0) dX8_seeds_11 (show Ar lay NC .int 164 3464 from arM 1 3464 (by decide) (by decide) rfl) (by first | rfl | (simp only [n0, n1, n2, n3, n4, n5, n6, n7, n8, n9, n10, n11, n12, n13, n14, n15, n16, n17, n18, n19, n20, n24, n32, n56, n60, n64, n72, n99, n100, n128, n136, n142, n144, n200, n300, n999, n1000, n1500, n3464, nI_add, pk_mul] <;> first | rfl | (congr 1; omega))) (by decide) (by decide) (fun g11 eg11 => ?_)
  refine J_aload_n hS dX8_seeds_12 rfl ?_
  refine J_getR (t := 164) hS dX8_seeds_13 flX8_13 ob162 rfl ?_
  refine J_iconst (v := 1) hS dX8_seeds_16 (by decide) ?_
  refine J_iload_n hS dX8_seeds_17 rfl ?_
  refine J_iastN hS (1) dX8_seeds_18 (show Ar lay NC .int 164 3464 from arM 1 3464 (by decide) (by decide) rfl) (by first | rfl | (simp only [n0, n1, n2, n3, n4, n5, n6, n7, n8, n9, n10, n11, n12, n13, n14, n15, n16, n17, n18, n19, n20, n24, n32, n56, n60, n64, n72, n99, n100, n128, n136, n142, n144, n200, n300, n999, n1000, n1500, n3464, nI_add, pk_mul] <;> first | rfl | (congr 1; omega))) (by decide) (by decide) (fun g18 eg18 => ?_)
  refine J_aload_n hS dX8_seeds_19 rfl ?_
  refine J_callV0 (X' := fun _ _ => False) hS dX8_seeds_20 mvX8_114 ob162 rfl (by first | decide | omega) (by decide) (Nat.le_of_ble_eq_true rfl) ⟨Nat.le_trans (by decide) hR.1, Nat.le_trans (by decide) hR.2⟩ (fun _ _ q => q.elim) (m_ends ?_)
  refine J_vret hS hZ hr dX8_seeds_23 (by omega) (by omega) ?_
  refine q _ ⟨fun z z1 z2 => by rw [u2_ne z z1, eg18, u2_ne z z2, eg11, u2_ne z z2, eg2, u2_ne z z1], fun j j1 j2 => ?_, u2_self .., ?_⟩ (fun i hi => ?_)
  · unfold u2; rw [if_neg (fun z => j2 z.2), eg18, u2_ne _ (by decide), eg11, u2_ne _ (by decide), eg2]; unfold u2; rw [if_neg (fun z => j1 z.2)]
  · unfold u2; rw [if_neg (by decide), eg18, u2_ne _ (by decide), eg11, u2_ne _ (by decide), eg2, u2_self]
  · rw [u2_ne _ (by decide), eg18, eg11, eg2]
    unfold u2 upd
    by_cases c1 : i = 1
    · rw [if_pos ⟨rfl, c1⟩, if_pos c1]
    · rw [if_neg (fun z => c1 z.2), if_neg c1]
      by_cases c0 : i = 0
      · rw [if_pos ⟨rfl, c0⟩, if_pos c0]
      · rw [if_neg (fun z => c0 z.2), if_neg c0, if_neg (fun z => absurd z.1 (by decide))]; exact hI.row i hi
/-- a write into 'real', and the film's end -/
theorem FrRm_put {g2 : Mm} {i : Nat} {v : Int32} (z2 : g2 = u2 g 162 0 0) : FrRm g (u2 (u2 g2 164 i v) 162 46 (-1)) := by
  subst z2
  refine ⟨fun z z1 z2 => by rw [u2_ne z z1, u2_ne z z2, u2_ne z z1], fun j j1 j2 => ?_, u2_self .., ?_⟩
  · unfold u2; rw [if_neg (fun z => j2 z.2), if_neg (fun z => absurd z.1 (by decide)), if_neg (fun z => j1 z.2)]
  · unfold u2; rw [if_neg (by decide), if_neg (fun z => absurd z.1 (by decide)), if_pos ⟨rfl, rfl⟩]
theorem row_put {g2 : Mm} {i : Nat} {v : Int32} (hI : RI g2 w n) : ∀ j, j < 3464 → u2 (u2 g2 164 i v) 162 46 (-1) 164 j = upd w i v j := by
  intro j hj
  rw [u2_ne _ (by decide)]
  unfold u2 upd
  by_cases c : j = i
  · rw [if_pos ⟨rfl, c⟩, if_pos c]
  · rw [if_neg (fun z => c z.2), if_neg c]; exact hI.row j hj
theorem m_leave {c : Int32} (hI : RI g w n) (x : ou n c → ∀ g', FrZ g g' → g' 162 0 = 1 → Q (some (.int 0)) g') (q0 : ∀ k, k < n → c = nI k → w (56 + 142 * k + 3) = 0 → ∀ g', FrZ g g' → g' 162 0 = 0 → Q (some (.int 0)) g') (q : ∀ k, k < n → c = nI k → ¬ w (56 + 142 * k + 3) = 0 → ∀ g', FrRm g g' → (∀ i, i < 3464 → g' 164 i = upd w (56 + 142 * k + 3) 0 i) → Q (some (.int 1)) g') : Ct l E lay NC 2 0 0 yX8_leave [.ref 162, .int c] g Q X := by
  have hn := hI.hn
  refine Ct_in k_yX8_leave (by decide) rfl (Nat.le_of_ble_eq_true rfl) rfl ?_
  intro S hS hZ hr ht hR
  show J S 0 0 (g) 0 [some (.ref 162), some (.int c)] []
  refine J_aload_n hS dX8_leave_0 rfl ?_
  refine J_iconst (v := 0) hS dX8_leave_1 (by decide) ?_
  refine J_putI hS dX8_leave_2 fpX8_1 ob162 rfl (fun g2 eg2 => ?_)
  have z2 : FrZ g g2 := by rw [eg2]; exact FrZ_thr
  have t2 : g2 162 0 = 0 := by rw [eg2, u2_self]
  have i2 := hI.fr z2
  rcases in_or (y := c) (b := n) (by first | decide | omega) with ⟨k, hk, ek⟩ | hbk
  ·
    subst ek
    refine J_aload_n hS dX8_leave_5 rfl ?_
    refine J_iload_n hS dX8_leave_6 rfl ?_
    refine J_callV1 (X' := fun _ _ => False) hS dX8_leave_7 mvX8_125 ob162 rfl (by first | decide | omega) (by decide) (Nat.le_of_ble_eq_true rfl) ⟨Nat.le_trans (by decide) hR.1, Nat.le_trans (by decide) hR.2⟩ (fun _ _ q => q.elim) (m_childY i2 t2 hk ?_)
    refine J_if_ne (tgt := 15) hS dX8_leave_10 (by decide) (fun c1 => ?_) (fun c1 => ?_)
    ·
      refine J_aload_n hS dX8_leave_15 rfl ?_
      refine J_getR (t := 164) hS dX8_leave_16 flX8_13 ob162 rfl ?_
      refine J_iload_n hS dX8_leave_19 rfl ?_
      refine J_callS1 (X' := fun _ _ => False) hS dX8_leave_20 msX8_121 rfl (by first | decide | omega) (by decide) (Nat.le_of_ble_eq_true rfl) ⟨Nat.le_trans (by decide) hR.1, Nat.le_trans (by decide) hR.2⟩ (fun _ _ q => q.elim) (m_at ?_)
      refine J_iconst (v := 3) hS dX8_leave_23 (by decide) ?_
      refine J_iadd hS dX8_leave_24 ?_
      refine J_ialdN hS (56 + 142 * k + 3) dX8_leave_25 (show Ar lay NC .int 164 3464 from arM 1 3464 (by decide) (by decide) rfl) (by first | rfl | (simp only [n0, n1, n2, n3, n4, n5, n6, n7, n8, n9, n10, n11, n12, n13, n14, n15, n16, n17, n18, n19, n20, n24, n32, n56, n60, n64, n72, n99, n100, n128, n136, n142, n144, n200, n300, n999, n1000, n1500, n3464, nI_add, pk_mul] <;> first | rfl | (congr 1; omega))) (by omega) (by decide) ?_
      show J S 0 0 (g2) 26 [some (.ref 162), some (.int (nI k))] [.int _]
      rw [i2.row _ (by omega)]
      refine J_if_ne (tgt := 31) hS dX8_leave_26 (by decide) (fun c2 => ?_) (fun c2 => ?_)
      ·
        refine J_aload_n hS dX8_leave_31 rfl ?_
        refine J_getR (t := 164) hS dX8_leave_32 flX8_13 ob162 rfl ?_
        refine J_iload_n hS dX8_leave_35 rfl ?_
        refine J_callS1 (X' := fun _ _ => False) hS dX8_leave_36 msX8_121 rfl (by first | decide | omega) (by decide) (Nat.le_of_ble_eq_true rfl) ⟨Nat.le_trans (by decide) hR.1, Nat.le_trans (by decide) hR.2⟩ (fun _ _ q => q.elim) (m_at ?_)
        refine J_iconst (v := 3) hS dX8_leave_39 (by decide) ?_
        refine J_iadd hS dX8_leave_40 ?_
        refine J_iconst (v := 0) hS dX8_leave_41 (by decide) ?_
        refine J_iastN hS (56 + 142 * k + 3) dX8_leave_42 (show Ar lay NC .int 164 3464 from arM 1 3464 (by decide) (by decide) rfl) (by first | rfl | (simp only [n0, n1, n2, n3, n4, n5, n6, n7, n8, n9, n10, n11, n12, n13, n14, n15, n16, n17, n18, n19, n20, n24, n32, n56, n60, n64, n72, n99, n100, n128, n136, n142, n144, n200, n300, n999, n1000, n1500, n3464, nI_add, pk_mul] <;> first | rfl | (congr 1; omega))) (by omega) (by decide) (fun g42 eg42 => ?_)
        refine J_aload_n hS dX8_leave_43 rfl ?_
        refine J_callV0 (X' := fun _ _ => False) hS dX8_leave_44 mvX8_114 ob162 rfl (by first | decide | omega) (by decide) (Nat.le_of_ble_eq_true rfl) ⟨Nat.le_trans (by decide) hR.1, Nat.le_trans (by decide) hR.2⟩ (fun _ _ q => q.elim) (m_ends ?_)
        refine J_iconst (v := 1) hS dX8_leave_47 (by decide) ?_
        refine J_iret hS hZ hr dX8_leave_48 (by omega) (by omega) ?_
        rw [eg42]
        exact q k hk rfl c2 _ (FrRm_put eg2) (row_put i2)
      ·
        refine J_iconst (v := 0) hS dX8_leave_29 (by decide) ?_
        refine J_iret hS hZ hr dX8_leave_30 (by omega) (by omega) ?_
        exact q0 k hk rfl c2 g2 z2 t2
    · exact absurd c1 (by decide)
  ·
    refine J_aload_n hS dX8_leave_5 rfl ?_
    refine J_iload_n hS dX8_leave_6 rfl ?_
    refine J_callV1 (X' := fun _ _ => False) hS dX8_leave_7 mvX8_125 ob162 rfl (by first | decide | omega) (by decide) (Nat.le_of_ble_eq_true rfl) ⟨Nat.le_trans (by decide) hR.1, Nat.le_trans (by decide) hR.2⟩ (fun _ _ q => q.elim) (m_childN i2 t2 hbk ?_)
    refine J_if_ne (tgt := 15) hS dX8_leave_10 (by decide) (fun c1 => ?_) (fun c1 => ?_)
    · exact absurd rfl c1
    ·
      refine J_iconst (v := 0) hS dX8_leave_13 (by decide) ?_
      refine J_iret hS hZ hr dX8_leave_14 (by omega) (by omega) ?_
      exact x hbk _ (z2.trans FrZ_thr) (u2_self ..)
theorem m_visit {c y : Int32} (hI : RI g w n) (x : ou n c → ∀ g', FrZ g g' → g' 162 0 = 1 → Q (some (.int 0)) g') (x2 : ¬ ou n c → ou 3 y → ∀ g', FrZ g g' → g' 162 0 = 2 → Q (some (.int 0)) g') (q0 : ∀ k, k < n → c = nI k → ¬ ou 3 y → w (56 + 142 * k + 3) = 0 → ∀ g', FrZ g g' → g' 162 0 = 0 → Q (some (.int (-1))) g') (q : ∀ k, k < n → c = nI k → ¬ ou 3 y → ¬ w (56 + 142 * k + 3) = 0 → ∀ g', FrRm g g' → (∀ i, i < 3464 → g' 164 i = upd w (56 + 142 * k) y i) → Q (some (.int (w (56 + 142 * k)))) g') : Ct l E lay NC 2 0 0 yX8_visit [.ref 162, .int c, .int y] g Q X := by
  have hn := hI.hn
  refine Ct_in k_yX8_visit (by decide) rfl (Nat.le_of_ble_eq_true rfl) rfl ?_
  intro S hS hZ hr ht hR
  show J S 0 0 (g) 0 [some (.ref 162), some (.int c), some (.int y), none] []
  refine J_aload_n hS dX8_visit_0 rfl ?_
  refine J_iconst (v := 0) hS dX8_visit_1 (by decide) ?_
  refine J_putI hS dX8_visit_2 fpX8_1 ob162 rfl (fun g2 eg2 => ?_)
  have z2 : FrZ g g2 := by rw [eg2]; exact FrZ_thr
  have t2 : g2 162 0 = 0 := by rw [eg2, u2_self]
  have i2 := hI.fr z2
  rcases in_or (y := c) (b := n) (by first | decide | omega) with ⟨k, hk, ek⟩ | hbk
  ·
    subst ek
    have nk := nou hk (show n < 2 ^ 31 by omega)
    refine J_aload_n hS dX8_visit_5 rfl ?_
    refine J_iload_n hS dX8_visit_6 rfl ?_
    refine J_callV1 (X' := fun _ _ => False) hS dX8_visit_7 mvX8_125 ob162 rfl (by first | decide | omega) (by decide) (Nat.le_of_ble_eq_true rfl) ⟨Nat.le_trans (by decide) hR.1, Nat.le_trans (by decide) hR.2⟩ (fun _ _ q => q.elim) (m_childY i2 t2 hk ?_)
    refine J_if_eq (tgt := 25) hS dX8_visit_10 (by decide) (fun c1 => ?_) (fun c1 => ?_)
    · exact absurd c1 (by decide)
    ·
      rcases in_or (y := y) (b := 3) (by first | decide | omega) with ⟨j, hj, ej⟩ | hbj
      ·
        subst ej
        refine J_aload_n hS dX8_visit_13 rfl ?_
        refine J_iload_n hS dX8_visit_14 rfl ?_
        refine J_callS1 (X' := fun _ _ => False) hS dX8_visit_15 msX8_117 rfl (by first | decide | omega) (by decide) (Nat.le_of_ble_eq_true rfl) ⟨Nat.le_trans (by decide) hR.1, Nat.le_trans (by decide) hR.2⟩ (fun _ _ q => q.elim) (m_yardY hj ?_)
        refine J_iconst (v := 2) hS dX8_visit_18 (by decide) ?_
        refine J_callV2 (X' := fun _ _ => False) hS dX8_visit_19 mvX8_110 ob162 rfl (by first | decide | omega) (by decide) (Nat.le_of_ble_eq_true rfl) ⟨Nat.le_trans (by decide) hR.1, Nat.le_trans (by decide) hR.2⟩ (fun _ _ q => q.elim) (m_mayY t2 (by decide) ?_)
        refine J_if_ne (tgt := 27) hS dX8_visit_22 (by decide) (fun c2 => ?_) (fun c2 => ?_)
        ·
          refine J_aload_n hS dX8_visit_27 rfl ?_
          refine J_getR (t := 164) hS dX8_visit_28 flX8_13 ob162 rfl ?_
          refine J_iload_n hS dX8_visit_31 rfl ?_
          refine J_callS1 (X' := fun _ _ => False) hS dX8_visit_32 msX8_121 rfl (by first | decide | omega) (by decide) (Nat.le_of_ble_eq_true rfl) ⟨Nat.le_trans (by decide) hR.1, Nat.le_trans (by decide) hR.2⟩ (fun _ _ q => q.elim) (m_at ?_)
          refine J_iconst (v := 3) hS dX8_visit_35 (by decide) ?_
          refine J_iadd hS dX8_visit_36 ?_
          refine J_ialdN hS (56 + 142 * k + 3) dX8_visit_37 (show Ar lay NC .int 164 3464 from arM 1 3464 (by decide) (by decide) rfl) (by first | rfl | (simp only [n0, n1, n2, n3, n4, n5, n6, n7, n8, n9, n10, n11, n12, n13, n14, n15, n16, n17, n18, n19, n20, n24, n32, n56, n60, n64, n72, n99, n100, n128, n136, n142, n144, n200, n300, n999, n1000, n1500, n3464, nI_add, pk_mul] <;> first | rfl | (congr 1; omega))) (by omega) (by decide) ?_
          show J S 0 0 (g2) 38 [some (.ref 162), some (.int (nI k)), some (.int (nI j)), none] [.int _]
          rw [i2.row _ (by omega)]
          refine J_if_ne (tgt := 43) hS dX8_visit_38 (by decide) (fun c3 => ?_) (fun c3 => ?_)
          ·
            refine J_aload_n hS dX8_visit_43 rfl ?_
            refine J_getR (t := 164) hS dX8_visit_44 flX8_13 ob162 rfl ?_
            refine J_iload_n hS dX8_visit_47 rfl ?_
            refine J_callS1 (X' := fun _ _ => False) hS dX8_visit_48 msX8_121 rfl (by first | decide | omega) (by decide) (Nat.le_of_ble_eq_true rfl) ⟨Nat.le_trans (by decide) hR.1, Nat.le_trans (by decide) hR.2⟩ (fun _ _ q => q.elim) (m_at ?_)
            refine J_iconst (v := 0) hS dX8_visit_51 (by decide) ?_
            refine J_iadd hS dX8_visit_52 ?_
            refine J_ialdN hS (56 + 142 * k) dX8_visit_53 (show Ar lay NC .int 164 3464 from arM 1 3464 (by decide) (by decide) rfl) (by rw [n0, nI_add]; rfl) (by omega) (by decide) ?_
            show J S 0 0 (g2) 54 [some (.ref 162), some (.int (nI k)), some (.int (nI j)), none] [.int _]
            rw [i2.row _ (by omega)]
            refine J_istore_n (lt := fun x3 => [some (.ref 162), some (.int (nI k)), some (.int (nI j)), some (.int x3)]) hS dX8_visit_54 (Nat.le_of_ble_eq_true rfl) (fun _ => rfl) (fun x3 ex3 => ?_)
            refine J_aload_n hS dX8_visit_55 rfl ?_
            refine J_getR (t := 164) hS dX8_visit_56 flX8_13 ob162 rfl ?_
            refine J_iload_n hS dX8_visit_59 rfl ?_
            refine J_callS1 (X' := fun _ _ => False) hS dX8_visit_60 msX8_121 rfl (by first | decide | omega) (by decide) (Nat.le_of_ble_eq_true rfl) ⟨Nat.le_trans (by decide) hR.1, Nat.le_trans (by decide) hR.2⟩ (fun _ _ q => q.elim) (m_at ?_)
            refine J_iconst (v := 0) hS dX8_visit_63 (by decide) ?_
            refine J_iadd hS dX8_visit_64 ?_
            refine J_iload_n hS dX8_visit_65 rfl ?_
            refine J_iastN hS (56 + 142 * k) dX8_visit_66 (show Ar lay NC .int 164 3464 from arM 1 3464 (by decide) (by decide) rfl) (by rw [n0, nI_add]; rfl) (by omega) (by decide) (fun g66 eg66 => ?_)
            refine J_aload_n hS dX8_visit_67 rfl ?_
            refine J_callV0 (X' := fun _ _ => False) hS dX8_visit_68 mvX8_114 ob162 rfl (by first | decide | omega) (by decide) (Nat.le_of_ble_eq_true rfl) ⟨Nat.le_trans (by decide) hR.1, Nat.le_trans (by decide) hR.2⟩ (fun _ _ q => q.elim) (m_ends ?_)
            refine J_iload_n hS dX8_visit_71 rfl ?_
            refine J_iret hS hZ hr dX8_visit_72 (by omega) (by omega) ?_
            rw [eg66, show x3 = _ from ex3]
            exact q k hk rfl (nou hj (by decide)) c3 _ (FrRm_put eg2) (row_put i2)
          ·
            refine J_iconst (v := (-1)) hS dX8_visit_41 (by decide) ?_
            refine J_iret hS hZ hr dX8_visit_42 (by omega) (by omega) ?_
            exact q0 k hk rfl (nou hj (by decide)) c3 g2 z2 t2
        · exact absurd c2 (by decide)
      ·
        refine J_aload_n hS dX8_visit_13 rfl ?_
        refine J_iload_n hS dX8_visit_14 rfl ?_
        refine J_callS1 (X' := fun _ _ => False) hS dX8_visit_15 msX8_117 rfl (by first | decide | omega) (by decide) (Nat.le_of_ble_eq_true rfl) ⟨Nat.le_trans (by decide) hR.1, Nat.le_trans (by decide) hR.2⟩ (fun _ _ q => q.elim) (m_yardN hbj ?_)
        refine J_iconst (v := 2) hS dX8_visit_18 (by decide) ?_
        refine J_callV2 (X' := fun _ _ => False) hS dX8_visit_19 mvX8_110 ob162 rfl (by first | decide | omega) (by decide) (Nat.le_of_ble_eq_true rfl) ⟨Nat.le_trans (by decide) hR.1, Nat.le_trans (by decide) hR.2⟩ (fun _ _ q => q.elim) (m_mayN t2 (by decide) ?_)
        refine J_if_ne (tgt := 27) hS dX8_visit_22 (by decide) (fun c2 => ?_) (fun c2 => ?_)
        · exact absurd rfl c2
        ·
          refine J_iconst (v := 0) hS dX8_visit_25 (by decide) ?_
          refine J_iret hS hZ hr dX8_visit_26 (by omega) (by omega) ?_
          exact x2 nk hbj _ (z2.trans FrZ_thr) (u2_self ..)
  ·
    refine J_aload_n hS dX8_visit_5 rfl ?_
    refine J_iload_n hS dX8_visit_6 rfl ?_
    refine J_callV1 (X' := fun _ _ => False) hS dX8_visit_7 mvX8_125 ob162 rfl (by first | decide | omega) (by decide) (Nat.le_of_ble_eq_true rfl) ⟨Nat.le_trans (by decide) hR.1, Nat.le_trans (by decide) hR.2⟩ (fun _ _ q => q.elim) (m_childN i2 t2 hbk ?_)
    refine J_if_eq (tgt := 25) hS dX8_visit_10 (by decide) (fun c1 => ?_) (fun c1 => ?_)
    ·
      refine J_iconst (v := 0) hS dX8_visit_25 (by decide) ?_
      refine J_iret hS hZ hr dX8_visit_26 (by omega) (by omega) ?_
      exact x hbk _ (z2.trans FrZ_thr) (u2_self ..)
    · exact absurd rfl c1
end RefP


/-! THE REFERENCE: trials, the common part -/
/-- what trials leave alone, but for w -/
def FrB (g g' : Mm) : Prop := (∀ z, z ≠ 162 → z ≠ 165 → z ≠ 191 → z ≠ 197 → z ≠ 198 → z ≠ 199 → z ≠ 205 → g' z = g z) ∧ ∀ j, (j = 0 ∨ j = 4 ∨ j = 11 ∨ j = 12 ∨ j = 27 ∨ j = 37 ∨ j = 45 ∨ j = 46 ∨ j = 54) → g' 162 j = g 162 j
theorem FrB.refl {g : Mm} : FrB g g := ⟨fun _ _ _ _ _ _ _ _ => rfl, fun _ _ => rfl⟩
theorem FrB.trans {g g1 g2 : Mm} (a : FrB g g1) (b : FrB g1 g2) : FrB g g2 := ⟨fun z z1 z2 z3 z4 z5 z6 z7 => (b.1 z z1 z2 z3 z4 z5 z6 z7).trans (a.1 z z1 z2 z3 z4 z5 z6 z7), fun j hj => (b.2 j hj).trans (a.2 j hj)⟩
theorem FrB.z {g g' : Mm} (a : FrB g g') (h3 : g 162 3 = nI 164) (h3' : g' 162 3 = nI 164) : FrZ g g' := ⟨fun z z1 z2 z3 z4 z5 z6 z7 _ _ _ => a.1 z z1 z2 z3 z4 z5 z6 z7, fun j hj => by
  rcases hj with e | hj
  · rw [e, h3, h3']
  · exact a.2 j (by omega)⟩
theorem FrB.x {g g' : Mm} (a : FrX 165 g g') : FrB g g' := ⟨fun z z1 z2 z3 z4 z5 z6 z7 => a.1 z z2 z1 z3 z4 z5 z6 z7, fun j hj => a.2 j (by omega)⟩
theorem FrB.beg {g g' : Mm} (b1 : ∀ z, z ≠ 162 → z ≠ 165 → g' z = g z) (b2 : ∀ j, j ≠ 3 → g' 162 j = g 162 j) : FrB g g' := ⟨fun z z1 z2 _ _ _ _ _ => b1 z z1 z2, fun j hj => b2 j (by omega)⟩
theorem FrB.put {g g' : Mm} {i : Nat} {v : Int32} (a : FrB g g') : FrB g (u2 g' 165 i v) := ⟨fun z z1 z2 z3 z4 z5 z6 z7 => by rw [u2_ne z z2]; exact a.1 z z1 z2 z3 z4 z5 z6 z7, fun j hj => by rw [u2_ne 162 (by decide)]; exact a.2 j hj⟩
theorem FrB.w {g g' : Mm} {v : Int32} (a : FrB g g') : FrB g (u2 g' 162 3 v) := ⟨fun z z1 z2 z3 z4 z5 z6 z7 => by rw [u2_ne z z1]; exact a.1 z z1 z2 z3 z4 z5 z6 z7, fun j hj => by rw [u2_at, if_neg (by omega)]; exact a.2 j hj⟩
theorem FrB.find {g g' g2 : Mm} (a : FrB g g') (b1 : ∀ z, z ≠ 162 → z ≠ 205 → g2 z = g' z) (b2 : ∀ j, j ≠ 41 → g2 162 j = g' 162 j) : FrB g g2 := a.trans ⟨fun z z1 _ _ _ _ _ z7 => b1 z z1 z7, fun j hj => b2 j (by omega)⟩
theorem FrB.held {g g' g2 : Mm} (a : FrB g g') (b1 : ∀ z, z ≠ 162 → z ≠ 191 → z ≠ 205 → g2 z = g' z) (b2 : ∀ j, j ≠ 41 → (j < 21 ∨ 26 < j) → g2 162 j = g' 162 j) : FrB g g2 := a.trans ⟨fun z z1 _ z3 _ _ _ z7 => b1 z z1 z3 z7, fun j hj => b2 j (by omega) (by omega)⟩
/-- a trial's row: the words w, but for the mask -/
def TrH (g : Mm) (w b : Wr) (n y : Nat) (lw : Option (List Cls)) (lo : Int32) : Prop := g 162 3 = nI 165 ∧ RowM g 165 w b ∧ n ≤ 24 ∧ w 6 = nI n ∧ y < 3 ∧ ThM g 165 n (nI y) (thrW w (nI y)) ∧ (∀ c, c < 24 → Wt w c) ∧ g 162 27 = lo ∧ RuleM g 165 lw
theorem TrH.m6 {g : Mm} {w b : Wr} {n y : Nat} {lw : Option (List Cls)} {lo : Int32} (h : TrH g w b n y lw lo) : g 165 6 = nI n := by rw [h.2.1.at (by decide) (Mk_lo (by decide) (by decide))]; exact h.2.2.2.1
/-- the bits of 'there' as the trial's row has them -/
theorem ThM_b {g : Mm} {w b : Wr} {n y : Nat} (hr : RowM g 165 w b) (hn : n ≤ 24) (hb : ∀ c, c < n → b (56 + 142 * c + 3) = w (56 + 142 * c + 3) ∧ (w (56 + 142 * c + 3) = 0 ∨ w (56 + 142 * c + 3) = 1)) : ThM g 165 n (nI y) (thrW w (nI y)) := by
  intro c hc
  obtain ⟨h1, h2⟩ := hb c hc
  have n3 : ¬ Mk (56 + 142 * c + 3) := fun z => z.2 (by omega)
  have m0 : Mk (56 + 142 * c) := ⟨by omega, fun z => by omega⟩
  rw [hr.no (by omega) n3, h1, hr.at (by omega) m0]
  unfold thrW
  rcases h2 with e | e
  · simp [e]
  · simp [e]
theorem thrW_q {w w' : Wr} {y : Int32} {c : Nat} (h : Kq w w') : thrW w' y c = thrW w y c := by
  unfold thrW
  rw [h.hd (r := 3) (by decide), show w' (56 + 142 * c) = w (56 + 142 * c) from h.hd (r := 0) (by decide)]
section RefH
variable {l : Launch} {E : Ey} {g : Mm} {Q : Option Value → Mm → Prop} {X : String → Mm → Prop} {w b : Wr} {n : Nat}
theorem m_triesH {m y : Nat} {lo : Int32} {lw : Option (List Cls)} (h : TrH g w b n y lw lo) (hm : m < 2 ^ 31) (q : ∀ g', FrX 165 g g' → TrH g' (trF lw lo n y m w) b n y lw lo → Q none g') : Ct l E lay NC 5 0 0 yX8_tries [.ref 162, .int (nI y), .int (nI m)] g Q X := by
  obtain ⟨h1, h2, h3, h4, h5, h6, h7, h8, h9⟩ := h
  have hk : Kq w (trF lw lo n y m w) := Kq_trF h5
  refine m_tries Rw5 h1 h2 h3 (by rw [h2.at (by decide) (Mk_lo (by decide) (by decide))]; exact h4) h5 h6 hm h7 h8 h9 (fun g' f1 r1 => q g' f1 ?_)
  have r2 : RowM g' 165 (trF lw lo n y m w) b := r1
  refine ⟨by rw [f1.2 3 (by decide)]; exact h1, r2, h3, by rw [hk.lo (by decide) (by decide) (by decide)]; exact h4, h5, ?_, fun c hc => hk.wt (h7 c hc), by rw [f1.2 27 (by decide)]; exact h8, ?_⟩
  · intro c hc
    have n3 : ¬ Mk (56 + 142 * c + 3) := fun z => z.2 (by omega)
    have m0 : Mk (56 + 142 * c) := ⟨by omega, fun z => by omega⟩
    rw [thrW_q hk, h6 c hc, r2.no (by omega) n3, h2.no (by omega) n3, r2.at (by omega) m0, h2.at (by omega) m0, show trF lw lo n y m w (56 + 142 * c) = w (56 + 142 * c) from hk.hd (r := 0) (by decide)]
  · refine h9.fr ?_ (fun z z1 z2 => f1.1 z (by omega) (by omega) (by omega) (by omega) (by omega) (by omega) (by omega))
    rw [r2.no (by decide) (fun z => z.1 rfl), h2.no (by decide) (fun z => z.1 rfl)]
theorem m_heldH {y o : Nat} {lo : Int32} {lw : Option (List Cls)} (h : TrH g w b n y lw lo) (ho : o < 6) (q : ∀ g', (∀ z, z ≠ 162 → z ≠ 191 → z ≠ 205 → g' z = g z) → (∀ j, j ≠ 41 → (j < 21 ∨ 26 < j) → g' 162 j = g 162 j) → g' 162 41 = nI (here (thrW w (nI y)) n).length → Q (some (.int (nI (here (fun c => thrW w (nI y) c && hldB lw lo w c o) n).length))) g') : Ct l E lay NC 4 0 0 yX8_heldIn [.ref 162, .int (nI y), .int (nI o)] g Q X :=
  m_heldIn Rw5 h.1 h.2.2.1 h.m6 h.2.2.2.2.2.1 h.2.1 ho h.2.2.2.2.2.2.2.1 h.2.2.2.2.2.2.2.2 q
/-- the real row, whatever law's clause is left out -/
def RJ (g : Mm) (w : Wr) (n : Nat) : Prop := (∀ i, i < 3464 → g 164 i = w i) ∧ n ≤ 24 ∧ w 6 = nI n ∧ WOk w ∧ ∀ c, c < 24 → w (56 + 142 * c + 3) = 0 ∨ w (56 + 142 * c + 3) = 1
theorem RI.j (h : RI g w n) : RJ g w n := ⟨h.row, h.hn, h.mn, h.ok, h.th⟩
theorem RJ.fb {g' : Mm} (h : RJ g w n) (e : FrB g g') : RJ g' w n := ⟨fun i hi => by rw [e.1 164 (by decide) (by decide) (by decide) (by decide) (by decide) (by decide) (by decide)]; exact h.1 i hi, h.2⟩
theorem LawsM.fb {g' : Mm} {Ls : List (List Cls)} (h : LawsM g Ls) (e : FrB g g') : LawsM g' Ls := h.fr (e.2 11 (by decide)) (fun z z1 z2 => e.1 z (by omega) (by omega) (by omega) (by omega) (by omega) (by omega) (by omega))
theorem m_tryWith {y m o : Nat} {v lo : Int32} {Ls : List (List Cls)} (hJ : RJ g w n) (hL : LawsM g Ls) (hv : isLw Ls.length v) (hlo : g 162 27 = lo) (hy : y < 3) (hm : m < 201) (ho : o < 6) (q : ∀ g', FrB g g' → g' 162 3 = nI 164 → Q (some (.int (nI (trC (lwOf Ls v) lo n y m o w)))) g') : Ct l E lay NC 6 0 0 yX8_tryWith [.ref 162, .int (nI y), .int (nI m), .int v, .int (nI o)] g Q X := by
  have hn := hJ.2.1
  refine Ct_in k_yX8_tryWith (by decide) rfl (Nat.le_of_ble_eq_true rfl) rfl ?_
  intro S hS hZ hr ht hR
  show J S 0 0 (g) 0 [some (.ref 162), some (.int (nI y)), some (.int (nI m)), some (.int v), some (.int (nI o)), none] []
  refine J_aload_n hS dX8_tryWith_0 rfl ?_
  refine J_callV0 (X' := fun _ _ => False) hS dX8_tryWith_1 mvX8_365 ob162 rfl (by first | decide | omega) (by decide) (Nat.le_of_ble_eq_true rfl) ⟨Nat.le_trans (by decide) hR.1, Nat.le_trans (by decide) hR.2⟩ (fun _ _ q => q.elim) (m_begins (fun g1 b1 b2 b3 b4 => ?_))
  have f1 : FrB g g1 := FrB.beg b1 b2
  refine J_aload_n hS dX8_tryWith_4 rfl ?_
  refine J_getD (v := .ref 165) hS dX8_tryWith_5 flX8_20 ob162 rfl (wI Rw5 b3) ?_
  refine J_iconst (v := 5) hS dX8_tryWith_8 (by decide) ?_
  refine J_iload_n hS dX8_tryWith_9 rfl ?_
  refine J_iastN hS (5) dX8_tryWith_10 Rw5.ar (by first | rfl | (simp only [n0, n1, n2, n3, n4, n5, n6, n7, n8, n9, n10, n11, n12, n13, n14, n15, n16, n17, n18, n19, n20, n24, n32, n56, n60, n64, n72, n99, n100, n128, n136, n142, n144, n200, n300, n999, n1000, n1500, n3464, nI_add, pk_mul] <;> first | rfl | (congr 1; omega))) (by decide) (by decide) (fun g10 eg10 => ?_)
  have f2 : FrB g g10 := by rw [eg10]; exact f1.put
  have r2 : RowM g10 165 w (upd w 5 v) := by
    intro i hi
    rw [eg10, u2_at]
    refine ⟨fun z => ?_, fun z => ?_⟩
    · rw [if_neg z.1, b4 i hi]; exact hJ.1 i hi
    · unfold upd; split
      · rfl
      · rw [b4 i hi]; exact hJ.1 i hi
  have hT : TrH g10 w (upd w 5 v) n y (lwOf Ls v) lo := by
    refine ⟨by rw [eg10, u2_ne 162 (by decide)]; exact b3, r2, hn, hJ.2.2.1, hy, ThM_b r2 hn (fun c hc => ⟨by unfold upd; rw [if_neg (by omega)], hJ.2.2.2.2 c (by omega)⟩), hJ.2.2.2.1.2.2, by rw [f2.2 27 (by decide)]; exact hlo, ?_⟩
    exact (hL.fb f2).rule (by rw [eg10, u2_self]) hv
  refine J_aload_n hS dX8_tryWith_11 rfl ?_
  refine J_iload_n hS dX8_tryWith_12 rfl ?_
  refine J_iload_n hS dX8_tryWith_13 rfl ?_
  refine J_callV2 (X' := fun _ _ => False) hS dX8_tryWith_14 mvX8_368 ob162 rfl (by first | decide | omega) (by decide) (Nat.le_of_ble_eq_true rfl) ⟨Nat.le_trans (by decide) hR.1, Nat.le_trans (by decide) hR.2⟩ (fun _ _ q => q.elim) (m_triesH hT (by omega) (fun g3 x3 h3 => ?_))
  refine J_aload_n hS dX8_tryWith_17 rfl ?_
  refine J_iload_n hS dX8_tryWith_18 rfl ?_
  refine J_iload hS dX8_tryWith_19 rfl ?_
  refine J_callV2 (X' := fun _ _ => False) hS dX8_tryWith_21 mvX8_353 ob162 rfl (by first | decide | omega) (by decide) (Nat.le_of_ble_eq_true rfl) ⟨Nat.le_trans (by decide) hR.1, Nat.le_trans (by decide) hR.2⟩ (fun _ _ q => q.elim) (m_heldH h3 ho (fun g4 k1 k2 k3 => ?_))
  have f4 : FrB g g4 := (f2.trans (FrB.x x3)).held k1 k2
  refine J_istore (lt := fun x5 => [some (.ref 162), some (.int (nI y)), some (.int (nI m)), some (.int v), some (.int (nI o)), some (.int x5)]) hS dX8_tryWith_24 (Nat.le_of_ble_eq_true rfl) (fun _ => rfl) (fun x5 ex5 => ?_)
  refine J_aload_n hS dX8_tryWith_26 rfl ?_
  refine J_aload_n hS dX8_tryWith_27 rfl ?_
  refine J_getR (t := 164) hS dX8_tryWith_28 flX8_13 ob162 rfl ?_
  refine J_putD hS dX8_tryWith_31 fpX8_20 (by first | exact Or.inl ⟨_, rfl⟩ | exact Or.inr ⟨_, rfl⟩) ob162 rfl Rw4.ab (by first | exact Or.inl rfl | exact Or.inr ⟨_, rfl⟩) (fun g31 eg31 => ?_)
  refine J_iload hS dX8_tryWith_34 rfl ?_
  refine J_iret hS hZ hr dX8_tryWith_36 (by omega) (by omega) ?_
  rw [show x5 = nI (trC (lwOf Ls v) lo n y m o w) from ex5]
  exact q g31 (by rw [eg31]; exact f4.w) (by rw [eg31, u2_self])
end RefH


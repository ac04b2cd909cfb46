/-! THE READER: clauses, laws; the public method law -/
def LawB (g : Mm) (h : Nat) (cl : List Cls) (m : Nat) : Prop := ∀ (k : Nat) (c : Cls), cl[k]? = some c → clsOk c ∧ ∃ s : Nat, s + c.2.1.length + c.2.2.length ≤ m ∧ g (h + 1) k = nI c.1 ∧ g (h + 2) k = nI s ∧ g (h + 3) k = nI (s + c.2.1.length) ∧ g (h + 4) k = nI (s + c.2.1.length + c.2.2.length) ∧ Cod g h s c.2.1 ∧ Cod g h (s + c.2.1.length) c.2.2
def FrK (h : Nat) (g g' : Mm) : Prop := ∀ z, z ≠ 155 → (z < h ∨ h + 5 < z) → g' z = g z
theorem FrK.trans {h : Nat} {g g1 g2 : Mm} (a : FrK h g g1) (b : FrK h g1 g2) : FrK h g g2 := fun z h1 h2 => (b z h1 h2).trans (a z h1 h2)
theorem FrL.frK {h : Nat} {g g' : Mm} (a : FrL h g g') : FrK h g g' := fun z h1 h2 => a.1 z h1 (by omega) (by omega)
theorem Cod.lt {g g' : Mm} {h i m : Nat} {l : List Tok} (hc : Cod g h i l) (hb : i + l.length ≤ m) (e : ∀ j, j < m → g' (h + 5) j = g (h + 5) j) : Cod g' h i l := by
  intro j t hj
  have : j < l.length := (List.getElem?_eq_some_iff.mp hj).1
  rw [e (i + j) (by omega)]; exact hc j t hj
theorem LawB.fr {g g' : Mm} {h m k : Nat} {cl : List Cls} (hB : LawB g h cl m) (hk : cl.length ≤ k) (e : ∀ i, i = 1 ∨ i = 2 ∨ i = 3 ∨ i = 4 → ∀ j, j < k → g' (h + i) j = g (h + i) j) (e5 : ∀ j, j < m → g' (h + 5) j = g (h + 5) j) : LawB g' h cl m := by
  intro j c hj
  have hjl : j < cl.length := (List.getElem?_eq_some_iff.mp hj).1
  obtain ⟨h1, s, h2, h3, h4, h5, h6, h7, h8⟩ := hB j c hj
  exact ⟨h1, s, h2, by rw [e 1 (by decide) j (by omega)]; exact h3, by rw [e 2 (by decide) j (by omega)]; exact h4, by rw [e 3 (by decide) j (by omega)]; exact h5, by rw [e 4 (by decide) j (by omega)]; exact h6, h7.lt (by omega) e5, h8.lt (by omega) e5⟩
theorem clR_ok {T : Wr} {n k s w s1 s2 : Nat} {L C : List Tok} (hw : clN T n s = some w) (hk : k < 12) (f3 : sumD T n 6 (nx T n s) = .inr (L, s1)) (hif : (if isW T n s1 4 = true then eit T n (basD T n 6) (nx T n s1) else .inr ([], s1) : Res) = .inr (C, s2)) : clR T n k s = if isC T n s2 59 = true then .inr ((w, L, C), nx T n s2) else .inl (1, s2) := by
  unfold clR
  rw [hw]
  dsimp only
  rw [if_neg (by omega), f3]
  dsimp only
  rw [hif]
theorem clR_b1 {T : Wr} {n k s w : Nat} {e : Nat × Nat} (hw : clN T n s = some w) (hk : k < 12) (f3 : sumD T n 6 (nx T n s) = .inl e) : clR T n k s = .inl e := by
  unfold clR
  rw [hw]
  dsimp only
  rw [if_neg (by omega), f3]
theorem clR_b2 {T : Wr} {n k s w s1 : Nat} {L : List Tok} {e : Nat × Nat} (hw : clN T n s = some w) (hk : k < 12) (f3 : sumD T n 6 (nx T n s) = .inr (L, s1)) (hif : (if isW T n s1 4 = true then eit T n (basD T n 6) (nx T n s1) else .inr ([], s1) : Res) = .inl e) : clR T n k s = .inl e := by
  unfold clR
  rw [hw]
  dsimp only
  rw [if_neg (by omega), f3]
  dsimp only
  rw [hif]
section RdY
variable {l : Launch} {E : Ey} {g : Mm} {Q : Option Value → Mm → Prop} {X : String → Mm → Prop} {h : Nat} {T : Wr} {n : Nat}
set_option maxRecDepth 10000 in
set_option maxHeartbeats 4000000 in
theorem c_readClause {k m s : Nat} {cl : List Cls} (hL : Lw h) (hcl : cl.length = k) (hk : k ≤ 12) (hp : PreP T n h g m s) (ek : g h 0 = nI k) (hB : LawB g h cl m) (q1 : ∀ c s' g' m', clR T n k s = .inr (c, s') → FrK h g g' → RdC g' T n h s' → g' h 0 = nI (k + 1) → g' h 6 = nI m' → m' ≤ s' → LawB g' h (cl ++ [c]) m' → g' 155 7 = g 155 7 → Q (some (.int 1)) g') (q0 : ∀ e g', clR T n k s = .inl e → FrK h g g' → g' 155 7 = nI e.1 → g' 155 8 = nI e.2 → Q (some (.int 0)) g') : Ct l E lay NC 61 0 0 yX2_readClause [.ref 155, .int (nI k)] g Q X := by
  have hC := hp.1
  have hn3 := hp.1.1.2.2.1
  have hsn := hp.1.2.2.1
  have hms := hp.2.2
  obtain ⟨i0, hi0, eh⟩ := id hL
  refine Ct_in k_yX2_readClause (by decide) rfl (Nat.le_of_ble_eq_true rfl) rfl ?_
  intro S hS hZ hr ht hR
  show J S 0 0 (g) 0 [some (.ref 155), some (.int (nI k)), none] []
  refine J_aload_n hS dX2_readClause_0 rfl ?_
  refine J_callV0 (X' := fun _ _ => False) hS dX2_readClause_1 mvX2_81 ob155 rfl (by first | decide | omega) (by decide) (Nat.le_of_ble_eq_true rfl) ⟨Nat.le_trans (by decide) hR.1, Nat.le_trans (by decide) hR.2⟩ (fun _ _ q => q.elim) (c_clauseWord hC (fun w hw => ?_) (fun hw => ?_))
  · obtain ⟨hlt, hw4⟩ := clN_ok hw
    have gx := nx_le (T := T) hsn
    have glt := gx.2.2 hlt
    refine J_istore_n (lt := fun w2 => [some (.ref 155), some (.int (nI k)), some (.int w2)]) hS dX2_readClause_4 (Nat.le_of_ble_eq_true rfl) (fun _ => rfl) (fun w2 ew2 => ?_)
    refine J_iload_n hS dX2_readClause_5 rfl ?_
    refine J_iconst (v := (-1)) hS dX2_readClause_6 (by decide) ?_
    rw [show w2 = nI w from ew2]
    show J S 0 0 g 7 [some (.ref 155), some (.int (nI k)), some (.int (nI w))] [.int (-1), .int (nI w)]
    refine J_icmp_ne (tgt := 16) hS dX2_readClause_7 (by decide) (fun c1 => ?_) (fun c1 => ?_)
    ·
      refine J_iload_n hS dX2_readClause_16 rfl ?_
      refine J_bipush (v := 12) hS dX2_readClause_17 (by decide) ?_
      refine J_icmp_lt (tgt := 28) hS dX2_readClause_19 (by decide) (fun c2 => ?_) (fun c2 => ?_)
      · have hk12 : k < 12 := by
          rcases Nat.lt_or_ge k 12 with z | z
          · exact z
          · have : k = 12 := by omega
            subst this; exact absurd c2 (by decide)
        refine J_aload_n hS dX2_readClause_28 rfl ?_
        refine J_callV0 (X' := fun _ _ => False) hS dX2_readClause_29 mvX2_52 ob155 rfl (by first | decide | omega) (by decide) (Nat.le_of_ble_eq_true rfl) ⟨Nat.le_trans (by decide) hR.1, Nat.le_trans (by decide) hR.2⟩ (fun _ _ q => q.elim) (c_step hC.1 hC.2.1 (tkE_le hsn).2.1 hC.2.2.2.2.2.1 (fun g1 b1 b2 => ?_))
        have b2 : RdC g1 T n h (nx T n s) := b2
        have p1 : POk T n h g g1 m [] (nx T n s) := POk.tok hL b1 hp.2.1 b2
        have ek1 : g1 h 0 = nI k := by rw [p1.1.2 0 (by decide)]; exact ek
        obtain ⟨g2, hg2⟩ : ∃ g2, g2 = u2 (u2 g1 (h + 1) k (nI w)) (h + 2) k (g1 h 6) := ⟨_, rfl⟩
        refine J_aload_n hS dX2_readClause_32 rfl ?_
        refine J_getD (v := .ref h) hS dX2_readClause_33 flX2_19 ob155 rfl (by rw [p1.num.2.1]; exact hL.ab) ?_
        refine J_iload_n hS dX2_readClause_36 rfl ?_
        refine J_callV1 (X' := fun _ _ => False) hS dX2_readClause_37 mvX2_84 hL.ob rfl (by first | decide | omega) (by decide) (Nat.le_of_ble_eq_true rfl) ⟨Nat.le_trans (by decide) hR.1, Nat.le_trans (by decide) hR.2⟩ (fun _ _ q => q.elim) (c_beginClause hL hk ek1 (fun _ => ?_) (fun z => absurd z (by omega)))
        rw [← hg2]
        have f2 : ∀ z, z ≠ h + 1 → z ≠ h + 2 → g2 z = g1 z := fun z z1 z2 => by rw [hg2, u2_ne z z2, u2_ne z z1]
        have hC2 : RdC g2 T n h (nx T n s) := by
          obtain ⟨r1, r2, r3, r4, r5, r6, r7⟩ := b2
          have e155 : g2 155 = g1 155 := f2 155 (by omega) (by omega)
          exact ⟨r1.fr (f2 156 (by omega) (by omega)) (by rw [e155]) (by rw [e155]), by rw [e155]; exact r2, r3, by rw [e155]; exact r4, by rw [e155]; exact r5, by rw [e155]; exact r6, by rw [e155]; exact r7⟩
        have m2 : g2 h 6 = nI m := by rw [f2 h (by omega) (by omega)]; exact p1.2.2.1
        have fk2 : FrK h g g2 := p1.1.frK.trans (fun z _ z2 => f2 z (by omega) (by omega))
        refine J_aload_n hS dX2_readClause_40 rfl ?_
        refine J_iconst (v := 0) hS dX2_readClause_41 (by decide) ?_
        refine J_callV1 (X' := fun _ _ => False) hS dX2_readClause_42 mvX2_88 ob155 rfl (by first | decide | omega) (by decide) (Nat.le_of_ble_eq_true rfl) ⟨Nat.le_trans (by decide) hR.1, Nat.le_trans (by decide) hR.2⟩ (fun _ _ q => q.elim) (c_sumD hL 6 0 33 rfl (by omega) g2 m (nx T n s) _ _ ⟨hC2, m2, by omega⟩ (fun L s1 g3 f3 f4 => ?_) (fun e g3 f3 f4 => ?_))
        · have d := gd_sumD 6 (nx T n s) gx.2.1 L s1 f3
          obtain ⟨n1, n2, n3, n4⟩ := f4.num
          refine J_if_ne (tgt := 50) hS dX2_readClause_45 (by decide) (fun k1 => ?_) (fun k1 => ?_)
          · have ek3 : g3 h 0 = nI k := by rw [f4.1.2 0 (by decide), f2 h (by omega) (by omega)]; exact ek1
            obtain ⟨g4, hg4⟩ : ∃ g4, g4 = u2 g3 (h + 3) k (g3 h 6) := ⟨_, rfl⟩
            refine J_aload_n hS dX2_readClause_50 rfl ?_
            refine J_getD (v := .ref h) hS dX2_readClause_51 flX2_19 ob155 rfl (by rw [n2]; exact hL.ab) ?_
            refine J_callV0 (X' := fun _ _ => False) hS dX2_readClause_54 mvX2_91 hL.ob rfl (by first | decide | omega) (by decide) (Nat.le_of_ble_eq_true rfl) ⟨Nat.le_trans (by decide) hR.1, Nat.le_trans (by decide) hR.2⟩ (fun _ _ q => q.elim) (c_closeValue hL hk ek3 (fun _ => ?_) (fun z => absurd z (by omega)))
            rw [← hg4]
            have f5 : ∀ z, z ≠ h + 3 → g4 z = g3 z := fun z z1 => by rw [hg4, u2_ne z z1]
            have hC4 : RdC g4 T n h s1 := by
              obtain ⟨r1, r2, r3, r4, r5, r6, r7⟩ := f4.2.1
              have e155 : g4 155 = g3 155 := f5 155 (by omega)
              exact ⟨r1.fr (f5 156 (by omega)) (by rw [e155]) (by rw [e155]), by rw [e155]; exact r2, r3, by rw [e155]; exact r4, by rw [e155]; exact r5, by rw [e155]; exact r6, by rw [e155]; exact r7⟩
            have m4 : g4 h 6 = nI (m + L.length) := by rw [f5 h (by omega)]; exact f4.2.2.1
            have fk4 : FrK h g g4 := fk2.trans (f4.1.frK.trans (fun z _ z2 => f5 z (by omega)))
            have ek4 : g4 h 0 = nI k := by rw [f5 h (by omega)]; exact ek3
            have w4 : g4 (h + 1) k = nI w := by rw [f5 _ (by omega), f4.1.1 _ (by omega) (by omega) (by omega), hg2, u2_ne _ (by omega), u2_self]
            have s4 : g4 (h + 2) k = nI m := by rw [f5 _ (by omega), f4.1.1 _ (by omega) (by omega) (by omega), hg2, u2_self]; exact p1.2.2.1
            have v4 : g4 (h + 3) k = nI (m + L.length) := by rw [hg4, u2_self]; exact f4.2.2.1
            have cd4 : Cod g4 h m L := f4.2.2.2.1.lt (m := m + L.length) (Nat.le_refl _) (fun j _ => by rw [f5 _ (by omega)])
            have g1k : ∀ j, g1 (h + 5) j = g (h + 5) j := fun j => by rw [(b1.frL hL).2.2]
            have e4 : ∀ i, i = 1 ∨ i = 2 ∨ i = 3 ∨ i = 4 → ∀ j, j < k → g4 (h + i) j = g (h + i) j := by
              intro i hi j hj
              have a1 : g4 (h + i) j = g3 (h + i) j := by rw [hg4]; unfold u2; rw [if_neg (by omega)]
              have a2 : g3 (h + i) j = g2 (h + i) j := by rw [f4.1.1 _ (by omega) (by omega) (by omega)]
              have a3 : g2 (h + i) j = g1 (h + i) j := by rw [hg2]; unfold u2; rw [if_neg (by omega), if_neg (by omega)]
              rw [a1, a2, a3, b1.1 _ (by omega)]
            have e45 : ∀ j, j < m → g4 (h + 5) j = g (h + 5) j := by
              intro j hj
              rw [f5 _ (by omega), f4.2.2.2.2.1 j hj, f2 _ (by omega) (by omega), g1k]
            have k74 : g4 155 7 = g 155 7 := by rw [f5 155 (by omega), f4.2.2.2.2.2.1, f2 155 (by omega) (by omega)]; exact p1.2.2.2.2.2.1
            have fin : ∀ (C : List Tok) (s2 : Nat) (g5 : Mm), (if isW T n s1 4 = true then eit T n (basD T n 6) (nx T n s1) else .inr ([], s1) : Res) = .inr (C, s2) → POk T n h g4 g5 (m + L.length) C s2 → m + L.length + C.length ≤ s2 → (∀ t ∈ C, tokOk t) → (C = [] ∨ tck C [] = some [true]) → J S 0 0 g5 80 [some (.ref 155), some (.int (nI k)), some (.int (nI w))] [] := by
              intro C s2 g5 hif pc hle hC1 hC2'
              obtain ⟨x1, x2, x3, x4⟩ := pc.num
              have ek5 : g5 h 0 = nI k := by rw [pc.1.2 0 (by decide)]; exact ek4
              obtain ⟨g6, hg6⟩ : ∃ g6, g6 = u2 (u2 g5 (h + 4) k (g5 h 6)) h 0 (nI (k + 1)) := ⟨_, rfl⟩
              refine J_aload_n hS dX2_readClause_80 rfl ?_
              refine J_getD (v := .ref h) hS dX2_readClause_81 flX2_19 ob155 rfl (by rw [x2]; exact hL.ab) ?_
              refine J_callV0 (X' := fun _ _ => False) hS dX2_readClause_84 mvX2_102 hL.ob rfl (by first | decide | omega) (by decide) (Nat.le_of_ble_eq_true rfl) ⟨Nat.le_trans (by decide) hR.1, Nat.le_trans (by decide) hR.2⟩ (fun _ _ q => q.elim) (c_closeClause hL hk ek5 (fun _ => ?_) (fun z => absurd z (by omega)))
              rw [← hg6]
              have f6 : ∀ z, z ≠ h → z ≠ h + 4 → g6 z = g5 z := fun z z1 z2 => by rw [hg6, u2_ne z z1, u2_ne z z2]
              have h6 : ∀ j, j ≠ 0 → g6 h j = g5 h j := fun j hj => by rw [hg6]; unfold u2; rw [if_neg (fun z => hj z.2), if_neg (by omega)]
              have hC6 : RdC g6 T n h s2 := by
                obtain ⟨r1, r2, r3, r4, r5, r6, r7⟩ := pc.2.1
                have e155 : g6 155 = g5 155 := f6 155 (by omega) (by omega)
                exact ⟨r1.fr (f6 156 (by omega) (by omega)) (by rw [e155]) (by rw [e155]), by rw [e155]; exact r2, r3, by rw [e155]; exact r4, by rw [e155]; exact r5, by rw [e155]; exact r6, by rw [e155]; exact r7⟩
              have m6 : g6 h 6 = nI (m + L.length + C.length) := by rw [h6 6 (by decide)]; exact pc.2.2.1
              have fk6 : FrK h g g6 := fk4.trans (pc.1.frK.trans (fun z _ z2 => f6 z (by omega) (by omega)))
              have e6 : ∀ i, i = 1 ∨ i = 2 ∨ i = 3 → g6 (h + i) = g4 (h + i) := fun i hi => by rw [f6 _ (by omega) (by omega)]; exact pc.1.1 _ (by omega) (by omega) (by omega)
              have e64 : ∀ j, j < k → g6 (h + 4) j = g4 (h + 4) j := fun j hj => by
                rw [hg6, u2_ne _ (by omega)]; unfold u2; rw [if_neg (by omega), pc.1.1 _ (by omega) (by omega) (by omega)]
              have e644 : g6 (h + 4) k = nI (m + L.length + C.length) := by rw [hg6, u2_ne _ (by omega), u2_self]; exact pc.2.2.1
              have e65 : ∀ j, j < m + L.length → g6 (h + 5) j = g4 (h + 5) j := fun j hj => by rw [f6 _ (by omega) (by omega)]; exact pc.2.2.2.2.1 j hj
              have hB6 : LawB g6 h (cl ++ [(w, L, C)]) (m + L.length + C.length) := by
                intro j c hj
                rcases Nat.lt_or_ge j cl.length with y | y
                · rw [List.getElem?_append_left y] at hj
                  have hB' : LawB g6 h cl m := hB.fr (k := k) (by omega) (fun i hi j hj => by
                    rcases (show (i = 1 ∨ i = 2 ∨ i = 3) ∨ i = 4 by omega) with z | z
                    · rw [e6 i z]; exact e4 i hi j hj
                    · subst z; rw [e64 j hj]; exact e4 4 hi j hj) (fun j hj => by rw [e65 j (by omega)]; exact e45 j hj)
                  obtain ⟨h1, s0, h2, h3⟩ := hB' j c hj
                  exact ⟨h1, s0, by omega, h3⟩
                · rw [List.getElem?_append_right y] at hj
                  have e0 : j - cl.length = 0 := by
                    rcases Nat.eq_zero_or_pos (j - cl.length) with z | z
                    · exact z
                    · rw [List.getElem?_eq_none (show [(w, L, C)].length ≤ j - cl.length from z)] at hj; cases hj
                  rw [e0] at hj
                  cases hj
                  have ej : j = k := by omega
                  subst ej
                  refine ⟨⟨hw4, d.2.2.2.1, hC1, d.2.2.2.2 [], hC2'⟩, m, Nat.le_refl _, ?_, ?_, ?_, e644, ?_, ?_⟩
                  · rw [e6 1 (by decide)]; exact w4
                  · rw [e6 2 (by decide)]; exact s4
                  · rw [e6 3 (by decide)]; exact v4
                  · exact cd4.lt (m := m + L.length) (Nat.le_refl _) e65
                  · exact pc.2.2.2.1.lt (m := m + L.length + C.length) (Nat.le_refl _) (fun j _ => by rw [f6 _ (by omega) (by omega)])
              have k76 : g6 155 7 = g 155 7 := by rw [f6 155 (by omega) (by omega), pc.2.2.2.2.2.1]; exact k74
              have ecl : clR T n k s = if isC T n s2 59 = true then .inr ((w, L, C), nx T n s2) else .inl (1, s2) := clR_ok hw hk12 f3 hif
              refine J_aload_n hS dX2_readClause_87 rfl ?_
              refine J_bipush (v := 59) hS dX2_readClause_88 (by decide) ?_
              refine J_callV1 (X' := fun _ _ => False) hS dX2_readClause_90 mvX2_105 ob155 rfl (by first | decide | omega) (by decide) (Nat.le_of_ble_eq_true rfl) ⟨Nat.le_trans (by decide) hR.1, Nat.le_trans (by decide) hR.2⟩ (fun _ _ q => q.elim) (c_pass hL ⟨hC6, m6, hle⟩ (fun g7 z1 z2 => ?_) (fun g7 z1 z2 => ?_))
              · have hy := (psC_inr x3 z1).2.2.2.2
                have hlt2 := (psC_inr x3 z1).2.2.1
                refine J_zret hS hZ hr dX2_readClause_93 (by decide) (by omega) (by omega) ?_
                refine q1 (w, L, C) (nx T n s2) g7 (m + L.length + C.length) (by rw [ecl, if_pos hy]) (fk6.trans z2.1.frK) z2.2.1 ?_ ?_ (by omega) ?_ (by rw [z2.2.2.2.2.2.1]; exact k76)
                · rw [z2.1.2 0 (by decide), hg6, u2_self]
                · rw [z2.2.2.1]; rfl
                · exact hB6.fr (k := k + 1) (by simp [hcl]) (fun i hi j _ => by rw [z2.1.1 _ (by omega) (by omega) (by omega)]) z2.2.2.2.2.1
              ·
                refine J_zret hS hZ hr dX2_readClause_93 (by decide) (by omega) (by omega) ?_
                have hno : ¬ isC T n s2 59 = true := fun z => by unfold psC at z1; rw [if_pos z] at z1; cases z1
                exact q0 (1, s2) g7 (by rw [ecl, if_neg hno]) (fk6.trans z2.1.frK) z2.2.2.1 z2.2.2.2.1
            refine J_aload_n hS dX2_readClause_57 rfl ?_
            refine J_ldcS (i := 4) hS (List.mem_of_getElem? (i := 23) rfl) dX2_readClause_58 ?_
            refine J_callV1 (X' := fun _ _ => False) hS dX2_readClause_60 mvX2_96 ob155 rfl (by first | decide | omega) (by decide) (Nat.le_of_ble_eq_true rfl) ⟨Nat.le_trans (by decide) hR.1, Nat.le_trans (by decide) hR.2⟩ (fun _ _ q => q.elim) (c_isAtW (i := 4) (by decide) hC4 (fun r5 t5 v5 => ?_))
            refine J_if_eq (tgt := 80) hS dX2_readClause_63 (by decide) (fun c5 => ?_) (fun c5 => ?_)
            · have n5 : ¬ isW T n s1 4 = true := fun z => by rw [v5.mpr z] at c5; exact absurd c5 (by decide)
              exact fin [] s1 g4 (by rw [if_neg n5]) (POk.tok hL FrR.refl m4 hC4) (by simp only [List.length_nil]; omega) (fun t ht1 => by cases ht1) (Or.inl rfl)
            · have y5 : isW T n s1 4 = true := v5.mp (t5.resolve_left c5)
              have gx1 := nx_le (T := T) n3
              have glt1 := gx1.2.2 (isW_lt y5)
              refine J_aload_n hS dX2_readClause_66 rfl ?_
              refine J_callV0 (X' := fun _ _ => False) hS dX2_readClause_67 mvX2_52 ob155 rfl (by first | decide | omega) (by decide) (Nat.le_of_ble_eq_true rfl) ⟨Nat.le_trans (by decide) hR.1, Nat.le_trans (by decide) hR.2⟩ (fun _ _ q => q.elim) (c_step hC4.1 hC4.2.1 (tkE_le n3).2.1 hC4.2.2.2.2.2.1 (fun g5 b5 b6 => ?_))
              have b6 : RdC g5 T n h (nx T n s1) := b6
              have p5 : POk T n h g4 g5 (m + L.length) [] (nx T n s1) := POk.tok hL b5 m4 b6
              refine J_aload_n hS dX2_readClause_70 rfl ?_
              refine J_iconst (v := 0) hS dX2_readClause_71 (by decide) ?_
              refine J_callV1 (X' := fun _ _ => False) hS dX2_readClause_72 mvX2_99 ob155 rfl (by first | decide | omega) (by decide) (Nat.le_of_ble_eq_true rfl) ⟨Nat.le_trans (by decide) hR.1, Nat.le_trans (by decide) hR.2⟩ (fun _ _ q => q.elim) (c_eitD hL g5 (m + L.length) (nx T n s1) _ _ ⟨b6, p5.2.2.1, by omega⟩ (fun C s2 g6 f7 f8 => ?_) (fun e g6 f7 f8 => ?_))
              · have dc := gd_eit (fun s hs => gd_basD 6 s hs) gx1.2.1 C s2 f7
                refine J_if_ne (tgt := 80) hS dX2_readClause_75 (by decide) (fun k2 => ?_) (fun k2 => ?_)
                · exact fin C s2 g6 (by rw [if_pos y5]; exact f7) (p5.trans f8) (by omega) dc.2.2.2.1 (Or.inr (dc.2.2.2.2 []))
                · exact absurd k2 (by decide)
              ·
                refine J_if_ne (tgt := 80) hS dX2_readClause_75 (by decide) (fun k2 => ?_) (fun k2 => ?_)
                · exact absurd rfl k2
                ·
                  refine J_iconst (v := 0) hS dX2_readClause_78 (by decide) ?_
                  refine J_zret hS hZ hr dX2_readClause_79 (by decide) (by omega) (by omega) ?_
                  have pb := p5.bad f8
                  exact q0 e g6 (clR_b2 hw hk12 f3 (by rw [if_pos y5]; exact f7)) (fk4.trans pb.1.frK) pb.2.2.1 pb.2.2.2.1
          · exact absurd k1 (by decide)
        ·
          refine J_if_ne (tgt := 50) hS dX2_readClause_45 (by decide) (fun k1 => ?_) (fun k1 => ?_)
          · exact absurd rfl k1
          ·
            refine J_iconst (v := 0) hS dX2_readClause_48 (by decide) ?_
            refine J_zret hS hZ hr dX2_readClause_49 (by decide) (by omega) (by omega) ?_
            exact q0 e g3 (clR_b1 hw hk12 f3) (fk2.trans f4.1.frK) f4.2.2.1 f4.2.2.2.1
      · have hk12 : 12 ≤ k := by
          rcases Nat.lt_or_ge k 12 with z | z
          · exact absurd (nI_lt z (by decide)) c2
          · exact z
        refine J_aload_n hS dX2_readClause_22 rfl ?_
        refine J_iconst (v := 3) hS dX2_readClause_23 (by decide) ?_
        refine J_callV1 (X' := fun _ _ => False) hS dX2_readClause_24 mvX2_78 ob155 rfl (by first | decide | omega) (by decide) (Nat.le_of_ble_eq_true rfl) ⟨Nat.le_trans (by decide) hR.1, Nat.le_trans (by decide) hR.2⟩ (fun _ _ q => q.elim) (c_refuse ?_)
        refine J_zret hS hZ hr dX2_readClause_27 (by decide) (by omega) (by omega) ?_
        have pb := hC.bad (k := 3) hL hp.2.1 (by omega)
        refine q0 (3, s) _ ?_ pb.1.frK pb.2.2.1 pb.2.2.2.1
        unfold clR
        rw [hw]
        dsimp only
        rw [if_pos hk12]
    · exact absurd c1 (nI_nem1 (by omega))
  ·
    refine J_istore_n (lt := fun w2 => [some (.ref 155), some (.int (nI k)), some (.int w2)]) hS dX2_readClause_4 (Nat.le_of_ble_eq_true rfl) (fun _ => rfl) (fun w2 ew2 => ?_)
    refine J_iload_n hS dX2_readClause_5 rfl ?_
    refine J_iconst (v := (-1)) hS dX2_readClause_6 (by decide) ?_
    rw [show w2 = -1 from ew2]
    show J S 0 0 g 7 [some (.ref 155), some (.int (nI k)), some (.int (-1))] [.int (-1), .int (-1)]
    refine J_icmp_ne (tgt := 16) hS dX2_readClause_7 (by decide) (fun c1 => ?_) (fun c1 => ?_)
    · exact absurd rfl c1
    ·
      refine J_aload_n hS dX2_readClause_10 rfl ?_
      refine J_iconst (v := 1) hS dX2_readClause_11 (by decide) ?_
      refine J_callV1 (X' := fun _ _ => False) hS dX2_readClause_12 mvX2_78 ob155 rfl (by first | decide | omega) (by decide) (Nat.le_of_ble_eq_true rfl) ⟨Nat.le_trans (by decide) hR.1, Nat.le_trans (by decide) hR.2⟩ (fun _ _ q => q.elim) (c_refuse ?_)
      refine J_zret hS hZ hr dX2_readClause_15 (by decide) (by omega) (by omega) ?_
      have pb := hC.bad (k := 1) hL hp.2.1 (by omega)
      refine q0 (1, s) _ ?_ pb.1.frK pb.2.2.1 pb.2.2.2.1
      unfold clR
      rw [hw]
end RdY


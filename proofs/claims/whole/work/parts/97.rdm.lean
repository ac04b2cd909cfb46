/-! THE REFERENCE'S READER: small methods -/
def SzM (T : Wr) (n k : Nat) (g : Mm) : Prop := g 162 5 = nI n ∧ n ≤ 300 ∧ g 176 = T ∧ g 162 11 = nI k ∧ k < 6
/-- ahead of the token at s, c codes written, d more may be opened -/
def RdM (T : Wr) (n k : Nat) (g : Mm) (c d s : Nat) : Prop := SzM T n k g ∧ g 162 7 = -1 ∧ (d ≤ 6 ∧ g 162 9 = nI (6 - d)) ∧ g 162 10 = nI c ∧ c ≤ s ∧ s ≤ n ∧ ∃ p, p ≤ n ∧ g 162 6 = nI p ∧ skp T n p = s
/-- the place alone has moved -/
def FrH (g g' : Mm) : Prop := (∀ z, z ≠ 162 → g' z = g z) ∧ ∀ j, j ≠ 6 → g' 162 j = g 162 j
theorem FrH.refl {g : Mm} : FrH g g := ⟨fun _ _ => rfl, fun _ _ => rfl⟩
theorem FrH.trans {g g1 g2 : Mm} (a : FrH g g1) (b : FrH g1 g2) : FrH g g2 := ⟨fun z hz => (b.1 z hz).trans (a.1 z hz), fun j hj => (b.2 j hj).trans (a.2 j hj)⟩
theorem FrH_u {g : Mm} {v : Int32} : FrH g (u2 g 162 6 v) := ⟨fun z hz => u2_ne z hz, fun j hj => by rw [u2_at, if_neg hj]⟩
theorem RdM.mv {T : Wr} {n k : Nat} {g g' : Mm} {c d s s' p : Nat} (h : RdM T n k g c d s) (e : FrH g g') (hp : p ≤ n) (ep : g' 162 6 = nI p) (es : skp T n p = s') (hs : s ≤ s') : RdM T n k g' c d s' := by
  obtain ⟨⟨h1, h2, h3, h4, h5⟩, h6, h7, h8, h9, h10, -⟩ := h
  exact ⟨⟨by rw [e.2 5 (by decide)]; exact h1, h2, by rw [e.1 176 (by decide)]; exact h3, by rw [e.2 11 (by decide)]; exact h4, h5⟩, by rw [e.2 7 (by decide)]; exact h6, by rw [e.2 9 (by decide)]; exact h7, by rw [e.2 10 (by decide)]; exact h8, by omega, by rw [← es]; exact (skp_le (T := T)).2 hp, p, hp, ep, es⟩
/-- what a reader leaves alone -/
def FrP (k : Nat) (g g' : Mm) (c : Nat) : Prop := (∀ z, z ≠ 162 → z ≠ 182 → z ≠ 183 → g' z = g z) ∧ (∀ j, (j < 6 ∨ 10 < j) → g' 162 j = g 162 j) ∧ ∀ i, i < 300 * k + c → g' 182 i = g 182 i ∧ g' 183 i = g 183 i
theorem FrP.trans {k : Nat} {g g1 g2 : Mm} {c c' : Nat} (a : FrP k g g1 c) (b : FrP k g1 g2 c') (h : c ≤ c') : FrP k g g2 c := ⟨fun z h1 h2 h3 => (b.1 z h1 h2 h3).trans (a.1 z h1 h2 h3), fun j hj => (b.2.1 j hj).trans (a.2.1 j hj), fun i hi => ⟨(b.2.2 i (by omega)).1.trans (a.2.2 i hi).1, (b.2.2 i (by omega)).2.trans (a.2.2 i hi).2⟩⟩
theorem FrH.p {k c : Nat} {g g' : Mm} (a : FrH g g') : FrP k g g' c := ⟨fun z h1 _ _ => a.1 z h1, fun j hj => a.2 j (by omega), fun i _ => ⟨by rw [a.1 182 (by decide)], by rw [a.1 183 (by decide)]⟩⟩
theorem FrP_u {k c j : Nat} {g : Mm} {v : Int32} (h1 : 6 ≤ j) (h2 : j ≤ 10) : FrP k g (u2 g 162 j v) c := ⟨fun z hz _ _ => u2_ne z hz, fun i hi => by rw [u2_at, if_neg (by omega)], fun i _ => ⟨by rw [u2_ne 182 (by decide)], by rw [u2_ne 183 (by decide)]⟩⟩
def POM (T : Wr) (n k : Nat) (g g' : Mm) (c d : Nat) (L : List Tok) (s' : Nat) : Prop := FrP k g g' c ∧ RdM T n k g' (c + L.length) d s' ∧ CodM g' (300 * k + c) L
def PBM (k : Nat) (g g' : Mm) (c : Nat) (e : Nat × Nat) : Prop := FrP k g g' c ∧ e.2 ≤ 300 ∧ g' 162 7 = nI e.2 ∧ g' 162 8 = nI e.1
theorem PBM.bd {k : Nat} {g g' : Mm} {c : Nat} {e : Nat × Nat} (h : PBM k g g' c e) : ¬ g' 162 7 = -1 := by rw [h.2.2.1]; exact nI_nem1 (by have := h.2.1; omega)
/-- behind a fault only 'opens' moves -/
def FrO (g g' : Mm) : Prop := (∀ z, z ≠ 162 → g' z = g z) ∧ ∀ j, j ≠ 9 → g' 162 j = g 162 j
theorem FrO.refl {g : Mm} : FrO g g := ⟨fun _ _ => rfl, fun _ _ => rfl⟩
theorem FrO.trans {g g1 g2 : Mm} (a : FrO g g1) (b : FrO g1 g2) : FrO g g2 := ⟨fun z hz => (b.1 z hz).trans (a.1 z hz), fun j hj => (b.2 j hj).trans (a.2 j hj)⟩
theorem PBM.o {k : Nat} {g g1 g2 : Mm} {c : Nat} {e : Nat × Nat} (h : PBM k g g1 c e) (o : FrO g1 g2) : PBM k g g2 c e := ⟨⟨fun z h1 h2 h3 => (o.1 z h1).trans (h.1.1 z h1 h2 h3), fun j hj => (o.2 j (by omega)).trans (h.1.2.1 j hj), fun i hi => by rw [o.1 182 (by decide), o.1 183 (by decide)]; exact h.1.2.2 i hi⟩, h.2.1, by rw [o.2 7 (by decide)]; exact h.2.2.1, by rw [o.2 8 (by decide)]; exact h.2.2.2⟩
theorem POM.bad {T : Wr} {n k : Nat} {g g1 g2 : Mm} {c d s1 : Nat} {L : List Tok} {e : Nat × Nat} (a : POM T n k g g1 c d L s1) (b : PBM k g1 g2 (c + L.length) e) : PBM k g g2 c e := ⟨a.1.trans b.1 (by omega), b.2⟩
theorem CodM.lt {g g' : Mm} {i m : Nat} {l : List Tok} (hc : CodM g i l) (hb : i + l.length ≤ m) (e : ∀ j, j < m → g' 182 j = g 182 j ∧ g' 183 j = g 183 j) : CodM g' i l := by
  intro j t hj
  have hl := (List.getElem?_eq_some_iff.mp hj).1
  rw [(e (i + j) (by omega)).1, (e (i + j) (by omega)).2]
  exact hc j t hj
theorem CodM.app {g : Mm} {i : Nat} {l m : List Tok} (h1 : CodM g i l) (h2 : CodM g (i + l.length) m) : CodM g i (l ++ m) := by
  intro j t hj
  by_cases z : j < l.length
  · rw [List.getElem?_append_left z] at hj; exact h1 j t hj
  · rw [List.getElem?_append_right (by omega)] at hj
    have := h2 (j - l.length) t hj
    rw [show i + l.length + (j - l.length) = i + j by omega] at this; exact this
theorem POM.trans {T : Wr} {n k : Nat} {g g1 g2 : Mm} {c d d' s1 s2 : Nat} {L L2 : List Tok} (a : POM T n k g g1 c d L s1) (b : POM T n k g1 g2 (c + L.length) d' L2 s2) : POM T n k g g2 c d' (L ++ L2) s2 := by
  refine ⟨a.1.trans b.1 (by omega), ?_, ?_⟩
  · rw [List.length_append, ← Nat.add_assoc]; exact b.2.1
  · refine CodM.app (a.2.2.lt (m := 300 * k + (c + L.length)) (by omega) (fun j hj => b.1.2.2 j hj)) ?_
    have := b.2.2
    rw [← Nat.add_assoc] at this; exact this
theorem POM.nil {T : Wr} {n k : Nat} {g g1 : Mm} {c d s1 : Nat} (h : RdM T n k g1 c d s1) (e : FrP k g g1 c) : POM T n k g g1 c d [] s1 := ⟨e, h, fun j t hj => by cases hj⟩
section RdB
variable {l : Launch} {E : Ey} {g : Mm} {Q : Option Value → Mm → Prop} {X : String → Mm → Prop} {T : Wr} {n k : Nat}
theorem m_isDigit {x : Int32} (q : ∀ r : Int32, (r = 0 ∨ r = 1) → (r = 1 ↔ dgB x = true) → Q (some (.int r)) g) : Ct l E lay NC 0 0 0 yX8_isDigit [.int x] g Q X := by
  refine Ct_in k_yX8_isDigit (by decide) rfl (Nat.le_of_ble_eq_true rfl) rfl ?_
  intro S hS hZ hr ht hR
  show J S 0 0 (g) 0 [some (.int x)] []
  refine J_iload_n hS dX8_isDigit_0 rfl ?_
  refine J_bipush (v := 48) hS dX8_isDigit_1 (by decide) ?_
  refine J_icmp_lt (tgt := 16) hS dX8_isDigit_3 (by decide) (fun c1 => ?_) (fun c1 => ?_)
  ·
    refine J_iconst (v := 0) hS dX8_isDigit_16 (by decide) ?_
    refine J_zret hS hZ hr dX8_isDigit_17 (by decide) (by omega) (by omega) ?_
    exact q 0 (Or.inl rfl) ⟨fun z => absurd z (by decide), fun z => absurd (of_decide_eq_true z).1 (Int32.not_le.mpr c1)⟩
  ·
    refine J_iload_n hS dX8_isDigit_6 rfl ?_
    refine J_bipush (v := 57) hS dX8_isDigit_7 (by decide) ?_
    refine J_icmp_gt (tgt := 16) hS dX8_isDigit_9 (by decide) (fun c2 => ?_) (fun c2 => ?_)
    ·
      refine J_iconst (v := 0) hS dX8_isDigit_16 (by decide) ?_
      refine J_zret hS hZ hr dX8_isDigit_17 (by decide) (by omega) (by omega) ?_
      exact q 0 (Or.inl rfl) ⟨fun z => absurd z (by decide), fun z => absurd (of_decide_eq_true z).2 (Int32.not_le.mpr c2)⟩
    ·
      refine J_iconst (v := 1) hS dX8_isDigit_12 (by decide) ?_
      refine J_goto (tgt := 17) hS dX8_isDigit_13 (by decide) ?_
      refine J_zret hS hZ hr dX8_isDigit_17 (by decide) (by omega) (by omega) ?_
      exact q 1 (Or.inr rfl) ⟨fun _ => decide_eq_true ⟨Int32.not_lt.mp c1, Int32.not_lt.mp c2⟩, fun _ => rfl⟩
theorem m_isSmall {x : Int32} (q : ∀ r : Int32, (r = 0 ∨ r = 1) → (r = 1 ↔ ltB x = true) → Q (some (.int r)) g) : Ct l E lay NC 0 0 0 yX8_isSmall [.int x] g Q X := by
  refine Ct_in k_yX8_isSmall (by decide) rfl (Nat.le_of_ble_eq_true rfl) rfl ?_
  intro S hS hZ hr ht hR
  show J S 0 0 (g) 0 [some (.int x)] []
  refine J_iload_n hS dX8_isSmall_0 rfl ?_
  refine J_bipush (v := 97) hS dX8_isSmall_1 (by decide) ?_
  refine J_icmp_lt (tgt := 16) hS dX8_isSmall_3 (by decide) (fun c1 => ?_) (fun c1 => ?_)
  ·
    refine J_iconst (v := 0) hS dX8_isSmall_16 (by decide) ?_
    refine J_zret hS hZ hr dX8_isSmall_17 (by decide) (by omega) (by omega) ?_
    exact q 0 (Or.inl rfl) ⟨fun z => absurd z (by decide), fun z => absurd (of_decide_eq_true z).1 (Int32.not_le.mpr c1)⟩
  ·
    refine J_iload_n hS dX8_isSmall_6 rfl ?_
    refine J_bipush (v := 122) hS dX8_isSmall_7 (by decide) ?_
    refine J_icmp_gt (tgt := 16) hS dX8_isSmall_9 (by decide) (fun c2 => ?_) (fun c2 => ?_)
    ·
      refine J_iconst (v := 0) hS dX8_isSmall_16 (by decide) ?_
      refine J_zret hS hZ hr dX8_isSmall_17 (by decide) (by omega) (by omega) ?_
      exact q 0 (Or.inl rfl) ⟨fun z => absurd z (by decide), fun z => absurd (of_decide_eq_true z).2 (Int32.not_le.mpr c2)⟩
    ·
      refine J_iconst (v := 1) hS dX8_isSmall_12 (by decide) ?_
      refine J_goto (tgt := 17) hS dX8_isSmall_13 (by decide) ?_
      refine J_zret hS hZ hr dX8_isSmall_17 (by decide) (by omega) (by omega) ?_
      exact q 1 (Or.inr rfl) ⟨fun _ => decide_eq_true ⟨Int32.not_lt.mp c1, Int32.not_lt.mp c2⟩, fun _ => rfl⟩
theorem m_fineY (h : g 162 7 = -1) (q : Q (some (.int 1)) g) : Ct l E lay NC 0 0 0 yX8_fine [.ref 162] g Q X := by
  refine Ct_in k_yX8_fine (by decide) rfl (Nat.le_of_ble_eq_true rfl) rfl ?_
  intro S hS hZ hr ht hR
  show J S 0 0 (g) 0 [some (.ref 162)] []
  refine J_aload_n hS dX8_fine_0 rfl ?_
  refine J_getI hS dX8_fine_1 flX8_138 ob162 rfl ?_
  refine J_iconst (v := (-1)) hS dX8_fine_4 (by decide) ?_
  refine J_icmp_ne (tgt := 12) hS dX8_fine_5 (by decide) (fun c1 => ?_) (fun c1 => ?_)
  · exact absurd h c1
  ·
    refine J_iconst (v := 1) hS dX8_fine_8 (by decide) ?_
    refine J_goto (tgt := 13) hS dX8_fine_9 (by decide) ?_
    refine J_zret hS hZ hr dX8_fine_13 (by decide) (by omega) (by omega) ?_
    exact q
theorem m_fineN (h : ¬ g 162 7 = -1) (q : Q (some (.int 0)) g) : Ct l E lay NC 0 0 0 yX8_fine [.ref 162] g Q X := by
  refine Ct_in k_yX8_fine (by decide) rfl (Nat.le_of_ble_eq_true rfl) rfl ?_
  intro S hS hZ hr ht hR
  show J S 0 0 (g) 0 [some (.ref 162)] []
  refine J_aload_n hS dX8_fine_0 rfl ?_
  refine J_getI hS dX8_fine_1 flX8_138 ob162 rfl ?_
  refine J_iconst (v := (-1)) hS dX8_fine_4 (by decide) ?_
  refine J_icmp_ne (tgt := 12) hS dX8_fine_5 (by decide) (fun c1 => ?_) (fun c1 => ?_)
  ·
    refine J_iconst (v := 0) hS dX8_fine_12 (by decide) ?_
    refine J_zret hS hZ hr dX8_fine_13 (by decide) (by omega) (by omega) ?_
    exact q
  · exact absurd c1 h
theorem m_wrongY {a p : Int32} (h : g 162 7 = -1) (q : Q none (u2 (u2 g 162 7 p) 162 8 a)) : Ct l E lay NC 0 0 0 yX8_wrong [.ref 162, .int a, .int p] g Q X := by
  refine Ct_in k_yX8_wrong (by decide) rfl (Nat.le_of_ble_eq_true rfl) rfl ?_
  intro S hS hZ hr ht hR
  show J S 0 0 (g) 0 [some (.ref 162), some (.int a), some (.int p)] []
  refine J_aload_n hS dX8_wrong_0 rfl ?_
  refine J_getI hS dX8_wrong_1 flX8_138 ob162 rfl ?_
  refine J_iconst (v := (-1)) hS dX8_wrong_4 (by decide) ?_
  refine J_icmp_eq (tgt := 9) hS dX8_wrong_5 (by decide) (fun c1 => ?_) (fun c1 => ?_)
  ·
    refine J_aload_n hS dX8_wrong_9 rfl ?_
    refine J_iload_n hS dX8_wrong_10 rfl ?_
    refine J_putI hS dX8_wrong_11 fpX8_138 ob162 rfl (fun g11 eg11 => ?_)
    refine J_aload_n hS dX8_wrong_14 rfl ?_
    refine J_iload_n hS dX8_wrong_15 rfl ?_
    refine J_putI hS dX8_wrong_16 fpX8_141 ob162 rfl (fun g16 eg16 => ?_)
    refine J_vret hS hZ hr dX8_wrong_19 (by omega) (by omega) ?_
    rw [eg16, eg11]; exact q
  · exact absurd h c1
theorem m_wrongN {a p : Int32} (h : ¬ g 162 7 = -1) (q : Q none g) : Ct l E lay NC 0 0 0 yX8_wrong [.ref 162, .int a, .int p] g Q X := by
  refine Ct_in k_yX8_wrong (by decide) rfl (Nat.le_of_ble_eq_true rfl) rfl ?_
  intro S hS hZ hr ht hR
  show J S 0 0 (g) 0 [some (.ref 162), some (.int a), some (.int p)] []
  refine J_aload_n hS dX8_wrong_0 rfl ?_
  refine J_getI hS dX8_wrong_1 flX8_138 ob162 rfl ?_
  refine J_iconst (v := (-1)) hS dX8_wrong_4 (by decide) ?_
  refine J_icmp_eq (tgt := 9) hS dX8_wrong_5 (by decide) (fun c1 => ?_) (fun c1 => ?_)
  · exact absurd c1 h
  ·
    refine J_vret hS hZ hr dX8_wrong_8 (by omega) (by omega) ?_
    exact q
/-- a fault at s -/
theorem RdM.bad {c d s e : Nat} (h : RdM T n k g c d s) : PBM k g (u2 (u2 g 162 7 (nI s)) 162 8 (nI e)) c (e, s) := by
  have hs := h.2.2.2.2.2.1
  have hn := h.1.2.1
  refine ⟨(FrP_u (by decide) (by decide)).trans (FrP_u (by decide) (by decide)) (Nat.le_refl c), by show s ≤ 300; omega, ?_, u2_self⟩
  rw [u2_at, if_neg (by decide), u2_self]
set_option maxRecDepth 10000 in
theorem m_here {c d s : Nat} (h : RdM T n k g c d s) (q : ∀ g', FrH g g' → g' 162 6 = nI s → RdM T n k g' c d s → Q (some (.int (hv T n s))) g') : Ct l E lay NC 0 0 0 yX8_here [.ref 162] g Q X := by
  obtain ⟨⟨h1, h2, h3, h4, h5⟩, h6, h7, h8, h9, h10, p, hp, ep, es⟩ := id h
  refine Ct_in k_yX8_here (by decide) rfl (Nat.le_of_ble_eq_true rfl) rfl ?_
  intro S hS hZ hr ht hR
  show J S 0 0 (g) 0 [some (.ref 162)] []
  suffices H : ∀ (r p : Nat) (g1 : Mm), p + r = n → FrH g g1 → g1 162 6 = nI p → skp T n p = s → J S 0 0 g1 0 [some (.ref 162)] [] by
    exact H (n - p) p g (by omega) FrH.refl ep es
  have fin : ∀ g1 : Mm, FrH g g1 → g1 162 6 = nI s → J S 0 0 g1 38 [some (.ref 162)] [] := by
    intro g1 f1 e1
    have h' : RdM T n k g1 c d s := h.mv f1 h10 e1 (by rw [← es]; exact skp_at hp) (Nat.le_refl _)
    have e5 : g1 162 5 = nI n := h'.1.1
    have e176 : g1 176 = T := h'.1.2.2.1
    refine J_aload_n hS dX8_here_38 rfl ?_
    refine J_getI hS dX8_here_39 flX8_144 ob162 rfl ?_
    refine J_aload_n hS dX8_here_42 rfl ?_
    refine J_getI hS dX8_here_43 flX8_147 ob162 rfl ?_
    show J S 0 0 (g1) 46 [some (.ref 162)] [.int _, .int _]
    rw [e1, e5]
    have hq := q g1 f1 e1 h'
    unfold hv at hq
    refine J_icmp_ge (tgt := 61) hS dX8_here_46 (by decide) (fun c1 => ?_) (fun c1 => ?_)
    · rw [if_neg (fun z => absurd c1 (nI_ge z (by omega)))] at hq
      refine J_iconst (v := 0) hS dX8_here_61 (by decide) ?_
      refine J_iret hS hZ hr dX8_here_62 (by omega) (by omega) ?_
      exact hq
    · have hlt : s < n := Nat.lt_of_not_le (fun z => c1 (nI_le z (by omega)))
      rw [if_pos hlt] at hq
      refine J_aload_n hS dX8_here_49 rfl ?_
      refine J_getR (t := 176) hS dX8_here_50 flX8_26 ob162 rfl ?_
      refine J_aload_n hS dX8_here_53 rfl ?_
      refine J_getI hS dX8_here_54 flX8_144 ob162 rfl ?_
      refine J_ialdN hS (s) dX8_here_57 (show Ar lay NC .int 176 300 from arM 13 300 (by decide) (by decide) rfl) e1 (by omega) (by decide) ?_
      show J S 0 0 (g1) 58 [some (.ref 162)] [.int _]
      rw [e176]
      refine J_goto (tgt := 62) hS dX8_here_58 (by decide) ?_
      refine J_iret hS hZ hr dX8_here_62 (by omega) (by omega) ?_
      exact hq
  intro r
  induction r with
  | zero =>
    intro p g1 hpr f1 e1 e2
    have e : p = n := by omega
    subst e
    have es' : s = p := by rw [← e2]; unfold skp; rw [Nat.sub_self]; rfl
    refine J_aload_n hS dX8_here_0 rfl ?_
    refine J_getI hS dX8_here_1 flX8_144 ob162 rfl ?_
    refine J_aload_n hS dX8_here_4 rfl ?_
    refine J_getI hS dX8_here_5 flX8_147 ob162 rfl ?_
    show J S 0 0 (g1) 8 [some (.ref 162)] [.int _, .int _]
    rw [e1, f1.2 5 (by decide), h1]
    refine J_icmp_ge (tgt := 38) hS dX8_here_8 (by decide) (fun c1 => ?_) (fun c1 => ?_)
    · exact fin g1 f1 (by rw [es']; exact e1)
    · exact absurd (Int32.le_refl _) c1
  | succ r ih =>
    intro p g1 hpr f1 e1 e2
    have hpn : p < n := by omega
    refine J_aload_n hS dX8_here_0 rfl ?_
    refine J_getI hS dX8_here_1 flX8_144 ob162 rfl ?_
    refine J_aload_n hS dX8_here_4 rfl ?_
    refine J_getI hS dX8_here_5 flX8_147 ob162 rfl ?_
    show J S 0 0 (g1) 8 [some (.ref 162)] [.int _, .int _]
    rw [e1, f1.2 5 (by decide), h1]
    refine J_icmp_ge (tgt := 38) hS dX8_here_8 (by decide) (fun c1 => ?_) (fun c1 => ?_)
    · exact absurd c1 (nI_ge hpn (by omega))
    · have e2' : (if spB (T p) = true then whR spB T (p + 1) r else p) = s := by
        rw [← e2]; unfold skp; rw [show n - p = r + 1 by omega]; rfl
      refine J_aload_n hS dX8_here_11 rfl ?_
      refine J_getR (t := 176) hS dX8_here_12 flX8_26 ob162 rfl ?_
      refine J_aload_n hS dX8_here_15 rfl ?_
      refine J_getI hS dX8_here_16 flX8_144 ob162 rfl ?_
      refine J_ialdN hS (p) dX8_here_19 (show Ar lay NC .int 176 300 from arM 13 300 (by decide) (by decide) rfl) e1 (by omega) (by decide) ?_
      refine J_bipush (v := 32) hS dX8_here_20 (by decide) ?_
      show J S 0 0 (g1) 22 [some (.ref 162)] [.int 32, .int _]
      rw [f1.1 176 (by decide), h3]
      refine J_icmp_ne (tgt := 38) hS dX8_here_22 (by decide) (fun c2 => ?_) (fun c2 => ?_)
      · rw [if_neg (show ¬ spB (T p) = true from fun z => c2 (of_decide_eq_true z))] at e2'
        exact fin g1 f1 (by rw [← e2']; exact e1)
      · rw [if_pos (show spB (T p) = true from decide_eq_true c2)] at e2'
        refine J_aload_n hS dX8_here_25 rfl ?_
        refine J_dup hS dX8_here_26 rfl ?_
        refine J_getI hS dX8_here_27 flX8_144 ob162 rfl ?_
        refine J_iconst (v := 1) hS dX8_here_30 (by decide) ?_
        refine J_iadd hS dX8_here_31 ?_
        show J S 0 0 (g1) 32 [some (.ref 162)] [.int _, .ref 162]
        rw [e1, nI_1]
        refine J_putI hS dX8_here_32 fpX8_144 ob162 rfl (fun g32 eg32 => ?_)
        refine J_goto (tgt := 0) hS dX8_here_35 (by decide) ?_
        refine ih (p + 1) g32 (by omega) (by rw [eg32]; exact f1.trans FrH_u) (by rw [eg32, u2_self]) ?_
        unfold skp; rw [show n - (p + 1) = r by omega]; exact e2'
set_option maxRecDepth 10000 in
theorem m_word {c d s : Nat} (h : RdM T n k g c d s) (q : ∀ g', FrH g g' → g' 162 6 = nI s → RdM T n k g' c d s → Q (some (.int (nI (wcN T n s)))) g') : Ct l E lay NC 1 0 0 yX8_word [.ref 162] g Q X := by
  refine Ct_in k_yX8_word (by decide) rfl (Nat.le_of_ble_eq_true rfl) rfl ?_
  intro S hS hZ hr ht hR
  show J S 0 0 (g) 0 [some (.ref 162), none, none, none] []
  refine J_aload_n hS dX8_word_0 rfl ?_
  refine J_callV0 (X' := fun _ _ => False) hS dX8_word_1 mvX8_150 ob162 rfl (by first | decide | omega) (by decide) (Nat.le_of_ble_eq_true rfl) ⟨Nat.le_trans (by decide) hR.1, Nat.le_trans (by decide) hR.2⟩ (fun _ _ q => q.elim) (m_here h (fun g1 f1 e1 r1 => ?_))
  refine J_pop hS dX8_word_4 rfl ?_
  refine J_iconst (v := 0) hS dX8_word_5 (by decide) ?_
  refine J_istore_n (lt := fun v1 => [some (.ref 162), some (.int v1), none, none]) hS dX8_word_6 (Nat.le_of_ble_eq_true rfl) (fun _ => rfl) (fun v1 ev1 => ?_)
  refine J_iconst (v := 0) hS dX8_word_7 (by decide) ?_
  refine J_istore_n (lt := fun n2 => [some (.ref 162), some (.int v1), some (.int n2), none]) hS dX8_word_8 (Nat.le_of_ble_eq_true rfl) (fun _ => rfl) (fun n2 en2 => ?_)
  refine J_aload_n hS dX8_word_9 rfl ?_
  refine J_getI hS dX8_word_10 flX8_144 ob162 rfl ?_
  refine J_istore_n (lt := fun k3 => [some (.ref 162), some (.int v1), some (.int n2), some (.int k3)]) hS dX8_word_13 (Nat.le_of_ble_eq_true rfl) (fun _ => rfl) (fun k3 ek3 => ?_)
  have hq := q g1 f1 e1 r1
  have hn3 := r1.1.2.1
  have e5 := r1.1.1
  have e176 := r1.1.2.2.1
  have hsn := r1.2.2.2.2.2.1
  obtain ⟨f, hf⟩ : ∃ f : Nat → Nat, f = fun j => cd (T (s + j)) := ⟨_, rfl⟩
  unfold wcN at hq
  rw [← hf] at hq
  suffices H : ∀ (r m : Nat) (v cnt p : Int32), s + m + r = n → p = nI (s + m) → cnt = nI m → (∀ j, j < m → ltB (T (s + j)) = true) → (m ≤ 6 → v = nI (enL f m)) → whR ltB T (s + m) r = whR ltB T s (n - s) → J S 0 0 g1 14 [some (.ref 162), some (.int v), some (.int cnt), some (.int p)] [] by
    exact H (n - s) 0 v1 n2 k3 (by omega) (by rw [ek3]; exact e1) en2 (fun j hj => absurd hj (by omega)) (fun _ => ev1) rfl
  have fin : ∀ (m : Nat) (v : Int32) (p : Int32), s + m ≤ n → (m ≤ 6 → v = nI (enL f m)) → s + m = whR ltB T s (n - s) → J S 0 0 g1 67 [some (.ref 162), some (.int v), some (.int (nI m)), some (.int p)] [] := by
    intro m v p hmn hv he
    rw [← he, show s + m - s = m by omega] at hq
    refine J_iload_n hS dX8_word_67 rfl ?_
    refine J_bipush (v := 6) hS dX8_word_68 (by decide) ?_
    refine J_icmp_le (tgt := 77) hS dX8_word_70 (by decide) (fun c1 => ?_) (fun c1 => ?_)
    · have m6 : m ≤ 6 := (nI_leI (by omega) (by decide)).mp c1
      rw [if_pos m6, ← hv m6] at hq
      refine J_iload_n hS dX8_word_77 rfl ?_
      refine J_iret hS hZ hr dX8_word_78 (by omega) (by omega) ?_
      exact hq
    · rw [if_neg (fun z => c1 (nI_le z (by decide)))] at hq
      refine J_iconst (v := 0) hS dX8_word_73 (by decide) ?_
      refine J_goto (tgt := 78) hS dX8_word_74 (by decide) ?_
      refine J_iret hS hZ hr dX8_word_78 (by omega) (by omega) ?_
      exact hq
  intro r
  induction r with
  | zero =>
    intro m v cnt p hr hp hc hlt hv he
    subst hp; subst hc
    refine J_iload_n hS dX8_word_14 rfl ?_
    refine J_aload_n hS dX8_word_15 rfl ?_
    refine J_getI hS dX8_word_16 flX8_147 ob162 rfl ?_
    show J S 0 0 (g1) 19 [some (.ref 162), some (.int v), some (.int (nI m)), some (.int (nI (s + m)))] [.int _, .int (nI (s + m))]
    rw [e5]
    refine J_icmp_ge (tgt := 67) hS dX8_word_19 (by decide) (fun c1 => ?_) (fun c1 => ?_)
    · exact fin m v _ (by omega) hv he
    · exact absurd (nI_le (show n ≤ s + m by omega) (by omega)) c1
  | succ r ih =>
    intro m v cnt p hr hp hc hlt hv he
    subst hp; subst hc
    have he' : (if ltB (T (s + m)) = true then whR ltB T (s + m + 1) r else s + m) = whR ltB T s (n - s) := he
    refine J_iload_n hS dX8_word_14 rfl ?_
    refine J_aload_n hS dX8_word_15 rfl ?_
    refine J_getI hS dX8_word_16 flX8_147 ob162 rfl ?_
    show J S 0 0 (g1) 19 [some (.ref 162), some (.int v), some (.int (nI m)), some (.int (nI (s + m)))] [.int _, .int (nI (s + m))]
    rw [e5]
    refine J_icmp_ge (tgt := 67) hS dX8_word_19 (by decide) (fun c1 => ?_) (fun c1 => ?_)
    · exact absurd c1 (nI_ge (show s + m < n by omega) (by omega))
    ·
      refine J_aload_n hS dX8_word_22 rfl ?_
      refine J_getR (t := 176) hS dX8_word_23 flX8_26 ob162 rfl ?_
      refine J_iload_n hS dX8_word_26 rfl ?_
      refine J_ialdN hS (s + m) dX8_word_27 (show Ar lay NC .int 176 300 from arM 13 300 (by decide) (by decide) rfl) (by first | rfl | (simp only [n0, n1, n2, n3, n4, n5, n6, n7, n8, n9, n10, n11, n12, n13, n14, n15, n16, n17, n18, n19, n20, n24, n32, n56, n60, n64, n72, n99, n100, n128, n136, n142, n144, n200, n300, n999, n1000, n1500, n3464, nI_add, pk_mul] <;> first | rfl | (congr 1; omega))) (by omega) (by decide) ?_
      show J S 0 0 (g1) 28 [some (.ref 162), some (.int v), some (.int (nI m)), some (.int (nI (s + m)))] [.int _]
      rw [e176]
      refine J_callS1 (X' := fun _ _ => False) hS dX8_word_28 msX8_154 rfl (by first | decide | omega) (by decide) (Nat.le_of_ble_eq_true rfl) ⟨Nat.le_trans (by decide) hR.1, Nat.le_trans (by decide) hR.2⟩ (fun _ _ q => q.elim) (m_isSmall (fun r1' t1 u1 => ?_))
      refine J_if_eq (tgt := 67) hS dX8_word_31 (by decide) (fun c2 => ?_) (fun c2 => ?_)
      · rw [if_neg (fun z => by rw [u1.mpr z] at c2; exact absurd c2 (by decide))] at he'
        exact fin m v _ (by omega) hv he'
      · have hl : ltB (T (s + m)) = true := u1.mp (t1.resolve_left c2)
        rw [if_pos hl] at he'
        have hlt' : ∀ j, j < m + 1 → ltB (T (s + j)) = true := by
          intro j hj
          by_cases z : j = m
          · subst z; exact hl
          · exact hlt j (by omega)
        have aft : ∀ x : Int32, (m + 1 ≤ 6 → x = nI (enL f (m + 1))) → J S 0 0 g1 57 [some (.ref 162), some (.int v), some (.int (nI m)), some (.int (nI (s + m)))] [.int x] := by
          intro x hx
          refine J_istore_n (lt := fun v2 => [some (.ref 162), some (.int v2), some (.int (nI m)), some (.int (nI (s + m)))]) hS dX8_word_57 (Nat.le_of_ble_eq_true rfl) (fun _ => rfl) (fun v2 ev2 => ?_)
          refine J_iinc (lt := fun c2' => [some (.ref 162), some (.int v2), some (.int c2'), some (.int (nI (s + m)))]) (v := 1) hS dX8_word_58 rfl (by decide) (fun _ => rfl) (fun c2' ec2' => ?_)
          refine J_iinc (lt := fun p2 => [some (.ref 162), some (.int v2), some (.int c2'), some (.int p2)]) (v := 1) hS dX8_word_61 rfl (by decide) (fun _ => rfl) (fun p2 ep2 => ?_)
          refine J_goto (tgt := 14) hS dX8_word_64 (by decide) ?_
          exact ih (m + 1) v2 c2' p2 (by omega) (by rw [ep2]; exact nI_1 (s + m)) (by rw [ec2']; exact nI_1 m) hlt' (fun z => by rw [ev2]; exact hx z) (by rw [← he', Nat.add_assoc])
        refine J_iload_n hS dX8_word_34 rfl ?_
        refine J_bipush (v := 6) hS dX8_word_35 (by decide) ?_
        refine J_icmp_ge (tgt := 56) hS dX8_word_37 (by decide) (fun c3 => ?_) (fun c3 => ?_)
        ·
          refine J_iconst (v := 0) hS dX8_word_56 (by decide) ?_
          refine aft 0 (fun z => ?_)
          exact absurd c3 (nI_ge (show m < 6 by omega) (by decide))
        · have hm6 : m < 6 := Nat.lt_of_not_le (fun z => c3 (nI_le z (by omega)))
          have ev := hv (by omega)
          refine J_iload_n hS dX8_word_40 rfl ?_
          refine J_iconst (v := 5) hS dX8_word_41 (by decide) ?_
          refine J_ishl hS dX8_word_42 ?_
          refine J_aload_n hS dX8_word_43 rfl ?_
          refine J_getR (t := 176) hS dX8_word_44 flX8_26 ob162 rfl ?_
          refine J_iload_n hS dX8_word_47 rfl ?_
          refine J_ialdN hS (s + m) dX8_word_48 (show Ar lay NC .int 176 300 from arM 13 300 (by decide) (by decide) rfl) (by first | rfl | (simp only [n0, n1, n2, n3, n4, n5, n6, n7, n8, n9, n10, n11, n12, n13, n14, n15, n16, n17, n18, n19, n20, n24, n32, n56, n60, n64, n72, n99, n100, n128, n136, n142, n144, n200, n300, n999, n1000, n1500, n3464, nI_add, pk_mul] <;> first | rfl | (congr 1; omega))) (by omega) (by decide) ?_
          refine J_bipush (v := 96) hS dX8_word_49 (by decide) ?_
          refine J_isub hS dX8_word_51 ?_
          show J S 0 0 (g1) 52 [some (.ref 162), some (.int v), some (.int (nI m)), some (.int (nI (s + m)))] [.int _, .int _]
          rw [e176, ev]
          refine J_ior hS dX8_word_52 ?_
          refine J_goto (tgt := 57) hS dX8_word_53 (by decide) ?_
          have hb : enL f m < 2 ^ 25 := by
            have := enL_lt (f := f) (m := m) (fun j hj => by rw [hf]; exact (cd_ok (hlt j hj)).2)
            have h2 : 32 ^ m ≤ 32 ^ 5 := Nat.pow_le_pow_right (by decide) (by omega)
            have : (32 : Nat) ^ 5 = 2 ^ 25 := by decide
            omega
          rw [en_step hb hl, show 32 * enL f m + cd (T (s + m)) = enL f (m + 1) by rw [hf]; rfl]
          rw [ev] at aft
          exact aft _ (fun _ => rfl)
set_option maxRecDepth 10000 in
theorem m_pass {c d s : Nat} (h : RdM T n k g c d s) (ep : g 162 6 = nI s) (q : ∀ g', FrH g g' → g' 162 6 = nI (whR ltB T s (n - s)) → Q none g') : Ct l E lay NC 1 0 0 yX8_pass [.ref 162] g Q X := by
  have hn3 := h.1.2.1
  have e5 := h.1.1
  have e176 := h.1.2.2.1
  have hsn := h.2.2.2.2.2.1
  refine Ct_in k_yX8_pass (by decide) rfl (Nat.le_of_ble_eq_true rfl) rfl ?_
  intro S hS hZ hr ht hR
  show J S 0 0 (g) 0 [some (.ref 162)] []
  suffices H : ∀ (r p : Nat) (g1 : Mm), p + r = n → FrH g g1 → g1 162 6 = nI p → whR ltB T p r = whR ltB T s (n - s) → J S 0 0 g1 0 [some (.ref 162)] [] by
    exact H (n - s) s g (by omega) FrH.refl ep rfl
  intro r
  induction r with
  | zero =>
    intro p g1 hpr f1 e1 e2
    refine J_aload_n hS dX8_pass_0 rfl ?_
    refine J_getI hS dX8_pass_1 flX8_144 ob162 rfl ?_
    refine J_aload_n hS dX8_pass_4 rfl ?_
    refine J_getI hS dX8_pass_5 flX8_147 ob162 rfl ?_
    show J S 0 0 (g1) 8 [some (.ref 162)] [.int _, .int _]
    rw [e1, f1.2 5 (by decide), e5]
    refine J_icmp_ge (tgt := 39) hS dX8_pass_8 (by decide) (fun c1 => ?_) (fun c1 => ?_)
    ·
      refine J_vret hS hZ hr dX8_pass_39 (by omega) (by omega) ?_
      exact q g1 f1 (by rw [← e2]; exact e1)
    · exact absurd (nI_le (show n ≤ p by omega) (by omega)) c1
  | succ r ih =>
    intro p g1 hpr f1 e1 e2
    have e2' : (if ltB (T p) = true then whR ltB T (p + 1) r else p) = whR ltB T s (n - s) := e2
    refine J_aload_n hS dX8_pass_0 rfl ?_
    refine J_getI hS dX8_pass_1 flX8_144 ob162 rfl ?_
    refine J_aload_n hS dX8_pass_4 rfl ?_
    refine J_getI hS dX8_pass_5 flX8_147 ob162 rfl ?_
    show J S 0 0 (g1) 8 [some (.ref 162)] [.int _, .int _]
    rw [e1, f1.2 5 (by decide), e5]
    refine J_icmp_ge (tgt := 39) hS dX8_pass_8 (by decide) (fun c1 => ?_) (fun c1 => ?_)
    · exact absurd c1 (nI_ge (show p < n by omega) (by omega))
    ·
      refine J_aload_n hS dX8_pass_11 rfl ?_
      refine J_getR (t := 176) hS dX8_pass_12 flX8_26 ob162 rfl ?_
      refine J_aload_n hS dX8_pass_15 rfl ?_
      refine J_getI hS dX8_pass_16 flX8_144 ob162 rfl ?_
      refine J_ialdN hS (p) dX8_pass_19 (show Ar lay NC .int 176 300 from arM 13 300 (by decide) (by decide) rfl) e1 (by omega) (by decide) ?_
      show J S 0 0 (g1) 20 [some (.ref 162)] [.int _]
      rw [f1.1 176 (by decide), e176]
      refine J_callS1 (X' := fun _ _ => False) hS dX8_pass_20 msX8_154 rfl (by first | decide | omega) (by decide) (Nat.le_of_ble_eq_true rfl) ⟨Nat.le_trans (by decide) hR.1, Nat.le_trans (by decide) hR.2⟩ (fun _ _ q => q.elim) (m_isSmall (fun r1 t1 u1 => ?_))
      refine J_if_eq (tgt := 39) hS dX8_pass_23 (by decide) (fun c2 => ?_) (fun c2 => ?_)
      · rw [if_neg (fun z => by rw [u1.mpr z] at c2; exact absurd c2 (by decide))] at e2'
        refine J_vret hS hZ hr dX8_pass_39 (by omega) (by omega) ?_
        exact q g1 f1 (by rw [← e2']; exact e1)
      · rw [if_pos (u1.mp (t1.resolve_left c2))] at e2'
        refine J_aload_n hS dX8_pass_26 rfl ?_
        refine J_dup hS dX8_pass_27 rfl ?_
        refine J_getI hS dX8_pass_28 flX8_144 ob162 rfl ?_
        refine J_iconst (v := 1) hS dX8_pass_31 (by decide) ?_
        refine J_iadd hS dX8_pass_32 ?_
        show J S 0 0 (g1) 33 [some (.ref 162)] [.int _, .ref 162]
        rw [e1, nI_1]
        refine J_putI hS dX8_pass_33 fpX8_144 ob162 rfl (fun g33 eg33 => ?_)
        refine J_goto (tgt := 0) hS dX8_pass_36 (by decide) ?_
        exact ih (p + 1) g33 (by omega) (by rw [eg33]; exact f1.trans FrH_u) (by rw [eg33, u2_self]) e2'
/-- the word at s is passed -/
theorem m_passW {c d s i : Nat} (h : RdM T n k g c d s) (ep : g 162 6 = nI s) (hi : isW T n s i = true) (q : ∀ g', FrH g g' → RdM T n k g' c d (nx T n s) → Q none g') : Ct l E lay NC 1 0 0 yX8_pass [.ref 162] g Q X := by
  have hsn := h.2.2.2.2.2.1
  refine m_pass h ep (fun g' f1 e1 => q g' f1 ?_)
  rw [← isW_E hi] at e1
  have := tkE_le (T := T) hsn
  exact h.mv f1 this.2.1 e1 rfl (nx_le (T := T) hsn).1
end RdB


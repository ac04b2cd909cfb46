/-! THE REFERENCE'S READER: signs, codes, numbers -/
theorem nbR_eq (T : Wr) (p r : Nat) (v : Int32) : nbR T p (r + 1) v = if dgB (T p) = true then nbR T (p + 1) r (if v ≤ 999 then v * 10 + T p - 48 else v) else v := rfl
theorem dg_nI {x : Int32} (h : dgB x = true) : ∃ m : Nat, m ≤ 9 ∧ x = nI (48 + m) := by
  have h' := of_decide_eq_true h
  obtain ⟨n, h1, h2⟩ := nI_ofNonneg (Int32.le_trans (by decide) h'.1)
  subst h2
  have a : 48 ≤ n := (nI_leI (by decide) h1).mp h'.1
  have b : n ≤ 57 := (nI_leI h1 (by decide)).mp h'.2
  exact ⟨n - 48, by omega, by congr 1; omega⟩
section RdC2
variable {l : Launch} {E : Ey} {g : Mm} {Q : Option Value → Mm → Prop} {X : String → Mm → Prop} {T : Wr} {n k : Nat}
/-- a sign that is there is passed -/
theorem RdM.pass1 {g' : Mm} {c d s : Nat} {x : Int32} (h : RdM T n k g c d s) (hx : isC T n s x = true) (e : FrH g g') (ep : g' 162 6 = nI (s + 1)) : RdM T n k g' c d (nx T n s) := by
  have hs := isC_lt hx
  refine h.mv e (show s + 1 ≤ n by omega) ep ?_ (nx_le (T := T) (show s ≤ n by omega)).1
  unfold nx; rw [isC_E hx]
theorem m_needN {x : Int32} (h : ¬ g 162 7 = -1) (q : Q none g) : Ct l E lay NC 1 0 0 yX8_need [.ref 162, .int x] g Q X := by
  refine Ct_in k_yX8_need (by decide) rfl (Nat.le_of_ble_eq_true rfl) rfl ?_
  intro S hS hZ hr ht hR
  show J S 0 0 (g) 0 [some (.ref 162), some (.int x)] []
  refine J_aload_n hS dX8_need_0 rfl ?_
  refine J_callV0 (X' := fun _ _ => False) hS dX8_need_1 mvX8_164 ob162 rfl (by first | decide | omega) (by decide) (Nat.le_of_ble_eq_true rfl) ⟨Nat.le_trans (by decide) hR.1, Nat.le_trans (by decide) hR.2⟩ (fun _ _ q => q.elim) (m_fineN h ?_)
  refine J_if_eq (tgt := 24) hS dX8_need_4 (by decide) (fun c1 => ?_) (fun c1 => ?_)
  ·
    refine J_aload_n hS dX8_need_24 rfl ?_
    refine J_callV0 (X' := fun _ _ => False) hS dX8_need_25 mvX8_164 ob162 rfl (by first | decide | omega) (by decide) (Nat.le_of_ble_eq_true rfl) ⟨Nat.le_trans (by decide) hR.1, Nat.le_trans (by decide) hR.2⟩ (fun _ _ q => q.elim) (m_fineN h ?_)
    refine J_if_eq (tgt := 41) hS dX8_need_28 (by decide) (fun c2 => ?_) (fun c2 => ?_)
    ·
      refine J_vret hS hZ hr dX8_need_41 (by omega) (by omega) ?_
      exact q
    · exact absurd rfl c2
  · exact absurd rfl c1
theorem m_need {c d s : Nat} {x : Int32} (h : RdM T n k g c d s) (x0 : ¬ x = 0) (x1 : dgB x = false) (x2 : ltB x = false) (q1 : ∀ g', psC T n x s = .inr ([], nx T n s) → POM T n k g g' c d [] (nx T n s) → Q none g') (q0 : ∀ g', psC T n x s = .inl (1, s) → PBM k g g' c (1, s) → Q none g') : Ct l E lay NC 1 0 0 yX8_need [.ref 162, .int x] g Q X := by
  have hv1 := isC_hv (T := T) (n := n) (s := s) x0 x1 x2
  refine Ct_in k_yX8_need (by decide) rfl (Nat.le_of_ble_eq_true rfl) rfl ?_
  intro S hS hZ hr ht hR
  show J S 0 0 (g) 0 [some (.ref 162), some (.int x)] []
  refine J_aload_n hS dX8_need_0 rfl ?_
  refine J_callV0 (X' := fun _ _ => False) hS dX8_need_1 mvX8_164 ob162 rfl (by first | decide | omega) (by decide) (Nat.le_of_ble_eq_true rfl) ⟨Nat.le_trans (by decide) hR.1, Nat.le_trans (by decide) hR.2⟩ (fun _ _ q => q.elim) (m_fineY h.2.1 ?_)
  refine J_if_eq (tgt := 24) hS dX8_need_4 (by decide) (fun c1 => ?_) (fun c1 => ?_)
  · exact absurd c1 (by decide)
  ·
    refine J_aload_n hS dX8_need_7 rfl ?_
    refine J_callV0 (X' := fun _ _ => False) hS dX8_need_8 mvX8_150 ob162 rfl (by first | decide | omega) (by decide) (Nat.le_of_ble_eq_true rfl) ⟨Nat.le_trans (by decide) hR.1, Nat.le_trans (by decide) hR.2⟩ (fun _ _ q => q.elim) (m_here h (fun g1 f1 e1 r1 => ?_))
    refine J_iload_n hS dX8_need_11 rfl ?_
    refine J_icmp_eq (tgt := 24) hS dX8_need_12 (by decide) (fun c2 => ?_) (fun c2 => ?_)
    · have hx := hv1.mpr c2
      refine J_aload_n hS dX8_need_24 rfl ?_
      refine J_callV0 (X' := fun _ _ => False) hS dX8_need_25 mvX8_164 ob162 rfl (by first | decide | omega) (by decide) (Nat.le_of_ble_eq_true rfl) ⟨Nat.le_trans (by decide) hR.1, Nat.le_trans (by decide) hR.2⟩ (fun _ _ q => q.elim) (m_fineY r1.2.1 ?_)
      refine J_if_eq (tgt := 41) hS dX8_need_28 (by decide) (fun c3 => ?_) (fun c3 => ?_)
      · exact absurd c3 (by decide)
      ·
        refine J_aload_n hS dX8_need_31 rfl ?_
        refine J_dup hS dX8_need_32 rfl ?_
        refine J_getI hS dX8_need_33 flX8_144 ob162 rfl ?_
        refine J_iconst (v := 1) hS dX8_need_36 (by decide) ?_
        refine J_iadd hS dX8_need_37 ?_
        show J S 0 0 (g1) 38 [some (.ref 162), some (.int x)] [.int _, .ref 162]
        rw [e1, nI_1]
        refine J_putI hS dX8_need_38 fpX8_144 ob162 rfl (fun g38 eg38 => ?_)
        refine J_vret hS hZ hr dX8_need_41 (by omega) (by omega) ?_
        have fr : FrH g g38 := by rw [eg38]; exact f1.trans FrH_u
        refine q1 g38 (by unfold psC; rw [if_pos hx]) (POM.nil (h.pass1 hx fr (by rw [eg38, u2_self])) fr.p)
    · have hx : ¬ isC T n s x = true := fun z => c2 (hv1.mp z)
      refine J_aload_n hS dX8_need_15 rfl ?_
      refine J_iconst (v := 1) hS dX8_need_16 (by decide) ?_
      refine J_aload_n hS dX8_need_17 rfl ?_
      refine J_getI hS dX8_need_18 flX8_144 ob162 rfl ?_
      show J S 0 0 (g1) 21 [some (.ref 162), some (.int x)] [.int _, .int 1, .ref 162]
      rw [e1]
      refine J_callV2 (X' := fun _ _ => False) hS dX8_need_21 mvX8_160 ob162 rfl (by first | decide | omega) (by decide) (Nat.le_of_ble_eq_true rfl) ⟨Nat.le_trans (by decide) hR.1, Nat.le_trans (by decide) hR.2⟩ (fun _ _ q => q.elim) (m_wrongY r1.2.1 ?_)
      have b := r1.bad (e := 1)
      obtain ⟨g2, eg2⟩ : ∃ g2, g2 = u2 (u2 g1 162 7 (nI s)) 162 8 1 := ⟨_, rfl⟩
      rw [← eg2]
      rw [show (nI 1 : Int32) = 1 from rfl, ← eg2] at b
      refine J_aload_n hS dX8_need_24 rfl ?_
      refine J_callV0 (X' := fun _ _ => False) hS dX8_need_25 mvX8_164 ob162 rfl (by first | decide | omega) (by decide) (Nat.le_of_ble_eq_true rfl) ⟨Nat.le_trans (by decide) hR.1, Nat.le_trans (by decide) hR.2⟩ (fun _ _ q => q.elim) (m_fineN b.bd ?_)
      refine J_if_eq (tgt := 41) hS dX8_need_28 (by decide) (fun c3 => ?_) (fun c3 => ?_)
      ·
        refine J_vret hS hZ hr dX8_need_41 (by omega) (by omega) ?_
        exact q0 g2 (by unfold psC; rw [if_neg hx]) ⟨(f1.p (k := k) (c := c)).trans b.1 (Nat.le_refl _), b.2⟩
      · exact absurd rfl c3
theorem m_closesN {x : Int32} (h : ¬ g 162 7 = -1) (q : ∀ g', FrO g g' → Q none g') : Ct l E lay NC 2 0 0 yX8_closesAt [.ref 162, .int x] g Q X := by
  refine Ct_in k_yX8_closesAt (by decide) rfl (Nat.le_of_ble_eq_true rfl) rfl ?_
  intro S hS hZ hr ht hR
  show J S 0 0 (g) 0 [some (.ref 162), some (.int x)] []
  refine J_aload_n hS dX8_closesAt_0 rfl ?_
  refine J_iload_n hS dX8_closesAt_1 rfl ?_
  refine J_callV1 (X' := fun _ _ => False) hS dX8_closesAt_2 mvX8_177 ob162 rfl (by first | decide | omega) (by decide) (Nat.le_of_ble_eq_true rfl) ⟨Nat.le_trans (by decide) hR.1, Nat.le_trans (by decide) hR.2⟩ (fun _ _ q => q.elim) (m_needN h ?_)
  refine J_aload_n hS dX8_closesAt_5 rfl ?_
  refine J_dup hS dX8_closesAt_6 rfl ?_
  refine J_getI hS dX8_closesAt_7 flX8_174 ob162 rfl ?_
  refine J_iconst (v := 1) hS dX8_closesAt_10 (by decide) ?_
  refine J_isub hS dX8_closesAt_11 ?_
  refine J_putI hS dX8_closesAt_12 fpX8_174 ob162 rfl (fun g12 eg12 => ?_)
  refine J_vret hS hZ hr dX8_closesAt_15 (by omega) (by omega) ?_
  exact q g12 (by rw [eg12]; exact ⟨fun z hz => u2_ne z hz, fun j hj => by rw [u2_at, if_neg hj]⟩)
theorem m_closes {c d s : Nat} {x : Int32} (h : RdM T n k g c d s) (hd : d < 6) (x0 : ¬ x = 0) (x1 : dgB x = false) (x2 : ltB x = false) (q1 : ∀ g', psC T n x s = .inr ([], nx T n s) → POM T n k g g' c (d + 1) [] (nx T n s) → Q none g') (q0 : ∀ g', psC T n x s = .inl (1, s) → PBM k g g' c (1, s) → Q none g') : Ct l E lay NC 2 0 0 yX8_closesAt [.ref 162, .int x] g Q X := by
  refine Ct_in k_yX8_closesAt (by decide) rfl (Nat.le_of_ble_eq_true rfl) rfl ?_
  intro S hS hZ hr ht hR
  show J S 0 0 (g) 0 [some (.ref 162), some (.int x)] []
  refine J_aload_n hS dX8_closesAt_0 rfl ?_
  refine J_iload_n hS dX8_closesAt_1 rfl ?_
  refine J_callV1 (X' := fun _ _ => False) hS dX8_closesAt_2 mvX8_177 ob162 rfl (by first | decide | omega) (by decide) (Nat.le_of_ble_eq_true rfl) ⟨Nat.le_trans (by decide) hR.1, Nat.le_trans (by decide) hR.2⟩ (fun _ _ q => q.elim) (m_need h x0 x1 x2 (fun g1 e1 p1 => ?_) (fun g1 e1 p1 => ?_))
  ·
    obtain ⟨f1, r1, -⟩ := p1
    have r1 : RdM T n k g1 c d (nx T n s) := r1
    have e9 := r1.2.2.1.2
    refine J_aload_n hS dX8_closesAt_5 rfl ?_
    refine J_dup hS dX8_closesAt_6 rfl ?_
    refine J_getI hS dX8_closesAt_7 flX8_174 ob162 rfl ?_
    refine J_iconst (v := 1) hS dX8_closesAt_10 (by decide) ?_
    refine J_isub hS dX8_closesAt_11 ?_
    show J S 0 0 (g1) 12 [some (.ref 162), some (.int x)] [.int _, .ref 162]
    rw [e9, show nI (6 - d) - 1 = nI (6 - (d + 1)) by
      have := nI_add (6 - (d + 1)) 1
      rw [show 6 - (d + 1) + 1 = 6 - d by omega] at this
      rw [← this]; show nI (6 - (d + 1)) + 1 - 1 = _; rw [Int32.add_sub_cancel]]
    refine J_putI hS dX8_closesAt_12 fpX8_174 ob162 rfl (fun g12 eg12 => ?_)
    refine J_vret hS hZ hr dX8_closesAt_15 (by omega) (by omega) ?_
    refine q1 g12 e1 (POM.nil ?_ (f1.trans (by rw [eg12]; exact FrP_u (by decide) (by decide)) (Nat.le_refl _)))
    obtain ⟨⟨h1, h2, h3, h4, h5⟩, h6, h7, h8, h9, h10, p, hp, ep, es⟩ := r1
    rw [eg12]
    exact ⟨⟨by rw [u2_at, if_neg (by decide)]; exact h1, h2, by rw [u2_ne 176 (by decide)]; exact h3, by rw [u2_at, if_neg (by decide)]; exact h4, h5⟩, by rw [u2_at, if_neg (by decide)]; exact h6, ⟨by omega, u2_self⟩, by rw [u2_at, if_neg (by decide)]; exact h8, h9, h10, p, hp, by rw [u2_at, if_neg (by decide)]; exact ep, es⟩
  ·
    refine J_aload_n hS dX8_closesAt_5 rfl ?_
    refine J_dup hS dX8_closesAt_6 rfl ?_
    refine J_getI hS dX8_closesAt_7 flX8_174 ob162 rfl ?_
    refine J_iconst (v := 1) hS dX8_closesAt_10 (by decide) ?_
    refine J_isub hS dX8_closesAt_11 ?_
    refine J_putI hS dX8_closesAt_12 fpX8_174 ob162 rfl (fun g12 eg12 => ?_)
    refine J_vret hS hZ hr dX8_closesAt_15 (by omega) (by omega) ?_
    exact q0 g12 e1 (p1.o (by rw [eg12]; exact ⟨fun z hz => u2_ne z hz, fun j hj => by rw [u2_at, if_neg hj]⟩))
theorem m_emitN {a v : Int32} (h : ¬ g 162 7 = -1) (q : Q none g) : Ct l E lay NC 1 0 0 yX8_emit [.ref 162, .int a, .int v] g Q X := by
  refine Ct_in k_yX8_emit (by decide) rfl (Nat.le_of_ble_eq_true rfl) rfl ?_
  intro S hS hZ hr ht hR
  show J S 0 0 (g) 0 [some (.ref 162), some (.int a), some (.int v)] []
  refine J_aload_n hS dX8_emit_0 rfl ?_
  refine J_callV0 (X' := fun _ _ => False) hS dX8_emit_1 mvX8_164 ob162 rfl (by first | decide | omega) (by decide) (Nat.le_of_ble_eq_true rfl) ⟨Nat.le_trans (by decide) hR.1, Nat.le_trans (by decide) hR.2⟩ (fun _ _ q => q.elim) (m_fineN h ?_)
  refine J_if_ne (tgt := 8) hS dX8_emit_4 (by decide) (fun c1 => ?_) (fun c1 => ?_)
  · exact absurd rfl c1
  ·
    refine J_vret hS hZ hr dX8_emit_7 (by omega) (by omega) ?_
    exact q
set_option maxRecDepth 10000 in
theorem m_emit {g0 : Mm} {c d s : Nat} {L : List Tok} {t : Tok} {a v : Int32} (h : POM T n k g0 g c d L s) (ha : a = nI t.1) (hv : v = t.2) (hlt : c + L.length < s) (q : ∀ g', POM T n k g0 g' c d (L ++ [t]) s → (∀ z, z ≠ 162 → z ≠ 182 → z ≠ 183 → g' z = g z) → Q none g') : Ct l E lay NC 1 0 0 yX8_emit [.ref 162, .int a, .int v] g Q X := by
  obtain ⟨f0, r0, k0⟩ := h
  obtain ⟨⟨h1, h2, h3, h4, h5⟩, h6, h7, h8, h9, h10, p, hp, ep, es⟩ := r0
  refine Ct_in k_yX8_emit (by decide) rfl (Nat.le_of_ble_eq_true rfl) rfl ?_
  intro S hS hZ hr ht hR
  show J S 0 0 (g) 0 [some (.ref 162), some (.int a), some (.int v)] []
  refine J_aload_n hS dX8_emit_0 rfl ?_
  refine J_callV0 (X' := fun _ _ => False) hS dX8_emit_1 mvX8_164 ob162 rfl (by first | decide | omega) (by decide) (Nat.le_of_ble_eq_true rfl) ⟨Nat.le_trans (by decide) hR.1, Nat.le_trans (by decide) hR.2⟩ (fun _ _ q => q.elim) (m_fineY h6 ?_)
  refine J_if_ne (tgt := 8) hS dX8_emit_4 (by decide) (fun c1 => ?_) (fun c1 => ?_)
  ·
    refine J_aload_n hS dX8_emit_8 rfl ?_
    refine J_getR (t := 182) hS dX8_emit_9 flX8_44 ob162 rfl ?_
    refine J_sipush (v := 300) hS dX8_emit_12 (by decide) ?_
    refine J_aload_n hS dX8_emit_15 rfl ?_
    refine J_getI hS dX8_emit_16 flX8_168 ob162 rfl ?_
    refine J_imul hS dX8_emit_19 ?_
    refine J_aload_n hS dX8_emit_20 rfl ?_
    refine J_getI hS dX8_emit_21 flX8_171 ob162 rfl ?_
    refine J_iadd hS dX8_emit_24 ?_
    show J S 0 0 (g) 25 [some (.ref 162), some (.int a), some (.int v)] [.int _, .ref (182)]
    rw [h4, h8, n300, pk_mul, nI_add]
    refine J_iload_n hS dX8_emit_25 rfl ?_
    refine J_iastN hS (300 * k + (c + L.length)) dX8_emit_26 (show Ar lay NC .int 182 1800 from arM 19 1800 (by decide) (by decide) rfl) (by first | rfl | (simp only [n0, n1, n2, n3, n4, n5, n6, n7, n8, n9, n10, n11, n12, n13, n14, n15, n16, n17, n18, n19, n20, n24, n32, n56, n60, n64, n72, n99, n100, n128, n136, n142, n144, n200, n300, n999, n1000, n1500, n3464, nI_add, pk_mul] <;> first | rfl | (congr 1; omega))) (by omega) (by decide) (fun g26 eg26 => ?_)
    refine J_aload_n hS dX8_emit_27 rfl ?_
    refine J_getR (t := 183) hS dX8_emit_28 flX8_47 ob162 rfl ?_
    refine J_sipush (v := 300) hS dX8_emit_31 (by decide) ?_
    refine J_aload_n hS dX8_emit_34 rfl ?_
    refine J_getI hS dX8_emit_35 flX8_168 ob162 rfl ?_
    refine J_imul hS dX8_emit_38 ?_
    refine J_aload_n hS dX8_emit_39 rfl ?_
    refine J_getI hS dX8_emit_40 flX8_171 ob162 rfl ?_
    refine J_iadd hS dX8_emit_43 ?_
    show J S 0 0 (g26) 44 [some (.ref 162), some (.int a), some (.int v)] [.int _, .ref (183)]
    rw [show g26 162 11 = nI k by rw [eg26, u2_ne 162 (by decide)]; exact h4, show g26 162 10 = nI (c + L.length) by rw [eg26, u2_ne 162 (by decide)]; exact h8, n300, pk_mul, nI_add]
    refine J_iload_n hS dX8_emit_44 rfl ?_
    refine J_iastN hS (300 * k + (c + L.length)) dX8_emit_45 (show Ar lay NC .int 183 1800 from arM 20 1800 (by decide) (by decide) rfl) (by first | rfl | (simp only [n0, n1, n2, n3, n4, n5, n6, n7, n8, n9, n10, n11, n12, n13, n14, n15, n16, n17, n18, n19, n20, n24, n32, n56, n60, n64, n72, n99, n100, n128, n136, n142, n144, n200, n300, n999, n1000, n1500, n3464, nI_add, pk_mul] <;> first | rfl | (congr 1; omega))) (by omega) (by decide) (fun g45 eg45 => ?_)
    refine J_aload_n hS dX8_emit_46 rfl ?_
    refine J_dup hS dX8_emit_47 rfl ?_
    refine J_getI hS dX8_emit_48 flX8_171 ob162 rfl ?_
    refine J_iconst (v := 1) hS dX8_emit_51 (by decide) ?_
    refine J_iadd hS dX8_emit_52 ?_
    show J S 0 0 (g45) 53 [some (.ref 162), some (.int a), some (.int v)] [.int _, .ref 162]
    rw [show g45 162 10 = nI (c + L.length) by rw [eg45, u2_ne 162 (by decide), eg26, u2_ne 162 (by decide)]; exact h8, nI_1]
    refine J_putI hS dX8_emit_53 fpX8_171 ob162 rfl (fun g53 eg53 => ?_)
    refine J_vret hS hZ hr dX8_emit_56 (by omega) (by omega) ?_
    have o : ∀ z, z ≠ 162 → z ≠ 182 → z ≠ 183 → g53 z = g z := fun z z1 z2 z3 => by rw [eg53, u2_ne z z1, eg45, u2_ne z z3, eg26, u2_ne z z2]
    have oj : ∀ j, j ≠ 10 → g53 162 j = g 162 j := fun j hj => by rw [eg53, u2_at, if_neg hj, eg45, u2_ne 162 (by decide), eg26, u2_ne 162 (by decide)]
    have o82 : ∀ i, g53 182 i = if i = 300 * k + (c + L.length) then a else g 182 i := fun i => by rw [eg53, u2_ne 182 (by decide), eg45, u2_ne 182 (by decide), eg26, u2_at]
    have o83 : ∀ i, g53 183 i = if i = 300 * k + (c + L.length) then v else g 183 i := fun i => by rw [eg53, u2_ne 183 (by decide), eg45, u2_at, eg26, u2_ne 183 (by decide)]
    refine q g53 ⟨?_, ?_, ?_⟩ o
    · refine f0.trans (c' := c + L.length) ⟨o, fun j hj => oj j (by omega), fun i hi => ⟨by rw [o82, if_neg (by omega)], by rw [o83, if_neg (by omega)]⟩⟩ (by omega)
    · refine ⟨⟨by rw [oj 5 (by decide)]; exact h1, h2, by rw [o 176 (by decide) (by decide) (by decide)]; exact h3, by rw [oj 11 (by decide)]; exact h4, h5⟩, by rw [oj 7 (by decide)]; exact h6, by rw [oj 9 (by decide)]; exact h7, ?_, ?_, h10, p, hp, by rw [oj 6 (by decide)]; exact ep, es⟩
      · rw [eg53, u2_self, List.length_append]; rfl
      · simp only [List.length_append, List.length_cons, List.length_nil]; omega
    · refine CodM.app (k0.lt (m := 300 * k + (c + L.length)) (by omega) (fun j hj => ⟨by rw [o82, if_neg (by omega)], by rw [o83, if_neg (by omega)]⟩)) ?_
      intro j t' hj
      cases j with
      | zero =>
        cases hj
        rw [o82, o83, if_pos (by omega), if_pos (by omega)]
        exact ⟨ha, fun _ => hv⟩
      | succ j => cases hj
  · exact absurd c1 (by decide)
theorem m_name {s : Nat} (q : ∀ w, fcN T n s = some w → Q (some (.int (nI (w + 1)))) g) (q' : fcN T n s = none → Q (some (.int (-1))) g) : Ct l E lay NC 0 0 0 yX8_name [.int (nI (wcN T n s))] g Q X := by
  refine Ct_in k_yX8_name (by decide) rfl (Nat.le_of_ble_eq_true rfl) rfl ?_
  intro S hS hZ hr ht hR
  show J S 0 0 (g) 0 [some (.int (nI (wcN T n s)))] []
  have w7 := wcI (T := T) (n := n) (s := s) (i := 7) (W := 1253) (by decide) rfl
  have w8 := wcI (T := T) (n := n) (s := s) (i := 8) (W := 21239365) (by decide) rfl
  have w9 := wcI (T := T) (n := n) (s := s) (i := 9) (W := 19176724) (by decide) rfl
  have wa := wcI (T := T) (n := n) (s := s) (i := 10) (W := 20201198) (by decide) rfl
  have wb := wcI (T := T) (n := n) (s := s) (i := 11) (W := 777297172) (by decide) rfl
  have wc := wcI (T := T) (n := n) (s := s) (i := 12) (W := 21016947) (by decide) rfl
  have fin : ∀ v : Int32, Q (some (.int v)) g → J S 0 0 g 63 [some (.int (nI (wcN T n s)))] [.int v] := by
    intro v hq
    refine J_iret hS hZ hr dX8_name_63 (by omega) (by omega) ?_
    exact hq
  unfold fcN at q q'
  refine J_iload_n hS dX8_name_0 rfl ?_
  refine J_sipush (v := 1253) hS dX8_name_1 (by decide) ?_
  refine J_icmp_ne (tgt := 11) hS dX8_name_4 (by decide) (fun c1 => ?_) (fun c1 => ?_)
  · rw [w7] at c1
    rw [if_neg c1] at q q'
    refine J_iload_n hS dX8_name_11 rfl ?_
    refine J_ldc hS dX8_name_12 ctX8_181 ?_
    refine J_icmp_ne (tgt := 21) hS dX8_name_14 (by decide) (fun c2 => ?_) (fun c2 => ?_)
    · rw [w8] at c2
      rw [if_neg c2] at q q'
      refine J_iload_n hS dX8_name_21 rfl ?_
      refine J_ldc hS dX8_name_22 ctX8_182 ?_
      refine J_icmp_ne (tgt := 31) hS dX8_name_24 (by decide) (fun c3 => ?_) (fun c3 => ?_)
      · rw [w9] at c3
        rw [if_neg c3] at q q'
        refine J_iload_n hS dX8_name_31 rfl ?_
        refine J_ldc hS dX8_name_32 ctX8_183 ?_
        refine J_icmp_ne (tgt := 41) hS dX8_name_34 (by decide) (fun c4 => ?_) (fun c4 => ?_)
        · rw [wa] at c4
          rw [if_neg c4] at q q'
          refine J_iload_n hS dX8_name_41 rfl ?_
          refine J_ldc hS dX8_name_42 ctX8_184 ?_
          refine J_icmp_ne (tgt := 51) hS dX8_name_44 (by decide) (fun c5 => ?_) (fun c5 => ?_)
          · rw [wb] at c5
            rw [if_neg c5] at q q'
            refine J_iload_n hS dX8_name_51 rfl ?_
            refine J_ldc hS dX8_name_52 ctX8_185 ?_
            refine J_icmp_ne (tgt := 62) hS dX8_name_54 (by decide) (fun c6 => ?_) (fun c6 => ?_)
            · rw [wc] at c6
              rw [if_neg c6] at q q'
              refine J_iconst (v := (-1)) hS dX8_name_62 (by decide) ?_
              exact fin _ (q' rfl)
            · rw [wc] at c6
              rw [if_pos c6] at q
              refine J_bipush (v := 6) hS dX8_name_57 (by decide) ?_
              refine J_goto (tgt := 63) hS dX8_name_59 (by decide) ?_
              exact fin _ (q 5 rfl)
          · rw [wb] at c5
            rw [if_pos c5] at q
            refine J_iconst (v := 5) hS dX8_name_47 (by decide) ?_
            refine J_goto (tgt := 63) hS dX8_name_48 (by decide) ?_
            exact fin _ (q 4 rfl)
        · rw [wa] at c4
          rw [if_pos c4] at q
          refine J_iconst (v := 4) hS dX8_name_37 (by decide) ?_
          refine J_goto (tgt := 63) hS dX8_name_38 (by decide) ?_
          exact fin _ (q 3 rfl)
      · rw [w9] at c3
        rw [if_pos c3] at q
        refine J_iconst (v := 3) hS dX8_name_27 (by decide) ?_
        refine J_goto (tgt := 63) hS dX8_name_28 (by decide) ?_
        exact fin _ (q 2 rfl)
    · rw [w8] at c2
      rw [if_pos c2] at q
      refine J_iconst (v := 2) hS dX8_name_17 (by decide) ?_
      refine J_goto (tgt := 63) hS dX8_name_18 (by decide) ?_
      exact fin _ (q 1 rfl)
  · rw [w7] at c1
    rw [if_pos c1] at q
    refine J_iconst (v := 1) hS dX8_name_7 (by decide) ?_
    refine J_goto (tgt := 63) hS dX8_name_8 (by decide) ?_
    exact fin _ (q 0 rfl)
set_option maxRecDepth 10000 in
theorem m_readNumber {c d s : Nat} (h : RdM T n k g c d s) (ep : g 162 6 = nI s) (h1 : tkK T n s = 1) (q1 : ∀ g', ¬ 999 < tkN T n s → FrH g g' → RdM T n k g' c d (nx T n s) → Q (some (.int (tkN T n s))) g') (q0 : ∀ g' v, 999 < tkN T n s → PBM k g g' c (2, s) → Q (some (.int v)) g') : Ct l E lay NC 1 0 0 yX8_readNumber [.ref 162] g Q X := by
  obtain ⟨hs, hd0, hE⟩ := dg_E h1
  have hn3 := h.1.2.1
  have e5 := h.1.1
  have e176 := h.1.2.2.1
  have hsn := h.2.2.2.2.2.1
  refine Ct_in k_yX8_readNumber (by decide) rfl (Nat.le_of_ble_eq_true rfl) rfl ?_
  intro S hS hZ hr ht hR
  show J S 0 0 (g) 0 [some (.ref 162), none, none] []
  refine J_aload_n hS dX8_readNumber_0 rfl ?_
  refine J_getI hS dX8_readNumber_1 flX8_144 ob162 rfl ?_
  refine J_istore_n (lt := fun x1 => [some (.ref 162), some (.int x1), none]) hS dX8_readNumber_4 (Nat.le_of_ble_eq_true rfl) (fun _ => rfl) (fun x1 ex1 => ?_)
  refine J_iconst (v := 0) hS dX8_readNumber_5 (by decide) ?_
  refine J_istore_n (lt := fun x2 => [some (.ref 162), some (.int x1), some (.int x2)]) hS dX8_readNumber_6 (Nat.le_of_ble_eq_true rfl) (fun _ => rfl) (fun x2 ex2 => ?_)
  rw [show x1 = nI s by rw [ex1]; exact ep]
  suffices H : ∀ (r p a b : Nat) (v : Int32) (g1 : Mm), p + r = n → FrH g g1 → g1 162 6 = nI p → a ≤ 10000 → b ≤ 10000 → v = nI a → (a ≤ 999 → b = a) → (999 < a → 999 < b) → whR dgB T p r = whR dgB T s (n - s) → nbR T p r (nI b) = tkN T n s → J S 0 0 g1 7 [some (.ref 162), some (.int (nI s)), some (.int v)] [] by
    exact H (n - s) s 0 0 x2 g (by omega) FrH.refl ep (by decide) (by decide) ex2 (fun _ => rfl) (fun z => absurd z (by decide)) rfl rfl
  have fin : ∀ (p a b : Nat) (v : Int32) (g1 : Mm), FrH g g1 → g1 162 6 = nI p → a ≤ 10000 → b ≤ 10000 → v = nI a → (a ≤ 999 → b = a) → (999 < a → 999 < b) → p = whR dgB T s (n - s) → nI b = tkN T n s → J S 0 0 g1 77 [some (.ref 162), some (.int (nI s)), some (.int v)] [] := by
    intro p a b v g1 f1 e1 ha hb hv hab hab' hp hbt
    subst hv
    refine J_iload_n hS dX8_readNumber_77 rfl ?_
    refine J_sipush (v := 999) hS dX8_readNumber_78 (by decide) ?_
    refine J_icmp_le (tgt := 90) hS dX8_readNumber_81 (by decide) (fun c1 => ?_) (fun c1 => ?_)
    · have a9 : a ≤ 999 := (nI_leI (by omega) (by decide)).mp c1
      have eb := hab a9
      subst eb
      refine J_iload_n hS dX8_readNumber_90 rfl ?_
      refine J_iret hS hZ hr dX8_readNumber_91 (by omega) (by omega) ?_
      rw [hbt]
      refine q1 g1 (by rw [← hbt]; exact Int32.not_lt.mpr c1) f1 ?_
      refine h.mv f1 (show tkE T n s ≤ n from (tkE_le (T := T) hsn).2.1) (by rw [hE, ← hp]; exact e1) rfl (nx_le (T := T) hsn).1
    · have a9 : 999 < a := Nat.lt_of_not_le (fun z => c1 (nI_le z (by decide)))
      have r1 : RdM T n k g1 c d (nx T n s) := h.mv f1 (show tkE T n s ≤ n from (tkE_le (T := T) hsn).2.1) (by rw [hE, ← hp]; exact e1) rfl (nx_le (T := T) hsn).1
      refine J_aload_n hS dX8_readNumber_84 rfl ?_
      refine J_iconst (v := 2) hS dX8_readNumber_85 (by decide) ?_
      refine J_iload_n hS dX8_readNumber_86 rfl ?_
      refine J_callV2 (X' := fun _ _ => False) hS dX8_readNumber_87 mvX8_160 ob162 rfl (by first | decide | omega) (by decide) (Nat.le_of_ble_eq_true rfl) ⟨Nat.le_trans (by decide) hR.1, Nat.le_trans (by decide) hR.2⟩ (fun _ _ q => q.elim) (m_wrongY r1.2.1 ?_)
      refine J_iload_n hS dX8_readNumber_90 rfl ?_
      refine J_iret hS hZ hr dX8_readNumber_91 (by omega) (by omega) ?_
      refine q0 _ _ (by rw [← hbt]; exact nI_lt (a := 999) (hab' a9) (by omega)) ?_
      refine ⟨(f1.p (k := k) (c := c)).trans ((FrP_u (by decide) (by decide)).trans (FrP_u (by decide) (by decide)) (Nat.le_refl c)) (Nat.le_refl _), by show s ≤ 300; omega, ?_, u2_self⟩
      rw [u2_at, if_neg (by decide), u2_self]
  intro r
  induction r with
  | zero =>
    intro p a b v g1 hpr f1 e1 ha hb hv hab hab' hw hn
    refine J_aload_n hS dX8_readNumber_7 rfl ?_
    refine J_getI hS dX8_readNumber_8 flX8_144 ob162 rfl ?_
    refine J_aload_n hS dX8_readNumber_11 rfl ?_
    refine J_getI hS dX8_readNumber_12 flX8_147 ob162 rfl ?_
    show J S 0 0 (g1) 15 [some (.ref 162), some (.int (nI s)), some (.int v)] [.int _, .int _]
    rw [e1, f1.2 5 (by decide), e5]
    refine J_icmp_ge (tgt := 77) hS dX8_readNumber_15 (by decide) (fun c1 => ?_) (fun c1 => ?_)
    · exact fin p a b v g1 f1 e1 ha hb hv hab hab' hw hn
    · exact absurd (nI_le (show n ≤ p by omega) (by omega)) c1
  | succ r ih =>
    intro p a b v g1 hpr f1 e1 ha hb hv hab hab' hw hn
    have hw' : (if dgB (T p) = true then whR dgB T (p + 1) r else p) = whR dgB T s (n - s) := hw
    rw [nbR_eq] at hn
    refine J_aload_n hS dX8_readNumber_7 rfl ?_
    refine J_getI hS dX8_readNumber_8 flX8_144 ob162 rfl ?_
    refine J_aload_n hS dX8_readNumber_11 rfl ?_
    refine J_getI hS dX8_readNumber_12 flX8_147 ob162 rfl ?_
    show J S 0 0 (g1) 15 [some (.ref 162), some (.int (nI s)), some (.int v)] [.int _, .int _]
    rw [e1, f1.2 5 (by decide), e5]
    refine J_icmp_ge (tgt := 77) hS dX8_readNumber_15 (by decide) (fun c1 => ?_) (fun c1 => ?_)
    · exact absurd c1 (nI_ge (show p < n by omega) (by omega))
    ·
      refine J_aload_n hS dX8_readNumber_18 rfl ?_
      refine J_getR (t := 176) hS dX8_readNumber_19 flX8_26 ob162 rfl ?_
      refine J_aload_n hS dX8_readNumber_22 rfl ?_
      refine J_getI hS dX8_readNumber_23 flX8_144 ob162 rfl ?_
      refine J_ialdN hS (p) dX8_readNumber_26 (show Ar lay NC .int 176 300 from arM 13 300 (by decide) (by decide) rfl) e1 (by omega) (by decide) ?_
      show J S 0 0 (g1) 27 [some (.ref 162), some (.int (nI s)), some (.int v)] [.int _]
      rw [f1.1 176 (by decide), e176]
      refine J_callS1 (X' := fun _ _ => False) hS dX8_readNumber_27 msX8_157 rfl (by first | decide | omega) (by decide) (Nat.le_of_ble_eq_true rfl) ⟨Nat.le_trans (by decide) hR.1, Nat.le_trans (by decide) hR.2⟩ (fun _ _ q => q.elim) (m_isDigit (fun r1 t1 u1 => ?_))
      refine J_if_eq (tgt := 77) hS dX8_readNumber_30 (by decide) (fun c2 => ?_) (fun c2 => ?_)
      · have nd : ¬ dgB (T p) = true := fun z => by rw [u1.mpr z] at c2; exact absurd c2 (by decide)
        rw [if_neg nd] at hw' hn
        exact fin p a b v g1 f1 e1 ha hb hv hab hab' hw' hn
      · have yd : dgB (T p) = true := u1.mp (t1.resolve_left c2)
        rw [if_pos yd] at hw' hn
        obtain ⟨m, hm, em⟩ := dg_nI yd
        have aft : ∀ (a' b' : Nat), a' ≤ 10000 → b' ≤ 10000 → (a' ≤ 999 → b' = a') → (999 < a' → 999 < b') → nbR T (p + 1) r (nI b') = tkN T n s → J S 0 0 g1 63 [some (.ref 162), some (.int (nI s)), some (.int v)] [.int (nI a')] := by
          intro a' b' h1 h2 h3 h4 h5
          refine J_istore_n (lt := fun v2 => [some (.ref 162), some (.int (nI s)), some (.int v2)]) hS dX8_readNumber_63 (Nat.le_of_ble_eq_true rfl) (fun _ => rfl) (fun v2 ev2 => ?_)
          refine J_aload_n hS dX8_readNumber_64 rfl ?_
          refine J_dup hS dX8_readNumber_65 rfl ?_
          refine J_getI hS dX8_readNumber_66 flX8_144 ob162 rfl ?_
          refine J_iconst (v := 1) hS dX8_readNumber_69 (by decide) ?_
          refine J_iadd hS dX8_readNumber_70 ?_
          show J S 0 0 (g1) 71 [some (.ref 162), some (.int (nI s)), some (.int v2)] [.int _, .ref 162]
          rw [e1, nI_1]
          refine J_putI hS dX8_readNumber_71 fpX8_144 ob162 rfl (fun g71 eg71 => ?_)
          refine J_goto (tgt := 7) hS dX8_readNumber_74 (by decide) ?_
          exact ih (p + 1) a' b' v2 g71 (by omega) (by rw [eg71]; exact f1.trans FrH_u) (by rw [eg71, u2_self]) h1 h2 ev2 h3 h4 hw' h5
        have sub : ∀ z : Nat, nI (10 * z) + nI (48 + m) - 48 = nI (10 * z + m) := by
          intro z
          rw [nI_add, show 10 * z + (48 + m) = (10 * z + m) + 48 by omega, ← nI_add]
          show nI (10 * z + m) + 48 - 48 = _
          rw [Int32.add_sub_cancel]
        subst hv
        refine J_iload_n hS dX8_readNumber_33 rfl ?_
        refine J_sipush (v := 999) hS dX8_readNumber_34 (by decide) ?_
        refine J_icmp_le (tgt := 46) hS dX8_readNumber_37 (by decide) (fun c3 => ?_) (fun c3 => ?_)
        · have a9 : a ≤ 999 := (nI_leI (by omega) (by decide)).mp c3
          have eb := hab a9
          rw [eb] at hn
          rw [if_pos (show nI a ≤ 999 from nI_le a9 (by decide)), em, n10, Int32.mul_comm, pk_mul, sub] at hn
          refine J_bipush (v := 10) hS dX8_readNumber_46 (by decide) ?_
          refine J_iload_n hS dX8_readNumber_48 rfl ?_
          refine J_imul hS dX8_readNumber_49 ?_
          refine J_aload_n hS dX8_readNumber_50 rfl ?_
          refine J_getR (t := 176) hS dX8_readNumber_51 flX8_26 ob162 rfl ?_
          refine J_aload_n hS dX8_readNumber_54 rfl ?_
          refine J_getI hS dX8_readNumber_55 flX8_144 ob162 rfl ?_
          refine J_ialdN hS (p) dX8_readNumber_58 (show Ar lay NC .int 176 300 from arM 13 300 (by decide) (by decide) rfl) e1 (by omega) (by decide) ?_
          refine J_iadd hS dX8_readNumber_59 ?_
          refine J_bipush (v := 48) hS dX8_readNumber_60 (by decide) ?_
          show J S 0 0 (g1) 62 [some (.ref 162), some (.int (nI s)), some (.int (nI a))] [.int 48, .int _]
          rw [f1.1 176 (by decide), e176, em, n10, pk_mul]
          refine J_isub hS dX8_readNumber_62 ?_
          rw [sub]
          exact aft (10 * a + m) (10 * a + m) (by omega) (by omega) (fun _ => rfl) (fun z => z) hn
        · have a9 : 999 < a := Nat.lt_of_not_le (fun z => c3 (nI_le z (by decide)))
          have b9 := hab' a9
          rw [if_neg (show ¬ nI b ≤ 999 from nI_ge b9 (by omega))] at hn
          refine J_sipush (v := 1000) hS dX8_readNumber_40 (by decide) ?_
          refine J_goto (tgt := 63) hS dX8_readNumber_43 (by decide) ?_
          exact aft 1000 b (by decide) hb (fun z => absurd z (by decide)) (fun _ => b9) hn
theorem m_opensN {x b : Int32} (h : ¬ g 162 7 = -1) (q : Q none g) : Ct l E lay NC 1 0 0 yX8_opensAt [.ref 162, .int x, .int b] g Q X := by
  refine Ct_in k_yX8_opensAt (by decide) rfl (Nat.le_of_ble_eq_true rfl) rfl ?_
  intro S hS hZ hr ht hR
  show J S 0 0 (g) 0 [some (.ref 162), some (.int x), some (.int b)] []
  refine J_aload_n hS dX8_opensAt_0 rfl ?_
  refine J_callV0 (X' := fun _ _ => False) hS dX8_opensAt_1 mvX8_164 ob162 rfl (by first | decide | omega) (by decide) (Nat.le_of_ble_eq_true rfl) ⟨Nat.le_trans (by decide) hR.1, Nat.le_trans (by decide) hR.2⟩ (fun _ _ q => q.elim) (m_fineN h ?_)
  refine J_if_ne (tgt := 8) hS dX8_opensAt_4 (by decide) (fun c1 => ?_) (fun c1 => ?_)
  · exact absurd rfl c1
  ·
    refine J_vret hS hZ hr dX8_opensAt_7 (by omega) (by omega) ?_
    exact q
/-- behind an opening: the place at p, one more open -/
theorem RdM.open1 {g' : Mm} {c d s s' p : Nat} (h : RdM T n k g c (d + 1) s) (e : FrH g g') (hp : p ≤ n) (ep : g' 162 6 = nI p) (es : skp T n p = s') (hs : s ≤ s') : RdM T n k (u2 g' 162 9 (nI (6 - d))) c d s' := by
  obtain ⟨⟨h1, h2, h3, h4, h5⟩, h6, h7, h8, h9, h10, p', hp', ep', es'⟩ := h.mv e hp ep es hs
  exact ⟨⟨by rw [u2_at, if_neg (by decide)]; exact h1, h2, by rw [u2_ne 176 (by decide)]; exact h3, by rw [u2_at, if_neg (by decide)]; exact h4, h5⟩, by rw [u2_at, if_neg (by decide)]; exact h6, ⟨by omega, u2_self⟩, by rw [u2_at, if_neg (by decide)]; exact h8, h9, h10, p', hp', by rw [u2_at, if_neg (by decide)]; exact ep', es'⟩
set_option maxRecDepth 10000 in
theorem m_opens {c d s : Nat} {x : Int32} (h : RdM T n k g c d s) (x0 : ¬ x = 0) (x1 : dgB x = false) (x2 : ltB x = false) (q1 : ∀ d', d = d' + 1 → ∀ g', psO T n x d s = .inr ([], nx T n s) → POM T n k g g' c d' [] (nx T n s) → Q none g') (q0 : ∀ e g', psO T n x d s = .inl e → PBM k g g' c e → Q none g') : Ct l E lay NC 1 0 0 yX8_opensAt [.ref 162, .int x, .int 1] g Q X := by
  have hv1 := isC_hv (T := T) (n := n) (s := s) x0 x1 x2
  have hd6 := h.2.2.1.1
  refine Ct_in k_yX8_opensAt (by decide) rfl (Nat.le_of_ble_eq_true rfl) rfl ?_
  intro S hS hZ hr ht hR
  show J S 0 0 (g) 0 [some (.ref 162), some (.int x), some (.int 1)] []
  refine J_aload_n hS dX8_opensAt_0 rfl ?_
  refine J_callV0 (X' := fun _ _ => False) hS dX8_opensAt_1 mvX8_164 ob162 rfl (by first | decide | omega) (by decide) (Nat.le_of_ble_eq_true rfl) ⟨Nat.le_trans (by decide) hR.1, Nat.le_trans (by decide) hR.2⟩ (fun _ _ q => q.elim) (m_fineY h.2.1 ?_)
  refine J_if_ne (tgt := 8) hS dX8_opensAt_4 (by decide) (fun c1 => ?_) (fun c1 => ?_)
  ·
    refine J_iload_n hS dX8_opensAt_8 rfl ?_
    refine J_if_eq (tgt := 32) hS dX8_opensAt_9 (by decide) (fun c2 => ?_) (fun c2 => ?_)
    · exact absurd c2 x0
    ·
      refine J_aload_n hS dX8_opensAt_12 rfl ?_
      refine J_callV0 (X' := fun _ _ => False) hS dX8_opensAt_13 mvX8_150 ob162 rfl (by first | decide | omega) (by decide) (Nat.le_of_ble_eq_true rfl) ⟨Nat.le_trans (by decide) hR.1, Nat.le_trans (by decide) hR.2⟩ (fun _ _ q => q.elim) (m_here h (fun g1 f1 e1 r1 => ?_))
      refine J_iload_n hS dX8_opensAt_16 rfl ?_
      have e9 : g1 162 9 = nI (6 - d) := r1.2.2.1.2
      have badly : ∀ e : Nat, psO T n x d s = .inl (e, s) → J S 0 0 (u2 (u2 g1 162 7 (nI s)) 162 8 (nI e)) 50 [some (.ref 162), some (.int x), some (.int 1)] [] := by
        intro e he
        have b := r1.bad (e := e)
        obtain ⟨g2, eg2⟩ : ∃ g2, g2 = u2 (u2 g1 162 7 (nI s)) 162 8 (nI e) := ⟨_, rfl⟩
        rw [← eg2] at b ⊢
        refine J_aload_n hS dX8_opensAt_50 rfl ?_
        refine J_callV0 (X' := fun _ _ => False) hS dX8_opensAt_51 mvX8_164 ob162 rfl (by first | decide | omega) (by decide) (Nat.le_of_ble_eq_true rfl) ⟨Nat.le_trans (by decide) hR.1, Nat.le_trans (by decide) hR.2⟩ (fun _ _ q => q.elim) (m_fineN b.bd ?_)
        refine J_if_eq (tgt := 67) hS dX8_opensAt_54 (by decide) (fun c5 => ?_) (fun c5 => ?_)
        ·
          refine J_aload_n hS dX8_opensAt_67 rfl ?_
          refine J_dup hS dX8_opensAt_68 rfl ?_
          refine J_getI hS dX8_opensAt_69 flX8_174 ob162 rfl ?_
          refine J_iconst (v := 1) hS dX8_opensAt_72 (by decide) ?_
          refine J_iadd hS dX8_opensAt_73 ?_
          refine J_putI hS dX8_opensAt_74 fpX8_174 ob162 rfl (fun g74 eg74 => ?_)
          refine J_vret hS hZ hr dX8_opensAt_77 (by omega) (by omega) ?_
          refine q0 (e, s) g74 he (PBM.o (g1 := g2) ⟨(f1.p (k := k) (c := c)).trans b.1 (Nat.le_refl _), b.2⟩ ?_)
          rw [eg74]; exact ⟨fun z hz => u2_ne z hz, fun j hj => by rw [u2_at, if_neg hj]⟩
        · exact absurd rfl c5
      refine J_icmp_eq (tgt := 32) hS dX8_opensAt_17 (by decide) (fun c3 => ?_) (fun c3 => ?_)
      · have hx := hv1.mpr c3
        refine J_aload_n hS dX8_opensAt_32 rfl ?_
        refine J_getI hS dX8_opensAt_33 flX8_174 ob162 rfl ?_
        refine J_bipush (v := 6) hS dX8_opensAt_36 (by decide) ?_
        show J S 0 0 (g1) 38 [some (.ref 162), some (.int x), some (.int 1)] [.int 6, .int _]
        rw [e9]
        refine J_icmp_ne (tgt := 50) hS dX8_opensAt_38 (by decide) (fun c4 => ?_) (fun c4 => ?_)
        · have hd0 : d ≠ 0 := fun z => c4 (by rw [z]; rfl)
          obtain ⟨d', ed⟩ : ∃ d', d = d' + 1 := ⟨d - 1, by omega⟩
          subst ed
          refine J_aload_n hS dX8_opensAt_50 rfl ?_
          refine J_callV0 (X' := fun _ _ => False) hS dX8_opensAt_51 mvX8_164 ob162 rfl (by first | decide | omega) (by decide) (Nat.le_of_ble_eq_true rfl) ⟨Nat.le_trans (by decide) hR.1, Nat.le_trans (by decide) hR.2⟩ (fun _ _ q => q.elim) (m_fineY r1.2.1 ?_)
          refine J_if_eq (tgt := 67) hS dX8_opensAt_54 (by decide) (fun c5 => ?_) (fun c5 => ?_)
          · exact absurd c5 (by decide)
          ·
            refine J_aload_n hS dX8_opensAt_57 rfl ?_
            refine J_dup hS dX8_opensAt_58 rfl ?_
            refine J_getI hS dX8_opensAt_59 flX8_144 ob162 rfl ?_
            refine J_iload_n hS dX8_opensAt_62 rfl ?_
            refine J_iadd hS dX8_opensAt_63 ?_
            show J S 0 0 (g1) 64 [some (.ref 162), some (.int x), some (.int 1)] [.int _, .ref 162]
            rw [e1, nI_1]
            refine J_putI hS dX8_opensAt_64 fpX8_144 ob162 rfl (fun g64 eg64 => ?_)
            refine J_aload_n hS dX8_opensAt_67 rfl ?_
            refine J_dup hS dX8_opensAt_68 rfl ?_
            refine J_getI hS dX8_opensAt_69 flX8_174 ob162 rfl ?_
            refine J_iconst (v := 1) hS dX8_opensAt_72 (by decide) ?_
            refine J_iadd hS dX8_opensAt_73 ?_
            show J S 0 0 (g64) 74 [some (.ref 162), some (.int x), some (.int 1)] [.int _, .ref 162]
            rw [show g64 162 9 = nI (6 - (d' + 1)) by rw [eg64, u2_at, if_neg (by decide)]; exact e9, nI_1, show 6 - (d' + 1) + 1 = 6 - d' by omega]
            refine J_putI hS dX8_opensAt_74 fpX8_174 ob162 rfl (fun g74 eg74 => ?_)
            refine J_vret hS hZ hr dX8_opensAt_77 (by omega) (by omega) ?_
            have fr : FrH g g64 := by rw [eg64]; exact f1.trans FrH_u
            have hs := isC_lt hx
            refine q1 d' rfl g74 (by unfold psO psC; rw [if_neg (fun z => by cases z.2), if_pos hx]) (POM.nil ?_ ((fr.p (k := k) (c := c)).trans (by rw [eg74]; exact FrP_u (by decide) (by decide)) (Nat.le_refl _)))
            rw [eg74]
            refine h.open1 fr (show s + 1 ≤ n by omega) (by rw [eg64, u2_self]) ?_ (nx_le (T := T) (show s ≤ n by omega)).1
            unfold nx; rw [isC_E hx]
        · have hd0 : d = 0 := by
            have := (nI_eq (a := 6 - d) (b := 6) (by omega) (by decide)).mp c4
            omega
          refine J_aload_n hS dX8_opensAt_41 rfl ?_
          refine J_iconst (v := 3) hS dX8_opensAt_42 (by decide) ?_
          refine J_aload_n hS dX8_opensAt_43 rfl ?_
          refine J_getI hS dX8_opensAt_44 flX8_144 ob162 rfl ?_
          show J S 0 0 (g1) 47 [some (.ref 162), some (.int x), some (.int 1)] [.int _, .int 3, .ref 162]
          rw [e1]
          refine J_callV2 (X' := fun _ _ => False) hS dX8_opensAt_47 mvX8_160 ob162 rfl (by first | decide | omega) (by decide) (Nat.le_of_ble_eq_true rfl) ⟨Nat.le_trans (by decide) hR.1, Nat.le_trans (by decide) hR.2⟩ (fun _ _ q => q.elim) (m_wrongY r1.2.1 ?_)
          exact badly 3 (by unfold psO; rw [if_pos ⟨hx, hd0⟩])
      · have hx : ¬ isC T n s x = true := fun z => c3 (hv1.mp z)
        refine J_aload_n hS dX8_opensAt_20 rfl ?_
        refine J_iconst (v := 1) hS dX8_opensAt_21 (by decide) ?_
        refine J_aload_n hS dX8_opensAt_22 rfl ?_
        refine J_getI hS dX8_opensAt_23 flX8_144 ob162 rfl ?_
        show J S 0 0 (g1) 26 [some (.ref 162), some (.int x), some (.int 1)] [.int _, .int 1, .ref 162]
        rw [e1]
        refine J_callV2 (X' := fun _ _ => False) hS dX8_opensAt_26 mvX8_160 ob162 rfl (by first | decide | omega) (by decide) (Nat.le_of_ble_eq_true rfl) ⟨Nat.le_trans (by decide) hR.1, Nat.le_trans (by decide) hR.2⟩ (fun _ _ q => q.elim) (m_wrongY r1.2.1 ?_)
        refine J_goto (tgt := 50) hS dX8_opensAt_29 (by decide) ?_
        exact badly 1 (by unfold psO psC; rw [if_neg (fun z => hx z.1), if_neg hx])
  · exact absurd c1 (by decide)
end RdC2


/-! THE REFERENCE'S READER: chains -/
def CtM (l : Launch) (E : Ey) (y : MethodName) (D d : Nat) (T : Wr) (n k : Nat) (F : Nat → Res) : Prop :=
  ∀ (g : Mm) (c s : Nat) (Q : Option Value → Mm → Prop) (X : String → Mm → Prop), RdM T n k g c d s → (∀ L s' g', F s = .inr (L, s') → POM T n k g g' c d L s' → Q none g') → (∀ e g', F s = .inl e → PBM k g g' c e → Q none g') → Ct l E lay NC D 0 0 y [.ref 162] g Q X
def CtN (l : Launch) (E : Ey) (y : MethodName) (D : Nat) : Prop := ∀ (g : Mm) (Q : Option Value → Mm → Prop) (X : String → Mm → Prop), ¬ g 162 7 = -1 → Q none g → Ct l E lay NC D 0 0 y [.ref 162] g Q X
section RdD
variable {l : Launch} {E : Ey} {T : Wr} {n k : Nat}
theorem m_unitN : CtN l E yX8_unit 1 := by
  intro g Q X h q
  refine Ct_in k_yX8_unit (by decide) rfl (Nat.le_of_ble_eq_true rfl) rfl ?_
  intro S hS hZ hr ht hR
  show J S 0 0 (g) 0 [some (.ref 162), none, none] []
  refine J_aload_n hS dX8_unit_0 rfl ?_
  refine J_callV0 (X' := fun _ _ => False) hS dX8_unit_1 mvX8_164 ob162 rfl (by first | decide | omega) (by decide) (Nat.le_of_ble_eq_true rfl) ⟨Nat.le_trans (by decide) hR.1, Nat.le_trans (by decide) hR.2⟩ (fun _ _ q => q.elim) (m_fineN h ?_)
  refine J_if_ne (tgt := 8) hS dX8_unit_4 (by decide) (fun c1 => ?_) (fun c1 => ?_)
  · exact absurd rfl c1
  ·
    refine J_vret hS hZ hr dX8_unit_7 (by omega) (by omega) ?_
    exact q
theorem m_termN : CtN l E yX8_term 1 := by
  intro g Q X h q
  refine Ct_in k_yX8_term (by decide) rfl (Nat.le_of_ble_eq_true rfl) rfl ?_
  intro S hS hZ hr ht hR
  show J S 0 0 (g) 0 [some (.ref 162), none] []
  refine J_aload_n hS dX8_term_0 rfl ?_
  refine J_callV0 (X' := fun _ _ => False) hS dX8_term_1 mvX8_164 ob162 rfl (by first | decide | omega) (by decide) (Nat.le_of_ble_eq_true rfl) ⟨Nat.le_trans (by decide) hR.1, Nat.le_trans (by decide) hR.2⟩ (fun _ _ q => q.elim) (m_fineN h ?_)
  refine J_if_ne (tgt := 8) hS dX8_term_4 (by decide) (fun c1 => ?_) (fun c1 => ?_)
  · exact absurd rfl c1
  ·
    refine J_vret hS hZ hr dX8_term_7 (by omega) (by omega) ?_
    exact q
theorem m_productN : CtN l E yX8_product 2 := by
  intro g Q X h q
  refine Ct_in k_yX8_product (by decide) rfl (Nat.le_of_ble_eq_true rfl) rfl ?_
  intro S hS hZ hr ht hR
  show J S 0 0 (g) 0 [some (.ref 162), none] []
  refine J_aload_n hS dX8_product_0 rfl ?_
  refine J_callV0 (X' := fun _ _ => False) hS dX8_product_1 mvX8_212 ob162 rfl (by first | decide | omega) (by decide) (Nat.le_of_ble_eq_true rfl) ⟨Nat.le_trans (by decide) hR.1, Nat.le_trans (by decide) hR.2⟩ (fun _ _ q => q.elim) (m_unitN g _ _ h ?_)
  refine J_aload_n hS dX8_product_4 rfl ?_
  refine J_callV0 (X' := fun _ _ => False) hS dX8_product_5 mvX8_164 ob162 rfl (by first | decide | omega) (by decide) (Nat.le_of_ble_eq_true rfl) ⟨Nat.le_trans (by decide) hR.1, Nat.le_trans (by decide) hR.2⟩ (fun _ _ q => q.elim) (m_fineN h ?_)
  refine J_if_eq (tgt := 69) hS dX8_product_8 (by decide) (fun c1 => ?_) (fun c1 => ?_)
  ·
    refine J_vret hS hZ hr dX8_product_69 (by omega) (by omega) ?_
    exact q
  · exact absurd rfl c1
theorem m_sumN : CtN l E yX8_sum 3 := by
  intro g Q X h q
  refine Ct_in k_yX8_sum (by decide) rfl (Nat.le_of_ble_eq_true rfl) rfl ?_
  intro S hS hZ hr ht hR
  show J S 0 0 (g) 0 [some (.ref 162), none] []
  refine J_aload_n hS dX8_sum_0 rfl ?_
  refine J_callV0 (X' := fun _ _ => False) hS dX8_sum_1 mvX8_215 ob162 rfl (by first | decide | omega) (by decide) (Nat.le_of_ble_eq_true rfl) ⟨Nat.le_trans (by decide) hR.1, Nat.le_trans (by decide) hR.2⟩ (fun _ _ q => q.elim) (m_productN g _ _ h ?_)
  refine J_aload_n hS dX8_sum_4 rfl ?_
  refine J_callV0 (X' := fun _ _ => False) hS dX8_sum_5 mvX8_164 ob162 rfl (by first | decide | omega) (by decide) (Nat.le_of_ble_eq_true rfl) ⟨Nat.le_trans (by decide) hR.1, Nat.le_trans (by decide) hR.2⟩ (fun _ _ q => q.elim) (m_fineN h ?_)
  refine J_if_eq (tgt := 69) hS dX8_sum_8 (by decide) (fun c1 => ?_) (fun c1 => ?_)
  ·
    refine J_vret hS hZ hr dX8_sum_69 (by omega) (by omega) ?_
    exact q
  · exact absurd rfl c1
theorem m_allOfN : CtN l E yX8_allOf 2 := by
  intro g Q X h q
  refine Ct_in k_yX8_allOf (by decide) rfl (Nat.le_of_ble_eq_true rfl) rfl ?_
  intro S hS hZ hr ht hR
  show J S 0 0 (g) 0 [some (.ref 162)] []
  refine J_aload_n hS dX8_allOf_0 rfl ?_
  refine J_callV0 (X' := fun _ _ => False) hS dX8_allOf_1 mvX8_221 ob162 rfl (by first | decide | omega) (by decide) (Nat.le_of_ble_eq_true rfl) ⟨Nat.le_trans (by decide) hR.1, Nat.le_trans (by decide) hR.2⟩ (fun _ _ q => q.elim) (m_termN g _ _ h ?_)
  refine J_aload_n hS dX8_allOf_4 rfl ?_
  refine J_callV0 (X' := fun _ _ => False) hS dX8_allOf_5 mvX8_164 ob162 rfl (by first | decide | omega) (by decide) (Nat.le_of_ble_eq_true rfl) ⟨Nat.le_trans (by decide) hR.1, Nat.le_trans (by decide) hR.2⟩ (fun _ _ q => q.elim) (m_fineN h ?_)
  refine J_if_eq (tgt := 39) hS dX8_allOf_8 (by decide) (fun c1 => ?_) (fun c1 => ?_)
  ·
    refine J_vret hS hZ hr dX8_allOf_39 (by omega) (by omega) ?_
    exact q
  · exact absurd rfl c1
theorem m_anyOfN : CtN l E yX8_anyOf 3 := by
  intro g Q X h q
  refine Ct_in k_yX8_anyOf (by decide) rfl (Nat.le_of_ble_eq_true rfl) rfl ?_
  intro S hS hZ hr ht hR
  show J S 0 0 (g) 0 [some (.ref 162)] []
  refine J_aload_n hS dX8_anyOf_0 rfl ?_
  refine J_callV0 (X' := fun _ _ => False) hS dX8_anyOf_1 mvX8_218 ob162 rfl (by first | decide | omega) (by decide) (Nat.le_of_ble_eq_true rfl) ⟨Nat.le_trans (by decide) hR.1, Nat.le_trans (by decide) hR.2⟩ (fun _ _ q => q.elim) (m_allOfN g _ _ h ?_)
  refine J_aload_n hS dX8_anyOf_4 rfl ?_
  refine J_callV0 (X' := fun _ _ => False) hS dX8_anyOf_5 mvX8_164 ob162 rfl (by first | decide | omega) (by decide) (Nat.le_of_ble_eq_true rfl) ⟨Nat.le_trans (by decide) hR.1, Nat.le_trans (by decide) hR.2⟩ (fun _ _ q => q.elim) (m_fineN h ?_)
  refine J_if_eq (tgt := 39) hS dX8_anyOf_8 (by decide) (fun c1 => ?_) (fun c1 => ?_)
  ·
    refine J_vret hS hZ hr dX8_anyOf_39 (by omega) (by omega) ?_
    exact q
  · exact absurd rfl c1
set_option maxRecDepth 10000 in
theorem m_product {D d : Nat} {u : Nat → Res} (hD : 2 ≤ D) (hu : CtM l E yX8_unit D d T n k u) (hg : ∀ s, s ≤ n → gd n false s (u s)) : CtM l E yX8_product (D + 1) d T n k (chn T n (lkP T n) u) := by
  intro g c s Q X hp q1 q0
  have hn3 := hp.1.2.1
  have hsn := hp.2.2.2.2.2.1
  refine Ct_in k_yX8_product (by decide) rfl (Nat.le_of_ble_eq_true rfl) rfl ?_
  intro S hS hZ hr ht hR
  show J S 0 0 (g) 0 [some (.ref 162), none] []
  have bad : ∀ (g1 : Mm) (e : Nat × Nat) (x : Option Value), chn T n (lkP T n) u s = .inl e → PBM k g g1 c e → J S 0 0 g1 4 [some (.ref 162), x] [] := by
    intro g1 e x he hb
    refine J_weak (ls' := [some (.ref 162), none]) ⟨Or.inr rfl, Or.inl rfl, trivial⟩ ?_
    refine J_aload_n hS dX8_product_4 rfl ?_
    refine J_callV0 (X' := fun _ _ => False) hS dX8_product_5 mvX8_164 ob162 rfl (by first | decide | omega) (by decide) (Nat.le_of_ble_eq_true rfl) ⟨Nat.le_trans (by decide) hR.1, Nat.le_trans (by decide) hR.2⟩ (fun _ _ q => q.elim) (m_fineN hb.bd ?_)
    refine J_if_eq (tgt := 69) hS dX8_product_8 (by decide) (fun c1 => ?_) (fun c1 => ?_)
    ·
      refine J_vret hS hZ hr dX8_product_69 (by omega) (by omega) ?_
      exact q0 e g1 he hb
    · exact absurd rfl c1
  have H : ∀ (r i : Nat) (L : List Tok) (s1 : Nat) (x : Option Value) (g1 : Mm), i + r = n + 1 → i ≤ s1 → POM T n k g g1 c d L s1 → chn T n (lkP T n) u s = opR T n (lkP T n) u r L s1 → J S 0 0 g1 4 [some (.ref 162), x] [] := by
    intro r
    induction r with
    | zero =>
      intro i L s1 x g1 hi his hok heq
      have := hok.2.1.2.2.2.2.2.1
      omega
    | succ r ih =>
      intro i L s1 x g1 hi his hok heq
      have r1 := hok.2.1
      have s1n := r1.2.2.2.2.2.1
      have cl1 := r1.2.2.2.2.1
      have va := isC_hv (T := T) (n := n) (s := s1) (c := 42) (by decide) (by decide) (by decide)
      have vb := isC_hv (T := T) (n := n) (s := s1) (c := 47) (by decide) (by decide) (by decide)
      refine J_weak (ls' := [some (.ref 162), none]) ⟨Or.inr rfl, Or.inl rfl, trivial⟩ ?_
      have mid : ∀ (g2 : Mm) (a : Nat) (b : Int32), FrH g1 g2 → RdM T n k g2 (c + L.length) d s1 → lkP T n s1 = some a → isC T n s1 b = true → hv T n s1 = b → ((b = 42 ∧ a = 9) ∨ (b = 47 ∧ a = 10)) → J S 0 0 g2 29 [some (.ref 162), none] [] := by
        intro g2 a b f2 r2 hlk hx hvx hab
        refine J_aload_n hS dX8_product_29 rfl ?_
        refine J_callV0 (X' := fun _ _ => False) hS dX8_product_30 mvX8_150 ob162 rfl (by first | decide | omega) (by decide) (Nat.le_of_ble_eq_true rfl) ⟨Nat.le_trans (by decide) hR.1, Nat.le_trans (by decide) hR.2⟩ (fun _ _ q => q.elim) (m_here r2 (fun g3 f3 e3 r3 => ?_))
        refine J_istore_n (lt := fun x1 => [some (.ref 162), some (.int x1)]) hS dX8_product_33 (Nat.le_of_ble_eq_true rfl) (fun _ => rfl) (fun x1 ex1 => ?_)
        refine J_aload_n hS dX8_product_34 rfl ?_
        refine J_dup hS dX8_product_35 rfl ?_
        refine J_getI hS dX8_product_36 flX8_144 ob162 rfl ?_
        refine J_iconst (v := 1) hS dX8_product_39 (by decide) ?_
        refine J_iadd hS dX8_product_40 ?_
        show J S 0 0 (g3) 41 [some (.ref 162), some (.int x1)] [.int _, .ref 162]
        rw [e3, nI_1]
        refine J_putI hS dX8_product_41 fpX8_144 ob162 rfl (fun g41 eg41 => ?_)
        have f4 : FrH g1 g41 := by rw [eg41]; exact (f2.trans f3).trans FrH_u
        have r4 : RdM T n k g41 (c + L.length) d (nx T n s1) := r1.pass1 hx f4 (by rw [eg41, u2_self])
        have p4 : POM T n k g g41 c d L (nx T n s1) := by
          have := hok.trans (POM.nil r4 f4.p)
          rw [List.append_nil] at this; exact this
        have gx := nx_le (T := T) s1n
        have hlt := gx.2.2 (isC_lt hx)
        refine J_aload_n hS dX8_product_44 rfl ?_
        refine J_callV0 (X' := fun _ _ => False) hS dX8_product_45 mvX8_212 ob162 rfl (by first | decide | omega) (by decide) (Nat.le_of_ble_eq_true rfl) ⟨Nat.le_trans (by decide) hR.1, Nat.le_trans (by decide) hR.2⟩ (fun _ _ q => q.elim) (hu g41 (c + L.length) (nx T n s1) _ _ r4 (fun L2 s2 g5 f1 f2 => ?_) (fun e g5 f1 f2 => ?_))
        · obtain ⟨d1, d2, d3, d4, d5⟩ := hg _ gx.2.1 L2 s2 f1
          have p5 := p4.trans f2
          have fin : ∀ (av : Int32), av = nI a → J S 0 0 g5 62 [some (.ref 162), some (.int x1)] [.int av, .ref 162] := by
            intro av hav
            refine J_iconst (v := 0) hS dX8_product_62 (by decide) ?_
            refine J_callV2 (X' := fun _ _ => False) hS dX8_product_63 mvX8_189 ob162 rfl (by first | decide | omega) (by decide) (Nat.le_of_ble_eq_true rfl) ⟨Nat.le_trans (by decide) hR.1, Nat.le_trans (by decide) hR.2⟩ (fun _ _ q => q.elim) (m_emit (t := (a, 0)) p5 hav rfl (by simp only [List.length_append]; omega) (fun g6 p6 _ => ?_))
            refine J_goto (tgt := 4) hS dX8_product_66 (by decide) ?_
            refine ih (i + 1) (L ++ L2 ++ [(a, 0)]) s2 _ g6 (by omega) (by omega) p6 ?_
            rw [heq, opR_yes hlk, f1]; rfl
          refine J_aload_n hS dX8_product_48 rfl ?_
          refine J_iload_n hS dX8_product_49 rfl ?_
          refine J_bipush (v := 42) hS dX8_product_50 (by decide) ?_
          rw [hvx] at ex1
          refine J_icmp_ne (tgt := 60) hS dX8_product_52 (by decide) (fun c3 => ?_) (fun c3 => ?_)
          · obtain ⟨e1, e2⟩ := hab.resolve_left (fun z => c3 (by rw [ex1]; exact z.1))
            refine J_bipush (v := 10) hS dX8_product_60 (by decide) ?_
            exact fin _ (by rw [e2]; rfl)
          · have e2 : a = 9 := by
              rcases hab with ⟨_, z⟩ | ⟨z, _⟩
              · exact z
              · rw [← ex1, c3] at z; exact absurd z (by decide)
            refine J_bipush (v := 9) hS dX8_product_55 (by decide) ?_
            refine J_goto (tgt := 62) hS dX8_product_57 (by decide) ?_
            exact fin _ (by rw [e2]; rfl)
        · have p5 := p4.bad f2
          have he : chn T n (lkP T n) u s = .inl e := by rw [heq, opR_yes hlk, f1]; rfl
          have fin : ∀ (av : Int32), J S 0 0 g5 62 [some (.ref 162), some (.int x1)] [.int av, .ref 162] := by
            intro av
            refine J_iconst (v := 0) hS dX8_product_62 (by decide) ?_
            refine J_callV2 (X' := fun _ _ => False) hS dX8_product_63 mvX8_189 ob162 rfl (by first | decide | omega) (by decide) (Nat.le_of_ble_eq_true rfl) ⟨Nat.le_trans (by decide) hR.1, Nat.le_trans (by decide) hR.2⟩ (fun _ _ q => q.elim) (m_emitN p5.bd ?_)
            refine J_goto (tgt := 4) hS dX8_product_66 (by decide) ?_
            exact bad g5 e _ he p5
          refine J_aload_n hS dX8_product_48 rfl ?_
          refine J_iload_n hS dX8_product_49 rfl ?_
          refine J_bipush (v := 42) hS dX8_product_50 (by decide) ?_
          refine J_icmp_ne (tgt := 60) hS dX8_product_52 (by decide) (fun c3 => ?_) (fun c3 => ?_)
          ·
            refine J_bipush (v := 10) hS dX8_product_60 (by decide) ?_
            exact fin _
          ·
            refine J_bipush (v := 9) hS dX8_product_55 (by decide) ?_
            refine J_goto (tgt := 62) hS dX8_product_57 (by decide) ?_
            exact fin _
      refine J_aload_n hS dX8_product_4 rfl ?_
      refine J_callV0 (X' := fun _ _ => False) hS dX8_product_5 mvX8_164 ob162 rfl (by first | decide | omega) (by decide) (Nat.le_of_ble_eq_true rfl) ⟨Nat.le_trans (by decide) hR.1, Nat.le_trans (by decide) hR.2⟩ (fun _ _ q => q.elim) (m_fineY r1.2.1 ?_)
      refine J_if_eq (tgt := 69) hS dX8_product_8 (by decide) (fun c1 => ?_) (fun c1 => ?_)
      · exact absurd c1 (by decide)
      ·
        refine J_aload_n hS dX8_product_11 rfl ?_
        refine J_callV0 (X' := fun _ _ => False) hS dX8_product_12 mvX8_150 ob162 rfl (by first | decide | omega) (by decide) (Nat.le_of_ble_eq_true rfl) ⟨Nat.le_trans (by decide) hR.1, Nat.le_trans (by decide) hR.2⟩ (fun _ _ q => q.elim) (m_here r1 (fun g2 f2 e2 r2 => ?_))
        refine J_bipush (v := 42) hS dX8_product_15 (by decide) ?_
        refine J_icmp_eq (tgt := 29) hS dX8_product_17 (by decide) (fun c2 => ?_) (fun c2 => ?_)
        · have hx := va.mpr c2
          exact mid g2 9 42 f2 r2 (by unfold lkP; rw [if_pos hx]) hx c2 (Or.inl ⟨rfl, rfl⟩)
        · have hx : ¬ isC T n s1 42 = true := fun z => c2 (va.mp z)
          refine J_aload_n hS dX8_product_20 rfl ?_
          refine J_callV0 (X' := fun _ _ => False) hS dX8_product_21 mvX8_150 ob162 rfl (by first | decide | omega) (by decide) (Nat.le_of_ble_eq_true rfl) ⟨Nat.le_trans (by decide) hR.1, Nat.le_trans (by decide) hR.2⟩ (fun _ _ q => q.elim) (m_here r2 (fun g3 f3 e3 r3 => ?_))
          refine J_bipush (v := 47) hS dX8_product_24 (by decide) ?_
          refine J_icmp_ne (tgt := 69) hS dX8_product_26 (by decide) (fun c3 => ?_) (fun c3 => ?_)
          · have hx' : ¬ isC T n s1 47 = true := fun z => c3 (vb.mp z)
            refine J_vret hS hZ hr dX8_product_69 (by omega) (by omega) ?_
            have f13 := f2.trans f3
            have p3 : POM T n k g g3 c d L s1 := by
              have := hok.trans (POM.nil r3 f13.p)
              rw [List.append_nil] at this; exact this
            refine q1 L s1 g3 ?_ p3
            rw [heq, opR_no (by unfold lkP; rw [if_neg hx, if_neg hx'])]
          · have hx' := vb.mpr c3
            exact mid g3 10 47 (f2.trans f3) r3 (by unfold lkP; rw [if_neg hx, if_pos hx']) hx' c3 (Or.inr ⟨rfl, rfl⟩)
  refine J_aload_n hS dX8_product_0 rfl ?_
  refine J_callV0 (X' := fun _ _ => False) hS dX8_product_1 mvX8_212 ob162 rfl (by first | decide | omega) (by decide) (Nat.le_of_ble_eq_true rfl) ⟨Nat.le_trans (by decide) hR.1, Nat.le_trans (by decide) hR.2⟩ (fun _ _ q => q.elim) (hu g c s _ _ hp (fun L s1 g1 f1 f2 => ?_) (fun e g1 f1 f2 => ?_))
  · exact H (n + 1) 0 L s1 none g1 (by omega) (by omega) f2 (by unfold chn; rw [f1]; rfl)
  · exact bad g1 e none (by unfold chn; rw [f1]; rfl) f2
set_option maxRecDepth 10000 in
theorem m_sum {D d : Nat} {u : Nat → Res} (hD : 2 ≤ D) (hu : CtM l E yX8_product D d T n k u) (hg : ∀ s, s ≤ n → gd n false s (u s)) : CtM l E yX8_sum (D + 1) d T n k (chn T n (lkS T n) u) := by
  intro g c s Q X hp q1 q0
  have hn3 := hp.1.2.1
  have hsn := hp.2.2.2.2.2.1
  refine Ct_in k_yX8_sum (by decide) rfl (Nat.le_of_ble_eq_true rfl) rfl ?_
  intro S hS hZ hr ht hR
  show J S 0 0 (g) 0 [some (.ref 162), none] []
  have bad : ∀ (g1 : Mm) (e : Nat × Nat) (x : Option Value), chn T n (lkS T n) u s = .inl e → PBM k g g1 c e → J S 0 0 g1 4 [some (.ref 162), x] [] := by
    intro g1 e x he hb
    refine J_weak (ls' := [some (.ref 162), none]) ⟨Or.inr rfl, Or.inl rfl, trivial⟩ ?_
    refine J_aload_n hS dX8_sum_4 rfl ?_
    refine J_callV0 (X' := fun _ _ => False) hS dX8_sum_5 mvX8_164 ob162 rfl (by first | decide | omega) (by decide) (Nat.le_of_ble_eq_true rfl) ⟨Nat.le_trans (by decide) hR.1, Nat.le_trans (by decide) hR.2⟩ (fun _ _ q => q.elim) (m_fineN hb.bd ?_)
    refine J_if_eq (tgt := 69) hS dX8_sum_8 (by decide) (fun c1 => ?_) (fun c1 => ?_)
    ·
      refine J_vret hS hZ hr dX8_sum_69 (by omega) (by omega) ?_
      exact q0 e g1 he hb
    · exact absurd rfl c1
  have H : ∀ (r i : Nat) (L : List Tok) (s1 : Nat) (x : Option Value) (g1 : Mm), i + r = n + 1 → i ≤ s1 → POM T n k g g1 c d L s1 → chn T n (lkS T n) u s = opR T n (lkS T n) u r L s1 → J S 0 0 g1 4 [some (.ref 162), x] [] := by
    intro r
    induction r with
    | zero =>
      intro i L s1 x g1 hi his hok heq
      have := hok.2.1.2.2.2.2.2.1
      omega
    | succ r ih =>
      intro i L s1 x g1 hi his hok heq
      have r1 := hok.2.1
      have s1n := r1.2.2.2.2.2.1
      have cl1 := r1.2.2.2.2.1
      have va := isC_hv (T := T) (n := n) (s := s1) (c := 43) (by decide) (by decide) (by decide)
      have vb := isC_hv (T := T) (n := n) (s := s1) (c := 45) (by decide) (by decide) (by decide)
      refine J_weak (ls' := [some (.ref 162), none]) ⟨Or.inr rfl, Or.inl rfl, trivial⟩ ?_
      have mid : ∀ (g2 : Mm) (a : Nat) (b : Int32), FrH g1 g2 → RdM T n k g2 (c + L.length) d s1 → lkS T n s1 = some a → isC T n s1 b = true → hv T n s1 = b → ((b = 43 ∧ a = 7) ∨ (b = 45 ∧ a = 8)) → J S 0 0 g2 29 [some (.ref 162), none] [] := by
        intro g2 a b f2 r2 hlk hx hvx hab
        refine J_aload_n hS dX8_sum_29 rfl ?_
        refine J_callV0 (X' := fun _ _ => False) hS dX8_sum_30 mvX8_150 ob162 rfl (by first | decide | omega) (by decide) (Nat.le_of_ble_eq_true rfl) ⟨Nat.le_trans (by decide) hR.1, Nat.le_trans (by decide) hR.2⟩ (fun _ _ q => q.elim) (m_here r2 (fun g3 f3 e3 r3 => ?_))
        refine J_istore_n (lt := fun x1 => [some (.ref 162), some (.int x1)]) hS dX8_sum_33 (Nat.le_of_ble_eq_true rfl) (fun _ => rfl) (fun x1 ex1 => ?_)
        refine J_aload_n hS dX8_sum_34 rfl ?_
        refine J_dup hS dX8_sum_35 rfl ?_
        refine J_getI hS dX8_sum_36 flX8_144 ob162 rfl ?_
        refine J_iconst (v := 1) hS dX8_sum_39 (by decide) ?_
        refine J_iadd hS dX8_sum_40 ?_
        show J S 0 0 (g3) 41 [some (.ref 162), some (.int x1)] [.int _, .ref 162]
        rw [e3, nI_1]
        refine J_putI hS dX8_sum_41 fpX8_144 ob162 rfl (fun g41 eg41 => ?_)
        have f4 : FrH g1 g41 := by rw [eg41]; exact (f2.trans f3).trans FrH_u
        have r4 : RdM T n k g41 (c + L.length) d (nx T n s1) := r1.pass1 hx f4 (by rw [eg41, u2_self])
        have p4 : POM T n k g g41 c d L (nx T n s1) := by
          have := hok.trans (POM.nil r4 f4.p)
          rw [List.append_nil] at this; exact this
        have gx := nx_le (T := T) s1n
        have hlt := gx.2.2 (isC_lt hx)
        refine J_aload_n hS dX8_sum_44 rfl ?_
        refine J_callV0 (X' := fun _ _ => False) hS dX8_sum_45 mvX8_215 ob162 rfl (by first | decide | omega) (by decide) (Nat.le_of_ble_eq_true rfl) ⟨Nat.le_trans (by decide) hR.1, Nat.le_trans (by decide) hR.2⟩ (fun _ _ q => q.elim) (hu g41 (c + L.length) (nx T n s1) _ _ r4 (fun L2 s2 g5 f1 f2 => ?_) (fun e g5 f1 f2 => ?_))
        · obtain ⟨d1, d2, d3, d4, d5⟩ := hg _ gx.2.1 L2 s2 f1
          have p5 := p4.trans f2
          have fin : ∀ (av : Int32), av = nI a → J S 0 0 g5 62 [some (.ref 162), some (.int x1)] [.int av, .ref 162] := by
            intro av hav
            refine J_iconst (v := 0) hS dX8_sum_62 (by decide) ?_
            refine J_callV2 (X' := fun _ _ => False) hS dX8_sum_63 mvX8_189 ob162 rfl (by first | decide | omega) (by decide) (Nat.le_of_ble_eq_true rfl) ⟨Nat.le_trans (by decide) hR.1, Nat.le_trans (by decide) hR.2⟩ (fun _ _ q => q.elim) (m_emit (t := (a, 0)) p5 hav rfl (by simp only [List.length_append]; omega) (fun g6 p6 _ => ?_))
            refine J_goto (tgt := 4) hS dX8_sum_66 (by decide) ?_
            refine ih (i + 1) (L ++ L2 ++ [(a, 0)]) s2 _ g6 (by omega) (by omega) p6 ?_
            rw [heq, opR_yes hlk, f1]; rfl
          refine J_aload_n hS dX8_sum_48 rfl ?_
          refine J_iload_n hS dX8_sum_49 rfl ?_
          refine J_bipush (v := 43) hS dX8_sum_50 (by decide) ?_
          rw [hvx] at ex1
          refine J_icmp_ne (tgt := 60) hS dX8_sum_52 (by decide) (fun c3 => ?_) (fun c3 => ?_)
          · obtain ⟨e1, e2⟩ := hab.resolve_left (fun z => c3 (by rw [ex1]; exact z.1))
            refine J_bipush (v := 8) hS dX8_sum_60 (by decide) ?_
            exact fin _ (by rw [e2]; rfl)
          · have e2 : a = 7 := by
              rcases hab with ⟨_, z⟩ | ⟨z, _⟩
              · exact z
              · rw [← ex1, c3] at z; exact absurd z (by decide)
            refine J_bipush (v := 7) hS dX8_sum_55 (by decide) ?_
            refine J_goto (tgt := 62) hS dX8_sum_57 (by decide) ?_
            exact fin _ (by rw [e2]; rfl)
        · have p5 := p4.bad f2
          have he : chn T n (lkS T n) u s = .inl e := by rw [heq, opR_yes hlk, f1]; rfl
          have fin : ∀ (av : Int32), J S 0 0 g5 62 [some (.ref 162), some (.int x1)] [.int av, .ref 162] := by
            intro av
            refine J_iconst (v := 0) hS dX8_sum_62 (by decide) ?_
            refine J_callV2 (X' := fun _ _ => False) hS dX8_sum_63 mvX8_189 ob162 rfl (by first | decide | omega) (by decide) (Nat.le_of_ble_eq_true rfl) ⟨Nat.le_trans (by decide) hR.1, Nat.le_trans (by decide) hR.2⟩ (fun _ _ q => q.elim) (m_emitN p5.bd ?_)
            refine J_goto (tgt := 4) hS dX8_sum_66 (by decide) ?_
            exact bad g5 e _ he p5
          refine J_aload_n hS dX8_sum_48 rfl ?_
          refine J_iload_n hS dX8_sum_49 rfl ?_
          refine J_bipush (v := 43) hS dX8_sum_50 (by decide) ?_
          refine J_icmp_ne (tgt := 60) hS dX8_sum_52 (by decide) (fun c3 => ?_) (fun c3 => ?_)
          ·
            refine J_bipush (v := 8) hS dX8_sum_60 (by decide) ?_
            exact fin _
          ·
            refine J_bipush (v := 7) hS dX8_sum_55 (by decide) ?_
            refine J_goto (tgt := 62) hS dX8_sum_57 (by decide) ?_
            exact fin _
      refine J_aload_n hS dX8_sum_4 rfl ?_
      refine J_callV0 (X' := fun _ _ => False) hS dX8_sum_5 mvX8_164 ob162 rfl (by first | decide | omega) (by decide) (Nat.le_of_ble_eq_true rfl) ⟨Nat.le_trans (by decide) hR.1, Nat.le_trans (by decide) hR.2⟩ (fun _ _ q => q.elim) (m_fineY r1.2.1 ?_)
      refine J_if_eq (tgt := 69) hS dX8_sum_8 (by decide) (fun c1 => ?_) (fun c1 => ?_)
      · exact absurd c1 (by decide)
      ·
        refine J_aload_n hS dX8_sum_11 rfl ?_
        refine J_callV0 (X' := fun _ _ => False) hS dX8_sum_12 mvX8_150 ob162 rfl (by first | decide | omega) (by decide) (Nat.le_of_ble_eq_true rfl) ⟨Nat.le_trans (by decide) hR.1, Nat.le_trans (by decide) hR.2⟩ (fun _ _ q => q.elim) (m_here r1 (fun g2 f2 e2 r2 => ?_))
        refine J_bipush (v := 43) hS dX8_sum_15 (by decide) ?_
        refine J_icmp_eq (tgt := 29) hS dX8_sum_17 (by decide) (fun c2 => ?_) (fun c2 => ?_)
        · have hx := va.mpr c2
          exact mid g2 7 43 f2 r2 (by unfold lkS; rw [if_pos hx]) hx c2 (Or.inl ⟨rfl, rfl⟩)
        · have hx : ¬ isC T n s1 43 = true := fun z => c2 (va.mp z)
          refine J_aload_n hS dX8_sum_20 rfl ?_
          refine J_callV0 (X' := fun _ _ => False) hS dX8_sum_21 mvX8_150 ob162 rfl (by first | decide | omega) (by decide) (Nat.le_of_ble_eq_true rfl) ⟨Nat.le_trans (by decide) hR.1, Nat.le_trans (by decide) hR.2⟩ (fun _ _ q => q.elim) (m_here r2 (fun g3 f3 e3 r3 => ?_))
          refine J_bipush (v := 45) hS dX8_sum_24 (by decide) ?_
          refine J_icmp_ne (tgt := 69) hS dX8_sum_26 (by decide) (fun c3 => ?_) (fun c3 => ?_)
          · have hx' : ¬ isC T n s1 45 = true := fun z => c3 (vb.mp z)
            refine J_vret hS hZ hr dX8_sum_69 (by omega) (by omega) ?_
            have f13 := f2.trans f3
            have p3 : POM T n k g g3 c d L s1 := by
              have := hok.trans (POM.nil r3 f13.p)
              rw [List.append_nil] at this; exact this
            refine q1 L s1 g3 ?_ p3
            rw [heq, opR_no (by unfold lkS; rw [if_neg hx, if_neg hx'])]
          · have hx' := vb.mpr c3
            exact mid g3 8 45 (f2.trans f3) r3 (by unfold lkS; rw [if_neg hx, if_pos hx']) hx' c3 (Or.inr ⟨rfl, rfl⟩)
  refine J_aload_n hS dX8_sum_0 rfl ?_
  refine J_callV0 (X' := fun _ _ => False) hS dX8_sum_1 mvX8_215 ob162 rfl (by first | decide | omega) (by decide) (Nat.le_of_ble_eq_true rfl) ⟨Nat.le_trans (by decide) hR.1, Nat.le_trans (by decide) hR.2⟩ (fun _ _ q => q.elim) (hu g c s _ _ hp (fun L s1 g1 f1 f2 => ?_) (fun e g1 f1 f2 => ?_))
  · exact H (n + 1) 0 L s1 none g1 (by omega) (by omega) f2 (by unfold chn; rw [f1]; rfl)
  · exact bad g1 e none (by unfold chn; rw [f1]; rfl) f2
set_option maxRecDepth 10000 in
theorem m_allOf {D d : Nat} {u : Nat → Res} (hD : 2 ≤ D) (hu : CtM l E yX8_term D d T n k u) (hg : ∀ s, s ≤ n → gd n true s (u s)) : CtM l E yX8_allOf (D + 1) d T n k (chn T n (lkA T n) u) := by
  intro g c s Q X hp q1 q0
  have hn3 := hp.1.2.1
  have hsn := hp.2.2.2.2.2.1
  refine Ct_in k_yX8_allOf (by decide) rfl (Nat.le_of_ble_eq_true rfl) rfl ?_
  intro S hS hZ hr ht hR
  show J S 0 0 (g) 0 [some (.ref 162)] []
  have bad : ∀ (g1 : Mm) (e : Nat × Nat), chn T n (lkA T n) u s = .inl e → PBM k g g1 c e → J S 0 0 g1 4 [some (.ref 162)] [] := by
    intro g1 e he hb
    refine J_aload_n hS dX8_allOf_4 rfl ?_
    refine J_callV0 (X' := fun _ _ => False) hS dX8_allOf_5 mvX8_164 ob162 rfl (by first | decide | omega) (by decide) (Nat.le_of_ble_eq_true rfl) ⟨Nat.le_trans (by decide) hR.1, Nat.le_trans (by decide) hR.2⟩ (fun _ _ q => q.elim) (m_fineN hb.bd ?_)
    refine J_if_eq (tgt := 39) hS dX8_allOf_8 (by decide) (fun c1 => ?_) (fun c1 => ?_)
    ·
      refine J_vret hS hZ hr dX8_allOf_39 (by omega) (by omega) ?_
      exact q0 e g1 he hb
    · exact absurd rfl c1
  have H : ∀ (r i : Nat) (L : List Tok) (s1 : Nat) (g1 : Mm), i + r = n + 1 → i ≤ s1 → POM T n k g g1 c d L s1 → chn T n (lkA T n) u s = opR T n (lkA T n) u r L s1 → J S 0 0 g1 4 [some (.ref 162)] [] := by
    intro r
    induction r with
    | zero =>
      intro i L s1 g1 hi his hok heq
      have := hok.2.1.2.2.2.2.2.1
      omega
    | succ r ih =>
      intro i L s1 g1 hi his hok heq
      have r1 := hok.2.1
      have s1n := r1.2.2.2.2.2.1
      have cl1 := r1.2.2.2.2.1
      have va := wcI (T := T) (n := n) (s := s1) (i := 14) (W := 1476) (by decide) rfl
      refine J_aload_n hS dX8_allOf_4 rfl ?_
      refine J_callV0 (X' := fun _ _ => False) hS dX8_allOf_5 mvX8_164 ob162 rfl (by first | decide | omega) (by decide) (Nat.le_of_ble_eq_true rfl) ⟨Nat.le_trans (by decide) hR.1, Nat.le_trans (by decide) hR.2⟩ (fun _ _ q => q.elim) (m_fineY r1.2.1 ?_)
      refine J_if_eq (tgt := 39) hS dX8_allOf_8 (by decide) (fun c1 => ?_) (fun c1 => ?_)
      · exact absurd c1 (by decide)
      ·
        refine J_aload_n hS dX8_allOf_11 rfl ?_
        refine J_callV0 (X' := fun _ _ => False) hS dX8_allOf_12 mvX8_201 ob162 rfl (by first | decide | omega) (by decide) (Nat.le_of_ble_eq_true rfl) ⟨Nat.le_trans (by decide) hR.1, Nat.le_trans (by decide) hR.2⟩ (fun _ _ q => q.elim) (m_word r1 (fun g2 f2 e2 r2 => ?_))
        refine J_sipush (v := 1476) hS dX8_allOf_15 (by decide) ?_
        refine J_icmp_ne (tgt := 39) hS dX8_allOf_18 (by decide) (fun c2 => ?_) (fun c2 => ?_)
        · have hx : ¬ isW T n s1 14 = true := fun z => c2 (va.mpr z)
          refine J_vret hS hZ hr dX8_allOf_39 (by omega) (by omega) ?_
          have p3 : POM T n k g g2 c d L s1 := by
            have := hok.trans (POM.nil r2 f2.p)
            rw [List.append_nil] at this; exact this
          refine q1 L s1 g2 ?_ p3
          rw [heq, opR_no (by unfold lkA; rw [if_neg hx])]
        · have hx := va.mp c2
          have hlk : lkA T n s1 = some 17 := by unfold lkA; rw [if_pos hx]
          have gx := nx_le (T := T) s1n
          have hlt := gx.2.2 (isW_lt hx)
          refine J_aload_n hS dX8_allOf_21 rfl ?_
          refine J_callV0 (X' := fun _ _ => False) hS dX8_allOf_22 mvX8_206 ob162 rfl (by first | decide | omega) (by decide) (Nat.le_of_ble_eq_true rfl) ⟨Nat.le_trans (by decide) hR.1, Nat.le_trans (by decide) hR.2⟩ (fun _ _ q => q.elim) (m_passW r2 e2 hx (fun g3 f3 r3 => ?_))
          have p4 : POM T n k g g3 c d L (nx T n s1) := by
            have := hok.trans (POM.nil r3 (f2.trans f3).p)
            rw [List.append_nil] at this; exact this
          refine J_aload_n hS dX8_allOf_25 rfl ?_
          refine J_callV0 (X' := fun _ _ => False) hS dX8_allOf_26 mvX8_221 ob162 rfl (by first | decide | omega) (by decide) (Nat.le_of_ble_eq_true rfl) ⟨Nat.le_trans (by decide) hR.1, Nat.le_trans (by decide) hR.2⟩ (fun _ _ q => q.elim) (hu g3 (c + L.length) (nx T n s1) _ _ r3 (fun L2 s2 g5 f1 f2 => ?_) (fun e g5 f1 f2 => ?_))
          · obtain ⟨d1, d2, d3, d4, d5⟩ := hg _ gx.2.1 L2 s2 f1
            have p5 := p4.trans f2
            refine J_aload_n hS dX8_allOf_29 rfl ?_
            refine J_bipush (v := 17) hS dX8_allOf_30 (by decide) ?_
            refine J_iconst (v := 0) hS dX8_allOf_32 (by decide) ?_
            refine J_callV2 (X' := fun _ _ => False) hS dX8_allOf_33 mvX8_189 ob162 rfl (by first | decide | omega) (by decide) (Nat.le_of_ble_eq_true rfl) ⟨Nat.le_trans (by decide) hR.1, Nat.le_trans (by decide) hR.2⟩ (fun _ _ q => q.elim) (m_emit (t := (17, 0)) p5 rfl rfl (by simp only [List.length_append]; omega) (fun g6 p6 _ => ?_))
            refine J_goto (tgt := 4) hS dX8_allOf_36 (by decide) ?_
            refine ih (i + 1) (L ++ L2 ++ [(17, 0)]) s2 g6 (by omega) (by omega) p6 ?_
            rw [heq, opR_yes hlk, f1]; rfl
          · have p5 := p4.bad f2
            refine J_aload_n hS dX8_allOf_29 rfl ?_
            refine J_bipush (v := 17) hS dX8_allOf_30 (by decide) ?_
            refine J_iconst (v := 0) hS dX8_allOf_32 (by decide) ?_
            refine J_callV2 (X' := fun _ _ => False) hS dX8_allOf_33 mvX8_189 ob162 rfl (by first | decide | omega) (by decide) (Nat.le_of_ble_eq_true rfl) ⟨Nat.le_trans (by decide) hR.1, Nat.le_trans (by decide) hR.2⟩ (fun _ _ q => q.elim) (m_emitN p5.bd ?_)
            refine J_goto (tgt := 4) hS dX8_allOf_36 (by decide) ?_
            exact bad g5 e (by rw [heq, opR_yes hlk, f1]; rfl) p5
  refine J_aload_n hS dX8_allOf_0 rfl ?_
  refine J_callV0 (X' := fun _ _ => False) hS dX8_allOf_1 mvX8_221 ob162 rfl (by first | decide | omega) (by decide) (Nat.le_of_ble_eq_true rfl) ⟨Nat.le_trans (by decide) hR.1, Nat.le_trans (by decide) hR.2⟩ (fun _ _ q => q.elim) (hu g c s _ _ hp (fun L s1 g1 f1 f2 => ?_) (fun e g1 f1 f2 => ?_))
  · exact H (n + 1) 0 L s1 g1 (by omega) (by omega) f2 (by unfold chn; rw [f1]; rfl)
  · exact bad g1 e (by unfold chn; rw [f1]; rfl) f2
set_option maxRecDepth 10000 in
theorem m_anyOf {D d : Nat} {u : Nat → Res} (hD : 2 ≤ D) (hu : CtM l E yX8_allOf D d T n k u) (hg : ∀ s, s ≤ n → gd n true s (u s)) : CtM l E yX8_anyOf (D + 1) d T n k (chn T n (lkO T n) u) := by
  intro g c s Q X hp q1 q0
  have hn3 := hp.1.2.1
  have hsn := hp.2.2.2.2.2.1
  refine Ct_in k_yX8_anyOf (by decide) rfl (Nat.le_of_ble_eq_true rfl) rfl ?_
  intro S hS hZ hr ht hR
  show J S 0 0 (g) 0 [some (.ref 162)] []
  have bad : ∀ (g1 : Mm) (e : Nat × Nat), chn T n (lkO T n) u s = .inl e → PBM k g g1 c e → J S 0 0 g1 4 [some (.ref 162)] [] := by
    intro g1 e he hb
    refine J_aload_n hS dX8_anyOf_4 rfl ?_
    refine J_callV0 (X' := fun _ _ => False) hS dX8_anyOf_5 mvX8_164 ob162 rfl (by first | decide | omega) (by decide) (Nat.le_of_ble_eq_true rfl) ⟨Nat.le_trans (by decide) hR.1, Nat.le_trans (by decide) hR.2⟩ (fun _ _ q => q.elim) (m_fineN hb.bd ?_)
    refine J_if_eq (tgt := 39) hS dX8_anyOf_8 (by decide) (fun c1 => ?_) (fun c1 => ?_)
    ·
      refine J_vret hS hZ hr dX8_anyOf_39 (by omega) (by omega) ?_
      exact q0 e g1 he hb
    · exact absurd rfl c1
  have H : ∀ (r i : Nat) (L : List Tok) (s1 : Nat) (g1 : Mm), i + r = n + 1 → i ≤ s1 → POM T n k g g1 c d L s1 → chn T n (lkO T n) u s = opR T n (lkO T n) u r L s1 → J S 0 0 g1 4 [some (.ref 162)] [] := by
    intro r
    induction r with
    | zero =>
      intro i L s1 g1 hi his hok heq
      have := hok.2.1.2.2.2.2.2.1
      omega
    | succ r ih =>
      intro i L s1 g1 hi his hok heq
      have r1 := hok.2.1
      have s1n := r1.2.2.2.2.2.1
      have cl1 := r1.2.2.2.2.1
      have va := wcI (T := T) (n := n) (s := s1) (i := 13) (W := 498) (by decide) rfl
      refine J_aload_n hS dX8_anyOf_4 rfl ?_
      refine J_callV0 (X' := fun _ _ => False) hS dX8_anyOf_5 mvX8_164 ob162 rfl (by first | decide | omega) (by decide) (Nat.le_of_ble_eq_true rfl) ⟨Nat.le_trans (by decide) hR.1, Nat.le_trans (by decide) hR.2⟩ (fun _ _ q => q.elim) (m_fineY r1.2.1 ?_)
      refine J_if_eq (tgt := 39) hS dX8_anyOf_8 (by decide) (fun c1 => ?_) (fun c1 => ?_)
      · exact absurd c1 (by decide)
      ·
        refine J_aload_n hS dX8_anyOf_11 rfl ?_
        refine J_callV0 (X' := fun _ _ => False) hS dX8_anyOf_12 mvX8_201 ob162 rfl (by first | decide | omega) (by decide) (Nat.le_of_ble_eq_true rfl) ⟨Nat.le_trans (by decide) hR.1, Nat.le_trans (by decide) hR.2⟩ (fun _ _ q => q.elim) (m_word r1 (fun g2 f2 e2 r2 => ?_))
        refine J_sipush (v := 498) hS dX8_anyOf_15 (by decide) ?_
        refine J_icmp_ne (tgt := 39) hS dX8_anyOf_18 (by decide) (fun c2 => ?_) (fun c2 => ?_)
        · have hx : ¬ isW T n s1 13 = true := fun z => c2 (va.mpr z)
          refine J_vret hS hZ hr dX8_anyOf_39 (by omega) (by omega) ?_
          have p3 : POM T n k g g2 c d L s1 := by
            have := hok.trans (POM.nil r2 f2.p)
            rw [List.append_nil] at this; exact this
          refine q1 L s1 g2 ?_ p3
          rw [heq, opR_no (by unfold lkO; rw [if_neg hx])]
        · have hx := va.mp c2
          have hlk : lkO T n s1 = some 16 := by unfold lkO; rw [if_pos hx]
          have gx := nx_le (T := T) s1n
          have hlt := gx.2.2 (isW_lt hx)
          refine J_aload_n hS dX8_anyOf_21 rfl ?_
          refine J_callV0 (X' := fun _ _ => False) hS dX8_anyOf_22 mvX8_206 ob162 rfl (by first | decide | omega) (by decide) (Nat.le_of_ble_eq_true rfl) ⟨Nat.le_trans (by decide) hR.1, Nat.le_trans (by decide) hR.2⟩ (fun _ _ q => q.elim) (m_passW r2 e2 hx (fun g3 f3 r3 => ?_))
          have p4 : POM T n k g g3 c d L (nx T n s1) := by
            have := hok.trans (POM.nil r3 (f2.trans f3).p)
            rw [List.append_nil] at this; exact this
          refine J_aload_n hS dX8_anyOf_25 rfl ?_
          refine J_callV0 (X' := fun _ _ => False) hS dX8_anyOf_26 mvX8_218 ob162 rfl (by first | decide | omega) (by decide) (Nat.le_of_ble_eq_true rfl) ⟨Nat.le_trans (by decide) hR.1, Nat.le_trans (by decide) hR.2⟩ (fun _ _ q => q.elim) (hu g3 (c + L.length) (nx T n s1) _ _ r3 (fun L2 s2 g5 f1 f2 => ?_) (fun e g5 f1 f2 => ?_))
          · obtain ⟨d1, d2, d3, d4, d5⟩ := hg _ gx.2.1 L2 s2 f1
            have p5 := p4.trans f2
            refine J_aload_n hS dX8_anyOf_29 rfl ?_
            refine J_bipush (v := 16) hS dX8_anyOf_30 (by decide) ?_
            refine J_iconst (v := 0) hS dX8_anyOf_32 (by decide) ?_
            refine J_callV2 (X' := fun _ _ => False) hS dX8_anyOf_33 mvX8_189 ob162 rfl (by first | decide | omega) (by decide) (Nat.le_of_ble_eq_true rfl) ⟨Nat.le_trans (by decide) hR.1, Nat.le_trans (by decide) hR.2⟩ (fun _ _ q => q.elim) (m_emit (t := (16, 0)) p5 rfl rfl (by simp only [List.length_append]; omega) (fun g6 p6 _ => ?_))
            refine J_goto (tgt := 4) hS dX8_anyOf_36 (by decide) ?_
            refine ih (i + 1) (L ++ L2 ++ [(16, 0)]) s2 g6 (by omega) (by omega) p6 ?_
            rw [heq, opR_yes hlk, f1]; rfl
          · have p5 := p4.bad f2
            refine J_aload_n hS dX8_anyOf_29 rfl ?_
            refine J_bipush (v := 16) hS dX8_anyOf_30 (by decide) ?_
            refine J_iconst (v := 0) hS dX8_anyOf_32 (by decide) ?_
            refine J_callV2 (X' := fun _ _ => False) hS dX8_anyOf_33 mvX8_189 ob162 rfl (by first | decide | omega) (by decide) (Nat.le_of_ble_eq_true rfl) ⟨Nat.le_trans (by decide) hR.1, Nat.le_trans (by decide) hR.2⟩ (fun _ _ q => q.elim) (m_emitN p5.bd ?_)
            refine J_goto (tgt := 4) hS dX8_anyOf_36 (by decide) ?_
            exact bad g5 e (by rw [heq, opR_yes hlk, f1]; rfl) p5
  refine J_aload_n hS dX8_anyOf_0 rfl ?_
  refine J_callV0 (X' := fun _ _ => False) hS dX8_anyOf_1 mvX8_218 ob162 rfl (by first | decide | omega) (by decide) (Nat.le_of_ble_eq_true rfl) ⟨Nat.le_trans (by decide) hR.1, Nat.le_trans (by decide) hR.2⟩ (fun _ _ q => q.elim) (hu g c s _ _ hp (fun L s1 g1 f1 f2 => ?_) (fun e g1 f1 f2 => ?_))
  · exact H (n + 1) 0 L s1 g1 (by omega) (by omega) f2 (by unfold chn; rw [f1]; rfl)
  · exact bad g1 e (by unfold chn; rw [f1]; rfl) f2
end RdD


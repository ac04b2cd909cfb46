/-! THE REFERENCE: its public methods, 2 -/
section RefP2
variable {l : Launch} {E : Ey} {g : Mm} {Q : Option Value → Mm → Prop} {X : String → Mm → Prop} {w : Wr} {n : Nat}
theorem m_sign {c p s : Int32} (hI : RI g w n) (x : ou n c → ∀ g', FrZ g g' → g' 162 0 = 1 → Q (some (.int 0)) g') (x2 : ¬ ou n c → (ou 8 p ∨ ou 16 s) → ∀ g', FrZ g g' → g' 162 0 = 2 → Q (some (.int 0)) g') (q : ∀ i j k, i < n → c = nI i → j < 8 → p = nI j → k < 16 → s = nI k → ∀ g', FrZ g g' → g' 162 0 = 0 → Q (some (.int (w (sgB i j + k)))) g') : Ct l E lay NC 2 0 0 yX8_sign [.ref 162, .int c, .int p, .int s] g Q X := by
  have hn := hI.hn
  refine Ct_in k_yX8_sign (by decide) rfl (Nat.le_of_ble_eq_true rfl) rfl ?_
  intro S hS hZ hr ht hR
  show J S 0 0 (g) 0 [some (.ref 162), some (.int c), some (.int p), some (.int s)] []
  refine J_aload_n hS dX8_sign_0 rfl ?_
  refine J_iconst (v := 0) hS dX8_sign_1 (by decide) ?_
  refine J_putI hS dX8_sign_2 fpX8_1 ob162 rfl (fun g2 eg2 => ?_)
  have z2 : FrZ g g2 := by rw [eg2]; exact FrZ_thr
  have t2 : g2 162 0 = 0 := by rw [eg2, u2_self]
  have i2 := hI.fr z2
  rcases in_or (y := c) (b := n) (by first | decide | omega) with ⟨k, hk, ek⟩ | hbk
  ·
    subst ek
    have nk := nou hk (show n < 2 ^ 31 by omega)
    have bad : (ou 8 p ∨ ou 16 s) → J S 0 0 g2 38 [some (.ref 162), some (.int (nI k)), some (.int p), some (.int s)] [.ref 162] := by
      intro hbad
      refine J_iconst (v := 0) hS dX8_sign_38 (by decide) ?_
      refine J_iconst (v := 2) hS dX8_sign_39 (by decide) ?_
      refine J_callV2 (X' := fun _ _ => False) hS dX8_sign_40 mvX8_110 ob162 rfl (by first | decide | omega) (by decide) (Nat.le_of_ble_eq_true rfl) ⟨Nat.le_trans (by decide) hR.1, Nat.le_trans (by decide) hR.2⟩ (fun _ _ q => q.elim) (m_mayN t2 (by decide) ?_)
      refine J_if_ne (tgt := 48) hS dX8_sign_43 (by decide) (fun c2 => ?_) (fun c2 => ?_)
      · exact absurd rfl c2
      ·
        refine J_iconst (v := 0) hS dX8_sign_46 (by decide) ?_
        refine J_iret hS hZ hr dX8_sign_47 (by omega) (by omega) ?_
        exact x2 nk hbad _ (z2.trans FrZ_thr) (u2_self ..)
    refine J_aload_n hS dX8_sign_5 rfl ?_
    refine J_iload_n hS dX8_sign_6 rfl ?_
    refine J_callV1 (X' := fun _ _ => False) hS dX8_sign_7 mvX8_125 ob162 rfl (by first | decide | omega) (by decide) (Nat.le_of_ble_eq_true rfl) ⟨Nat.le_trans (by decide) hR.1, Nat.le_trans (by decide) hR.2⟩ (fun _ _ q => q.elim) (m_childY i2 t2 hk ?_)
    refine J_if_eq (tgt := 46) hS dX8_sign_10 (by decide) (fun c1 => ?_) (fun c1 => ?_)
    · exact absurd c1 (by decide)
    ·
      rcases in_or (y := p) (b := 8) (by first | decide | omega) with ⟨j, hj, ej⟩ | hbj
      ·
        subst ej
        refine J_aload_n hS dX8_sign_13 rfl ?_
        refine J_iload_n hS dX8_sign_14 rfl ?_
        refine J_iconst (v := 0) hS dX8_sign_15 (by decide) ?_
        refine J_bipush (v := 7) hS dX8_sign_16 (by decide) ?_
        refine J_callS3 (X' := fun _ _ => False) hS dX8_sign_18 msX8_106 rfl (by first | decide | omega) (by decide) (Nat.le_of_ble_eq_true rfl) ⟨Nat.le_trans (by decide) hR.1, Nat.le_trans (by decide) hR.2⟩ (fun _ _ q => q.elim) (m_ouY (m := 8) (by decide) (by decide) hj ?_)
        refine J_if_eq (tgt := 38) hS dX8_sign_21 (by decide) (fun c2 => ?_) (fun c2 => ?_)
        · exact absurd c2 (by decide)
        ·
          rcases in_or (y := s) (b := 16) (by first | decide | omega) with ⟨i, hi, ei⟩ | hbi
          ·
            subst ei
            refine J_iload_n hS dX8_sign_24 rfl ?_
            refine J_iconst (v := 0) hS dX8_sign_25 (by decide) ?_
            refine J_bipush (v := 15) hS dX8_sign_26 (by decide) ?_
            refine J_callS3 (X' := fun _ _ => False) hS dX8_sign_28 msX8_106 rfl (by first | decide | omega) (by decide) (Nat.le_of_ble_eq_true rfl) ⟨Nat.le_trans (by decide) hR.1, Nat.le_trans (by decide) hR.2⟩ (fun _ _ q => q.elim) (m_ouY (m := 16) (by decide) (by decide) hi ?_)
            refine J_if_eq (tgt := 38) hS dX8_sign_31 (by decide) (fun c3 => ?_) (fun c3 => ?_)
            · exact absurd c3 (by decide)
            ·
              refine J_iconst (v := 1) hS dX8_sign_34 (by decide) ?_
              refine J_goto (tgt := 39) hS dX8_sign_35 (by decide) ?_
              refine J_iconst (v := 2) hS dX8_sign_39 (by decide) ?_
              refine J_callV2 (X' := fun _ _ => False) hS dX8_sign_40 mvX8_110 ob162 rfl (by first | decide | omega) (by decide) (Nat.le_of_ble_eq_true rfl) ⟨Nat.le_trans (by decide) hR.1, Nat.le_trans (by decide) hR.2⟩ (fun _ _ q => q.elim) (m_mayY t2 (by decide) ?_)
              refine J_if_ne (tgt := 48) hS dX8_sign_43 (by decide) (fun c4 => ?_) (fun c4 => ?_)
              ·
                refine J_aload_n hS dX8_sign_48 rfl ?_
                refine J_getR (t := 164) hS dX8_sign_49 flX8_13 ob162 rfl ?_
                refine J_iload_n hS dX8_sign_52 rfl ?_
                refine J_callS1 (X' := fun _ _ => False) hS dX8_sign_53 msX8_121 rfl (by first | decide | omega) (by decide) (Nat.le_of_ble_eq_true rfl) ⟨Nat.le_trans (by decide) hR.1, Nat.le_trans (by decide) hR.2⟩ (fun _ _ q => q.elim) (m_at ?_)
                refine J_bipush (v := 8) hS dX8_sign_56 (by decide) ?_
                refine J_iadd hS dX8_sign_58 ?_
                refine J_bipush (v := 16) hS dX8_sign_59 (by decide) ?_
                refine J_iload_n hS dX8_sign_61 rfl ?_
                refine J_imul hS dX8_sign_62 ?_
                refine J_iadd hS dX8_sign_63 ?_
                refine J_iload_n hS dX8_sign_64 rfl ?_
                refine J_iadd hS dX8_sign_65 ?_
                refine J_ialdN hS (56 + 142 * k + 8 + 16 * j + i) dX8_sign_66 (show Ar lay NC .int 164 3464 from arM 1 3464 (by decide) (by decide) rfl) (by rw [n8, n16, nI_add, pk_mul, nI_add, nI_add]) (by omega) (by decide) ?_
                show J S 0 0 (g2) 67 [some (.ref 162), some (.int (nI k)), some (.int (nI j)), some (.int (nI i))] [.int _]
                rw [i2.row _ (by omega)]
                refine J_iret hS hZ hr dX8_sign_67 (by omega) (by omega) ?_
                exact q k j i hk rfl hj rfl hi rfl g2 z2 t2
              · exact absurd c4 (by decide)
          ·
            refine J_iload_n hS dX8_sign_24 rfl ?_
            refine J_iconst (v := 0) hS dX8_sign_25 (by decide) ?_
            refine J_bipush (v := 15) hS dX8_sign_26 (by decide) ?_
            refine J_callS3 (X' := fun _ _ => False) hS dX8_sign_28 msX8_106 rfl (by first | decide | omega) (by decide) (Nat.le_of_ble_eq_true rfl) ⟨Nat.le_trans (by decide) hR.1, Nat.le_trans (by decide) hR.2⟩ (fun _ _ q => q.elim) (m_ouN (m := 16) (by decide) (by decide) hbi ?_)
            refine J_if_eq (tgt := 38) hS dX8_sign_31 (by decide) (fun c3 => ?_) (fun c3 => ?_)
            · exact bad (Or.inr hbi)
            · exact absurd rfl c3
      ·
        refine J_aload_n hS dX8_sign_13 rfl ?_
        refine J_iload_n hS dX8_sign_14 rfl ?_
        refine J_iconst (v := 0) hS dX8_sign_15 (by decide) ?_
        refine J_bipush (v := 7) hS dX8_sign_16 (by decide) ?_
        refine J_callS3 (X' := fun _ _ => False) hS dX8_sign_18 msX8_106 rfl (by first | decide | omega) (by decide) (Nat.le_of_ble_eq_true rfl) ⟨Nat.le_trans (by decide) hR.1, Nat.le_trans (by decide) hR.2⟩ (fun _ _ q => q.elim) (m_ouN (m := 8) (by decide) (by decide) hbj ?_)
        refine J_if_eq (tgt := 38) hS dX8_sign_21 (by decide) (fun c2 => ?_) (fun c2 => ?_)
        · exact bad (Or.inl hbj)
        · exact absurd rfl c2
  ·
    refine J_aload_n hS dX8_sign_5 rfl ?_
    refine J_iload_n hS dX8_sign_6 rfl ?_
    refine J_callV1 (X' := fun _ _ => False) hS dX8_sign_7 mvX8_125 ob162 rfl (by first | decide | omega) (by decide) (Nat.le_of_ble_eq_true rfl) ⟨Nat.le_trans (by decide) hR.1, Nat.le_trans (by decide) hR.2⟩ (fun _ _ q => q.elim) (m_childN i2 t2 hbk ?_)
    refine J_if_eq (tgt := 46) hS dX8_sign_10 (by decide) (fun c1 => ?_) (fun c1 => ?_)
    ·
      refine J_iconst (v := 0) hS dX8_sign_46 (by decide) ?_
      refine J_iret hS hZ hr dX8_sign_47 (by omega) (by omega) ?_
      exact x hbk _ (z2.trans FrZ_thr) (u2_self ..)
    · exact absurd rfl c1
theorem m_order {c o : Int32} (hI : RI g w n) (x : ou n c → ∀ g', FrZ g g' → g' 162 0 = 1 → Q (some (.int 0)) g') (x2 : ¬ ou n c → ou 6 o → ∀ g', FrZ g g' → g' 162 0 = 2 → Q (some (.int 0)) g') (q : ∀ i j, i < n → c = nI i → j < 6 → o = nI j → ∀ g', FrZ g g' → g' 162 0 = 0 → Q (some (.int (w (odB i + j)))) g') : Ct l E lay NC 2 0 0 yX8_order [.ref 162, .int c, .int o] g Q X := by
  have hn := hI.hn
  refine Ct_in k_yX8_order (by decide) rfl (Nat.le_of_ble_eq_true rfl) rfl ?_
  intro S hS hZ hr ht hR
  show J S 0 0 (g) 0 [some (.ref 162), some (.int c), some (.int o)] []
  refine J_aload_n hS dX8_order_0 rfl ?_
  refine J_iconst (v := 0) hS dX8_order_1 (by decide) ?_
  refine J_putI hS dX8_order_2 fpX8_1 ob162 rfl (fun g2 eg2 => ?_)
  have z2 : FrZ g g2 := by rw [eg2]; exact FrZ_thr
  have t2 : g2 162 0 = 0 := by rw [eg2, u2_self]
  have i2 := hI.fr z2
  rcases in_or (y := c) (b := n) (by first | decide | omega) with ⟨k, hk, ek⟩ | hbk
  ·
    subst ek
    have nk := nou hk (show n < 2 ^ 31 by omega)
    refine J_aload_n hS dX8_order_5 rfl ?_
    refine J_iload_n hS dX8_order_6 rfl ?_
    refine J_callV1 (X' := fun _ _ => False) hS dX8_order_7 mvX8_125 ob162 rfl (by first | decide | omega) (by decide) (Nat.le_of_ble_eq_true rfl) ⟨Nat.le_trans (by decide) hR.1, Nat.le_trans (by decide) hR.2⟩ (fun _ _ q => q.elim) (m_childY i2 t2 hk ?_)
    refine J_if_eq (tgt := 25) hS dX8_order_10 (by decide) (fun c1 => ?_) (fun c1 => ?_)
    · exact absurd c1 (by decide)
    ·
      rcases in_or (y := o) (b := 6) (by first | decide | omega) with ⟨j, hj, ej⟩ | hbj
      ·
        subst ej
        refine J_aload_n hS dX8_order_13 rfl ?_
        refine J_iload_n hS dX8_order_14 rfl ?_
        refine J_callS1 (X' := fun _ _ => False) hS dX8_order_15 msX8_132 rfl (by first | decide | omega) (by decide) (Nat.le_of_ble_eq_true rfl) ⟨Nat.le_trans (by decide) hR.1, Nat.le_trans (by decide) hR.2⟩ (fun _ _ q => q.elim) (m_ordY hj ?_)
        refine J_iconst (v := 2) hS dX8_order_18 (by decide) ?_
        refine J_callV2 (X' := fun _ _ => False) hS dX8_order_19 mvX8_110 ob162 rfl (by first | decide | omega) (by decide) (Nat.le_of_ble_eq_true rfl) ⟨Nat.le_trans (by decide) hR.1, Nat.le_trans (by decide) hR.2⟩ (fun _ _ q => q.elim) (m_mayY t2 (by decide) ?_)
        refine J_if_ne (tgt := 27) hS dX8_order_22 (by decide) (fun c2 => ?_) (fun c2 => ?_)
        ·
          refine J_aload_n hS dX8_order_27 rfl ?_
          refine J_getR (t := 164) hS dX8_order_28 flX8_13 ob162 rfl ?_
          refine J_iload_n hS dX8_order_31 rfl ?_
          refine J_callS1 (X' := fun _ _ => False) hS dX8_order_32 msX8_121 rfl (by first | decide | omega) (by decide) (Nat.le_of_ble_eq_true rfl) ⟨Nat.le_trans (by decide) hR.1, Nat.le_trans (by decide) hR.2⟩ (fun _ _ q => q.elim) (m_at ?_)
          refine J_sipush (v := 136) hS dX8_order_35 (by decide) ?_
          refine J_iadd hS dX8_order_38 ?_
          refine J_iload_n hS dX8_order_39 rfl ?_
          refine J_iadd hS dX8_order_40 ?_
          refine J_ialdN hS (56 + 142 * k + 136 + j) dX8_order_41 (show Ar lay NC .int 164 3464 from arM 1 3464 (by decide) (by decide) rfl) (by rw [n136, nI_add, nI_add]) (by omega) (by decide) ?_
          show J S 0 0 (g2) 42 [some (.ref 162), some (.int (nI k)), some (.int (nI j))] [.int _]
          rw [i2.row _ (by omega)]
          refine J_iret hS hZ hr dX8_order_42 (by omega) (by omega) ?_
          exact q k j hk rfl hj rfl g2 z2 t2
        · exact absurd c2 (by decide)
      ·
        refine J_aload_n hS dX8_order_13 rfl ?_
        refine J_iload_n hS dX8_order_14 rfl ?_
        refine J_callS1 (X' := fun _ _ => False) hS dX8_order_15 msX8_132 rfl (by first | decide | omega) (by decide) (Nat.le_of_ble_eq_true rfl) ⟨Nat.le_trans (by decide) hR.1, Nat.le_trans (by decide) hR.2⟩ (fun _ _ q => q.elim) (m_ordN hbj ?_)
        refine J_iconst (v := 2) hS dX8_order_18 (by decide) ?_
        refine J_callV2 (X' := fun _ _ => False) hS dX8_order_19 mvX8_110 ob162 rfl (by first | decide | omega) (by decide) (Nat.le_of_ble_eq_true rfl) ⟨Nat.le_trans (by decide) hR.1, Nat.le_trans (by decide) hR.2⟩ (fun _ _ q => q.elim) (m_mayN t2 (by decide) ?_)
        refine J_if_ne (tgt := 27) hS dX8_order_22 (by decide) (fun c2 => ?_) (fun c2 => ?_)
        · exact absurd rfl c2
        ·
          refine J_iconst (v := 0) hS dX8_order_25 (by decide) ?_
          refine J_iret hS hZ hr dX8_order_26 (by omega) (by omega) ?_
          exact x2 nk hbj _ (z2.trans FrZ_thr) (u2_self ..)
  ·
    refine J_aload_n hS dX8_order_5 rfl ?_
    refine J_iload_n hS dX8_order_6 rfl ?_
    refine J_callV1 (X' := fun _ _ => False) hS dX8_order_7 mvX8_125 ob162 rfl (by first | decide | omega) (by decide) (Nat.le_of_ble_eq_true rfl) ⟨Nat.le_trans (by decide) hR.1, Nat.le_trans (by decide) hR.2⟩ (fun _ _ q => q.elim) (m_childN i2 t2 hbk ?_)
    refine J_if_eq (tgt := 25) hS dX8_order_10 (by decide) (fun c1 => ?_) (fun c1 => ?_)
    ·
      refine J_iconst (v := 0) hS dX8_order_25 (by decide) ?_
      refine J_iret hS hZ hr dX8_order_26 (by omega) (by omega) ?_
      exact x hbk _ (z2.trans FrZ_thr) (u2_self ..)
    · exact absurd rfl c1
theorem m_holds {c o : Int32} {lw : Option (List Cls)} (hI : RI g w n) (hRl : RuleM g 164 lw) (x : ou n c → ∀ g', FrZ g g' → g' 162 0 = 1 → Q (some (.int 0)) g') (x2 : ¬ ou n c → ou 6 o → ∀ g', FrZ g g' → g' 162 0 = 2 → Q (some (.int 0)) g') (q : ∀ i j, i < n → c = nI i → j < 6 → o = nI j → ∀ (g' : Mm) (r : Int32), FrZ g g' → g' 162 0 = 0 → (r = 0 ∨ r = 1) → (r = 1 ↔ hldB lw (-1) w i j = true) → Q (some (.int r)) g') : Ct l E lay NC 4 0 0 yX8_holds [.ref 162, .int c, .int o] g Q X := by
  have hn := hI.hn
  refine Ct_in k_yX8_holds (by decide) rfl (Nat.le_of_ble_eq_true rfl) rfl ?_
  intro S hS hZ hr ht hR
  show J S 0 0 (g) 0 [some (.ref 162), some (.int c), some (.int o)] []
  refine J_aload_n hS dX8_holds_0 rfl ?_
  refine J_iconst (v := 0) hS dX8_holds_1 (by decide) ?_
  refine J_putI hS dX8_holds_2 fpX8_1 ob162 rfl (fun g2 eg2 => ?_)
  have z2 : FrZ g g2 := by rw [eg2]; exact FrZ_thr
  have t2 : g2 162 0 = 0 := by rw [eg2, u2_self]
  have i2 := hI.fr z2
  rcases in_or (y := c) (b := n) (by first | decide | omega) with ⟨k, hk, ek⟩ | hbk
  ·
    subst ek
    have nk := nou hk (show n < 2 ^ 31 by omega)
    refine J_aload_n hS dX8_holds_5 rfl ?_
    refine J_iload_n hS dX8_holds_6 rfl ?_
    refine J_callV1 (X' := fun _ _ => False) hS dX8_holds_7 mvX8_125 ob162 rfl (by first | decide | omega) (by decide) (Nat.le_of_ble_eq_true rfl) ⟨Nat.le_trans (by decide) hR.1, Nat.le_trans (by decide) hR.2⟩ (fun _ _ q => q.elim) (m_childY i2 t2 hk ?_)
    refine J_if_eq (tgt := 25) hS dX8_holds_10 (by decide) (fun c1 => ?_) (fun c1 => ?_)
    · exact absurd c1 (by decide)
    ·
      rcases in_or (y := o) (b := 6) (by first | decide | omega) with ⟨j, hj, ej⟩ | hbj
      ·
        subst ej
        refine J_aload_n hS dX8_holds_13 rfl ?_
        refine J_iload_n hS dX8_holds_14 rfl ?_
        refine J_callS1 (X' := fun _ _ => False) hS dX8_holds_15 msX8_132 rfl (by first | decide | omega) (by decide) (Nat.le_of_ble_eq_true rfl) ⟨Nat.le_trans (by decide) hR.1, Nat.le_trans (by decide) hR.2⟩ (fun _ _ q => q.elim) (m_ordY hj ?_)
        refine J_iconst (v := 2) hS dX8_holds_18 (by decide) ?_
        refine J_callV2 (X' := fun _ _ => False) hS dX8_holds_19 mvX8_110 ob162 rfl (by first | decide | omega) (by decide) (Nat.le_of_ble_eq_true rfl) ⟨Nat.le_trans (by decide) hR.1, Nat.le_trans (by decide) hR.2⟩ (fun _ _ q => q.elim) (m_mayY t2 (by decide) ?_)
        refine J_if_ne (tgt := 27) hS dX8_holds_22 (by decide) (fun c2 => ?_) (fun c2 => ?_)
        · have rul2 : RuleM g2 164 lw := hRl.fr (by rw [eg2, u2_ne _ (by decide)]) (fun z z1 z2 => by rw [eg2, u2_ne _ (by omega)])
          refine J_aload_n hS dX8_holds_27 rfl ?_
          refine J_iload_n hS dX8_holds_28 rfl ?_
          refine J_iload_n hS dX8_holds_29 rfl ?_
          refine J_callV2 (X' := fun _ _ => False) hS dX8_holds_30 mvX8_128 ob162 rfl (by first | decide | omega) (by decide) (Nat.le_of_ble_eq_true rfl) ⟨Nat.le_trans (by decide) hR.1, Nat.le_trans (by decide) hR.2⟩ (fun _ _ q => q.elim) (m_holdsNow Rw4 i2.w3 i2.rw (by omega) hj i2.lo rul2 (fun g3 r b1 b2 b3 b4 => ?_))
          refine J_zret hS hZ hr dX8_holds_33 b3 (by omega) (by omega) ?_
          exact q k j hk rfl hj rfl g3 r (z2.trans ⟨fun z z1 _ z3 _ _ _ _ _ _ _ => b1 z z1 z3, fun j hj => b2 j (by omega)⟩) (by rw [b2 0 (by decide)]; exact t2) b3 b4
        · exact absurd c2 (by decide)
      ·
        refine J_aload_n hS dX8_holds_13 rfl ?_
        refine J_iload_n hS dX8_holds_14 rfl ?_
        refine J_callS1 (X' := fun _ _ => False) hS dX8_holds_15 msX8_132 rfl (by first | decide | omega) (by decide) (Nat.le_of_ble_eq_true rfl) ⟨Nat.le_trans (by decide) hR.1, Nat.le_trans (by decide) hR.2⟩ (fun _ _ q => q.elim) (m_ordN hbj ?_)
        refine J_iconst (v := 2) hS dX8_holds_18 (by decide) ?_
        refine J_callV2 (X' := fun _ _ => False) hS dX8_holds_19 mvX8_110 ob162 rfl (by first | decide | omega) (by decide) (Nat.le_of_ble_eq_true rfl) ⟨Nat.le_trans (by decide) hR.1, Nat.le_trans (by decide) hR.2⟩ (fun _ _ q => q.elim) (m_mayN t2 (by decide) ?_)
        refine J_if_ne (tgt := 27) hS dX8_holds_22 (by decide) (fun c2 => ?_) (fun c2 => ?_)
        · exact absurd rfl c2
        ·
          refine J_iconst (v := 0) hS dX8_holds_25 (by decide) ?_
          refine J_zret hS hZ hr dX8_holds_26 (by decide) (by omega) (by omega) ?_
          exact x2 nk hbj _ (z2.trans FrZ_thr) (u2_self ..)
  ·
    refine J_aload_n hS dX8_holds_5 rfl ?_
    refine J_iload_n hS dX8_holds_6 rfl ?_
    refine J_callV1 (X' := fun _ _ => False) hS dX8_holds_7 mvX8_125 ob162 rfl (by first | decide | omega) (by decide) (Nat.le_of_ble_eq_true rfl) ⟨Nat.le_trans (by decide) hR.1, Nat.le_trans (by decide) hR.2⟩ (fun _ _ q => q.elim) (m_childN i2 t2 hbk ?_)
    refine J_if_eq (tgt := 25) hS dX8_holds_10 (by decide) (fun c1 => ?_) (fun c1 => ?_)
    ·
      refine J_iconst (v := 0) hS dX8_holds_25 (by decide) ?_
      refine J_zret hS hZ hr dX8_holds_26 (by decide) (by omega) (by omega) ?_
      exact x hbk _ (z2.trans FrZ_thr) (u2_self ..)
    · exact absurd rfl c1
theorem m_set {a v : Int32} (hI : RI g w n) (x : ¬ (a = 0 ∧ 10 ≤ v ∧ v ≤ 10000) → ¬ (a = 1 ∧ 0 ≤ v ∧ v ≤ 100) → ∀ g', FrZ g g' → g' 162 0 = 1 → Q (some (.int 0)) g') (q0 : a = 0 → 10 ≤ v ∧ v ≤ 10000 → ∀ g', FrRm g g' → (∀ i, i < 3464 → g' 164 i = upd w 3 v i) → Q (some (.int (w 3))) g') (q1 : a = 1 → 0 ≤ v ∧ v ≤ 100 → ∀ g', FrRm g g' → (∀ i, i < 3464 → g' 164 i = upd w 4 v i) → Q (some (.int (w 4))) g') : Ct l E lay NC 1 0 0 yX8_set [.ref 162, .int a, .int v] g Q X := by
  refine Ct_in k_yX8_set (by decide) rfl (Nat.le_of_ble_eq_true rfl) rfl ?_
  intro S hS hZ hr ht hR
  show J S 0 0 (g) 0 [some (.ref 162), some (.int a), some (.int v), none] []
  refine J_aload_n hS dX8_set_0 rfl ?_
  refine J_iconst (v := 0) hS dX8_set_1 (by decide) ?_
  refine J_putI hS dX8_set_2 fpX8_1 ob162 rfl (fun g2 eg2 => ?_)
  have z2 : FrZ g g2 := by rw [eg2]; exact FrZ_thr
  have t2 : g2 162 0 = 0 := by rw [eg2, u2_self]
  have i2 := hI.fr z2
  have bad : ¬ (a = 0 ∧ 10 ≤ v ∧ v ≤ 10000) → ¬ (a = 1 ∧ 0 ≤ v ∧ v ≤ 100) → J S 0 0 g2 48 [some (.ref 162), some (.int a), some (.int v), none] [.ref 162] := by
    intro b1 b2
    refine J_iconst (v := 0) hS dX8_set_48 (by decide) ?_
    refine J_iconst (v := 1) hS dX8_set_49 (by decide) ?_
    refine J_callV2 (X' := fun _ _ => False) hS dX8_set_50 mvX8_110 ob162 rfl (by first | decide | omega) (by decide) (Nat.le_of_ble_eq_true rfl) ⟨Nat.le_trans (by decide) hR.1, Nat.le_trans (by decide) hR.2⟩ (fun _ _ q => q.elim) (m_mayN t2 (by decide) ?_)
    refine J_if_ne (tgt := 58) hS dX8_set_53 (by decide) (fun c2 => ?_) (fun c2 => ?_)
    · exact absurd rfl c2
    ·
      refine J_iconst (v := 0) hS dX8_set_56 (by decide) ?_
      refine J_iret hS hZ hr dX8_set_57 (by omega) (by omega) ?_
      exact x b1 b2 _ (z2.trans FrZ_thr) (u2_self ..)
  by_cases a0 : a = 0
  ·
    refine J_aload_n hS dX8_set_5 rfl ?_
    refine J_iload_n hS dX8_set_6 rfl ?_
    refine J_iconst (v := 0) hS dX8_set_7 (by decide) ?_
    refine J_iconst (v := 1) hS dX8_set_8 (by decide) ?_
    refine J_callS3 (X' := fun _ _ => False) hS dX8_set_9 msX8_106 rfl (by first | decide | omega) (by decide) (Nat.le_of_ble_eq_true rfl) ⟨Nat.le_trans (by decide) hR.1, Nat.le_trans (by decide) hR.2⟩ (fun _ _ q => q.elim) (m_winY (by rw [a0]; decide) ?_)
    refine J_if_eq (tgt := 48) hS dX8_set_12 (by decide) (fun c1 => ?_) (fun c1 => ?_)
    · exact absurd c1 (by decide)
    ·
      refine J_iload_n hS dX8_set_15 rfl ?_
      refine J_if_ne (tgt := 34) hS dX8_set_16 (by decide) (fun c2 => ?_) (fun c2 => ?_)
      · exact absurd a0 c2
      · by_cases hv : 10 ≤ v ∧ v ≤ 10000
        ·
          refine J_iload_n hS dX8_set_19 rfl ?_
          refine J_bipush (v := 10) hS dX8_set_20 (by decide) ?_
          refine J_sipush (v := 10000) hS dX8_set_22 (by decide) ?_
          refine J_callS3 (X' := fun _ _ => False) hS dX8_set_25 msX8_106 rfl (by first | decide | omega) (by decide) (Nat.le_of_ble_eq_true rfl) ⟨Nat.le_trans (by decide) hR.1, Nat.le_trans (by decide) hR.2⟩ (fun _ _ q => q.elim) (m_winY hv ?_)
          refine J_if_eq (tgt := 48) hS dX8_set_28 (by decide) (fun c3 => ?_) (fun c3 => ?_)
          · exact absurd c3 (by decide)
          ·
            refine J_goto (tgt := 44) hS dX8_set_31 (by decide) ?_
            refine J_iconst (v := 1) hS dX8_set_44 (by decide) ?_
            refine J_goto (tgt := 49) hS dX8_set_45 (by decide) ?_
            refine J_iconst (v := 1) hS dX8_set_49 (by decide) ?_
            refine J_callV2 (X' := fun _ _ => False) hS dX8_set_50 mvX8_110 ob162 rfl (by first | decide | omega) (by decide) (Nat.le_of_ble_eq_true rfl) ⟨Nat.le_trans (by decide) hR.1, Nat.le_trans (by decide) hR.2⟩ (fun _ _ q => q.elim) (m_mayY t2 (by decide) ?_)
            refine J_if_ne (tgt := 58) hS dX8_set_53 (by decide) (fun c4 => ?_) (fun c4 => ?_)
            ·
              refine J_aload_n hS dX8_set_58 rfl ?_
              refine J_getR (t := 164) hS dX8_set_59 flX8_13 ob162 rfl ?_
              refine J_iload_n hS dX8_set_62 rfl ?_
              refine J_if_ne (tgt := 70) hS dX8_set_63 (by decide) (fun c5 => ?_) (fun c5 => ?_)
              · exact absurd a0 c5
              ·
                refine J_iconst (v := 3) hS dX8_set_66 (by decide) ?_
                refine J_goto (tgt := 71) hS dX8_set_67 (by decide) ?_
                refine J_ialdN hS (3) dX8_set_71 (show Ar lay NC .int 164 3464 from arM 1 3464 (by decide) (by decide) rfl) (by first | rfl | (simp only [n0, n1, n2, n3, n4, n5, n6, n7, n8, n9, n10, n11, n12, n13, n14, n15, n16, n17, n18, n19, n20, n24, n32, n56, n60, n64, n72, n99, n100, n128, n136, n142, n144, n200, n300, n999, n1000, n1500, n3464, nI_add, pk_mul] <;> first | rfl | (congr 1; omega))) (by decide) (by decide) ?_
                show J S 0 0 (g2) 72 [some (.ref 162), some (.int a), some (.int v), none] [.int _]
                rw [i2.row _ (by decide)]
                refine J_istore_n (lt := fun x3 => [some (.ref 162), some (.int a), some (.int v), some (.int x3)]) hS dX8_set_72 (Nat.le_of_ble_eq_true rfl) (fun _ => rfl) (fun x3 ex3 => ?_)
                refine J_aload_n hS dX8_set_73 rfl ?_
                refine J_getR (t := 164) hS dX8_set_74 flX8_13 ob162 rfl ?_
                refine J_iload_n hS dX8_set_77 rfl ?_
                refine J_if_ne (tgt := 85) hS dX8_set_78 (by decide) (fun c6 => ?_) (fun c6 => ?_)
                · exact absurd a0 c6
                ·
                  refine J_iconst (v := 3) hS dX8_set_81 (by decide) ?_
                  refine J_goto (tgt := 86) hS dX8_set_82 (by decide) ?_
                  refine J_iload_n hS dX8_set_86 rfl ?_
                  refine J_iastN hS (3) dX8_set_87 (show Ar lay NC .int 164 3464 from arM 1 3464 (by decide) (by decide) rfl) (by first | rfl | (simp only [n0, n1, n2, n3, n4, n5, n6, n7, n8, n9, n10, n11, n12, n13, n14, n15, n16, n17, n18, n19, n20, n24, n32, n56, n60, n64, n72, n99, n100, n128, n136, n142, n144, n200, n300, n999, n1000, n1500, n3464, nI_add, pk_mul] <;> first | rfl | (congr 1; omega))) (by decide) (by decide) (fun g87 eg87 => ?_)
                  refine J_aload_n hS dX8_set_88 rfl ?_
                  refine J_callV0 (X' := fun _ _ => False) hS dX8_set_89 mvX8_114 ob162 rfl (by first | decide | omega) (by decide) (Nat.le_of_ble_eq_true rfl) ⟨Nat.le_trans (by decide) hR.1, Nat.le_trans (by decide) hR.2⟩ (fun _ _ q => q.elim) (m_ends ?_)
                  refine J_iload_n hS dX8_set_92 rfl ?_
                  refine J_iret hS hZ hr dX8_set_93 (by omega) (by omega) ?_
                  rw [eg87, show x3 = _ from ex3]
                  exact q0 a0 hv _ (FrRm_put eg2) (row_put i2)
            · exact absurd c4 (by decide)
        ·
          refine J_iload_n hS dX8_set_19 rfl ?_
          refine J_bipush (v := 10) hS dX8_set_20 (by decide) ?_
          refine J_sipush (v := 10000) hS dX8_set_22 (by decide) ?_
          refine J_callS3 (X' := fun _ _ => False) hS dX8_set_25 msX8_106 rfl (by first | decide | omega) (by decide) (Nat.le_of_ble_eq_true rfl) ⟨Nat.le_trans (by decide) hR.1, Nat.le_trans (by decide) hR.2⟩ (fun _ _ q => q.elim) (m_winN hv ?_)
          refine J_if_eq (tgt := 48) hS dX8_set_28 (by decide) (fun c3 => ?_) (fun c3 => ?_)
          · exact bad (fun z => hv z.2) (fun z => absurd (z.1.symm.trans a0) (by decide))
          · exact absurd rfl c3
  · by_cases a1 : a = 1
    ·
      refine J_aload_n hS dX8_set_5 rfl ?_
      refine J_iload_n hS dX8_set_6 rfl ?_
      refine J_iconst (v := 0) hS dX8_set_7 (by decide) ?_
      refine J_iconst (v := 1) hS dX8_set_8 (by decide) ?_
      refine J_callS3 (X' := fun _ _ => False) hS dX8_set_9 msX8_106 rfl (by first | decide | omega) (by decide) (Nat.le_of_ble_eq_true rfl) ⟨Nat.le_trans (by decide) hR.1, Nat.le_trans (by decide) hR.2⟩ (fun _ _ q => q.elim) (m_winY (by rw [a1]; decide) ?_)
      refine J_if_eq (tgt := 48) hS dX8_set_12 (by decide) (fun c1 => ?_) (fun c1 => ?_)
      · exact absurd c1 (by decide)
      ·
        refine J_iload_n hS dX8_set_15 rfl ?_
        refine J_if_ne (tgt := 34) hS dX8_set_16 (by decide) (fun c2 => ?_) (fun c2 => ?_)
        · by_cases hv : 0 ≤ v ∧ v ≤ 100
          ·
            refine J_iload_n hS dX8_set_34 rfl ?_
            refine J_iconst (v := 0) hS dX8_set_35 (by decide) ?_
            refine J_bipush (v := 100) hS dX8_set_36 (by decide) ?_
            refine J_callS3 (X' := fun _ _ => False) hS dX8_set_38 msX8_106 rfl (by first | decide | omega) (by decide) (Nat.le_of_ble_eq_true rfl) ⟨Nat.le_trans (by decide) hR.1, Nat.le_trans (by decide) hR.2⟩ (fun _ _ q => q.elim) (m_winY hv ?_)
            refine J_if_eq (tgt := 48) hS dX8_set_41 (by decide) (fun c3 => ?_) (fun c3 => ?_)
            · exact absurd c3 (by decide)
            ·
              refine J_iconst (v := 1) hS dX8_set_44 (by decide) ?_
              refine J_goto (tgt := 49) hS dX8_set_45 (by decide) ?_
              refine J_iconst (v := 1) hS dX8_set_49 (by decide) ?_
              refine J_callV2 (X' := fun _ _ => False) hS dX8_set_50 mvX8_110 ob162 rfl (by first | decide | omega) (by decide) (Nat.le_of_ble_eq_true rfl) ⟨Nat.le_trans (by decide) hR.1, Nat.le_trans (by decide) hR.2⟩ (fun _ _ q => q.elim) (m_mayY t2 (by decide) ?_)
              refine J_if_ne (tgt := 58) hS dX8_set_53 (by decide) (fun c4 => ?_) (fun c4 => ?_)
              ·
                refine J_aload_n hS dX8_set_58 rfl ?_
                refine J_getR (t := 164) hS dX8_set_59 flX8_13 ob162 rfl ?_
                refine J_iload_n hS dX8_set_62 rfl ?_
                refine J_if_ne (tgt := 70) hS dX8_set_63 (by decide) (fun c5 => ?_) (fun c5 => ?_)
                ·
                  refine J_iconst (v := 4) hS dX8_set_70 (by decide) ?_
                  refine J_ialdN hS (4) dX8_set_71 (show Ar lay NC .int 164 3464 from arM 1 3464 (by decide) (by decide) rfl) (by first | rfl | (simp only [n0, n1, n2, n3, n4, n5, n6, n7, n8, n9, n10, n11, n12, n13, n14, n15, n16, n17, n18, n19, n20, n24, n32, n56, n60, n64, n72, n99, n100, n128, n136, n142, n144, n200, n300, n999, n1000, n1500, n3464, nI_add, pk_mul] <;> first | rfl | (congr 1; omega))) (by decide) (by decide) ?_
                  show J S 0 0 (g2) 72 [some (.ref 162), some (.int a), some (.int v), none] [.int _]
                  rw [i2.row _ (by decide)]
                  refine J_istore_n (lt := fun x3 => [some (.ref 162), some (.int a), some (.int v), some (.int x3)]) hS dX8_set_72 (Nat.le_of_ble_eq_true rfl) (fun _ => rfl) (fun x3 ex3 => ?_)
                  refine J_aload_n hS dX8_set_73 rfl ?_
                  refine J_getR (t := 164) hS dX8_set_74 flX8_13 ob162 rfl ?_
                  refine J_iload_n hS dX8_set_77 rfl ?_
                  refine J_if_ne (tgt := 85) hS dX8_set_78 (by decide) (fun c6 => ?_) (fun c6 => ?_)
                  ·
                    refine J_iconst (v := 4) hS dX8_set_85 (by decide) ?_
                    refine J_iload_n hS dX8_set_86 rfl ?_
                    refine J_iastN hS (4) dX8_set_87 (show Ar lay NC .int 164 3464 from arM 1 3464 (by decide) (by decide) rfl) (by first | rfl | (simp only [n0, n1, n2, n3, n4, n5, n6, n7, n8, n9, n10, n11, n12, n13, n14, n15, n16, n17, n18, n19, n20, n24, n32, n56, n60, n64, n72, n99, n100, n128, n136, n142, n144, n200, n300, n999, n1000, n1500, n3464, nI_add, pk_mul] <;> first | rfl | (congr 1; omega))) (by decide) (by decide) (fun g87 eg87 => ?_)
                    refine J_aload_n hS dX8_set_88 rfl ?_
                    refine J_callV0 (X' := fun _ _ => False) hS dX8_set_89 mvX8_114 ob162 rfl (by first | decide | omega) (by decide) (Nat.le_of_ble_eq_true rfl) ⟨Nat.le_trans (by decide) hR.1, Nat.le_trans (by decide) hR.2⟩ (fun _ _ q => q.elim) (m_ends ?_)
                    refine J_iload_n hS dX8_set_92 rfl ?_
                    refine J_iret hS hZ hr dX8_set_93 (by omega) (by omega) ?_
                    rw [eg87, show x3 = _ from ex3]
                    exact q1 a1 hv _ (FrRm_put eg2) (row_put i2)
                  · exact absurd c6 a0
                · exact absurd c5 a0
              · exact absurd c4 (by decide)
          ·
            refine J_iload_n hS dX8_set_34 rfl ?_
            refine J_iconst (v := 0) hS dX8_set_35 (by decide) ?_
            refine J_bipush (v := 100) hS dX8_set_36 (by decide) ?_
            refine J_callS3 (X' := fun _ _ => False) hS dX8_set_38 msX8_106 rfl (by first | decide | omega) (by decide) (Nat.le_of_ble_eq_true rfl) ⟨Nat.le_trans (by decide) hR.1, Nat.le_trans (by decide) hR.2⟩ (fun _ _ q => q.elim) (m_winN hv ?_)
            refine J_if_eq (tgt := 48) hS dX8_set_41 (by decide) (fun c3 => ?_) (fun c3 => ?_)
            · exact bad (fun z => a0 z.1) (fun z => hv z.2)
            · exact absurd rfl c3
        · exact absurd c2 a0
    · have hno : ¬ ((0 : Int32) ≤ a ∧ a ≤ 1) := by
        rintro ⟨h0, h1⟩
        have b0 : (0 : Int) ≤ a.toInt := Int32.le_iff_toInt_le.mp h0
        have b1 : a.toInt ≤ 1 := Int32.le_iff_toInt_le.mp h1
        rcases (show a.toInt = 0 ∨ a.toInt = 1 by omega) with e | e
        · exact a0 (Int32.toInt_inj.mp e)
        · exact a1 (Int32.toInt_inj.mp e)
      refine J_aload_n hS dX8_set_5 rfl ?_
      refine J_iload_n hS dX8_set_6 rfl ?_
      refine J_iconst (v := 0) hS dX8_set_7 (by decide) ?_
      refine J_iconst (v := 1) hS dX8_set_8 (by decide) ?_
      refine J_callS3 (X' := fun _ _ => False) hS dX8_set_9 msX8_106 rfl (by first | decide | omega) (by decide) (Nat.le_of_ble_eq_true rfl) ⟨Nat.le_trans (by decide) hR.1, Nat.le_trans (by decide) hR.2⟩ (fun _ _ q => q.elim) (m_winN hno ?_)
      refine J_if_eq (tgt := 48) hS dX8_set_12 (by decide) (fun c1 => ?_) (fun c1 => ?_)
      · exact bad (fun z => a0 z.1) (fun z => a1 z.1)
      · exact absurd rfl c1
theorem m_years {m : Int32} (hI : RI g w n) (x : ou 61 m → ∀ g', FrZ g g' → g' 162 0 = 1 → Q (some (.int 0)) g') (x2 : ¬ ou 61 m → ¬ w 2 + m ≤ 60 → ∀ g', FrZ g g' → g' 162 0 = 2 → Q (some (.int 0)) g') (q : ¬ ou 61 m → w 2 + m ≤ 60 → ∀ g', FrRm g g' → (∀ i, i < 3464 → g' 164 i = upd w 2 (w 2 + m) i) → Q (some (.int (w 2 + m))) g') : Ct l E lay NC 1 0 0 yX8_years [.ref 162, .int m] g Q X := by
  refine Ct_in k_yX8_years (by decide) rfl (Nat.le_of_ble_eq_true rfl) rfl ?_
  intro S hS hZ hr ht hR
  show J S 0 0 (g) 0 [some (.ref 162), some (.int m)] []
  refine J_aload_n hS dX8_years_0 rfl ?_
  refine J_iconst (v := 0) hS dX8_years_1 (by decide) ?_
  refine J_putI hS dX8_years_2 fpX8_1 ob162 rfl (fun g2 eg2 => ?_)
  have z2 : FrZ g g2 := by rw [eg2]; exact FrZ_thr
  have t2 : g2 162 0 = 0 := by rw [eg2, u2_self]
  have i2 := hI.fr z2
  by_cases hm : ou 61 m
  ·
    refine J_aload_n hS dX8_years_5 rfl ?_
    refine J_iload_n hS dX8_years_6 rfl ?_
    refine J_iconst (v := 0) hS dX8_years_7 (by decide) ?_
    refine J_bipush (v := 60) hS dX8_years_8 (by decide) ?_
    refine J_callS3 (X' := fun _ _ => False) hS dX8_years_10 msX8_106 rfl (by first | decide | omega) (by decide) (Nat.le_of_ble_eq_true rfl) ⟨Nat.le_trans (by decide) hR.1, Nat.le_trans (by decide) hR.2⟩ (fun _ _ q => q.elim) (m_ouN (m := 61) (by decide) (by decide) hm ?_)
    refine J_iconst (v := 1) hS dX8_years_13 (by decide) ?_
    refine J_callV2 (X' := fun _ _ => False) hS dX8_years_14 mvX8_110 ob162 rfl (by first | decide | omega) (by decide) (Nat.le_of_ble_eq_true rfl) ⟨Nat.le_trans (by decide) hR.1, Nat.le_trans (by decide) hR.2⟩ (fun _ _ q => q.elim) (m_mayN t2 (by decide) ?_)
    refine J_if_eq (tgt := 46) hS dX8_years_17 (by decide) (fun c1 => ?_) (fun c1 => ?_)
    ·
      refine J_iconst (v := 0) hS dX8_years_46 (by decide) ?_
      refine J_iret hS hZ hr dX8_years_47 (by omega) (by omega) ?_
      exact x hm _ (z2.trans FrZ_thr) (u2_self ..)
    · exact absurd rfl c1
  ·
    refine J_aload_n hS dX8_years_5 rfl ?_
    refine J_iload_n hS dX8_years_6 rfl ?_
    refine J_iconst (v := 0) hS dX8_years_7 (by decide) ?_
    refine J_bipush (v := 60) hS dX8_years_8 (by decide) ?_
    refine J_callS3 (X' := fun _ _ => False) hS dX8_years_10 msX8_106 rfl (by first | decide | omega) (by decide) (Nat.le_of_ble_eq_true rfl) ⟨Nat.le_trans (by decide) hR.1, Nat.le_trans (by decide) hR.2⟩ (fun _ _ q => q.elim) (m_winY ((ou_w (n := 61) (by decide) (by decide)).mpr hm) ?_)
    refine J_iconst (v := 1) hS dX8_years_13 (by decide) ?_
    refine J_callV2 (X' := fun _ _ => False) hS dX8_years_14 mvX8_110 ob162 rfl (by first | decide | omega) (by decide) (Nat.le_of_ble_eq_true rfl) ⟨Nat.le_trans (by decide) hR.1, Nat.le_trans (by decide) hR.2⟩ (fun _ _ q => q.elim) (m_mayY t2 (by decide) ?_)
    refine J_if_eq (tgt := 46) hS dX8_years_17 (by decide) (fun c1 => ?_) (fun c1 => ?_)
    · exact absurd c1 (by decide)
    ·
      refine J_aload_n hS dX8_years_20 rfl ?_
      refine J_aload_n hS dX8_years_21 rfl ?_
      refine J_getR (t := 164) hS dX8_years_22 flX8_13 ob162 rfl ?_
      refine J_iconst (v := 2) hS dX8_years_25 (by decide) ?_
      refine J_ialdN hS (2) dX8_years_26 (show Ar lay NC .int 164 3464 from arM 1 3464 (by decide) (by decide) rfl) (by first | rfl | (simp only [n0, n1, n2, n3, n4, n5, n6, n7, n8, n9, n10, n11, n12, n13, n14, n15, n16, n17, n18, n19, n20, n24, n32, n56, n60, n64, n72, n99, n100, n128, n136, n142, n144, n200, n300, n999, n1000, n1500, n3464, nI_add, pk_mul] <;> first | rfl | (congr 1; omega))) (by decide) (by decide) ?_
      show J S 0 0 (g2) 27 [some (.ref 162), some (.int m)] [.int _, .ref 162]
      rw [i2.row _ (by decide)]
      refine J_iload_n hS dX8_years_27 rfl ?_
      refine J_iadd hS dX8_years_28 ?_
      refine J_bipush (v := 60) hS dX8_years_29 (by decide) ?_
      refine J_icmp_gt (tgt := 38) hS dX8_years_31 (by decide) (fun c2 => ?_) (fun c2 => ?_)
      ·
        refine J_iconst (v := 0) hS dX8_years_38 (by decide) ?_
        refine J_iconst (v := 2) hS dX8_years_39 (by decide) ?_
        refine J_callV2 (X' := fun _ _ => False) hS dX8_years_40 mvX8_110 ob162 rfl (by first | decide | omega) (by decide) (Nat.le_of_ble_eq_true rfl) ⟨Nat.le_trans (by decide) hR.1, Nat.le_trans (by decide) hR.2⟩ (fun _ _ q => q.elim) (m_mayN t2 (by decide) ?_)
        refine J_if_ne (tgt := 48) hS dX8_years_43 (by decide) (fun c3 => ?_) (fun c3 => ?_)
        · exact absurd rfl c3
        ·
          refine J_iconst (v := 0) hS dX8_years_46 (by decide) ?_
          refine J_iret hS hZ hr dX8_years_47 (by omega) (by omega) ?_
          exact x2 hm (fun z => absurd c2 (Int32.not_lt.mpr z)) _ (z2.trans FrZ_thr) (u2_self ..)
      ·
        refine J_iconst (v := 1) hS dX8_years_34 (by decide) ?_
        refine J_goto (tgt := 39) hS dX8_years_35 (by decide) ?_
        refine J_iconst (v := 2) hS dX8_years_39 (by decide) ?_
        refine J_callV2 (X' := fun _ _ => False) hS dX8_years_40 mvX8_110 ob162 rfl (by first | decide | omega) (by decide) (Nat.le_of_ble_eq_true rfl) ⟨Nat.le_trans (by decide) hR.1, Nat.le_trans (by decide) hR.2⟩ (fun _ _ q => q.elim) (m_mayY t2 (by decide) ?_)
        refine J_if_ne (tgt := 48) hS dX8_years_43 (by decide) (fun c3 => ?_) (fun c3 => ?_)
        ·
          refine J_aload_n hS dX8_years_48 rfl ?_
          refine J_getR (t := 164) hS dX8_years_49 flX8_13 ob162 rfl ?_
          refine J_iconst (v := 2) hS dX8_years_52 (by decide) ?_
          refine J_dup2 hS dX8_years_53 rfl rfl ?_
          refine J_ialdN hS (2) dX8_years_54 (show Ar lay NC .int 164 3464 from arM 1 3464 (by decide) (by decide) rfl) (by first | rfl | (simp only [n0, n1, n2, n3, n4, n5, n6, n7, n8, n9, n10, n11, n12, n13, n14, n15, n16, n17, n18, n19, n20, n24, n32, n56, n60, n64, n72, n99, n100, n128, n136, n142, n144, n200, n300, n999, n1000, n1500, n3464, nI_add, pk_mul] <;> first | rfl | (congr 1; omega))) (by decide) (by decide) ?_
          show J S 0 0 (g2) 55 [some (.ref 162), some (.int m)] [.int _, .int 2, .ref (164)]
          rw [i2.row _ (by decide)]
          refine J_iload_n hS dX8_years_55 rfl ?_
          refine J_iadd hS dX8_years_56 ?_
          refine J_iastN hS (2) dX8_years_57 (show Ar lay NC .int 164 3464 from arM 1 3464 (by decide) (by decide) rfl) (by first | rfl | (simp only [n0, n1, n2, n3, n4, n5, n6, n7, n8, n9, n10, n11, n12, n13, n14, n15, n16, n17, n18, n19, n20, n24, n32, n56, n60, n64, n72, n99, n100, n128, n136, n142, n144, n200, n300, n999, n1000, n1500, n3464, nI_add, pk_mul] <;> first | rfl | (congr 1; omega))) (by decide) (by decide) (fun g57 eg57 => ?_)
          refine J_aload_n hS dX8_years_58 rfl ?_
          refine J_callV0 (X' := fun _ _ => False) hS dX8_years_59 mvX8_114 ob162 rfl (by first | decide | omega) (by decide) (Nat.le_of_ble_eq_true rfl) ⟨Nat.le_trans (by decide) hR.1, Nat.le_trans (by decide) hR.2⟩ (fun _ _ q => q.elim) (m_ends ?_)
          refine J_aload_n hS dX8_years_62 rfl ?_
          refine J_getR (t := 164) hS dX8_years_63 flX8_13 ob162 rfl ?_
          refine J_iconst (v := 2) hS dX8_years_66 (by decide) ?_
          refine J_ialdN hS (2) dX8_years_67 (show Ar lay NC .int 164 3464 from arM 1 3464 (by decide) (by decide) rfl) (by first | rfl | (simp only [n0, n1, n2, n3, n4, n5, n6, n7, n8, n9, n10, n11, n12, n13, n14, n15, n16, n17, n18, n19, n20, n24, n32, n56, n60, n64, n72, n99, n100, n128, n136, n142, n144, n200, n300, n999, n1000, n1500, n3464, nI_add, pk_mul] <;> first | rfl | (congr 1; omega))) (by decide) (by decide) ?_
          show J S 0 0 ((u2 g57 162 46 (-1))) 68 [some (.ref 162), some (.int m)] [.int _]
          rw [show u2 g57 162 46 (-1) 164 2 = w 2 + m by rw [u2_ne _ (by decide), eg57, u2_self]]
          refine J_iret hS hZ hr dX8_years_68 (by omega) (by omega) ?_
          rw [eg57]
          exact q hm (Int32.not_lt.mp c2) _ (FrRm_put eg2) (row_put i2)
        · exact absurd c3 (by decide)
end RefP2


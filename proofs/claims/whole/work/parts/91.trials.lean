/-! THE REFERENCE: trial, needed, odds -/
theorem trial_bad {Y M O : Prop} (h : Y ∨ M ∨ O) : Y ∨ M ∨ O := h
section RefT1
variable {l : Launch} {E : Ey} {g : Mm} {Q : Option Value → Mm → Prop} {X : String → Mm → Prop} {w : Wr} {n : Nat}
set_option maxRecDepth 10000 in
theorem m_trial {y0 m0 v o0 : Int32} {Ls : List (List Cls)} (hI : RI g w n) (hL : LawsM g Ls) (x : ¬ isLw Ls.length v → ∀ g', FrZ g g' → g' 162 0 = 1 → Q (some (.int 0)) g') (x2 : isLw Ls.length v → (ou 3 y0 ∨ ou 201 m0 ∨ ou 6 o0) → ∀ g', FrZ g g' → g' 162 0 = 2 → Q (some (.int 0)) g') (q : isLw Ls.length v → ∀ y m o, y < 3 → y0 = nI y → m < 201 → m0 = nI m → o < 6 → o0 = nI o → ∀ g', FrZ g g' → g' 162 0 = 0 → Q (some (.int (nI (trC (lwOf Ls v) (-1) n y m o w)))) g') : Ct l E lay NC 7 0 0 yX8_trial [.ref 162, .int y0, .int m0, .int v, .int o0] g Q X := by
  refine Ct_in k_yX8_trial (by decide) rfl (Nat.le_of_ble_eq_true rfl) rfl ?_
  intro S hS hZ hr ht hR
  show J S 0 0 (g) 0 [some (.ref 162), some (.int y0), some (.int m0), some (.int v), some (.int o0)] []
  refine J_aload_n hS dX8_trial_0 rfl ?_
  refine J_iconst (v := 0) hS dX8_trial_1 (by decide) ?_
  refine J_putI hS dX8_trial_2 fpX8_1 ob162 rfl (fun g2 eg2 => ?_)
  have z2 : FrZ g g2 := by rw [eg2]; exact FrZ_thr
  have t2 : g2 162 0 = 0 := by rw [eg2, u2_self]
  have i2 := hI.fr z2
  have L2 := hL.z z2
  have zero : ∀ g' : Mm, Q (some (.int 0)) g' → J S 0 0 g' 52 [some (.ref 162), some (.int y0), some (.int m0), some (.int v), some (.int o0)] [] := by
    intro g' hq
    refine J_iconst (v := 0) hS dX8_trial_52 (by decide) ?_
    refine J_iret hS hZ hr dX8_trial_53 (by omega) (by omega) ?_
    exact hq
  by_cases hv : isLw Ls.length v
  ·
    refine J_aload_n hS dX8_trial_5 rfl ?_
    refine J_iload_n hS dX8_trial_6 rfl ?_
    refine J_callV1 (X' := fun _ _ => False) hS dX8_trial_7 mvX8_237 ob162 rfl (by first | decide | omega) (by decide) (Nat.le_of_ble_eq_true rfl) ⟨Nat.le_trans (by decide) hR.1, Nat.le_trans (by decide) hR.2⟩ (fun _ _ q => q.elim) (m_lawY L2.1 L2.2.1 t2 hv ?_)
    refine J_if_eq (tgt := 52) hS dX8_trial_10 (by decide) (fun c1 => ?_) (fun c1 => ?_)
    · exact absurd c1 (by decide)
    ·
      refine J_aload_n hS dX8_trial_13 rfl ?_
      have bad : (ou 3 y0 ∨ ou 201 m0 ∨ ou 6 o0) → J S 0 0 g2 44 [some (.ref 162), some (.int y0), some (.int m0), some (.int v), some (.int o0)] [.ref 162] := by
        intro b1
        refine J_iconst (v := 0) hS dX8_trial_44 (by decide) ?_
        refine J_iconst (v := 2) hS dX8_trial_45 (by decide) ?_
        refine J_callV2 (X' := fun _ _ => False) hS dX8_trial_46 mvX8_110 ob162 rfl (by first | decide | omega) (by decide) (Nat.le_of_ble_eq_true rfl) ⟨Nat.le_trans (by decide) hR.1, Nat.le_trans (by decide) hR.2⟩ (fun _ _ q => q.elim) (m_mayN t2 (by decide) ?_)
        refine J_if_ne (tgt := 54) hS dX8_trial_49 (by decide) (fun c2 => ?_) (fun c2 => ?_)
        · exact absurd rfl c2
        · exact zero _ (x2 hv b1 _ (z2.trans FrZ_thr) (u2_self ..))
      rcases in_or (y := y0) (b := 3) (by first | decide | omega) with ⟨y, hy, ey⟩ | hby
      ·
        subst ey
        refine J_iload_n hS dX8_trial_14 rfl ?_
        refine J_callS1 (X' := fun _ _ => False) hS dX8_trial_15 msX8_117 rfl (by first | decide | omega) (by decide) (Nat.le_of_ble_eq_true rfl) ⟨Nat.le_trans (by decide) hR.1, Nat.le_trans (by decide) hR.2⟩ (fun _ _ q => q.elim) (m_yardY hy ?_)
        refine J_if_eq (tgt := 44) hS dX8_trial_18 (by decide) (fun c2 => ?_) (fun c2 => ?_)
        · exact absurd c2 (by decide)
        ·
          rcases in_or (y := m0) (b := 201) (by first | decide | omega) with ⟨m, hm, em⟩ | hbm
          ·
            subst em
            refine J_iload_n hS dX8_trial_21 rfl ?_
            refine J_iconst (v := 0) hS dX8_trial_22 (by decide) ?_
            refine J_sipush (v := 200) hS dX8_trial_23 (by decide) ?_
            refine J_callS3 (X' := fun _ _ => False) hS dX8_trial_26 msX8_106 rfl (by first | decide | omega) (by decide) (Nat.le_of_ble_eq_true rfl) ⟨Nat.le_trans (by decide) hR.1, Nat.le_trans (by decide) hR.2⟩ (fun _ _ q => q.elim) (m_ouY (m := 201) (by decide) (by decide) hm ?_)
            refine J_if_eq (tgt := 44) hS dX8_trial_29 (by decide) (fun c3 => ?_) (fun c3 => ?_)
            · exact absurd c3 (by decide)
            ·
              rcases in_or (y := o0) (b := 6) (by first | decide | omega) with ⟨o, ho, eo⟩ | hbo
              ·
                subst eo
                refine J_iload hS dX8_trial_32 rfl ?_
                refine J_callS1 (X' := fun _ _ => False) hS dX8_trial_34 msX8_132 rfl (by first | decide | omega) (by decide) (Nat.le_of_ble_eq_true rfl) ⟨Nat.le_trans (by decide) hR.1, Nat.le_trans (by decide) hR.2⟩ (fun _ _ q => q.elim) (m_ordY ho ?_)
                refine J_if_eq (tgt := 44) hS dX8_trial_37 (by decide) (fun c4 => ?_) (fun c4 => ?_)
                · exact absurd c4 (by decide)
                ·
                  refine J_iconst (v := 1) hS dX8_trial_40 (by decide) ?_
                  refine J_goto (tgt := 45) hS dX8_trial_41 (by decide) ?_
                  refine J_iconst (v := 2) hS dX8_trial_45 (by decide) ?_
                  refine J_callV2 (X' := fun _ _ => False) hS dX8_trial_46 mvX8_110 ob162 rfl (by first | decide | omega) (by decide) (Nat.le_of_ble_eq_true rfl) ⟨Nat.le_trans (by decide) hR.1, Nat.le_trans (by decide) hR.2⟩ (fun _ _ q => q.elim) (m_mayY t2 (by decide) ?_)
                  refine J_if_ne (tgt := 54) hS dX8_trial_49 (by decide) (fun c5 => ?_) (fun c5 => ?_)
                  ·
                    refine J_aload_n hS dX8_trial_54 rfl ?_
                    refine J_iload_n hS dX8_trial_55 rfl ?_
                    refine J_iload_n hS dX8_trial_56 rfl ?_
                    refine J_iload_n hS dX8_trial_57 rfl ?_
                    refine J_iload hS dX8_trial_58 rfl ?_
                    refine J_callV4 (X' := fun _ _ => False) hS dX8_trial_60 mvX8_371 ob162 rfl (by first | decide | omega) (by decide) (Nat.le_of_ble_eq_true rfl) ⟨Nat.le_trans (by decide) hR.1, Nat.le_trans (by decide) hR.2⟩ (fun _ _ q => q.elim) (m_tryWith i2.j L2 hv i2.lo hy hm ho (fun g3 f3 w3 => ?_))
                    refine J_iret hS hZ hr dX8_trial_63 (by omega) (by omega) ?_
                    exact q hv y m o hy rfl hm rfl ho rfl g3 (z2.trans (f3.z i2.w3 w3)) (by rw [f3.2 0 (by decide)]; exact t2)
                  · exact absurd c5 (by decide)
              ·
                refine J_iload hS dX8_trial_32 rfl ?_
                refine J_callS1 (X' := fun _ _ => False) hS dX8_trial_34 msX8_132 rfl (by first | decide | omega) (by decide) (Nat.le_of_ble_eq_true rfl) ⟨Nat.le_trans (by decide) hR.1, Nat.le_trans (by decide) hR.2⟩ (fun _ _ q => q.elim) (m_ordN hbo ?_)
                refine J_if_eq (tgt := 44) hS dX8_trial_37 (by decide) (fun c4 => ?_) (fun c4 => ?_)
                · exact bad (Or.inr (Or.inr hbo))
                · exact absurd rfl c4
          ·
            refine J_iload_n hS dX8_trial_21 rfl ?_
            refine J_iconst (v := 0) hS dX8_trial_22 (by decide) ?_
            refine J_sipush (v := 200) hS dX8_trial_23 (by decide) ?_
            refine J_callS3 (X' := fun _ _ => False) hS dX8_trial_26 msX8_106 rfl (by first | decide | omega) (by decide) (Nat.le_of_ble_eq_true rfl) ⟨Nat.le_trans (by decide) hR.1, Nat.le_trans (by decide) hR.2⟩ (fun _ _ q => q.elim) (m_ouN (m := 201) (by decide) (by decide) hbm ?_)
            refine J_if_eq (tgt := 44) hS dX8_trial_29 (by decide) (fun c3 => ?_) (fun c3 => ?_)
            · exact bad (Or.inr (Or.inl hbm))
            · exact absurd rfl c3
      ·
        refine J_iload_n hS dX8_trial_14 rfl ?_
        refine J_callS1 (X' := fun _ _ => False) hS dX8_trial_15 msX8_117 rfl (by first | decide | omega) (by decide) (Nat.le_of_ble_eq_true rfl) ⟨Nat.le_trans (by decide) hR.1, Nat.le_trans (by decide) hR.2⟩ (fun _ _ q => q.elim) (m_yardN hby ?_)
        refine J_if_eq (tgt := 44) hS dX8_trial_18 (by decide) (fun c2 => ?_) (fun c2 => ?_)
        · exact bad (Or.inl hby)
        · exact absurd rfl c2
  ·
    refine J_aload_n hS dX8_trial_5 rfl ?_
    refine J_iload_n hS dX8_trial_6 rfl ?_
    refine J_callV1 (X' := fun _ _ => False) hS dX8_trial_7 mvX8_237 ob162 rfl (by first | decide | omega) (by decide) (Nat.le_of_ble_eq_true rfl) ⟨Nat.le_trans (by decide) hR.1, Nat.le_trans (by decide) hR.2⟩ (fun _ _ q => q.elim) (m_lawN L2.1 L2.2.1 t2 hv ?_)
    refine J_if_eq (tgt := 52) hS dX8_trial_10 (by decide) (fun c1 => ?_) (fun c1 => ?_)
    · exact zero _ (x hv _ (z2.trans FrZ_thr) (u2_self ..))
    · exact absurd rfl c1
set_option maxRecDepth 10000 in
theorem m_needed {y0 m0 o0 : Int32} {Ls : List (List Cls)} (hI : RI g w n) (hL : LawsM g Ls) (hv : isLw Ls.length (w 5)) (x : (ou 3 y0 ∨ ou 201 m0 ∨ ou 6 o0) → ∀ g', FrZ g g' → g' 162 0 = 1 → Q (some (.int 0)) g') (q0 : ¬ (ou 3 y0 ∨ ou 201 m0 ∨ ou 6 o0) → w 5 = -1 → ∀ g', FrZ g g' → g' 162 0 = 0 → Q (some (.int 0)) g') (q : ∀ y m o, y < 3 → y0 = nI y → m < 201 → m0 = nI m → o < 6 → o0 = nI o → ∀ k L, k < Ls.length → w 5 = nI k → Ls[k]? = some L → ∀ g', FrZ g g' → g' 162 0 = 0 → Q (some (.int (ndB (fun c => trC (some L) (nI c) n y m o w) (trC (some L) (-1) n y m o w) L.length))) g') : Ct l E lay NC 7 0 0 yX8_needed [.ref 162, .int y0, .int m0, .int o0] g Q X := by
  refine Ct_in k_yX8_needed (by decide) rfl (Nat.le_of_ble_eq_true rfl) rfl ?_
  intro S hS hZ hr ht hR
  show J S 0 0 (g) 0 [some (.ref 162), some (.int y0), some (.int m0), some (.int o0), none, none, none, none] []
  refine J_aload_n hS dX8_needed_0 rfl ?_
  refine J_iconst (v := 0) hS dX8_needed_1 (by decide) ?_
  refine J_putI hS dX8_needed_2 fpX8_1 ob162 rfl (fun g2 eg2 => ?_)
  have z2 : FrZ g g2 := by rw [eg2]; exact FrZ_thr
  have t2 : g2 162 0 = 0 := by rw [eg2, u2_self]
  have i2 := hI.fr z2
  have L2 := hL.z z2
  have l6 := hL.1
  refine J_aload_n hS dX8_needed_5 rfl ?_
  have bad : (ou 3 y0 ∨ ou 201 m0 ∨ ou 6 o0) → J S 0 0 g2 35 [some (.ref 162), some (.int y0), some (.int m0), some (.int o0), none, none, none, none] [.ref 162] := by
    intro b1
    refine J_iconst (v := 0) hS dX8_needed_35 (by decide) ?_
    refine J_iconst (v := 1) hS dX8_needed_36 (by decide) ?_
    refine J_callV2 (X' := fun _ _ => False) hS dX8_needed_37 mvX8_110 ob162 rfl (by first | decide | omega) (by decide) (Nat.le_of_ble_eq_true rfl) ⟨Nat.le_trans (by decide) hR.1, Nat.le_trans (by decide) hR.2⟩ (fun _ _ q => q.elim) (m_mayN t2 (by decide) ?_)
    refine J_if_ne (tgt := 45) hS dX8_needed_40 (by decide) (fun c2 => ?_) (fun c2 => ?_)
    · exact absurd rfl c2
    ·
      refine J_iconst (v := 0) hS dX8_needed_43 (by decide) ?_
      refine J_iret hS hZ hr dX8_needed_44 (by omega) (by omega) ?_
      exact x b1 _ (z2.trans FrZ_thr) (u2_self ..)
  rcases in_or (y := y0) (b := 3) (by first | decide | omega) with ⟨y, hy, ey⟩ | hby
  ·
    subst ey
    refine J_iload_n hS dX8_needed_6 rfl ?_
    refine J_callS1 (X' := fun _ _ => False) hS dX8_needed_7 msX8_117 rfl (by first | decide | omega) (by decide) (Nat.le_of_ble_eq_true rfl) ⟨Nat.le_trans (by decide) hR.1, Nat.le_trans (by decide) hR.2⟩ (fun _ _ q => q.elim) (m_yardY hy ?_)
    refine J_if_eq (tgt := 35) hS dX8_needed_10 (by decide) (fun c2 => ?_) (fun c2 => ?_)
    · exact absurd c2 (by decide)
    ·
      rcases in_or (y := m0) (b := 201) (by first | decide | omega) with ⟨m, hm, em⟩ | hbm
      ·
        subst em
        refine J_iload_n hS dX8_needed_13 rfl ?_
        refine J_iconst (v := 0) hS dX8_needed_14 (by decide) ?_
        refine J_sipush (v := 200) hS dX8_needed_15 (by decide) ?_
        refine J_callS3 (X' := fun _ _ => False) hS dX8_needed_18 msX8_106 rfl (by first | decide | omega) (by decide) (Nat.le_of_ble_eq_true rfl) ⟨Nat.le_trans (by decide) hR.1, Nat.le_trans (by decide) hR.2⟩ (fun _ _ q => q.elim) (m_ouY (m := 201) (by decide) (by decide) hm ?_)
        refine J_if_eq (tgt := 35) hS dX8_needed_21 (by decide) (fun c3 => ?_) (fun c3 => ?_)
        · exact absurd c3 (by decide)
        ·
          rcases in_or (y := o0) (b := 6) (by first | decide | omega) with ⟨o, ho, eo⟩ | hbo
          ·
            subst eo
            refine J_iload_n hS dX8_needed_24 rfl ?_
            refine J_callS1 (X' := fun _ _ => False) hS dX8_needed_25 msX8_132 rfl (by first | decide | omega) (by decide) (Nat.le_of_ble_eq_true rfl) ⟨Nat.le_trans (by decide) hR.1, Nat.le_trans (by decide) hR.2⟩ (fun _ _ q => q.elim) (m_ordY ho ?_)
            refine J_if_eq (tgt := 35) hS dX8_needed_28 (by decide) (fun c4 => ?_) (fun c4 => ?_)
            · exact absurd c4 (by decide)
            ·
              refine J_iconst (v := 1) hS dX8_needed_31 (by decide) ?_
              refine J_goto (tgt := 36) hS dX8_needed_32 (by decide) ?_
              refine J_iconst (v := 1) hS dX8_needed_36 (by decide) ?_
              refine J_callV2 (X' := fun _ _ => False) hS dX8_needed_37 mvX8_110 ob162 rfl (by first | decide | omega) (by decide) (Nat.le_of_ble_eq_true rfl) ⟨Nat.le_trans (by decide) hR.1, Nat.le_trans (by decide) hR.2⟩ (fun _ _ q => q.elim) (m_mayY t2 (by decide) ?_)
              refine J_if_ne (tgt := 45) hS dX8_needed_40 (by decide) (fun c5 => ?_) (fun c5 => ?_)
              ·
                refine J_aload_n hS dX8_needed_45 rfl ?_
                refine J_getR (t := 164) hS dX8_needed_46 flX8_13 ob162 rfl ?_
                refine J_iconst (v := 5) hS dX8_needed_49 (by decide) ?_
                refine J_ialdN hS (5) dX8_needed_50 Rw4.ar (by first | rfl | (simp only [n0, n1, n2, n3, n4, n5, n6, n7, n8, n9, n10, n11, n12, n13, n14, n15, n16, n17, n18, n19, n20, n24, n32, n56, n60, n64, n72, n99, n100, n128, n136, n142, n144, n200, n300, n999, n1000, n1500, n3464, nI_add, pk_mul] <;> first | rfl | (congr 1; omega))) (by decide) (by decide) ?_
                show J S 0 0 (g2) 51 [some (.ref 162), some (.int (nI y)), some (.int (nI m)), some (.int (nI o)), none, none, none, none] [.int _]
                rw [i2.row 5 (by decide)]
                refine J_istore (lt := fun x4 => [some (.ref 162), some (.int (nI y)), some (.int (nI m)), some (.int (nI o)), some (.int x4), none, none, none]) hS dX8_needed_51 (Nat.le_of_ble_eq_true rfl) (fun _ => rfl) (fun x4 ex4 => ?_)
                refine J_iload hS dX8_needed_53 rfl ?_
                refine J_iconst (v := (-1)) hS dX8_needed_55 (by decide) ?_
                rw [show x4 = w 5 from ex4]
                refine J_icmp_ne (tgt := 61) hS dX8_needed_56 (by decide) (fun c6 => ?_) (fun c6 => ?_)
                · obtain ⟨k, hk, ek⟩ := hv.resolve_left c6
                  obtain ⟨L, hLk⟩ : ∃ L, Ls[k]? = some L := ⟨_, List.getElem?_eq_getElem hk⟩
                  have hlw : lwOf Ls (w 5) = some L := by unfold lwOf; rw [if_neg c6, ek, nI_clamp (by omega)]; exact hLk
                  have hLM := L2.2.2 k L hLk
                  obtain ⟨F, hF⟩ : ∃ F : Nat → Nat, F = fun c => trC (some L) (nI c) n y m o w := ⟨_, rfl⟩
                  obtain ⟨A, hA⟩ : ∃ A : Nat, A = trC (some L) (-1) n y m o w := ⟨_, rfl⟩
                  have qq := q y m o hy rfl hm rfl ho rfl k L hk ek hLk
                  rw [← hF, ← hA] at qq
                  refine J_aload_n hS dX8_needed_61 rfl ?_
                  refine J_iload_n hS dX8_needed_62 rfl ?_
                  refine J_iload_n hS dX8_needed_63 rfl ?_
                  refine J_iload hS dX8_needed_64 rfl ?_
                  refine J_iload_n hS dX8_needed_66 rfl ?_
                  refine J_callV4 (X' := fun _ _ => False) hS dX8_needed_67 mvX8_371 ob162 rfl (by first | decide | omega) (by decide) (Nat.le_of_ble_eq_true rfl) ⟨Nat.le_trans (by decide) hR.1, Nat.le_trans (by decide) hR.2⟩ (fun _ _ q => q.elim) (m_tryWith i2.j L2 hv i2.lo hy hm ho (fun g3 f3 w3 => ?_))
                  rw [hlw, ← hA]
                  refine J_istore (lt := fun x5 => [some (.ref 162), some (.int (nI y)), some (.int (nI m)), some (.int (nI o)), some (.int (w 5)), some (.int x5), none, none]) hS dX8_needed_70 (Nat.le_of_ble_eq_true rfl) (fun _ => rfl) (fun x5 ex5 => ?_)
                  refine J_iconst (v := 0) hS dX8_needed_72 (by decide) ?_
                  refine J_istore (lt := fun x6 => [some (.ref 162), some (.int (nI y)), some (.int (nI m)), some (.int (nI o)), some (.int (w 5)), some (.int x5), some (.int x6), none]) hS dX8_needed_73 (Nat.le_of_ble_eq_true rfl) (fun _ => rfl) (fun x6 ex6 => ?_)
                  refine J_iconst (v := 0) hS dX8_needed_75 (by decide) ?_
                  refine J_istore (lt := fun x7 => [some (.ref 162), some (.int (nI y)), some (.int (nI m)), some (.int (nI o)), some (.int (w 5)), some (.int x5), some (.int x6), some (.int x7)]) hS dX8_needed_76 (Nat.le_of_ble_eq_true rfl) (fun _ => rfl) (fun x7 ex7 => ?_)
                  rw [show x5 = nI A from ex5]
                  suffices H : ∀ (t i : Nat) (b v : Int32) (g4 : Mm), i + t = L.length → v = nI i → b = ndB F A i → (∀ z, z ≠ 162 → z ≠ 165 → z ≠ 191 → z ≠ 197 → z ≠ 198 → z ≠ 199 → z ≠ 205 → g4 z = g2 z) → (∀ j, (j = 0 ∨ j = 4 ∨ j = 11 ∨ j = 12 ∨ j = 37 ∨ j = 45 ∨ j = 46 ∨ j = 54) → g4 162 j = g2 162 j) → g4 162 3 = nI 164 → J S 0 0 g4 78 [some (.ref 162), some (.int (nI y)), some (.int (nI m)), some (.int (nI o)), some (.int (w 5)), some (.int (nI A)), some (.int b), some (.int v)] [] by
                    exact H L.length 0 x6 x7 g3 (by omega) ex7 ex6 f3.1 (fun j hj => f3.2 j (by omega)) w3
                  intro t
                  induction t with
                  | zero =>
                    intro i b v g4 hi hv' hb k1 k2 k3
                    have e : i = L.length := by omega
                    subst hv'
                    refine J_iload hS dX8_needed_78 rfl ?_
                    refine J_aload_n hS dX8_needed_80 rfl ?_
                    refine J_getR (t := 177) hS dX8_needed_81 flX8_29 ob162 rfl ?_
                    refine J_iload hS dX8_needed_84 rfl ?_
                    refine J_ialdN hS (k) dX8_needed_86 (show Ar lay NC .int 177 6 from arM 14 6 (by decide) (by decide) rfl) ek (by omega) (by decide) ?_
                    show J S 0 0 (g4) 87 [some (.ref 162), some (.int (nI y)), some (.int (nI m)), some (.int (nI o)), some (.int (w 5)), some (.int (nI A)), some (.int b), some (.int (nI i))] [.int _, .int (nI i)]
                    rw [k1 177 (by decide) (by decide) (by decide) (by decide) (by decide) (by decide) (by decide), hLM.2.1]
                    refine J_icmp_ge (tgt := 129) hS dX8_needed_87 (by decide) (fun c7 => ?_) (fun c7 => ?_)
                    ·
                      refine J_aload_n hS dX8_needed_129 rfl ?_
                      refine J_iconst (v := (-1)) hS dX8_needed_130 (by decide) ?_
                      refine J_putI hS dX8_needed_131 fpX8_50 ob162 rfl (fun g131 eg131 => ?_)
                      refine J_iload hS dX8_needed_134 rfl ?_
                      refine J_iret hS hZ hr dX8_needed_136 (by omega) (by omega) ?_
                      rw [hb, e]
                      refine qq g131 (z2.trans ⟨fun z z1 z2 z3 z4 z5 z6 z7 _ _ _ => by rw [eg131, u2_ne z z1]; exact k1 z z1 z2 z3 z4 z5 z6 z7, fun j hj => ?_⟩) (by rw [eg131, u2_at, if_neg (by decide), k2 0 (by decide)]; exact t2)
                      rw [eg131, u2_at]
                      split
                      · rename_i e; rw [e]; exact i2.lo.symm
                      · rcases hj with e | hj
                        · rw [e, k3]; exact i2.w3.symm
                        · exact k2 j (by omega)
                    · exact absurd (by rw [e]; exact Int32.le_refl _) c7
                  | succ t ih =>
                    intro i b v g4 hi hv' hb k1 k2 k3
                    subst hv'
                    have hiL : i < L.length := by omega
                    have l12 := hLM.1
                    refine J_iload hS dX8_needed_78 rfl ?_
                    refine J_aload_n hS dX8_needed_80 rfl ?_
                    refine J_getR (t := 177) hS dX8_needed_81 flX8_29 ob162 rfl ?_
                    refine J_iload hS dX8_needed_84 rfl ?_
                    refine J_ialdN hS (k) dX8_needed_86 (show Ar lay NC .int 177 6 from arM 14 6 (by decide) (by decide) rfl) ek (by omega) (by decide) ?_
                    show J S 0 0 (g4) 87 [some (.ref 162), some (.int (nI y)), some (.int (nI m)), some (.int (nI o)), some (.int (w 5)), some (.int (nI A)), some (.int b), some (.int (nI i))] [.int _, .int (nI i)]
                    rw [k1 177 (by decide) (by decide) (by decide) (by decide) (by decide) (by decide) (by decide), hLM.2.1]
                    refine J_icmp_ge (tgt := 129) hS dX8_needed_87 (by decide) (fun c7 => ?_) (fun c7 => ?_)
                    · exact absurd c7 (nI_ge hiL (by omega))
                    ·
                      refine J_aload_n hS dX8_needed_90 rfl ?_
                      refine J_iload hS dX8_needed_91 rfl ?_
                      refine J_putI hS dX8_needed_93 fpX8_50 ob162 rfl (fun g93 eg93 => ?_)
                      refine J_iload hS dX8_needed_96 rfl ?_
                      have j5 : RJ g93 w n := ⟨fun i hi => by rw [eg93, u2_ne 164 (by decide), k1 164 (by decide) (by decide) (by decide) (by decide) (by decide) (by decide) (by decide)]; exact i2.row i hi, i2.j.2⟩
                      have L5 : LawsM g93 Ls := L2.fr (by rw [eg93, u2_at, if_neg (by decide)]; exact k2 11 (by decide)) (fun z z1 z2 => by rw [eg93, u2_ne z (by omega)]; exact k1 z (by omega) (by omega) (by omega) (by omega) (by omega) (by omega) (by omega))
                      have lo5 : g93 162 27 = nI i := by rw [eg93, u2_self]
                      have aft : ∀ (c : Int32) (g6 : Mm), FrB g93 g6 → g6 162 3 = nI 164 → b ||| c = ndB F A (i + 1) → J S 0 0 g6 120 [some (.ref 162), some (.int (nI y)), some (.int (nI m)), some (.int (nI o)), some (.int (w 5)), some (.int (nI A)), some (.int b), some (.int (nI i))] [.int c, .int b] := by
                        intro c g6 f6 w6 hc
                        refine J_ior hS dX8_needed_120 ?_
                        refine J_istore (lt := fun b2 => [some (.ref 162), some (.int (nI y)), some (.int (nI m)), some (.int (nI o)), some (.int (w 5)), some (.int (nI A)), some (.int b2), some (.int (nI i))]) hS dX8_needed_121 (Nat.le_of_ble_eq_true rfl) (fun _ => rfl) (fun b2 eb2 => ?_)
                        refine J_iinc (lt := fun i3 => [some (.ref 162), some (.int (nI y)), some (.int (nI m)), some (.int (nI o)), some (.int (w 5)), some (.int (nI A)), some (.int b2), some (.int i3)]) (v := 1) hS dX8_needed_123 rfl (by decide) (fun _ => rfl) (fun i3 ei3 => ?_)
                        refine J_goto (tgt := 78) hS dX8_needed_126 (by decide) ?_
                        refine ih (i + 1) b2 i3 g6 (by omega) (by rw [ei3]; exact nI_1 i) (by rw [eb2]; exact hc) (fun z z1 z2 z3 z4 z5 z6 z7 => ?_) (fun j hj => ?_) w6
                        · rw [f6.1 z z1 z2 z3 z4 z5 z6 z7, eg93, u2_ne z z1]; exact k1 z z1 z2 z3 z4 z5 z6 z7
                        · rw [f6.2 j (by omega), eg93, u2_at, if_neg (by omega)]; exact k2 j hj
                      have hst : ndB F A (i + 1) = if nI (F i) < nI A then ndB F A i ||| (1 <<< (nI i &&& 31)) else ndB F A i := rfl
                      refine J_aload_n hS dX8_needed_98 rfl ?_
                      refine J_iload_n hS dX8_needed_99 rfl ?_
                      refine J_iload_n hS dX8_needed_100 rfl ?_
                      refine J_iload hS dX8_needed_101 rfl ?_
                      refine J_iload_n hS dX8_needed_103 rfl ?_
                      refine J_callV4 (X' := fun _ _ => False) hS dX8_needed_104 mvX8_371 ob162 rfl (by first | decide | omega) (by decide) (Nat.le_of_ble_eq_true rfl) ⟨Nat.le_trans (by decide) hR.1, Nat.le_trans (by decide) hR.2⟩ (fun _ _ q => q.elim) (m_tryWith j5 L5 hv lo5 hy hm ho (fun g6 f6 w6 => ?_))
                      rw [hlw, show trC (some L) (nI i) n y m o w = F i by rw [hF]]
                      refine J_iload hS dX8_needed_107 rfl ?_
                      refine J_icmp_ge (tgt := 119) hS dX8_needed_109 (by decide) (fun c8 => ?_) (fun c8 => ?_)
                      ·
                        refine J_iconst (v := 0) hS dX8_needed_119 (by decide) ?_
                        refine aft 0 g6 f6 w6 ?_
                        rw [hst, if_neg (Int32.not_lt.mpr c8), hb]; simp
                      ·
                        refine J_iconst (v := 1) hS dX8_needed_112 (by decide) ?_
                        refine J_iload hS dX8_needed_113 rfl ?_
                        refine J_ishl hS dX8_needed_115 ?_
                        refine J_goto (tgt := 120) hS dX8_needed_116 (by decide) ?_
                        refine aft _ g6 f6 w6 ?_
                        rw [hst, if_pos (Int32.not_le.mp c8), hb]
                ·
                  refine J_iconst (v := 0) hS dX8_needed_59 (by decide) ?_
                  refine J_iret hS hZ hr dX8_needed_60 (by omega) (by omega) ?_
                  exact q0 (fun z => z.elim (nou hy (by decide)) (fun z => z.elim (nou hm (by decide)) (nou ho (by decide)))) c6 g2 z2 t2
              · exact absurd c5 (by decide)
          ·
            refine J_iload_n hS dX8_needed_24 rfl ?_
            refine J_callS1 (X' := fun _ _ => False) hS dX8_needed_25 msX8_132 rfl (by first | decide | omega) (by decide) (Nat.le_of_ble_eq_true rfl) ⟨Nat.le_trans (by decide) hR.1, Nat.le_trans (by decide) hR.2⟩ (fun _ _ q => q.elim) (m_ordN hbo ?_)
            refine J_if_eq (tgt := 35) hS dX8_needed_28 (by decide) (fun c4 => ?_) (fun c4 => ?_)
            · exact bad (Or.inr (Or.inr hbo))
            · exact absurd rfl c4
      ·
        refine J_iload_n hS dX8_needed_13 rfl ?_
        refine J_iconst (v := 0) hS dX8_needed_14 (by decide) ?_
        refine J_sipush (v := 200) hS dX8_needed_15 (by decide) ?_
        refine J_callS3 (X' := fun _ _ => False) hS dX8_needed_18 msX8_106 rfl (by first | decide | omega) (by decide) (Nat.le_of_ble_eq_true rfl) ⟨Nat.le_trans (by decide) hR.1, Nat.le_trans (by decide) hR.2⟩ (fun _ _ q => q.elim) (m_ouN (m := 201) (by decide) (by decide) hbm ?_)
        refine J_if_eq (tgt := 35) hS dX8_needed_21 (by decide) (fun c3 => ?_) (fun c3 => ?_)
        · exact bad (Or.inr (Or.inl hbm))
        · exact absurd rfl c3
  ·
    refine J_iload_n hS dX8_needed_6 rfl ?_
    refine J_callS1 (X' := fun _ _ => False) hS dX8_needed_7 msX8_117 rfl (by first | decide | omega) (by decide) (Nat.le_of_ble_eq_true rfl) ⟨Nat.le_trans (by decide) hR.1, Nat.le_trans (by decide) hR.2⟩ (fun _ _ q => q.elim) (m_yardN hby ?_)
    refine J_if_eq (tgt := 35) hS dX8_needed_10 (by decide) (fun c2 => ?_) (fun c2 => ?_)
    · exact bad (Or.inl hby)
    · exact absurd rfl c2
theorem run_or {y m o : Int32} : (¬ ou 3 y ∧ ¬ ou 201 m ∧ ¬ ou 6 o) ∨ (ou 3 y ∨ ou 201 m ∨ ou 6 o) := by
  by_cases a : ou 3 y
  · exact Or.inr (Or.inl a)
  · by_cases b : ou 201 m
    · exact Or.inr (Or.inr (Or.inl b))
    · by_cases c : ou 6 o
      · exact Or.inr (Or.inr (Or.inr c))
      · exact Or.inl ⟨a, b, c⟩
theorem ou_in {b : Nat} {y : Int32} (hb : b < 2 ^ 31) (h : ¬ ou b y) : ∃ n, n < b ∧ y = nI n := (in_or hb).resolve_right h
set_option maxRecDepth 10000 in
theorem m_odds {y0 m0 o0 k0 : Int32} {Ls : List (List Cls)} (hI : RI g w n) (hL : LawsM g Ls) (hv : isLw Ls.length (w 5)) (x : ((ou 3 y0 ∨ ou 201 m0 ∨ ou 6 o0) ∨ (k0 < 1 ∨ 20 < k0)) → ∀ g', FrZ g g' → g' 162 0 = 1 → Q (some (.int 0)) g') (q : ∀ y m o k, y < 3 → y0 = nI y → m < 201 → m0 = nI m → o < 6 → o0 = nI o → k ≤ 20 → k0 = nI k → 1 ≤ k → ∀ g', FrZ g g' → g' 162 0 = 0 → Q (some (.int (nI (here (fun i => decide (nI (here (thrW w (nI y)) n).length ≤ nI (trC (lwOf Ls (w 5)) (-1) n y m o (upd (upd w 0 (nI (i + 1))) 1 (nI (i + 1)))) * 2)) k).length))) g') : Ct l E lay NC 6 0 0 yX8_odds [.ref 162, .int y0, .int m0, .int o0, .int k0] g Q X := by
  have hn := hI.hn
  refine Ct_in k_yX8_odds (by decide) rfl (Nat.le_of_ble_eq_true rfl) rfl ?_
  intro S hS hZ hr ht hR
  show J S 0 0 (g) 0 [some (.ref 162), some (.int y0), some (.int m0), some (.int o0), some (.int k0), none, none, none] []
  refine J_aload_n hS dX8_odds_0 rfl ?_
  refine J_iconst (v := 0) hS dX8_odds_1 (by decide) ?_
  refine J_putI hS dX8_odds_2 fpX8_1 ob162 rfl (fun g2 eg2 => ?_)
  refine J_aload_n hS dX8_odds_5 rfl ?_
  have z2 : FrZ g g2 := by rw [eg2]; exact FrZ_thr
  have t2 : g2 162 0 = 0 := by rw [eg2, u2_self]
  have i2 := hI.fr z2
  have L2 := hL.z z2
  have bad : ((ou 3 y0 ∨ ou 201 m0 ∨ ou 6 o0) ∨ (k0 < 1 ∨ 20 < k0)) → J S 0 0 g2 30 [some (.ref 162), some (.int y0), some (.int m0), some (.int o0), some (.int k0), none, none, none] [.ref 162] := by
    intro b1
    refine J_iconst (v := 0) hS dX8_odds_30 (by decide) ?_
    refine J_iconst (v := 1) hS dX8_odds_31 (by decide) ?_
    refine J_callV2 (X' := fun _ _ => False) hS dX8_odds_32 mvX8_110 ob162 rfl (by first | decide | omega) (by decide) (Nat.le_of_ble_eq_true rfl) ⟨Nat.le_trans (by decide) hR.1, Nat.le_trans (by decide) hR.2⟩ (fun _ _ q => q.elim) (m_mayN t2 (by decide) ?_)
    refine J_if_ne (tgt := 40) hS dX8_odds_35 (by decide) (fun c2 => ?_) (fun c2 => ?_)
    · exact absurd rfl c2
    ·
      refine J_iconst (v := 0) hS dX8_odds_38 (by decide) ?_
      refine J_iret hS hZ hr dX8_odds_39 (by omega) (by omega) ?_
      exact x b1 _ (z2.trans FrZ_thr) (u2_self ..)
  rcases run_or (y := y0) (m := m0) (o := o0) with ⟨a1, a2, a3⟩ | hbad
  · obtain ⟨y, hy, ey⟩ := ou_in (by decide) a1
    obtain ⟨m, hm, em⟩ := ou_in (by decide) a2
    obtain ⟨o, ho, eo⟩ := ou_in (by decide) a3
    subst ey
    subst em
    subst eo
    have hln := here_len (thrW w (nI y)) n
    refine J_iload_n hS dX8_odds_6 rfl ?_
    refine J_iload_n hS dX8_odds_7 rfl ?_
    refine J_iload_n hS dX8_odds_8 rfl ?_
    refine J_callS3 (X' := fun _ _ => False) hS dX8_odds_9 msX8_374 rfl (by first | decide | omega) (by decide) (Nat.le_of_ble_eq_true rfl) ⟨Nat.le_trans (by decide) hR.1, Nat.le_trans (by decide) hR.2⟩ (fun _ _ q => q.elim) (m_runY hy hm ho ?_)
    refine J_if_eq (tgt := 30) hS dX8_odds_12 (by decide) (fun c1 => ?_) (fun c1 => ?_)
    · exact absurd c1 (by decide)
    · by_cases hk : k0 < 1 ∨ 20 < k0
      ·
        refine J_iload hS dX8_odds_15 rfl ?_
        refine J_iconst (v := 1) hS dX8_odds_17 (by decide) ?_
        refine J_bipush (v := 20) hS dX8_odds_18 (by decide) ?_
        refine J_callS3 (X' := fun _ _ => False) hS dX8_odds_20 msX8_106 rfl (by first | decide | omega) (by decide) (Nat.le_of_ble_eq_true rfl) ⟨Nat.le_trans (by decide) hR.1, Nat.le_trans (by decide) hR.2⟩ (fun _ _ q => q.elim) (m_winN (fun z => hk.elim (fun a => Int32.not_lt.mpr z.1 a) (fun a => Int32.not_lt.mpr z.2 a)) ?_)
        refine J_if_eq (tgt := 30) hS dX8_odds_23 (by decide) (fun c2 => ?_) (fun c2 => ?_)
        · exact bad (Or.inr hk)
        · exact absurd rfl c2
      · have h1 : 1 ≤ k0 := Int32.not_lt.mp (fun z => hk (Or.inl z))
        have h20 : k0 ≤ 20 := Int32.not_lt.mp (fun z => hk (Or.inr z))
        obtain ⟨k, hk31, ek⟩ := nI_ofNonneg (Int32.le_trans (by decide) h1)
        subst ek
        have hk20 : k ≤ 20 := Nat.le_of_not_lt (fun z => Int32.not_lt.mpr h20 (nI_lt (a := 20) z hk31))
        have hk1 : 1 ≤ k := Nat.pos_of_ne_zero (fun z => by rw [z] at h1; exact absurd h1 (by decide))
        refine J_iload hS dX8_odds_15 rfl ?_
        refine J_iconst (v := 1) hS dX8_odds_17 (by decide) ?_
        refine J_bipush (v := 20) hS dX8_odds_18 (by decide) ?_
        refine J_callS3 (X' := fun _ _ => False) hS dX8_odds_20 msX8_106 rfl (by first | decide | omega) (by decide) (Nat.le_of_ble_eq_true rfl) ⟨Nat.le_trans (by decide) hR.1, Nat.le_trans (by decide) hR.2⟩ (fun _ _ q => q.elim) (m_winY ⟨h1, h20⟩ ?_)
        refine J_if_eq (tgt := 30) hS dX8_odds_23 (by decide) (fun c2 => ?_) (fun c2 => ?_)
        · exact absurd c2 (by decide)
        ·
          refine J_iconst (v := 1) hS dX8_odds_26 (by decide) ?_
          refine J_goto (tgt := 31) hS dX8_odds_27 (by decide) ?_
          refine J_iconst (v := 1) hS dX8_odds_31 (by decide) ?_
          refine J_callV2 (X' := fun _ _ => False) hS dX8_odds_32 mvX8_110 ob162 rfl (by first | decide | omega) (by decide) (Nat.le_of_ble_eq_true rfl) ⟨Nat.le_trans (by decide) hR.1, Nat.le_trans (by decide) hR.2⟩ (fun _ _ q => q.elim) (m_mayY t2 (by decide) ?_)
          refine J_if_ne (tgt := 40) hS dX8_odds_35 (by decide) (fun c3 => ?_) (fun c3 => ?_)
          · obtain ⟨P, hP⟩ : ∃ P : Nat → Bool, P = fun i => decide (nI (here (thrW w (nI y)) n).length ≤ nI (trC (lwOf Ls (w 5)) (-1) n y m o (upd (upd w 0 (nI (i + 1))) 1 (nI (i + 1)))) * 2) := ⟨_, rfl⟩
            have qq := q y m o k hy rfl hm rfl ho rfl hk20 rfl hk1
            rw [← hP] at qq
            refine J_iconst (v := 0) hS dX8_odds_40 (by decide) ?_
            refine J_istore (lt := fun a5 => [some (.ref 162), some (.int (nI y)), some (.int (nI m)), some (.int (nI o)), some (.int (nI k)), some (.int a5), none, none]) hS dX8_odds_41 (Nat.le_of_ble_eq_true rfl) (fun _ => rfl) (fun a5 ea5 => ?_)
            refine J_iconst (v := 1) hS dX8_odds_43 (by decide) ?_
            refine J_istore (lt := fun i6 => [some (.ref 162), some (.int (nI y)), some (.int (nI m)), some (.int (nI o)), some (.int (nI k)), some (.int a5), some (.int i6), none]) hS dX8_odds_44 (Nat.le_of_ble_eq_true rfl) (fun _ => rfl) (fun i6 ei6 => ?_)
            suffices H : ∀ (t i : Nat) (a v : Int32) (v7 : Option Value) (g3 : Mm), i + t = k → v = nI (i + 1) → a = nI (here P i).length → FrB g2 g3 → g3 162 3 = nI 164 → J S 0 0 g3 46 [some (.ref 162), some (.int (nI y)), some (.int (nI m)), some (.int (nI o)), some (.int (nI k)), some (.int a), some (.int v), v7] [] by
              exact H k 0 a5 i6 none g2 (by omega) ei6 ea5 FrB.refl i2.w3
            intro t
            induction t with
            | zero =>
              intro i a v v7 g3 hi hv' ha f3 w3
              have e : i = k := by omega
              subst hv'
              refine J_weak (ls' := [some (.ref 162), some (.int (nI y)), some (.int (nI m)), some (.int (nI o)), some (.int (nI k)), some (.int a), some (.int (nI (i + 1))), none]) ⟨Or.inr rfl, Or.inr rfl, Or.inr rfl, Or.inr rfl, Or.inr rfl, Or.inr rfl, Or.inr rfl, Or.inl rfl, trivial⟩ ?_
              refine J_iload hS dX8_odds_46 rfl ?_
              refine J_iload hS dX8_odds_48 rfl ?_
              refine J_icmp_gt (tgt := 122) hS dX8_odds_50 (by decide) (fun d1 => ?_) (fun d1 => ?_)
              ·
                refine J_iload hS dX8_odds_122 rfl ?_
                refine J_iret hS hZ hr dX8_odds_124 (by omega) (by omega) ?_
                rw [ha, e]
                exact qq g3 (z2.trans (f3.z i2.w3 w3)) (by rw [f3.2 0 (by decide)]; exact t2)
              · exact absurd (nI_lt (show k < i + 1 by omega) (by omega)) d1
            | succ t ih =>
              intro i a v v7 g3 hi hv' ha f3 w3
              subst hv'
              have hik : i < k := by omega
              refine J_weak (ls' := [some (.ref 162), some (.int (nI y)), some (.int (nI m)), some (.int (nI o)), some (.int (nI k)), some (.int a), some (.int (nI (i + 1))), none]) ⟨Or.inr rfl, Or.inr rfl, Or.inr rfl, Or.inr rfl, Or.inr rfl, Or.inr rfl, Or.inr rfl, Or.inl rfl, trivial⟩ ?_
              refine J_iload hS dX8_odds_46 rfl ?_
              refine J_iload hS dX8_odds_48 rfl ?_
              refine J_icmp_gt (tgt := 122) hS dX8_odds_50 (by decide) (fun d1 => ?_) (fun d1 => ?_)
              · exact absurd d1 (Int32.not_lt.mpr (nI_le (show i + 1 ≤ k by omega) (by omega)))
              ·
                refine J_aload_n hS dX8_odds_53 rfl ?_
                refine J_callV0 (X' := fun _ _ => False) hS dX8_odds_54 mvX8_365 ob162 rfl (by first | decide | omega) (by decide) (Nat.le_of_ble_eq_true rfl) ⟨Nat.le_trans (by decide) hR.1, Nat.le_trans (by decide) hR.2⟩ (fun _ _ q => q.elim) (m_begins (fun g4 b1 b2 b3 b4 => ?_))
                have f4 : FrB g2 g4 := f3.trans (FrB.beg b1 b2)
                have e4 : ∀ j, j < 3464 → g4 165 j = w j := fun j hj => by rw [b4 j hj]; exact (i2.j.fb f3).1 j hj
                obtain ⟨w', hw'⟩ : ∃ w' : Wr, w' = upd (upd w 0 (nI (i + 1))) 1 (nI (i + 1)) := ⟨_, rfl⟩
                refine J_aload_n hS dX8_odds_57 rfl ?_
                refine J_getD (v := .ref 165) hS dX8_odds_58 flX8_20 ob162 rfl (wI Rw5 b3) ?_
                refine J_iconst (v := 0) hS dX8_odds_61 (by decide) ?_
                refine J_iload hS dX8_odds_62 rfl ?_
                refine J_iastN hS (0) dX8_odds_64 Rw5.ar (by first | rfl | (simp only [n0, n1, n2, n3, n4, n5, n6, n7, n8, n9, n10, n11, n12, n13, n14, n15, n16, n17, n18, n19, n20, n24, n32, n56, n60, n64, n72, n99, n100, n128, n136, n142, n144, n200, n300, n999, n1000, n1500, n3464, nI_add, pk_mul] <;> first | rfl | (congr 1; omega))) (by decide) (by decide) (fun g64 eg64 => ?_)
                refine J_aload_n hS dX8_odds_65 rfl ?_
                refine J_getD (v := .ref 165) hS dX8_odds_66 flX8_20 ob162 rfl (wI Rw5 (show g64 162 3 = nI 165 by rw [eg64, u2_ne 162 (by decide)]; exact b3)) ?_
                refine J_iconst (v := 1) hS dX8_odds_69 (by decide) ?_
                refine J_iload hS dX8_odds_70 rfl ?_
                refine J_iastN hS (1) dX8_odds_72 Rw5.ar (by first | rfl | (simp only [n0, n1, n2, n3, n4, n5, n6, n7, n8, n9, n10, n11, n12, n13, n14, n15, n16, n17, n18, n19, n20, n24, n32, n56, n60, n64, n72, n99, n100, n128, n136, n142, n144, n200, n300, n999, n1000, n1500, n3464, nI_add, pk_mul] <;> first | rfl | (congr 1; omega))) (by decide) (by decide) (fun g72 eg72 => ?_)
                have f5 : FrB g2 g72 := by rw [eg72, eg64]; exact f4.put.put
                have r5 : ∀ j, j < 3464 → g72 165 j = w' j := by
                  intro j hj
                  rw [eg72, u2_at, eg64, u2_at, hw', e4 j hj]; rfl
                have hM : RowM g72 165 w' w' := fun j hj => ⟨fun _ => r5 j hj, fun _ => r5 j hj⟩
                have hT : TrH g72 w' w' n y (lwOf Ls (w 5)) (-1) := by
                  refine ⟨by rw [eg72, u2_ne 162 (by decide), eg64, u2_ne 162 (by decide)]; exact b3, hM, hn, by rw [hw']; exact hI.mn, hy, ThM_b hM hn (fun c hc => ⟨rfl, ?_⟩), fun c hc => by rw [hw']; exact Wt_upd1 (Wt_upd0 (hI.ok.2.2 c hc)), by rw [f5.2 27 (by decide)]; exact i2.lo, ?_⟩
                  · rw [hw']; unfold upd; rw [if_neg (by omega), if_neg (by omega)]; exact hI.th c (by omega)
                  · exact (L2.fb f5).rule (by rw [r5 5 (by decide), hw']; rfl) hv
                refine J_aload_n hS dX8_odds_73 rfl ?_
                refine J_iload_n hS dX8_odds_74 rfl ?_
                refine J_iload_n hS dX8_odds_75 rfl ?_
                refine J_callV2 (X' := fun _ _ => False) hS dX8_odds_76 mvX8_368 ob162 rfl (by first | decide | omega) (by decide) (Nat.le_of_ble_eq_true rfl) ⟨Nat.le_trans (by decide) hR.1, Nat.le_trans (by decide) hR.2⟩ (fun _ _ q => q.elim) (m_triesH hT (by omega) (fun g6 x6 h6 => ?_))
                refine J_aload_n hS dX8_odds_79 rfl ?_
                refine J_iload_n hS dX8_odds_80 rfl ?_
                refine J_iload_n hS dX8_odds_81 rfl ?_
                refine J_callV2 (X' := fun _ _ => False) hS dX8_odds_82 mvX8_353 ob162 rfl (by first | decide | omega) (by decide) (Nat.le_of_ble_eq_true rfl) ⟨Nat.le_trans (by decide) hR.1, Nat.le_trans (by decide) hR.2⟩ (fun _ _ q => q.elim) (m_heldH h6 ho (fun g7 k1 k2 k3 => ?_))
                have f7 : FrB g2 g7 := (f5.trans (FrB.x x6)).held k1 k2
                have ehl : (here (thrW (trF (lwOf Ls (w 5)) (-1) n y m w') (nI y)) n).length = (here (thrW w (nI y)) n).length := by
                  rw [here_congr (p' := thrW w (nI y)) (fun c hc => ?_)]
                  rw [thrW_q (Kq_trF hy), hw']
                  unfold thrW upd
                  rw [if_neg (by omega), if_neg (by omega), if_neg (by omega), if_neg (by omega)]
                rw [ehl] at k3
                have aft : ∀ c : Int32, a + c = nI (here P (i + 1)).length → ∀ x7 : Int32, J S 0 0 g7 105 [some (.ref 162), some (.int (nI y)), some (.int (nI m)), some (.int (nI o)), some (.int (nI k)), some (.int a), some (.int (nI (i + 1))), some (.int x7)] [.int c, .int a] := by
                  intro c hc x7
                  refine J_iadd hS dX8_odds_105 ?_
                  refine J_istore (lt := fun a2 => [some (.ref 162), some (.int (nI y)), some (.int (nI m)), some (.int (nI o)), some (.int (nI k)), some (.int a2), some (.int (nI (i + 1))), some (.int x7)]) hS dX8_odds_106 (Nat.le_of_ble_eq_true rfl) (fun _ => rfl) (fun a2 ea2 => ?_)
                  refine J_aload_n hS dX8_odds_108 rfl ?_
                  refine J_aload_n hS dX8_odds_109 rfl ?_
                  refine J_getR (t := 164) hS dX8_odds_110 flX8_13 ob162 rfl ?_
                  refine J_putD hS dX8_odds_113 fpX8_20 (by first | exact Or.inl ⟨_, rfl⟩ | exact Or.inr ⟨_, rfl⟩) ob162 rfl Rw4.ab (by first | exact Or.inl rfl | exact Or.inr ⟨_, rfl⟩) (fun g113 eg113 => ?_)
                  refine J_iinc (lt := fun v2 => [some (.ref 162), some (.int (nI y)), some (.int (nI m)), some (.int (nI o)), some (.int (nI k)), some (.int a2), some (.int v2), some (.int x7)]) (v := 1) hS dX8_odds_116 rfl (by decide) (fun _ => rfl) (fun v2 ev2 => ?_)
                  refine J_goto (tgt := 46) hS dX8_odds_119 (by decide) ?_
                  exact ih (i + 1) a2 v2 _ g113 (by omega) (by rw [ev2]; exact nI_1 (i + 1)) (by rw [ea2]; exact hc) (by rw [eg113]; exact f7.w) (by rw [eg113, u2_self])
                refine J_istore (lt := fun x7 => [some (.ref 162), some (.int (nI y)), some (.int (nI m)), some (.int (nI o)), some (.int (nI k)), some (.int a), some (.int (nI (i + 1))), some (.int x7)]) hS dX8_odds_85 (Nat.le_of_ble_eq_true rfl) (fun _ => rfl) (fun x7 ex7 => ?_)
                refine J_iload hS dX8_odds_87 rfl ?_
                refine J_iconst (v := 2) hS dX8_odds_89 (by decide) ?_
                refine J_iload hS dX8_odds_90 rfl ?_
                refine J_imul hS dX8_odds_92 ?_
                refine J_aload_n hS dX8_odds_93 rfl ?_
                refine J_getI hS dX8_odds_94 flX8_335 ob162 rfl ?_
                show J S 0 0 (g7) 97 [some (.ref 162), some (.int (nI y)), some (.int (nI m)), some (.int (nI o)), some (.int (nI k)), some (.int a), some (.int (nI (i + 1))), some (.int x7)] [.int _, .int _, .int a]
                rw [k3, show x7 = nI (trC (lwOf Ls (w 5)) (-1) n y m o w') from ex7, Int32.mul_comm]
                refine J_icmp_lt (tgt := 104) hS dX8_odds_97 (by decide) (fun d2 => ?_) (fun d2 => ?_)
                ·
                  refine J_iconst (v := 0) hS dX8_odds_104 (by decide) ?_
                  refine aft 0 ?_ _
                  rw [ha]; refine hl_f ?_
                  rw [hP]; show ¬ decide _ = true; rw [decide_eq_true_iff, ← hw']; exact Int32.not_le.mpr d2
                ·
                  refine J_iconst (v := 1) hS dX8_odds_100 (by decide) ?_
                  refine J_goto (tgt := 105) hS dX8_odds_101 (by decide) ?_
                  refine aft 1 ?_ _
                  rw [ha]; refine hl_t ?_
                  rw [hP]; show decide _ = true; rw [decide_eq_true_iff, ← hw']; exact Int32.not_lt.mp d2
          · exact absurd c3 (by decide)
  ·
    refine J_iload_n hS dX8_odds_6 rfl ?_
    refine J_iload_n hS dX8_odds_7 rfl ?_
    refine J_iload_n hS dX8_odds_8 rfl ?_
    refine J_callS3 (X' := fun _ _ => False) hS dX8_odds_9 msX8_374 rfl (by first | decide | omega) (by decide) (Nat.le_of_ble_eq_true rfl) ⟨Nat.le_trans (by decide) hR.1, Nat.le_trans (by decide) hR.2⟩ (fun _ _ q => q.elim) (m_runN hbad ?_)
    refine J_if_eq (tgt := 30) hS dX8_odds_12 (by decide) (fun c1 => ?_) (fun c1 => ?_)
    · exact bad (Or.inl hbad)
    · exact absurd rfl c1
end RefT1


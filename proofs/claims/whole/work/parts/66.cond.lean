/-! THE READER: conditions -/
section RdX
variable {l : Launch} {E : Ey} {h : Nat} {T : Wr} {n : Nat}
set_option maxRecDepth 10000 in
theorem c_comparison {g : Mm} {s : Nat} {Q : Option Value → Mm → Prop} {X : String → Mm → Prop} (hC : RdC g T n h s) (q1 : ∀ (c : Nat) (xv : Int32), cmN T n s = some c → xv = encC (c, 0) → ¬ xv = -1 → Q (some (.int xv)) g) (q0 : cmN T n s = none → Q (some (.int (-1))) g) : Ct l E lay NC 1 0 0 yX2_comparison [.ref 155] g Q X := by
  refine Ct_in k_yX2_comparison (by decide) rfl (Nat.le_of_ble_eq_true rfl) rfl ?_
  intro S hS hZ hr ht hR
  show J S 0 0 (g) 0 [some (.ref 155)] []
  refine J_aload_n hS dX2_comparison_0 rfl ?_
  refine J_bipush (v := 60) hS dX2_comparison_1 (by decide) ?_
  refine J_callV1 (X' := fun _ _ => False) hS dX2_comparison_3 mvX2_74 ob155 rfl (by first | decide | omega) (by decide) (Nat.le_of_ble_eq_true rfl) ⟨Nat.le_trans (by decide) hR.1, Nat.le_trans (by decide) hR.2⟩ (fun _ _ q => q.elim) (c_isAt hC (fun r2 t2 v2 => ?_))
  refine J_if_eq (tgt := 13) hS dX2_comparison_6 (by decide) (fun c2 => ?_) (fun c2 => ?_)
  · have n2 : ¬ isC T n s 60 = true := fun z => by rw [v2.mpr z] at c2; exact absurd c2 (by decide)
    refine J_aload_n hS dX2_comparison_13 rfl ?_
    refine J_bipush (v := 62) hS dX2_comparison_14 (by decide) ?_
    refine J_callV1 (X' := fun _ _ => False) hS dX2_comparison_16 mvX2_74 ob155 rfl (by first | decide | omega) (by decide) (Nat.le_of_ble_eq_true rfl) ⟨Nat.le_trans (by decide) hR.1, Nat.le_trans (by decide) hR.2⟩ (fun _ _ q => q.elim) (c_isAt hC (fun r3 t3 v3 => ?_))
    refine J_if_eq (tgt := 26) hS dX2_comparison_19 (by decide) (fun c3 => ?_) (fun c3 => ?_)
    · have n3 : ¬ isC T n s 62 = true := fun z => by rw [v3.mpr z] at c3; exact absurd c3 (by decide)
      refine J_aload_n hS dX2_comparison_26 rfl ?_
      refine J_bipush (v := 61) hS dX2_comparison_27 (by decide) ?_
      refine J_callV1 (X' := fun _ _ => False) hS dX2_comparison_29 mvX2_74 ob155 rfl (by first | decide | omega) (by decide) (Nat.le_of_ble_eq_true rfl) ⟨Nat.le_trans (by decide) hR.1, Nat.le_trans (by decide) hR.2⟩ (fun _ _ q => q.elim) (c_isAt hC (fun r4 t4 v4 => ?_))
      refine J_if_eq (tgt := 41) hS dX2_comparison_32 (by decide) (fun c4 => ?_) (fun c4 => ?_)
      · have n4 : ¬ isC T n s 61 = true := fun z => by rw [v4.mpr z] at c4; exact absurd c4 (by decide)
        refine J_iconst (v := (-1)) hS dX2_comparison_41 (by decide) ?_
        refine J_iret hS hZ hr dX2_comparison_42 (by omega) (by omega) ?_
        exact q0 (by unfold cmN; rw [if_neg n2, if_neg n3, if_neg n4])
      ·
        refine J_sipush (v := 2008) hS dX2_comparison_35 (by decide) ?_
        refine J_goto (tgt := 42) hS dX2_comparison_38 (by decide) ?_
        refine J_iret hS hZ hr dX2_comparison_42 (by omega) (by omega) ?_
        exact q1 15 2008 (by unfold cmN; rw [if_neg n2, if_neg n3, if_pos (v4.mp (t4.resolve_left c4))]) rfl (by decide)
    ·
      refine J_sipush (v := 2007) hS dX2_comparison_22 (by decide) ?_
      refine J_iret hS hZ hr dX2_comparison_25 (by omega) (by omega) ?_
      exact q1 14 2007 (by unfold cmN; rw [if_neg n2, if_pos (v3.mp (t3.resolve_left c3))]) rfl (by decide)
  ·
    refine J_sipush (v := 2006) hS dX2_comparison_9 (by decide) ?_
    refine J_iret hS hZ hr dX2_comparison_12 (by omega) (by omega) ?_
    exact q1 13 2006 (by unfold cmN; rw [if_pos (v2.mp (t2.resolve_left c2))]) rfl (by decide)
set_option maxRecDepth 10000 in
set_option maxHeartbeats 4000000 in
theorem c_readBasic {dd o df : Nat} {nb ne sm : Nat → Res} (hL : Lw h) (hdd : 5 ≤ dd) (ho : o + df = 6) (h1 : df ≠ 0 → CtP l E yX2_readBasic dd (o + 1) T n h nb) (h2 : df ≠ 0 → CtP l E yX2_readEither dd (o + 1) T n h ne) (h3 : CtP l E yX2_readSum dd o T n h sm) (g1' : ∀ s, s ≤ n → gd n true s (nb s)) (g2' : ∀ s, s ≤ n → gd n true s (ne s)) (g3' : ∀ s, s ≤ n → gd n false s (sm s)) : CtP l E yX2_readBasic (dd + 1) o T n h (bas T n nb ne sm df) := by
  intro g m s Q X hp q1 q0
  have hC := hp.1
  have hn3 := hp.1.1.2.2.1
  have hsn := hp.1.2.2.1
  have hms := hp.2.2
  have gx := nx_le (T := T) hsn
  refine Ct_in k_yX2_readBasic (by decide) rfl (Nat.le_of_ble_eq_true rfl) rfl ?_
  intro S hS hZ hr ht hR
  show J S 0 0 (g) 0 [some (.ref 155), some (.int (nI o)), none, none] []
  refine J_aload_n hS dX2_readBasic_0 rfl ?_
  refine J_ldcS (i := 15) hS (List.mem_of_getElem? (i := 24) rfl) dX2_readBasic_1 ?_
  refine J_callV1 (X' := fun _ _ => False) hS dX2_readBasic_3 mvX2_96 ob155 rfl (by first | decide | omega) (by decide) (Nat.le_of_ble_eq_true rfl) ⟨Nat.le_trans (by decide) hR.1, Nat.le_trans (by decide) hR.2⟩ (fun _ _ q => q.elim) (c_isAtW (i := 15) (by decide) hC (fun r1 t1 v1 => ?_))
  refine J_if_eq (tgt := 45) hS dX2_readBasic_6 (by decide) (fun c1 => ?_) (fun c1 => ?_)
  · have n1 : ¬ isW T n s 15 = true := fun z => by rw [v1.mpr z] at c1; exact absurd c1 (by decide)
    refine J_aload_n hS dX2_readBasic_45 rfl ?_
    refine J_bipush (v := 91) hS dX2_readBasic_46 (by decide) ?_
    refine J_callV1 (X' := fun _ _ => False) hS dX2_readBasic_48 mvX2_74 ob155 rfl (by first | decide | omega) (by decide) (Nat.le_of_ble_eq_true rfl) ⟨Nat.le_trans (by decide) hR.1, Nat.le_trans (by decide) hR.2⟩ (fun _ _ q => q.elim) (c_isAt hC (fun r2 t2 v2 => ?_))
    refine J_if_eq (tgt := 89) hS dX2_readBasic_51 (by decide) (fun c2 => ?_) (fun c2 => ?_)
    · have n2 : ¬ isC T n s 91 = true := fun z => by rw [v2.mpr z] at c2; exact absurd c2 (by decide)
      have eu : bas T n nb ne sm df s = cmp T n sm s := by unfold bas; rw [if_neg n1, if_neg n2]
      refine J_aload_n hS dX2_readBasic_89 rfl ?_
      refine J_iload_n hS dX2_readBasic_90 rfl ?_
      refine J_callV1 (X' := fun _ _ => False) hS dX2_readBasic_91 mvX2_88 ob155 rfl (by first | decide | omega) (by decide) (Nat.le_of_ble_eq_true rfl) ⟨Nat.le_trans (by decide) hR.1, Nat.le_trans (by decide) hR.2⟩ (fun _ _ q => q.elim) (h3 g m s _ _ hp (fun L s1 g1 f1 f2 => ?_) (fun e g1 f1 f2 => ?_))
      · have d := g3' s hsn L s1 f1
        have hC1 := f2.2.1
        obtain ⟨e1, e2, e3, e4⟩ := f2.num
        refine J_if_ne (tgt := 99) hS dX2_readBasic_94 (by decide) (fun k1 => ?_) (fun k1 => ?_)
        ·
          refine J_aload_n hS dX2_readBasic_99 rfl ?_
          refine J_callV0 (X' := fun _ _ => False) hS dX2_readBasic_100 mvX2_164 ob155 rfl (by first | decide | omega) (by decide) (Nat.le_of_ble_eq_true rfl) ⟨Nat.le_trans (by decide) hR.1, Nat.le_trans (by decide) hR.2⟩ (fun _ _ q => q.elim) (c_comparison hC1 (fun c xv hc hxv hx1 => ?_) (fun hc => ?_))
          · have hlt := (cmN_ok hc).1
            have gy := nx_le (T := T) e3
            have glt := gy.2.2 hlt
            refine J_istore_n (lt := fun xw => [some (.ref 155), some (.int (nI o)), some (.int xw), none]) hS dX2_readBasic_103 (Nat.le_of_ble_eq_true rfl) (fun _ => rfl) (fun xw exw => ?_)
            have hxw : xw = encC (c, 0) := exw.trans hxv
            have hx2 : ¬ xw = -1 := fun z => hx1 (exw.symm.trans z)
            refine J_iload_n hS dX2_readBasic_104 rfl ?_
            refine J_iconst (v := (-1)) hS dX2_readBasic_105 (by decide) ?_
            refine J_icmp_ne (tgt := 115) hS dX2_readBasic_106 (by decide) (fun k2 => ?_) (fun k2 => ?_)
            ·
              refine J_aload_n hS dX2_readBasic_115 rfl ?_
              refine J_callV0 (X' := fun _ _ => False) hS dX2_readBasic_116 mvX2_52 ob155 rfl (by first | decide | omega) (by decide) (Nat.le_of_ble_eq_true rfl) ⟨Nat.le_trans (by decide) hR.1, Nat.le_trans (by decide) hR.2⟩ (fun _ _ q => q.elim) (c_step hC1.1 hC1.2.1 (tkE_le e3).2.1 hC1.2.2.2.2.2.1 (fun g2 b1 b2 => ?_))
              have b2 : RdC g2 T n h (nx T n s1) := b2
              have p2 : POk T n h g g2 m L (nx T n s1) := by
                have := f2.trans (POk.tok hL b1 f2.2.2.1 b2)
                rw [List.append_nil] at this; exact this
              refine J_aload_n hS dX2_readBasic_119 rfl ?_
              refine J_iload_n hS dX2_readBasic_120 rfl ?_
              refine J_callV1 (X' := fun _ _ => False) hS dX2_readBasic_121 mvX2_88 ob155 rfl (by first | decide | omega) (by decide) (Nat.le_of_ble_eq_true rfl) ⟨Nat.le_trans (by decide) hR.1, Nat.le_trans (by decide) hR.2⟩ (fun _ _ q => q.elim) (h3 g2 (m + L.length) (nx T n s1) _ _ (PreP.of p2 (by omega)) (fun L2 s2 g3 f3 f4 => ?_) (fun e g3 f3 f4 => ?_))
              · have d2 := g3' _ gy.2.1 L2 s2 f3
                have p3 : POk T n h g g3 m (L ++ L2) s2 := p2.trans f4
                refine J_istore_n (lt := fun w2 => [some (.ref 155), some (.int (nI o)), some (.int xw), some (.int w2)]) hS dX2_readBasic_124 (Nat.le_of_ble_eq_true rfl) (fun _ => rfl) (fun w2 ew2 => ?_)
                subst ew2
                refine J_aload_n hS dX2_readBasic_125 rfl ?_
                refine J_getD (v := .ref h) hS dX2_readBasic_126 flX2_19 ob155 rfl (by rw [p3.num.2.1]; exact hL.ab) ?_
                refine J_iload_n hS dX2_readBasic_129 rfl ?_
                refine J_callV1 (X' := fun _ _ => False) hS dX2_readBasic_130 mvX2_119 hL.ob rfl (by first | decide | omega) (by decide) (Nat.le_of_ble_eq_true rfl) ⟨Nat.le_trans (by decide) hR.1, Nat.le_trans (by decide) hR.2⟩ (fun _ _ q => q.elim) (c_put hL (m := m + (L ++ L2).length) (by simp only [List.length_append]; omega) p3.2.2.1 (fun _ => ?_) (fun z => absurd z (by simp only [List.length_append]; omega)))
                have p4 := p3.put (t := (c, 0)) hL
                rw [← hxw] at p4
                refine J_iload_n hS dX2_readBasic_133 rfl ?_
                refine J_zret hS hZ hr dX2_readBasic_134 (by decide) (by omega) (by omega) ?_
                refine q1 _ _ _ ?_ p4
                rw [eu]; unfold cmp
                rw [rb_ok f1, hc]
                show rb (sm (nx T n s1)) _ = _
                rw [rb_ok f3]
              · have p3 := p2.bad f4
                refine J_istore_n (lt := fun w2 => [some (.ref 155), some (.int (nI o)), some (.int xw), some (.int w2)]) hS dX2_readBasic_124 (Nat.le_of_ble_eq_true rfl) (fun _ => rfl) (fun w2 ew2 => ?_)
                subst ew2
                refine J_aload_n hS dX2_readBasic_125 rfl ?_
                refine J_getD (v := .ref h) hS dX2_readBasic_126 flX2_19 ob155 rfl (by rw [p3.2.1]; exact hL.ab) ?_
                refine J_iload_n hS dX2_readBasic_129 rfl ?_
                refine J_callV1 (X' := fun _ _ => False) hS dX2_readBasic_130 mvX2_119 hL.ob rfl (by first | decide | omega) (by decide) (Nat.le_of_ble_eq_true rfl) ⟨Nat.le_trans (by decide) hR.1, Nat.le_trans (by decide) hR.2⟩ (fun _ _ q => q.elim) (PBd.put hL p3 (fun g4 p4 => ?_))
                refine J_iload_n hS dX2_readBasic_133 rfl ?_
                refine J_zret hS hZ hr dX2_readBasic_134 (by decide) (by omega) (by omega) ?_
                refine q0 e g4 ?_ p4
                rw [eu]; unfold cmp
                rw [rb_ok f1, hc]
                show rb (sm (nx T n s1)) _ = _
                rw [rb_bad f3]
            · exact absurd k2 hx2
          ·
            refine J_istore_n (lt := fun xw => [some (.ref 155), some (.int (nI o)), some (.int xw), none]) hS dX2_readBasic_103 (Nat.le_of_ble_eq_true rfl) (fun _ => rfl) (fun xw exw => ?_)
            subst exw
            refine J_iload_n hS dX2_readBasic_104 rfl ?_
            refine J_iconst (v := (-1)) hS dX2_readBasic_105 (by decide) ?_
            refine J_icmp_ne (tgt := 115) hS dX2_readBasic_106 (by decide) (fun k2 => ?_) (fun k2 => ?_)
            · exact absurd rfl k2
            ·
              refine J_aload_n hS dX2_readBasic_109 rfl ?_
              refine J_iconst (v := 1) hS dX2_readBasic_110 (by decide) ?_
              refine J_callV1 (X' := fun _ _ => False) hS dX2_readBasic_111 mvX2_78 ob155 rfl (by first | decide | omega) (by decide) (Nat.le_of_ble_eq_true rfl) ⟨Nat.le_trans (by decide) hR.1, Nat.le_trans (by decide) hR.2⟩ (fun _ _ q => q.elim) (c_refuse ?_)
              refine J_zret hS hZ hr dX2_readBasic_114 (by decide) (by omega) (by omega) ?_
              refine q0 (1, s1) _ ?_ (f2.bad (hC1.bad (k := 1) hL f2.2.2.1 (by omega)))
              rw [eu]; unfold cmp
              rw [rb_ok f1, hc]
        · exact absurd k1 (by decide)
      ·
        refine J_if_ne (tgt := 99) hS dX2_readBasic_94 (by decide) (fun k1 => ?_) (fun k1 => ?_)
        · exact absurd rfl k1
        ·
          refine J_iconst (v := 0) hS dX2_readBasic_97 (by decide) ?_
          refine J_zret hS hZ hr dX2_readBasic_98 (by decide) (by omega) (by omega) ?_
          exact q0 e g1 (by rw [eu]; unfold cmp; rw [rb_bad f1]) f2
    · have y2 : isC T n s 91 = true := v2.mp (t2.resolve_left c2)
      have eu : bas T n nb ne sm df s = rb (psO T n 91 df s) (fun _ s1 => rb (ne s1) (fun L s2 => rb (psC T n 93 s2) (fun _ s3 => .inr (L, s3)))) := by unfold bas; rw [if_neg n1, if_pos y2]
      have bad : ∀ (g1 : Mm) (e : Nat × Nat), bas T n nb ne sm df s = .inl e → PBd h g g1 e → J S 0 0 g1 87 [some (.ref 155), some (.int (nI o)), none, none] [] := by
        intro g1 e he hb
        refine J_iconst (v := 0) hS dX2_readBasic_87 (by decide) ?_
        refine J_zret hS hZ hr dX2_readBasic_88 (by decide) (by omega) (by omega) ?_
        exact q0 e g1 he hb
      refine J_aload_n hS dX2_readBasic_54 rfl ?_
      refine J_bipush (v := 91) hS dX2_readBasic_55 (by decide) ?_
      refine J_iload_n hS dX2_readBasic_57 rfl ?_
      refine J_callV2 (X' := fun _ _ => False) hS dX2_readBasic_58 mvX2_125 ob155 rfl (by first | decide | omega) (by decide) (Nat.le_of_ble_eq_true rfl) ⟨Nat.le_trans (by decide) hR.1, Nat.le_trans (by decide) hR.2⟩ (fun _ _ q => q.elim) (c_passOpening (m := m) hL ho hp (fun g1 f1 f2 => ?_) (fun e g1 f1 f2 => ?_))
      · have hs1 := psO_inr hsn f1
        have hu := h2 hs1.2.2.2.2
        refine J_if_eq (tgt := 87) hS dX2_readBasic_61 (by decide) (fun k1 => ?_) (fun k1 => ?_)
        · exact absurd k1 (by decide)
        ·
          refine J_aload_n hS dX2_readBasic_64 rfl ?_
          refine J_iload_n hS dX2_readBasic_65 rfl ?_
          refine J_iconst (v := 1) hS dX2_readBasic_66 (by decide) ?_
          refine J_iadd hS dX2_readBasic_67 ?_
          show J S 0 0 (g1) 68 [some (.ref 155), some (.int (nI o)), none, none] [.int _, .ref 155]
          rw [nI_1 o]
          refine J_callV1 (X' := fun _ _ => False) hS dX2_readBasic_68 mvX2_99 ob155 rfl (by first | decide | omega) (by decide) (Nat.le_of_ble_eq_true rfl) ⟨Nat.le_trans (by decide) hR.1, Nat.le_trans (by decide) hR.2⟩ (fun _ _ q => q.elim) (hu g1 m (nx T n s) _ _ ⟨f2.2.1, f2.2.2.1, by omega⟩ (fun L s2 g2 f3 f4 => ?_) (fun e g2 f3 f4 => ?_))
          · have d := g2' (nx T n s) hs1.2.2.2.1 L s2 f3
            have p2 : POk T n h g g2 m L s2 := f2.trans f4
            refine J_if_eq (tgt := 87) hS dX2_readBasic_71 (by decide) (fun k2 => ?_) (fun k2 => ?_)
            · exact absurd k2 (by decide)
            ·
              refine J_aload_n hS dX2_readBasic_74 rfl ?_
              refine J_bipush (v := 93) hS dX2_readBasic_75 (by decide) ?_
              refine J_callV1 (X' := fun _ _ => False) hS dX2_readBasic_77 mvX2_105 ob155 rfl (by first | decide | omega) (by decide) (Nat.le_of_ble_eq_true rfl) ⟨Nat.le_trans (by decide) hR.1, Nat.le_trans (by decide) hR.2⟩ (fun _ _ q => q.elim) (c_pass hL (PreP.of p2 (by omega)) (fun g3 f5 f6 => ?_) (fun g3 f5 f6 => ?_))
              · have p3 : POk T n h g g3 m L (nx T n s2) := by
                  have := p2.trans f6
                  rw [List.append_nil] at this; exact this
                refine J_if_eq (tgt := 87) hS dX2_readBasic_80 (by decide) (fun k3 => ?_) (fun k3 => ?_)
                · exact absurd k3 (by decide)
                ·
                  refine J_iconst (v := 1) hS dX2_readBasic_83 (by decide) ?_
                  refine J_goto (tgt := 88) hS dX2_readBasic_84 (by decide) ?_
                  refine J_zret hS hZ hr dX2_readBasic_88 (by decide) (by omega) (by omega) ?_
                  exact q1 L (nx T n s2) g3 (by rw [eu, rb_ok f1, rb_ok f3, rb_ok f5]) p3
              ·
                refine J_if_eq (tgt := 87) hS dX2_readBasic_80 (by decide) (fun k3 => ?_) (fun k3 => ?_)
                · exact bad g3 _ (by rw [eu, rb_ok f1, rb_ok f3, rb_bad f5]) (p2.bad f6)
                · exact absurd rfl k3
          ·
            refine J_if_eq (tgt := 87) hS dX2_readBasic_71 (by decide) (fun k2 => ?_) (fun k2 => ?_)
            · exact bad g2 e (by rw [eu, rb_ok f1, rb_bad f3]) (f2.bad f4)
            · exact absurd rfl k2
      ·
        refine J_if_eq (tgt := 87) hS dX2_readBasic_61 (by decide) (fun k1 => ?_) (fun k1 => ?_)
        · exact bad g1 e (by rw [eu, rb_bad f1]) f2
        · exact absurd rfl k1
  · have y1 : isW T n s 15 = true := v1.mp (t1.resolve_left c1)
    have eu : bas T n nb ne sm df s = ngt T n nb df s := by unfold bas; rw [if_pos y1]
    refine J_iload_n hS dX2_readBasic_9 rfl ?_
    refine J_bipush (v := 6) hS dX2_readBasic_10 (by decide) ?_
    refine J_icmp_lt (tgt := 21) hS dX2_readBasic_12 (by decide) (fun c2 => ?_) (fun c2 => ?_)
    · have hd0 : df ≠ 0 := by
        intro z
        have : o = 6 := by omega
        subst this; exact absurd c2 (by decide)
      have hu := h1 hd0
      have glt := gx.2.2 (isW_lt y1)
      refine J_aload_n hS dX2_readBasic_21 rfl ?_
      refine J_callV0 (X' := fun _ _ => False) hS dX2_readBasic_22 mvX2_52 ob155 rfl (by first | decide | omega) (by decide) (Nat.le_of_ble_eq_true rfl) ⟨Nat.le_trans (by decide) hR.1, Nat.le_trans (by decide) hR.2⟩ (fun _ _ q => q.elim) (c_step hC.1 hC.2.1 (tkE_le hsn).2.1 hC.2.2.2.2.2.1 (fun g1 b1 b2 => ?_))
      have b2 : RdC g1 T n h (nx T n s) := b2
      have p1 : POk T n h g g1 m [] (nx T n s) := POk.tok hL b1 hp.2.1 b2
      refine J_aload_n hS dX2_readBasic_25 rfl ?_
      refine J_iload_n hS dX2_readBasic_26 rfl ?_
      refine J_iconst (v := 1) hS dX2_readBasic_27 (by decide) ?_
      refine J_iadd hS dX2_readBasic_28 ?_
      show J S 0 0 (g1) 29 [some (.ref 155), some (.int (nI o)), none, none] [.int _, .ref 155]
      rw [nI_1 o]
      refine J_callV1 (X' := fun _ _ => False) hS dX2_readBasic_29 mvX2_157 ob155 rfl (by first | decide | omega) (by decide) (Nat.le_of_ble_eq_true rfl) ⟨Nat.le_trans (by decide) hR.1, Nat.le_trans (by decide) hR.2⟩ (fun _ _ q => q.elim) (hu g1 m (nx T n s) _ _ ⟨b2, p1.2.2.1, by omega⟩ (fun L s2 g2 f3 f4 => ?_) (fun e g2 f3 f4 => ?_))
      · have d := g1' (nx T n s) gx.2.1 L s2 f3
        have p2 : POk T n h g g2 m L s2 := p1.trans f4
        refine J_istore_n (lt := fun w2 => [some (.ref 155), some (.int (nI o)), some (.int w2), none]) hS dX2_readBasic_32 (Nat.le_of_ble_eq_true rfl) (fun _ => rfl) (fun w2 ew2 => ?_)
        subst ew2
        refine J_aload_n hS dX2_readBasic_33 rfl ?_
        refine J_getD (v := .ref h) hS dX2_readBasic_34 flX2_19 ob155 rfl (by rw [p2.num.2.1]; exact hL.ab) ?_
        refine J_sipush (v := 2011) hS dX2_readBasic_37 (by decide) ?_
        refine J_callV1 (X' := fun _ _ => False) hS dX2_readBasic_40 mvX2_119 hL.ob rfl (by first | decide | omega) (by decide) (Nat.le_of_ble_eq_true rfl) ⟨Nat.le_trans (by decide) hR.1, Nat.le_trans (by decide) hR.2⟩ (fun _ _ q => q.elim) (c_put hL (m := m + L.length) (by omega) p2.2.2.1 (fun _ => ?_) (fun z => absurd z (by omega)))
        have p4 := p2.put (t := (18, 0)) hL
        rw [show encC (18, 0) = 2011 from rfl] at p4
        refine J_iload_n hS dX2_readBasic_43 rfl ?_
        refine J_zret hS hZ hr dX2_readBasic_44 (by decide) (by omega) (by omega) ?_
        refine q1 _ _ _ ?_ p4
        rw [eu]; unfold ngt; rw [if_neg hd0, rb_ok f3]
      · have p2 := p1.bad f4
        refine J_istore_n (lt := fun w2 => [some (.ref 155), some (.int (nI o)), some (.int w2), none]) hS dX2_readBasic_32 (Nat.le_of_ble_eq_true rfl) (fun _ => rfl) (fun w2 ew2 => ?_)
        subst ew2
        refine J_aload_n hS dX2_readBasic_33 rfl ?_
        refine J_getD (v := .ref h) hS dX2_readBasic_34 flX2_19 ob155 rfl (by rw [p2.2.1]; exact hL.ab) ?_
        refine J_sipush (v := 2011) hS dX2_readBasic_37 (by decide) ?_
        refine J_callV1 (X' := fun _ _ => False) hS dX2_readBasic_40 mvX2_119 hL.ob rfl (by first | decide | omega) (by decide) (Nat.le_of_ble_eq_true rfl) ⟨Nat.le_trans (by decide) hR.1, Nat.le_trans (by decide) hR.2⟩ (fun _ _ q => q.elim) (PBd.put hL p2 (fun g4 p4 => ?_))
        refine J_iload_n hS dX2_readBasic_43 rfl ?_
        refine J_zret hS hZ hr dX2_readBasic_44 (by decide) (by omega) (by omega) ?_
        refine q0 e g4 ?_ p4
        rw [eu]; unfold ngt; rw [if_neg hd0, rb_bad f3]
    · have hd0 : df = 0 := by
        rcases Nat.lt_or_ge o 6 with z | z
        · exact absurd (nI_lt z (by decide)) c2
        · omega
      refine J_aload_n hS dX2_readBasic_15 rfl ?_
      refine J_iconst (v := 3) hS dX2_readBasic_16 (by decide) ?_
      refine J_callV1 (X' := fun _ _ => False) hS dX2_readBasic_17 mvX2_78 ob155 rfl (by first | decide | omega) (by decide) (Nat.le_of_ble_eq_true rfl) ⟨Nat.le_trans (by decide) hR.1, Nat.le_trans (by decide) hR.2⟩ (fun _ _ q => q.elim) (c_refuse ?_)
      refine J_zret hS hZ hr dX2_readBasic_20 (by decide) (by omega) (by omega) ?_
      refine q0 (3, s) _ ?_ (hC.bad (k := 3) hL hp.2.1 (by omega))
      rw [eu]; unfold ngt; rw [if_pos hd0]
theorem c_basD (hL : Lw h) : ∀ (dd o D : Nat), o + dd = 6 → 40 + 3 * dd ≤ D → CtP l E yX2_readBasic D o T n h (basD T n dd)
  | 0, o, D, ho, hD => by
    obtain ⟨k, ek⟩ : ∃ k, D = k + 1 + 1 := ⟨D - 2, by omega⟩
    subst ek
    exact c_readBasic (dd := k + 1) hL (by omega) ho (fun z => absurd rfl z) (fun z => absurd rfl z) (c_sumD hL 0 o (k + 1) ho (by omega)) (fun s _ L s' e => by cases e) (fun s _ L s' e => by cases e) (fun s hs => gd_sumD 0 s hs)
  | dd + 1, o, D, ho, hD => by
    obtain ⟨k, ek⟩ : ∃ k, D = k + 1 + 1 + 1 := ⟨D - 3, by omega⟩
    subst ek
    exact c_readBasic (dd := k + 1 + 1) hL (by omega) ho (fun _ => c_basD hL dd (o + 1) (k + 1 + 1) (by omega) (by omega)) (fun _ => c_readEither (dd := k + 1) hL (by omega) (c_readBoth (dd := k) hL (by omega) (c_basD hL dd (o + 1) k (by omega) (by omega)) (fun s hs => gd_basD dd s hs)) (fun s hs => gd_chn (fun _ _ z => lkA_ok z) (fun s hs => gd_basD dd s hs) hs)) (c_sumD hL (dd + 1) o (k + 1 + 1) ho (by omega)) (fun s hs => gd_basD dd s hs) (fun s hs => gd_eit (fun s hs => gd_basD dd s hs) hs) (fun s hs => gd_sumD (dd + 1) s hs)
theorem c_eitD (hL : Lw h) : CtP l E yX2_readEither 60 0 T n h (eit T n (basD T n 6)) :=
  c_readEither (dd := 59) hL (by omega) (c_readBoth (dd := 58) hL (by omega) (c_basD hL 6 0 58 rfl (by omega)) (fun s hs => gd_basD 6 s hs)) (fun s hs => gd_chn (fun _ _ z => lkA_ok z) (fun s hs => gd_basD 6 s hs) hs)
end RdX


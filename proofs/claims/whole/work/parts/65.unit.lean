/-! THE READER: units, couples, comparisons, conditions -/
section RdV
variable {l : Launch} {E : Ey} {h : Nat} {T : Wr} {n : Nat}
theorem rb_ok {r : Res} {L : List Tok} {s : Nat} {f : List Tok → Nat → Res} (h : r = .inr (L, s)) : rb r f = f L s := by rw [h]; rfl
theorem rb_bad {r : Res} {e : Nat × Nat} {f : List Tok → Nat → Res} (h : r = .inl e) : rb r f = .inl e := by rw [h]; rfl
theorem PreP.of {g g1 : Mm} {m s1 : Nat} {L : List Tok} (a : POk T n h g g1 m L s1) (hm : m + L.length ≤ s1) : PreP T n h g1 (m + L.length) s1 := ⟨a.2.1, a.2.2.1, hm⟩
set_option maxRecDepth 10000 in
set_option maxHeartbeats 4000000 in
theorem c_readCouple {dd o df c : Nat} {x : Int32} {u : Nat → Res} (hL : Lw h) (hdd : 4 ≤ dd) (ho : o + df = 6) (hu : df ≠ 0 → CtP l E yX2_readSum dd (o + 1) T n h u) (hg : ∀ s, s ≤ n → gd n false s (u s)) (hx : x = encC (c, 0)) {g : Mm} {m s : Nat} {Q : Option Value → Mm → Prop} {X : String → Mm → Prop} (hp : PreP T n h g m s) (hlt : s < n) (q1 : ∀ L s' g', cpl T n u df c s = .inr (L, s') → POk T n h g g' m L s' → Q (some (.int 1)) g') (q0 : ∀ e g', cpl T n u df c s = .inl e → PBd h g g' e → Q (some (.int 0)) g') : Ct l E lay NC (dd + 1) 0 0 yX2_readCouple [.ref 155, .int x, .int (nI o)] g Q X := by
  have hC := hp.1
  have hn3 := hp.1.1.2.2.1
  have hsn := hp.1.2.2.1
  have hms := hp.2.2
  have gx := nx_le (T := T) hsn
  have glt := gx.2.2 hlt
  refine Ct_in k_yX2_readCouple (by decide) rfl (Nat.le_of_ble_eq_true rfl) rfl ?_
  intro S hS hZ hr ht hR
  show J S 0 0 (g) 0 [some (.ref 155), some (.int x), some (.int (nI o)), none] []
  have bad : ∀ (g1 : Mm) (e : Nat × Nat), cpl T n u df c s = .inl e → PBd h g g1 e → J S 0 0 g1 56 [some (.ref 155), some (.int x), some (.int (nI o)), none] [] := by
    intro g1 e he hb
    refine J_iconst (v := 0) hS dX2_readCouple_56 (by decide) ?_
    refine J_istore_n (lt := fun w => [some (.ref 155), some (.int x), some (.int (nI o)), some (.int w)]) hS dX2_readCouple_57 (Nat.le_of_ble_eq_true rfl) (fun _ => rfl) (fun w ew => ?_)
    subst ew
    refine J_aload_n hS dX2_readCouple_58 rfl ?_
    refine J_getD (v := .ref h) hS dX2_readCouple_59 flX2_19 ob155 rfl (by rw [hb.2.1]; exact hL.ab) ?_
    refine J_iload_n hS dX2_readCouple_62 rfl ?_
    refine J_callV1 (X' := fun _ _ => False) hS dX2_readCouple_63 mvX2_119 hL.ob rfl (by first | decide | omega) (by decide) (Nat.le_of_ble_eq_true rfl) ⟨Nat.le_trans (by decide) hR.1, Nat.le_trans (by decide) hR.2⟩ (fun _ _ q => q.elim) (PBd.put hL hb (fun g2 p2 => ?_))
    refine J_iload_n hS dX2_readCouple_66 rfl ?_
    refine J_zret hS hZ hr dX2_readCouple_67 (by decide) (by omega) (by omega) ?_
    exact q0 e g2 he p2
  refine J_aload_n hS dX2_readCouple_0 rfl ?_
  refine J_callV0 (X' := fun _ _ => False) hS dX2_readCouple_1 mvX2_52 ob155 rfl (by first | decide | omega) (by decide) (Nat.le_of_ble_eq_true rfl) ⟨Nat.le_trans (by decide) hR.1, Nat.le_trans (by decide) hR.2⟩ (fun _ _ q => q.elim) (c_step hC.1 hC.2.1 (tkE_le hsn).2.1 hC.2.2.2.2.2.1 (fun g1 b1 b2 => ?_))
  have b2 : RdC g1 T n h (nx T n s) := b2
  have p1 : POk T n h g g1 m [] (nx T n s) := POk.tok hL b1 hp.2.1 b2
  refine J_aload_n hS dX2_readCouple_4 rfl ?_
  refine J_bipush (v := 40) hS dX2_readCouple_5 (by decide) ?_
  refine J_iload_n hS dX2_readCouple_7 rfl ?_
  refine J_callV2 (X' := fun _ _ => False) hS dX2_readCouple_8 mvX2_125 ob155 rfl (by first | decide | omega) (by decide) (Nat.le_of_ble_eq_true rfl) ⟨Nat.le_trans (by decide) hR.1, Nat.le_trans (by decide) hR.2⟩ (fun _ _ q => q.elim) (c_passOpening (m := m) hL ho ⟨b2, p1.2.2.1, by omega⟩ (fun g2 f1 f2 => ?_) (fun e g2 f1 f2 => ?_))
  · have hd0 : df ≠ 0 := (psO_inr gx.2.1 f1).2.2.2.2
    have hs2 := psO_inr gx.2.1 f1
    have hu := hu hd0
    have p2 : POk T n h g g2 m [] (nx T n (nx T n s)) := p1.trans f2
    obtain ⟨s1, es1⟩ : ∃ s1, s1 = nx T n (nx T n s) := ⟨_, rfl⟩
    rw [← es1] at p2 f1 hs2
    refine J_if_eq (tgt := 56) hS dX2_readCouple_11 (by decide) (fun k1 => ?_) (fun k1 => ?_)
    · exact absurd k1 (by decide)
    ·
      refine J_aload_n hS dX2_readCouple_14 rfl ?_
      refine J_iload_n hS dX2_readCouple_15 rfl ?_
      refine J_iconst (v := 1) hS dX2_readCouple_16 (by decide) ?_
      refine J_iadd hS dX2_readCouple_17 ?_
      show J S 0 0 (g2) 18 [some (.ref 155), some (.int x), some (.int (nI o)), none] [.int _, .ref 155]
      rw [nI_1 o]
      refine J_callV1 (X' := fun _ _ => False) hS dX2_readCouple_18 mvX2_88 ob155 rfl (by first | decide | omega) (by decide) (Nat.le_of_ble_eq_true rfl) ⟨Nat.le_trans (by decide) hR.1, Nat.le_trans (by decide) hR.2⟩ (fun _ _ q => q.elim) (hu g2 m s1 _ _ ⟨p2.2.1, p2.2.2.1, by omega⟩ (fun L s2 g3 f3 f4 => ?_) (fun e g3 f3 f4 => ?_))
      · have d := hg s1 hs2.2.2.2.1 L s2 f3
        have p3 : POk T n h g g3 m L s2 := p2.trans f4
        refine J_if_eq (tgt := 56) hS dX2_readCouple_21 (by decide) (fun k2 => ?_) (fun k2 => ?_)
        · exact absurd k2 (by decide)
        ·
          refine J_aload_n hS dX2_readCouple_24 rfl ?_
          refine J_bipush (v := 44) hS dX2_readCouple_25 (by decide) ?_
          refine J_callV1 (X' := fun _ _ => False) hS dX2_readCouple_27 mvX2_105 ob155 rfl (by first | decide | omega) (by decide) (Nat.le_of_ble_eq_true rfl) ⟨Nat.le_trans (by decide) hR.1, Nat.le_trans (by decide) hR.2⟩ (fun _ _ q => q.elim) (c_pass hL (PreP.of p3 (by omega)) (fun g4 f5 f6 => ?_) (fun g4 f5 f6 => ?_))
          · have hs4 := psC_inr d.2.1 f5
            have p4 : POk T n h g g4 m L (nx T n s2) := by
              have := p3.trans f6
              rw [List.append_nil] at this; exact this
            refine J_if_eq (tgt := 56) hS dX2_readCouple_30 (by decide) (fun k3 => ?_) (fun k3 => ?_)
            · exact absurd k3 (by decide)
            ·
              refine J_aload_n hS dX2_readCouple_33 rfl ?_
              refine J_iload_n hS dX2_readCouple_34 rfl ?_
              refine J_iconst (v := 1) hS dX2_readCouple_35 (by decide) ?_
              refine J_iadd hS dX2_readCouple_36 ?_
              show J S 0 0 (g4) 37 [some (.ref 155), some (.int x), some (.int (nI o)), none] [.int _, .ref 155]
              rw [nI_1 o]
              refine J_callV1 (X' := fun _ _ => False) hS dX2_readCouple_37 mvX2_88 ob155 rfl (by first | decide | omega) (by decide) (Nat.le_of_ble_eq_true rfl) ⟨Nat.le_trans (by decide) hR.1, Nat.le_trans (by decide) hR.2⟩ (fun _ _ q => q.elim) (hu g4 (m + L.length) (nx T n s2) _ _ (PreP.of p4 (by omega)) (fun L2 s5 g5 f7 f8 => ?_) (fun e g5 f7 f8 => ?_))
              · have d2 := hg (nx T n s2) hs4.2.2.2.1 L2 s5 f7
                have p5 : POk T n h g g5 m (L ++ L2) s5 := p4.trans f8
                refine J_if_eq (tgt := 56) hS dX2_readCouple_40 (by decide) (fun k4 => ?_) (fun k4 => ?_)
                · exact absurd k4 (by decide)
                ·
                  refine J_aload_n hS dX2_readCouple_43 rfl ?_
                  refine J_bipush (v := 41) hS dX2_readCouple_44 (by decide) ?_
                  refine J_callV1 (X' := fun _ _ => False) hS dX2_readCouple_46 mvX2_105 ob155 rfl (by first | decide | omega) (by decide) (Nat.le_of_ble_eq_true rfl) ⟨Nat.le_trans (by decide) hR.1, Nat.le_trans (by decide) hR.2⟩ (fun _ _ q => q.elim) (c_pass hL (PreP.of p5 (by simp only [List.length_append]; omega)) (fun g6 f9 f10 => ?_) (fun g6 f9 f10 => ?_))
                  · have hs6 := psC_inr d2.2.1 f9
                    have p6 : POk T n h g g6 m (L ++ L2) (nx T n s5) := by
                      have := p5.trans f10
                      rw [List.append_nil] at this; exact this
                    refine J_if_eq (tgt := 56) hS dX2_readCouple_49 (by decide) (fun k5 => ?_) (fun k5 => ?_)
                    · exact absurd k5 (by decide)
                    ·
                      refine J_iconst (v := 1) hS dX2_readCouple_52 (by decide) ?_
                      refine J_goto (tgt := 57) hS dX2_readCouple_53 (by decide) ?_
                      refine J_istore_n (lt := fun w => [some (.ref 155), some (.int x), some (.int (nI o)), some (.int w)]) hS dX2_readCouple_57 (Nat.le_of_ble_eq_true rfl) (fun _ => rfl) (fun w ew => ?_)
                      subst ew
                      refine J_aload_n hS dX2_readCouple_58 rfl ?_
                      refine J_getD (v := .ref h) hS dX2_readCouple_59 flX2_19 ob155 rfl (by rw [p6.num.2.1]; exact hL.ab) ?_
                      refine J_iload_n hS dX2_readCouple_62 rfl ?_
                      refine J_callV1 (X' := fun _ _ => False) hS dX2_readCouple_63 mvX2_119 hL.ob rfl (by first | decide | omega) (by decide) (Nat.le_of_ble_eq_true rfl) ⟨Nat.le_trans (by decide) hR.1, Nat.le_trans (by decide) hR.2⟩ (fun _ _ q => q.elim) (c_put hL (m := m + (L ++ L2).length) (by simp only [List.length_append]; omega) p6.2.2.1 (fun _ => ?_) (fun z => absurd z (by simp only [List.length_append]; omega)))
                      have p7 := p6.put (t := (c, 0)) hL
                      rw [← hx] at p7
                      refine J_iload_n hS dX2_readCouple_66 rfl ?_
                      refine J_zret hS hZ hr dX2_readCouple_67 (by decide) (by omega) (by omega) ?_
                      refine q1 _ _ _ ?_ p7
                      unfold cpl
                      rw [rb_ok f1, rb_ok f3, rb_ok f5, rb_ok f7, rb_ok f9]
                  ·
                    refine J_if_eq (tgt := 56) hS dX2_readCouple_49 (by decide) (fun k5 => ?_) (fun k5 => ?_)
                    · refine bad g6 _ ?_ (p5.bad f10)
                      unfold cpl
                      rw [rb_ok f1, rb_ok f3, rb_ok f5, rb_ok f7, rb_bad f9]
                    · exact absurd rfl k5
              ·
                refine J_if_eq (tgt := 56) hS dX2_readCouple_40 (by decide) (fun k4 => ?_) (fun k4 => ?_)
                · refine bad g5 e ?_ (p4.bad f8)
                  unfold cpl
                  rw [rb_ok f1, rb_ok f3, rb_ok f5, rb_bad f7]
                · exact absurd rfl k4
          ·
            refine J_if_eq (tgt := 56) hS dX2_readCouple_30 (by decide) (fun k3 => ?_) (fun k3 => ?_)
            · refine bad g4 _ ?_ (p3.bad f6)
              unfold cpl
              rw [rb_ok f1, rb_ok f3, rb_bad f5]
            · exact absurd rfl k3
      ·
        refine J_if_eq (tgt := 56) hS dX2_readCouple_21 (by decide) (fun k2 => ?_) (fun k2 => ?_)
        · refine bad g3 e ?_ (p2.bad f4)
          unfold cpl
          rw [rb_ok f1, rb_bad f3]
        · exact absurd rfl k2
  ·
    refine J_if_eq (tgt := 56) hS dX2_readCouple_11 (by decide) (fun k1 => ?_) (fun k1 => ?_)
    · refine bad g2 e ?_ (p1.bad f2)
      unfold cpl
      rw [rb_bad f1]
    · exact absurd rfl k1
set_option maxRecDepth 10000 in
set_option maxHeartbeats 4000000 in
theorem c_readUnit {dd o df : Nat} {u : Nat → Res} (hL : Lw h) (hdd : 5 ≤ dd) (ho : o + df = 6) (hu : df ≠ 0 → CtP l E yX2_readSum dd (o + 1) T n h u) (hg : ∀ s, s ≤ n → gd n false s (u s)) : CtP l E yX2_readUnit (dd + 2) o T n h (unt T n u df) := by
  intro g m s Q X hp q1 q0
  have hC := hp.1
  have hn3 := hp.1.1.2.2.1
  have hsn := hp.1.2.2.1
  have hms := hp.2.2
  have gx := nx_le (T := T) hsn
  have hk4 : tkK T n s ≤ 3 := by unfold tkK; split; decide; split; decide; split <;> decide
  refine Ct_in k_yX2_readUnit (by decide) rfl (Nat.le_of_ble_eq_true rfl) rfl ?_
  intro S hS hZ hr ht hR
  show J S 0 0 (g) 0 [some (.ref 155), some (.int (nI o)), none] []
  refine J_aload_n hS dX2_readUnit_0 rfl ?_
  refine J_getI hS dX2_readUnit_1 flX2_23 ob155 rfl ?_
  show J S 0 0 (g) 4 [some (.ref 155), some (.int (nI o)), none] [.int _]
  rw [hC.2.2.2.1]
  refine J_iconst (v := 1) hS dX2_readUnit_4 (by decide) ?_
  refine J_icmp_ne (tgt := 41) hS dX2_readUnit_5 (by decide) (fun c1 => ?_) (fun c1 => ?_)
  · have n1 : ¬ tkK T n s = 1 := fun z => c1 (by rw [z]; rfl)
    refine J_aload_n hS dX2_readUnit_41 rfl ?_
    refine J_bipush (v := 40) hS dX2_readUnit_42 (by decide) ?_
    refine J_callV1 (X' := fun _ _ => False) hS dX2_readUnit_44 mvX2_74 ob155 rfl (by first | decide | omega) (by decide) (Nat.le_of_ble_eq_true rfl) ⟨Nat.le_trans (by decide) hR.1, Nat.le_trans (by decide) hR.2⟩ (fun _ _ q => q.elim) (c_isAt hC (fun r2 t2 v2 => ?_))
    refine J_if_eq (tgt := 85) hS dX2_readUnit_47 (by decide) (fun c2 => ?_) (fun c2 => ?_)
    · have n2 : ¬ isC T n s 40 = true := fun z => by rw [v2.mpr z] at c2; exact absurd c2 (by decide)
      refine J_aload_n hS dX2_readUnit_85 rfl ?_
      refine J_ldcS (i := 5) hS (List.mem_of_getElem? (i := 15) rfl) dX2_readUnit_86 ?_
      refine J_callV1 (X' := fun _ _ => False) hS dX2_readUnit_88 mvX2_96 ob155 rfl (by first | decide | omega) (by decide) (Nat.le_of_ble_eq_true rfl) ⟨Nat.le_trans (by decide) hR.1, Nat.le_trans (by decide) hR.2⟩ (fun _ _ q => q.elim) (c_isAtW (i := 5) (by decide) hC (fun r3 t3 v3 => ?_))
      refine J_if_eq (tgt := 103) hS dX2_readUnit_91 (by decide) (fun c3 => ?_) (fun c3 => ?_)
      · have n3 : ¬ isW T n s 5 = true := fun z => by rw [v3.mpr z] at c3; exact absurd c3 (by decide)
        refine J_aload_n hS dX2_readUnit_103 rfl ?_
        refine J_ldcS (i := 6) hS (List.mem_of_getElem? (i := 16) rfl) dX2_readUnit_104 ?_
        refine J_callV1 (X' := fun _ _ => False) hS dX2_readUnit_106 mvX2_96 ob155 rfl (by first | decide | omega) (by decide) (Nat.le_of_ble_eq_true rfl) ⟨Nat.le_trans (by decide) hR.1, Nat.le_trans (by decide) hR.2⟩ (fun _ _ q => q.elim) (c_isAtW (i := 6) (by decide) hC (fun r4 t4 v4 => ?_))
        refine J_if_eq (tgt := 121) hS dX2_readUnit_109 (by decide) (fun c4 => ?_) (fun c4 => ?_)
        · have n4 : ¬ isW T n s 6 = true := fun z => by rw [v4.mpr z] at c4; exact absurd c4 (by decide)
          refine J_aload_n hS dX2_readUnit_121 rfl ?_
          refine J_callV0 (X' := fun _ _ => False) hS dX2_readUnit_122 mvX2_137 ob155 rfl (by first | decide | omega) (by decide) (Nat.le_of_ble_eq_true rfl) ⟨Nat.le_trans (by decide) hR.1, Nat.le_trans (by decide) hR.2⟩ (fun _ _ q => q.elim) (c_factName hC (fun w hw => ?_) (fun hw => ?_))
          · obtain ⟨hlt, hw6⟩ := fcN_ok hw
            refine J_istore_n (lt := fun w2 => [some (.ref 155), some (.int (nI o)), some (.int w2)]) hS dX2_readUnit_125 (Nat.le_of_ble_eq_true rfl) (fun _ => rfl) (fun w2 ew2 => ?_)
            refine J_iload_n hS dX2_readUnit_126 rfl ?_
            refine J_iconst (v := (-1)) hS dX2_readUnit_127 (by decide) ?_
            rw [show w2 = nI w from ew2]
            show J S 0 0 g 128 [some (.ref 155), some (.int (nI o)), some (.int (nI w))] [.int (-1), .int (nI w)]
            refine J_icmp_ne (tgt := 137) hS dX2_readUnit_128 (by decide) (fun c5 => ?_) (fun c5 => ?_)
            ·
              refine J_aload_n hS dX2_readUnit_137 rfl ?_
              refine J_getD (v := .ref h) hS dX2_readUnit_138 flX2_19 ob155 rfl (by rw [hC.2.1]; exact hL.ab) ?_
              refine J_sipush (v := 1000) hS dX2_readUnit_141 (by decide) ?_
              refine J_iload_n hS dX2_readUnit_144 rfl ?_
              refine J_iadd hS dX2_readUnit_145 ?_
              show J S 0 0 (g) 146 [some (.ref 155), some (.int (nI o)), some (.int (nI w))] [.int _, .ref h]
              rw [show (1000 : Int32) + nI w = nI (1000 + w) by rw [n1000, nI_add]]
              refine J_callV1 (X' := fun _ _ => False) hS dX2_readUnit_146 mvX2_119 hL.ob rfl (by first | decide | omega) (by decide) (Nat.le_of_ble_eq_true rfl) ⟨Nat.le_trans (by decide) hR.1, Nat.le_trans (by decide) hR.2⟩ (fun _ _ q => q.elim) (c_put hL (m := m) (by omega) hp.2.1 (fun _ => ?_) (fun z => absurd z (by omega)))
              have p0 : POk T n h g g m [] s := POk.tok hL FrR.refl hp.2.1 hC
              have p1 := p0.put (t := (w + 1, 0)) hL
              rw [show encC (w + 1, 0) = nI (1000 + w) by unfold encC; rw [if_neg (by show ¬ w + 1 = 0; omega), if_pos (by show w + 1 ≤ 6; omega)]; congr 1; show 999 + (w + 1) = _; omega] at p1
              obtain ⟨g1, hg1⟩ : ∃ g1, g1 = u2 (u2 g (h + 5) m (nI (1000 + w))) h 6 (nI (m + 1)) := ⟨_, rfl⟩
              rw [show m + ([] : List Tok).length = m from rfl, ← hg1] at p1
              rw [← hg1]
              have hC1 := p1.2.1
              refine J_aload_n hS dX2_readUnit_149 rfl ?_
              refine J_callV0 (X' := fun _ _ => False) hS dX2_readUnit_150 mvX2_52 ob155 rfl (by first | decide | omega) (by decide) (Nat.le_of_ble_eq_true rfl) ⟨Nat.le_trans (by decide) hR.1, Nat.le_trans (by decide) hR.2⟩ (fun _ _ q => q.elim) (c_step hC1.1 hC1.2.1 (tkE_le hsn).2.1 hC1.2.2.2.2.2.1 (fun g2 b1 b2 => ?_))
              have b2 : RdC g2 T n h (nx T n s) := b2
              refine J_iconst (v := 1) hS dX2_readUnit_153 (by decide) ?_
              refine J_zret hS hZ hr dX2_readUnit_154 (by decide) (by omega) (by omega) ?_
              have p2 := p1.trans (POk.tok hL b1 p1.2.2.1 b2)
              rw [List.append_nil] at p2
              refine q1 [(w + 1, 0)] (nx T n s) g2 ?_ p2
              unfold unt
              rw [if_neg n1, if_neg n2, if_neg n3, if_neg n4, hw]
            · exact absurd c5 (nI_nem1 (by omega))
          ·
            refine J_istore_n (lt := fun w2 => [some (.ref 155), some (.int (nI o)), some (.int w2)]) hS dX2_readUnit_125 (Nat.le_of_ble_eq_true rfl) (fun _ => rfl) (fun w2 ew2 => ?_)
            refine J_iload_n hS dX2_readUnit_126 rfl ?_
            refine J_iconst (v := (-1)) hS dX2_readUnit_127 (by decide) ?_
            rw [show w2 = -1 from ew2]
            show J S 0 0 g 128 [some (.ref 155), some (.int (nI o)), some (.int (-1))] [.int (-1), .int (-1)]
            refine J_icmp_ne (tgt := 137) hS dX2_readUnit_128 (by decide) (fun c5 => ?_) (fun c5 => ?_)
            · exact absurd rfl c5
            ·
              refine J_aload_n hS dX2_readUnit_131 rfl ?_
              refine J_iconst (v := 1) hS dX2_readUnit_132 (by decide) ?_
              refine J_callV1 (X' := fun _ _ => False) hS dX2_readUnit_133 mvX2_78 ob155 rfl (by first | decide | omega) (by decide) (Nat.le_of_ble_eq_true rfl) ⟨Nat.le_trans (by decide) hR.1, Nat.le_trans (by decide) hR.2⟩ (fun _ _ q => q.elim) (c_refuse ?_)
              refine J_zret hS hZ hr dX2_readUnit_136 (by decide) (by omega) (by omega) ?_
              refine q0 (1, s) _ ?_ (hC.bad (k := 1) hL hp.2.1 (by omega))
              unfold unt
              rw [if_neg n1, if_neg n2, if_neg n3, if_neg n4, hw]
        · have y4 : isW T n s 6 = true := v4.mp (t4.resolve_left c4)
          have eu : unt T n u df s = cpl T n u df 12 s := by unfold unt; rw [if_neg n1, if_neg n2, if_neg n3, if_pos y4]
          refine J_aload_n hS dX2_readUnit_112 rfl ?_
          refine J_sipush (v := 2005) hS dX2_readUnit_113 (by decide) ?_
          refine J_iload_n hS dX2_readUnit_116 rfl ?_
          refine J_callV2 (X' := fun _ _ => False) hS dX2_readUnit_117 mvX2_131 ob155 rfl (by first | decide | omega) (by decide) (Nat.le_of_ble_eq_true rfl) ⟨Nat.le_trans (by decide) hR.1, Nat.le_trans (by decide) hR.2⟩ (fun _ _ q => q.elim) (c_readCouple (c := 12) hL (by omega) ho hu hg (by rfl) hp (isW_lt y4) (fun L s' g1 f1 f2 => ?_) (fun e g1 f1 f2 => ?_))
          ·
            refine J_zret hS hZ hr dX2_readUnit_120 (by decide) (by omega) (by omega) ?_
            exact q1 L s' g1 (by rw [eu]; exact f1) f2
          ·
            refine J_zret hS hZ hr dX2_readUnit_120 (by decide) (by omega) (by omega) ?_
            exact q0 e g1 (by rw [eu]; exact f1) f2
      · have y3 : isW T n s 5 = true := v3.mp (t3.resolve_left c3)
        have eu : unt T n u df s = cpl T n u df 11 s := by unfold unt; rw [if_neg n1, if_neg n2, if_pos y3]
        refine J_aload_n hS dX2_readUnit_94 rfl ?_
        refine J_sipush (v := 2004) hS dX2_readUnit_95 (by decide) ?_
        refine J_iload_n hS dX2_readUnit_98 rfl ?_
        refine J_callV2 (X' := fun _ _ => False) hS dX2_readUnit_99 mvX2_131 ob155 rfl (by first | decide | omega) (by decide) (Nat.le_of_ble_eq_true rfl) ⟨Nat.le_trans (by decide) hR.1, Nat.le_trans (by decide) hR.2⟩ (fun _ _ q => q.elim) (c_readCouple (c := 11) hL (by omega) ho hu hg (by rfl) hp (isW_lt y3) (fun L s' g1 f1 f2 => ?_) (fun e g1 f1 f2 => ?_))
        ·
          refine J_zret hS hZ hr dX2_readUnit_102 (by decide) (by omega) (by omega) ?_
          exact q1 L s' g1 (by rw [eu]; exact f1) f2
        ·
          refine J_zret hS hZ hr dX2_readUnit_102 (by decide) (by omega) (by omega) ?_
          exact q0 e g1 (by rw [eu]; exact f1) f2
    · have y2 : isC T n s 40 = true := v2.mp (t2.resolve_left c2)
      have eu : unt T n u df s = rb (psO T n 40 df s) (fun _ s1 => rb (u s1) (fun L s2 => rb (psC T n 41 s2) (fun _ s3 => .inr (L, s3)))) := by unfold unt; rw [if_neg n1, if_pos y2]
      have bad : ∀ (g1 : Mm) (e : Nat × Nat), unt T n u df s = .inl e → PBd h g g1 e → J S 0 0 g1 83 [some (.ref 155), some (.int (nI o)), none] [] := by
        intro g1 e he hb
        refine J_iconst (v := 0) hS dX2_readUnit_83 (by decide) ?_
        refine J_zret hS hZ hr dX2_readUnit_84 (by decide) (by omega) (by omega) ?_
        exact q0 e g1 he hb
      refine J_aload_n hS dX2_readUnit_50 rfl ?_
      refine J_bipush (v := 40) hS dX2_readUnit_51 (by decide) ?_
      refine J_iload_n hS dX2_readUnit_53 rfl ?_
      refine J_callV2 (X' := fun _ _ => False) hS dX2_readUnit_54 mvX2_125 ob155 rfl (by first | decide | omega) (by decide) (Nat.le_of_ble_eq_true rfl) ⟨Nat.le_trans (by decide) hR.1, Nat.le_trans (by decide) hR.2⟩ (fun _ _ q => q.elim) (c_passOpening (m := m) hL ho hp (fun g1 f1 f2 => ?_) (fun e g1 f1 f2 => ?_))
      · have hs1 := psO_inr hsn f1
        have hu := hu hs1.2.2.2.2
        refine J_if_eq (tgt := 83) hS dX2_readUnit_57 (by decide) (fun k1 => ?_) (fun k1 => ?_)
        · exact absurd k1 (by decide)
        ·
          refine J_aload_n hS dX2_readUnit_60 rfl ?_
          refine J_iload_n hS dX2_readUnit_61 rfl ?_
          refine J_iconst (v := 1) hS dX2_readUnit_62 (by decide) ?_
          refine J_iadd hS dX2_readUnit_63 ?_
          show J S 0 0 (g1) 64 [some (.ref 155), some (.int (nI o)), none] [.int _, .ref 155]
          rw [nI_1 o]
          refine J_callV1 (X' := fun _ _ => False) hS dX2_readUnit_64 mvX2_88 ob155 rfl (by first | decide | omega) (by decide) (Nat.le_of_ble_eq_true rfl) ⟨Nat.le_trans (by decide) hR.1, Nat.le_trans (by decide) hR.2⟩ (fun _ _ q => q.elim) (hu g1 m (nx T n s) _ _ ⟨f2.2.1, f2.2.2.1, by omega⟩ (fun L s2 g2 f3 f4 => ?_) (fun e g2 f3 f4 => ?_))
          · have d := hg (nx T n s) hs1.2.2.2.1 L s2 f3
            have p2 : POk T n h g g2 m L s2 := f2.trans f4
            refine J_if_eq (tgt := 83) hS dX2_readUnit_67 (by decide) (fun k2 => ?_) (fun k2 => ?_)
            · exact absurd k2 (by decide)
            ·
              refine J_aload_n hS dX2_readUnit_70 rfl ?_
              refine J_bipush (v := 41) hS dX2_readUnit_71 (by decide) ?_
              refine J_callV1 (X' := fun _ _ => False) hS dX2_readUnit_73 mvX2_105 ob155 rfl (by first | decide | omega) (by decide) (Nat.le_of_ble_eq_true rfl) ⟨Nat.le_trans (by decide) hR.1, Nat.le_trans (by decide) hR.2⟩ (fun _ _ q => q.elim) (c_pass hL (PreP.of p2 (by omega)) (fun g3 f5 f6 => ?_) (fun g3 f5 f6 => ?_))
              · have p3 : POk T n h g g3 m L (nx T n s2) := by
                  have := p2.trans f6
                  rw [List.append_nil] at this; exact this
                refine J_if_eq (tgt := 83) hS dX2_readUnit_76 (by decide) (fun k3 => ?_) (fun k3 => ?_)
                · exact absurd k3 (by decide)
                ·
                  refine J_iconst (v := 1) hS dX2_readUnit_79 (by decide) ?_
                  refine J_goto (tgt := 84) hS dX2_readUnit_80 (by decide) ?_
                  refine J_zret hS hZ hr dX2_readUnit_84 (by decide) (by omega) (by omega) ?_
                  exact q1 L (nx T n s2) g3 (by rw [eu, rb_ok f1, rb_ok f3, rb_ok f5]) p3
              ·
                refine J_if_eq (tgt := 83) hS dX2_readUnit_76 (by decide) (fun k3 => ?_) (fun k3 => ?_)
                · exact bad g3 _ (by rw [eu, rb_ok f1, rb_ok f3, rb_bad f5]) (p2.bad f6)
                · exact absurd rfl k3
          ·
            refine J_if_eq (tgt := 83) hS dX2_readUnit_67 (by decide) (fun k2 => ?_) (fun k2 => ?_)
            · exact bad g2 e (by rw [eu, rb_ok f1, rb_bad f3]) (f2.bad f4)
            · exact absurd rfl k2
      ·
        refine J_if_eq (tgt := 83) hS dX2_readUnit_57 (by decide) (fun k1 => ?_) (fun k1 => ?_)
        · exact bad g1 e (by rw [eu, rb_bad f1]) f2
        · exact absurd rfl k1
  · have y1 : tkK T n s = 1 := (nI_eq (by omega) (by decide)).mp c1
    have hlt : s < n := by
      rcases Nat.lt_or_ge s n with z | z
      · exact z
      · unfold tkK at y1; rw [if_pos z] at y1; cases y1
    have hN := hC.2.2.2.2.2.2 y1
    obtain ⟨kv, hk1, hk2⟩ := tkN_ok (T := T) (n := n) (s := s)
    refine J_aload_n hS dX2_readUnit_8 rfl ?_
    refine J_getI hS dX2_readUnit_9 flX2_32 ob155 rfl ?_
    refine J_sipush (v := 999) hS dX2_readUnit_12 (by decide) ?_
    show J S 0 0 (g) 15 [some (.ref 155), some (.int (nI o)), none] [.int 999, .int _]
    rw [hN]
    refine J_icmp_le (tgt := 24) hS dX2_readUnit_15 (by decide) (fun c2 => ?_) (fun c2 => ?_)
    ·
      refine J_aload_n hS dX2_readUnit_24 rfl ?_
      refine J_getD (v := .ref h) hS dX2_readUnit_25 flX2_19 ob155 rfl (by rw [hC.2.1]; exact hL.ab) ?_
      refine J_aload_n hS dX2_readUnit_28 rfl ?_
      refine J_getI hS dX2_readUnit_29 flX2_32 ob155 rfl ?_
      show J S 0 0 (g) 32 [some (.ref 155), some (.int (nI o)), none] [.int _, .ref h]
      rw [hN]
      refine J_callV1 (X' := fun _ _ => False) hS dX2_readUnit_32 mvX2_119 hL.ob rfl (by first | decide | omega) (by decide) (Nat.le_of_ble_eq_true rfl) ⟨Nat.le_trans (by decide) hR.1, Nat.le_trans (by decide) hR.2⟩ (fun _ _ q => q.elim) (c_put hL (m := m) (by omega) hp.2.1 (fun _ => ?_) (fun z => absurd z (by omega)))
      have p0 : POk T n h g g m [] s := POk.tok hL FrR.refl hp.2.1 hC
      have p1 := p0.put (t := (0, tkN T n s)) hL
      rw [show encC (0, tkN T n s) = tkN T n s from rfl] at p1
      obtain ⟨g1, hg1⟩ : ∃ g1, g1 = u2 (u2 g (h + 5) m (tkN T n s)) h 6 (nI (m + 1)) := ⟨_, rfl⟩
      rw [show m + ([] : List Tok).length = m from rfl, ← hg1] at p1
      rw [← hg1]
      have hC1 := p1.2.1
      refine J_aload_n hS dX2_readUnit_35 rfl ?_
      refine J_callV0 (X' := fun _ _ => False) hS dX2_readUnit_36 mvX2_52 ob155 rfl (by first | decide | omega) (by decide) (Nat.le_of_ble_eq_true rfl) ⟨Nat.le_trans (by decide) hR.1, Nat.le_trans (by decide) hR.2⟩ (fun _ _ q => q.elim) (c_step hC1.1 hC1.2.1 (tkE_le hsn).2.1 hC1.2.2.2.2.2.1 (fun g2 b1 b2 => ?_))
      have b2 : RdC g2 T n h (nx T n s) := b2
      refine J_iconst (v := 1) hS dX2_readUnit_39 (by decide) ?_
      refine J_zret hS hZ hr dX2_readUnit_40 (by decide) (by omega) (by omega) ?_
      have p2 := p1.trans (POk.tok hL b1 p1.2.2.1 b2)
      rw [List.append_nil] at p2
      refine q1 [(0, tkN T n s)] (nx T n s) g2 ?_ p2
      unfold unt
      rw [if_pos y1, if_neg (Int32.not_lt.mpr c2)]
    ·
      refine J_aload_n hS dX2_readUnit_18 rfl ?_
      refine J_iconst (v := 2) hS dX2_readUnit_19 (by decide) ?_
      refine J_callV1 (X' := fun _ _ => False) hS dX2_readUnit_20 mvX2_78 ob155 rfl (by first | decide | omega) (by decide) (Nat.le_of_ble_eq_true rfl) ⟨Nat.le_trans (by decide) hR.1, Nat.le_trans (by decide) hR.2⟩ (fun _ _ q => q.elim) (c_refuse ?_)
      refine J_zret hS hZ hr dX2_readUnit_23 (by decide) (by omega) (by omega) ?_
      refine q0 (2, s) _ ?_ (hC.bad (k := 2) hL hp.2.1 (by omega))
      unfold unt
      rw [if_pos y1, if_pos (Int32.not_le.mp c2)]
/-- sums of a depth -/
theorem c_sumD (hL : Lw h) : ∀ (dd o D : Nat), o + dd = 6 → 9 + 4 * dd ≤ D → CtP l E yX2_readSum D o T n h (sumD T n dd)
  | 0, o, D, ho, hD => by
    obtain ⟨k, ek⟩ : ∃ k, D = k + 2 + 1 + 1 := ⟨D - 4, by omega⟩
    subst ek
    exact c_readSum hL (by omega) (c_readProduct hL (by omega) (c_readUnit (dd := k) hL (by omega) ho (fun z => absurd rfl z) (fun s _ L s' e => by cases e)) (fun s hs => gd_unt (fun s _ L s' e => by cases e) hs)) (fun s hs => gd_chn (fun _ _ z => lkP_ok z) (fun s hs => gd_unt (fun s _ L s' e => by cases e) hs) hs)
  | dd + 1, o, D, ho, hD => by
    obtain ⟨k, ek⟩ : ∃ k, D = k + 2 + 1 + 1 := ⟨D - 4, by omega⟩
    subst ek
    exact c_readSum hL (by omega) (c_readProduct hL (by omega) (c_readUnit (dd := k) hL (by omega) ho (fun _ => c_sumD hL dd (o + 1) k (by omega) (by omega)) (fun s hs => gd_sumD dd s hs)) (fun s hs => gd_unt (fun s hs => gd_sumD dd s hs) hs)) (fun s hs => gd_chn (fun _ _ z => lkP_ok z) (fun s hs => gd_unt (fun s hs => gd_sumD dd s hs) hs) hs)
end RdV


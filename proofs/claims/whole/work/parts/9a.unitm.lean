/-! THE REFERENCE'S READER: units and sums -/
theorem POM.r {T : Wr} {n k : Nat} {g g1 : Mm} {c d s1 : Nat} {L : List Tok} (a : POM T n k g g1 c d L s1) : RdM T n k g1 (c + L.length) d s1 := a.2.1
theorem POM.nilR {T : Wr} {n k : Nat} {g g1 g2 : Mm} {c d d' s1 s2 : Nat} {L : List Tok} (a : POM T n k g g1 c d L s1) (b : POM T n k g1 g2 (c + L.length) d' [] s2) : POM T n k g g2 c d' L s2 := by
  have := a.trans b
  rw [List.append_nil] at this; exact this
section RdU
variable {l : Launch} {E : Ey} {T : Wr} {n k : Nat}
set_option maxRecDepth 10000 in
set_option maxHeartbeats 4000000 in
theorem m_unit {D d : Nat} {u : Nat → Res} (hD : 3 ≤ D) (hu : ∀ d', d = d' + 1 → CtM l E yX8_sum D d' T n k u) (hg : ∀ s, s ≤ n → gd n false s (u s)) : CtM l E yX8_unit (D + 1) d T n k (unt T n u d) := by
  intro g c s Q X hp q1 q0
  have hn3 := hp.1.2.1
  have hsn := hp.2.2.2.2.2.1
  have hcs := hp.2.2.2.2.1
  have hd6 := hp.2.2.1.1
  have gx := nx_le (T := T) hsn
  refine Ct_in k_yX8_unit (by decide) rfl (Nat.le_of_ble_eq_true rfl) rfl ?_
  intro S hS hZ hr ht hR
  show J S 0 0 (g) 0 [some (.ref 162), none, none] []
  refine J_aload_n hS dX8_unit_0 rfl ?_
  refine J_callV0 (X' := fun _ _ => False) hS dX8_unit_1 mvX8_164 ob162 rfl (by first | decide | omega) (by decide) (Nat.le_of_ble_eq_true rfl) ⟨Nat.le_trans (by decide) hR.1, Nat.le_trans (by decide) hR.2⟩ (fun _ _ q => q.elim) (m_fineY hp.2.1 ?_)
  refine J_if_ne (tgt := 8) hS dX8_unit_4 (by decide) (fun c0 => ?_) (fun c0 => ?_)
  ·
    refine J_aload_n hS dX8_unit_8 rfl ?_
    refine J_callV0 (X' := fun _ _ => False) hS dX8_unit_9 mvX8_150 ob162 rfl (by first | decide | omega) (by decide) (Nat.le_of_ble_eq_true rfl) ⟨Nat.le_trans (by decide) hR.1, Nat.le_trans (by decide) hR.2⟩ (fun _ _ q => q.elim) (m_here hp (fun g1 f1 e1 r1 => ?_))
    refine J_istore_n (lt := fun x1 => [some (.ref 162), some (.int x1), none]) hS dX8_unit_12 (Nat.le_of_ble_eq_true rfl) (fun _ => rfl) (fun x1 ex1 => ?_)
    refine J_iload_n hS dX8_unit_13 rfl ?_
    rw [show x1 = hv T n s from ex1]
    have p1 : POM T n k g g1 c d [] s := POM.nil r1 f1.p
    refine J_callS1 (X' := fun _ _ => False) hS dX8_unit_14 msX8_157 rfl (by first | decide | omega) (by decide) (Nat.le_of_ble_eq_true rfl) ⟨Nat.le_trans (by decide) hR.1, Nat.le_trans (by decide) hR.2⟩ (fun _ _ q => q.elim) (m_isDigit (fun t t1 t2 => ?_))
    refine J_if_eq (tgt := 30) hS dX8_unit_17 (by decide) (fun c1 => ?_) (fun c1 => ?_)
    · have n1' : ¬ tkK T n s = 1 := fun z => by rw [t2.mpr (hv_dg.mpr z)] at c1; exact absurd c1 (by decide)
      have v40 := isC_hv (T := T) (n := n) (s := s) (c := 40) (by decide) (by decide) (by decide)
      refine J_iload_n hS dX8_unit_30 rfl ?_
      refine J_bipush (v := 40) hS dX8_unit_31 (by decide) ?_
      refine J_icmp_ne (tgt := 54) hS dX8_unit_33 (by decide) (fun c2 => ?_) (fun c2 => ?_)
      · have n2' : ¬ isC T n s 40 = true := fun z => c2 (v40.mp z)
        have w5 := wcI (T := T) (n := n) (s := s) (i := 5) (W := 12748404) (by decide) rfl
        have w6 := wcI (T := T) (n := n) (s := s) (i := 6) (W := 441972) (by decide) rfl
        refine J_aload_n hS dX8_unit_54 rfl ?_
        refine J_callV0 (X' := fun _ _ => False) hS dX8_unit_55 mvX8_201 ob162 rfl (by first | decide | omega) (by decide) (Nat.le_of_ble_eq_true rfl) ⟨Nat.le_trans (by decide) hR.1, Nat.le_trans (by decide) hR.2⟩ (fun _ _ q => q.elim) (m_word r1 (fun g2 f2 e2 r2 => ?_))
        refine J_istore_n (lt := fun x2 => [some (.ref 162), some (.int (hv T n s)), some (.int x2)]) hS dX8_unit_58 (Nat.le_of_ble_eq_true rfl) (fun _ => rfl) (fun x2 ex2 => ?_)
        rw [show x2 = nI (wcN T n s) from ex2]
        have f12 := f1.trans f2
        have couple : ∀ (i a : Nat), isW T n s i = true → ((i = 5 ∧ a = 11) ∨ (i = 6 ∧ a = 12)) → unt T n u d s = cpl T n u d a s → J S 0 0 g2 71 [some (.ref 162), some (.int (hv T n s)), some (.int (nI (wcN T n s)))] [] := by
          intro i a hi hia heu
          have glt := gx.2.2 (isW_lt hi)
          have em : ∀ (g9 : Mm) (J1 : ∀ av : Int32, av = nI a → J S 0 0 g9 116 [some (.ref 162), some (.int (hv T n s)), some (.int (nI (wcN T n s)))] [.int av, .ref 162]), J S 0 0 g9 102 [some (.ref 162), some (.int (hv T n s)), some (.int (nI (wcN T n s)))] [] := by
            intro g9 J1
            refine J_aload_n hS dX8_unit_102 rfl ?_
            refine J_iload_n hS dX8_unit_103 rfl ?_
            refine J_ldc hS dX8_unit_104 ctX8_204 ?_
            refine J_icmp_ne (tgt := 114) hS dX8_unit_106 (by decide) (fun k1 => ?_) (fun k1 => ?_)
            ·
              refine J_bipush (v := 12) hS dX8_unit_114 (by decide) ?_
              refine J1 _ ?_
              rcases hia with ⟨z, _⟩ | ⟨_, z⟩
              · subst z; exact absurd (w5.mpr hi) k1
              · rw [z]; rfl
            ·
              refine J_bipush (v := 11) hS dX8_unit_109 (by decide) ?_
              refine J_goto (tgt := 116) hS dX8_unit_111 (by decide) ?_
              refine J1 _ ?_
              rcases hia with ⟨_, z⟩ | ⟨z, _⟩
              · rw [z]; rfl
              · subst z
                have h5 := w5.mp k1
                have h6 := hi
                have a5 := (isW_iff.mp h5).2.2 0 (by decide)
                have a6 := (isW_iff.mp h6).2.2 0 (by decide)
                rw [a5] at a6; exact absurd a6 (by decide)
          have bad : ∀ (g9 : Mm) (e : Nat × Nat), unt T n u d s = .inl e → PBM k g g9 c e → J S 0 0 g9 102 [some (.ref 162), some (.int (hv T n s)), some (.int (nI (wcN T n s)))] [] := by
            intro g9 e he hb
            refine em g9 (fun av _ => ?_)
            refine J_iconst (v := 0) hS dX8_unit_116 (by decide) ?_
            refine J_callV2 (X' := fun _ _ => False) hS dX8_unit_117 mvX8_189 ob162 rfl (by first | decide | omega) (by decide) (Nat.le_of_ble_eq_true rfl) ⟨Nat.le_trans (by decide) hR.1, Nat.le_trans (by decide) hR.2⟩ (fun _ _ q => q.elim) (m_emitN hb.bd ?_)
            refine J_goto (tgt := 156) hS dX8_unit_120 (by decide) ?_
            refine J_vret hS hZ hr dX8_unit_156 (by omega) (by omega) ?_
            exact q0 e g9 he hb
          have bad2 : ∀ (g9 : Mm) (e : Nat × Nat), unt T n u d s = .inl e → PBM k g g9 c e → J S 0 0 g9 92 [some (.ref 162), some (.int (hv T n s)), some (.int (nI (wcN T n s)))] [] := by
            intro g9 e he hb
            refine J_aload_n hS dX8_unit_92 rfl ?_
            refine J_callV0 (X' := fun _ _ => False) hS dX8_unit_93 mvX8_195 ob162 rfl (by first | decide | omega) (by decide) (Nat.le_of_ble_eq_true rfl) ⟨Nat.le_trans (by decide) hR.1, Nat.le_trans (by decide) hR.2⟩ (fun _ _ q => q.elim) (m_sumN g9 _ _ hb.bd ?_)
            refine J_aload_n hS dX8_unit_96 rfl ?_
            refine J_bipush (v := 41) hS dX8_unit_97 (by decide) ?_
            refine J_callV1 (X' := fun _ _ => False) hS dX8_unit_99 mvX8_198 ob162 rfl (by first | decide | omega) (by decide) (Nat.le_of_ble_eq_true rfl) ⟨Nat.le_trans (by decide) hR.1, Nat.le_trans (by decide) hR.2⟩ (fun _ _ q => q.elim) (m_closesN hb.bd (fun ga oa => ?_))
            exact bad ga e he (hb.o oa)
          have bad1 : ∀ (g9 : Mm) (e : Nat × Nat), unt T n u d s = .inl e → PBM k g g9 c e → J S 0 0 g9 86 [some (.ref 162), some (.int (hv T n s)), some (.int (nI (wcN T n s)))] [] := by
            intro g9 e he hb
            refine J_aload_n hS dX8_unit_86 rfl ?_
            refine J_bipush (v := 44) hS dX8_unit_87 (by decide) ?_
            refine J_callV1 (X' := fun _ _ => False) hS dX8_unit_89 mvX8_177 ob162 rfl (by first | decide | omega) (by decide) (Nat.le_of_ble_eq_true rfl) ⟨Nat.le_trans (by decide) hR.1, Nat.le_trans (by decide) hR.2⟩ (fun _ _ q => q.elim) (m_needN hb.bd ?_)
            exact bad2 g9 e he hb
          refine J_aload_n hS dX8_unit_71 rfl ?_
          refine J_callV0 (X' := fun _ _ => False) hS dX8_unit_72 mvX8_206 ob162 rfl (by first | decide | omega) (by decide) (Nat.le_of_ble_eq_true rfl) ⟨Nat.le_trans (by decide) hR.1, Nat.le_trans (by decide) hR.2⟩ (fun _ _ q => q.elim) (m_passW r2 e2 hi (fun g3 f3 r3 => ?_))
          have p3 : POM T n k g g3 c d [] (nx T n s) := POM.nil r3 (f12.trans f3).p
          refine J_aload_n hS dX8_unit_75 rfl ?_
          refine J_bipush (v := 40) hS dX8_unit_76 (by decide) ?_
          refine J_iconst (v := 1) hS dX8_unit_78 (by decide) ?_
          refine J_callV2 (X' := fun _ _ => False) hS dX8_unit_79 mvX8_192 ob162 rfl (by first | decide | omega) (by decide) (Nat.le_of_ble_eq_true rfl) ⟨Nat.le_trans (by decide) hR.1, Nat.le_trans (by decide) hR.2⟩ (fun _ _ q => q.elim) (m_opens r3 (by decide) (by decide) (by decide) (fun d' ed g4 o1 o2 => ?_) (fun e g4 o1 o2 => ?_))
          · have hs4 := psO_inr gx.2.1 o1
            have hu' := hu d' ed
            have p4 : POM T n k g g4 c d' [] (nx T n (nx T n s)) := POM.nilR p3 o2
            obtain ⟨s4, es4⟩ : ∃ s4, s4 = nx T n (nx T n s) := ⟨_, rfl⟩
            rw [← es4] at p4 o1 hs4
            refine J_aload_n hS dX8_unit_82 rfl ?_
            refine J_callV0 (X' := fun _ _ => False) hS dX8_unit_83 mvX8_195 ob162 rfl (by first | decide | omega) (by decide) (Nat.le_of_ble_eq_true rfl) ⟨Nat.le_trans (by decide) hR.1, Nat.le_trans (by decide) hR.2⟩ (fun _ _ q => q.elim) (hu' g4 c s4 _ _ p4.r (fun L s5 g5 y1 y2 => ?_) (fun e g5 y1 y2 => ?_))
            · have z5 := hg s4 hs4.2.2.2.1 L s5 y1
              have p5 : POM T n k g g5 c d' L s5 := p4.trans y2
              refine J_aload_n hS dX8_unit_86 rfl ?_
              refine J_bipush (v := 44) hS dX8_unit_87 (by decide) ?_
              refine J_callV1 (X' := fun _ _ => False) hS dX8_unit_89 mvX8_177 ob162 rfl (by first | decide | omega) (by decide) (Nat.le_of_ble_eq_true rfl) ⟨Nat.le_trans (by decide) hR.1, Nat.le_trans (by decide) hR.2⟩ (fun _ _ q => q.elim) (m_need p5.r (by decide) (by decide) (by decide) (fun g6 y3 y4 => ?_) (fun g6 y3 y4 => ?_))
              · have hs6 := psC_inr z5.2.1 y3
                have p6 := p5.nilR y4
                refine J_aload_n hS dX8_unit_92 rfl ?_
                refine J_callV0 (X' := fun _ _ => False) hS dX8_unit_93 mvX8_195 ob162 rfl (by first | decide | omega) (by decide) (Nat.le_of_ble_eq_true rfl) ⟨Nat.le_trans (by decide) hR.1, Nat.le_trans (by decide) hR.2⟩ (fun _ _ q => q.elim) (hu' g6 (c + L.length) (nx T n s5) _ _ p6.r (fun L2 s7 g7 y5 y6 => ?_) (fun e g7 y5 y6 => ?_))
                · have z7 := hg (nx T n s5) hs6.2.2.2.1 L2 s7 y5
                  have p7 := p6.trans y6
                  refine J_aload_n hS dX8_unit_96 rfl ?_
                  refine J_bipush (v := 41) hS dX8_unit_97 (by decide) ?_
                  refine J_callV1 (X' := fun _ _ => False) hS dX8_unit_99 mvX8_198 ob162 rfl (by first | decide | omega) (by decide) (Nat.le_of_ble_eq_true rfl) ⟨Nat.le_trans (by decide) hR.1, Nat.le_trans (by decide) hR.2⟩ (fun _ _ q => q.elim) (m_closes p7.r (by omega) (by decide) (by decide) (by decide) (fun g8 y7 y8 => ?_) (fun g8 y7 y8 => ?_))
                  · have hs8 := psC_inr z7.2.1 y7
                    have p8 := p7.nilR y8
                    rw [← ed] at p8
                    refine em g8 (fun av hav => ?_)
                    refine J_iconst (v := 0) hS dX8_unit_116 (by decide) ?_
                    refine J_callV2 (X' := fun _ _ => False) hS dX8_unit_117 mvX8_189 ob162 rfl (by first | decide | omega) (by decide) (Nat.le_of_ble_eq_true rfl) ⟨Nat.le_trans (by decide) hR.1, Nat.le_trans (by decide) hR.2⟩ (fun _ _ q => q.elim) (m_emit (t := (a, 0)) p8 hav rfl (by simp only [List.length_append]; omega) (fun g9 p9 _ => ?_))
                    refine J_goto (tgt := 156) hS dX8_unit_120 (by decide) ?_
                    refine J_vret hS hZ hr dX8_unit_156 (by omega) (by omega) ?_
                    refine q1 _ _ g9 ?_ p9
                    rw [heu]; unfold cpl
                    rw [es4] at y1
                    rw [rb_ok o1, es4, rb_ok y1, rb_ok y3, rb_ok y5, rb_ok y7]
                  · refine bad g8 _ ?_ (p7.bad y8)
                    rw [heu]; unfold cpl
                    rw [es4] at y1
                    rw [rb_ok o1, es4, rb_ok y1, rb_ok y3, rb_ok y5, rb_bad y7]
                · have b7 := p6.bad y6
                  refine J_aload_n hS dX8_unit_96 rfl ?_
                  refine J_bipush (v := 41) hS dX8_unit_97 (by decide) ?_
                  refine J_callV1 (X' := fun _ _ => False) hS dX8_unit_99 mvX8_198 ob162 rfl (by first | decide | omega) (by decide) (Nat.le_of_ble_eq_true rfl) ⟨Nat.le_trans (by decide) hR.1, Nat.le_trans (by decide) hR.2⟩ (fun _ _ q => q.elim) (m_closesN b7.bd (fun ga oa => ?_))
                  refine bad ga e ?_ (b7.o oa)
                  rw [heu]; unfold cpl
                  rw [es4] at y1
                  rw [rb_ok o1, es4, rb_ok y1, rb_ok y3, rb_bad y5]
              · refine bad2 g6 _ ?_ (p5.bad y4)
                rw [heu]; unfold cpl
                rw [es4] at y1
                rw [rb_ok o1, es4, rb_ok y1, rb_bad y3]
            · refine bad1 g5 e ?_ (p4.bad y2)
              rw [heu]; unfold cpl
              rw [es4] at y1
              rw [rb_ok o1, es4, rb_bad y1]
          · have b4 := p3.bad o2
            refine J_aload_n hS dX8_unit_82 rfl ?_
            refine J_callV0 (X' := fun _ _ => False) hS dX8_unit_83 mvX8_195 ob162 rfl (by first | decide | omega) (by decide) (Nat.le_of_ble_eq_true rfl) ⟨Nat.le_trans (by decide) hR.1, Nat.le_trans (by decide) hR.2⟩ (fun _ _ q => q.elim) (m_sumN g4 _ _ b4.bd ?_)
            refine bad1 g4 e ?_ b4
            rw [heu]; unfold cpl
            rw [rb_bad o1]
        refine J_iload_n hS dX8_unit_59 rfl ?_
        refine J_ldc hS dX8_unit_60 ctX8_204 ?_
        refine J_icmp_eq (tgt := 71) hS dX8_unit_62 (by decide) (fun c3 => ?_) (fun c3 => ?_)
        · have h5 := w5.mp c3
          exact couple 5 11 h5 (Or.inl ⟨rfl, rfl⟩) (by unfold unt; rw [if_neg n1', if_neg n2', if_pos h5])
        · have n5' : ¬ isW T n s 5 = true := fun z => c3 (w5.mpr z)
          refine J_iload_n hS dX8_unit_65 rfl ?_
          refine J_ldc hS dX8_unit_66 ctX8_205 ?_
          refine J_icmp_ne (tgt := 123) hS dX8_unit_68 (by decide) (fun c4 => ?_) (fun c4 => ?_)
          · have n6' : ¬ isW T n s 6 = true := fun z => c4 (w6.mpr z)
            refine J_iload_n hS dX8_unit_123 rfl ?_
            refine J_callS1 (X' := fun _ _ => False) hS dX8_unit_124 msX8_209 rfl (by first | decide | omega) (by decide) (Nat.le_of_ble_eq_true rfl) ⟨Nat.le_trans (by decide) hR.1, Nat.le_trans (by decide) hR.2⟩ (fun _ _ q => q.elim) (m_name (fun w hw => ?_) (fun hw => ?_))
            · obtain ⟨hlt, hw6⟩ := fcN_ok hw
              refine J_iconst (v := (-1)) hS dX8_unit_127 (by decide) ?_
              refine J_icmp_ne (tgt := 143) hS dX8_unit_128 (by decide) (fun c5 => ?_) (fun c5 => ?_)
              · have glt := gx.2.2 hlt
                refine J_aload_n hS dX8_unit_143 rfl ?_
                refine J_callV0 (X' := fun _ _ => False) hS dX8_unit_144 mvX8_206 ob162 rfl (by first | decide | omega) (by decide) (Nat.le_of_ble_eq_true rfl) ⟨Nat.le_trans (by decide) hR.1, Nat.le_trans (by decide) hR.2⟩ (fun _ _ q => q.elim) (m_pass r2 e2 (fun g3 f3 e3 => ?_))
                have hwi : ∃ i, isW T n s i = true := by
                  unfold fcN at hw
                  by_cases z7 : isW T n s 7 = true
                  · exact ⟨_, z7⟩
                  · rw [if_neg z7] at hw
                    by_cases z8 : isW T n s 8 = true
                    · exact ⟨_, z8⟩
                    · rw [if_neg z8] at hw
                      by_cases z9 : isW T n s 9 = true
                      · exact ⟨_, z9⟩
                      · rw [if_neg z9] at hw
                        by_cases za : isW T n s 10 = true
                        · exact ⟨_, za⟩
                        · rw [if_neg za] at hw
                          by_cases zb : isW T n s 11 = true
                          · exact ⟨_, zb⟩
                          · rw [if_neg zb] at hw
                            by_cases zc : isW T n s 12 = true
                            · exact ⟨_, zc⟩
                            · rw [if_neg zc] at hw; cases hw
                obtain ⟨i, hi⟩ := hwi
                have r3 : RdM T n k g3 c d (nx T n s) := by
                  rw [← isW_E hi] at e3
                  exact r2.mv f3 (tkE_le (T := T) hsn).2.1 e3 rfl gx.1
                have p3 : POM T n k g g3 c d [] (nx T n s) := POM.nil r3 (f12.trans f3).p
                refine J_aload_n hS dX8_unit_147 rfl ?_
                refine J_iload_n hS dX8_unit_148 rfl ?_
                refine J_callS1 (X' := fun _ _ => False) hS dX8_unit_149 msX8_209 rfl (by first | decide | omega) (by decide) (Nat.le_of_ble_eq_true rfl) ⟨Nat.le_trans (by decide) hR.1, Nat.le_trans (by decide) hR.2⟩ (fun _ _ q => q.elim) (m_name (fun w' hw' => ?_) (fun hw' => ?_))
                · have ew : w' = w := Option.some.inj (hw'.symm.trans hw)
                  subst ew
                  refine J_iconst (v := 0) hS dX8_unit_152 (by decide) ?_
                  refine J_callV2 (X' := fun _ _ => False) hS dX8_unit_153 mvX8_189 ob162 rfl (by first | decide | omega) (by decide) (Nat.le_of_ble_eq_true rfl) ⟨Nat.le_trans (by decide) hR.1, Nat.le_trans (by decide) hR.2⟩ (fun _ _ q => q.elim) (m_emit (t := (w' + 1, 0)) p3 rfl rfl (by show c + 0 < nx T n s; omega) (fun g4 p4 _ => ?_))
                  refine J_vret hS hZ hr dX8_unit_156 (by omega) (by omega) ?_
                  refine q1 [(w' + 1, 0)] (nx T n s) g4 ?_ p4
                  unfold unt
                  rw [if_neg n1', if_neg n2', if_neg n5', if_neg n6', hw]
                · rw [hw] at hw'; cases hw'
              · exact absurd c5 (nI_nem1 (by omega))
            ·
              refine J_iconst (v := (-1)) hS dX8_unit_127 (by decide) ?_
              refine J_icmp_ne (tgt := 143) hS dX8_unit_128 (by decide) (fun c5 => ?_) (fun c5 => ?_)
              · exact absurd rfl c5
              ·
                refine J_aload_n hS dX8_unit_131 rfl ?_
                refine J_iconst (v := 1) hS dX8_unit_132 (by decide) ?_
                refine J_aload_n hS dX8_unit_133 rfl ?_
                refine J_getI hS dX8_unit_134 flX8_144 ob162 rfl ?_
                show J S 0 0 (g2) 137 [some (.ref 162), some (.int (hv T n s)), some (.int (nI (wcN T n s)))] [.int _, .int 1, .ref 162]
                rw [e2]
                refine J_callV2 (X' := fun _ _ => False) hS dX8_unit_137 mvX8_160 ob162 rfl (by first | decide | omega) (by decide) (Nat.le_of_ble_eq_true rfl) ⟨Nat.le_trans (by decide) hR.1, Nat.le_trans (by decide) hR.2⟩ (fun _ _ q => q.elim) (m_wrongY r2.2.1 ?_)
                refine J_goto (tgt := 156) hS dX8_unit_140 (by decide) ?_
                refine J_vret hS hZ hr dX8_unit_156 (by omega) (by omega) ?_
                have b := r2.bad (e := 1)
                refine q0 (1, s) _ ?_ ⟨(f12.p (k := k) (c := c)).trans b.1 (Nat.le_refl _), b.2⟩
                unfold unt
                rw [if_neg n1', if_neg n2', if_neg n5', if_neg n6', hw]
          · have h6 := w6.mp c4
            exact couple 6 12 h6 (Or.inr ⟨rfl, rfl⟩) (by unfold unt; rw [if_neg n1', if_neg n2', if_neg n5', if_pos h6])
      · have h40 := v40.mpr c2
        have eu : unt T n u d s = rb (psO T n 40 d s) (fun _ s1 => rb (u s1) (fun L s2 => rb (psC T n 41 s2) (fun _ s3 => .inr (L, s3)))) := by unfold unt; rw [if_neg n1', if_pos h40]
        refine J_aload_n hS dX8_unit_36 rfl ?_
        refine J_bipush (v := 40) hS dX8_unit_37 (by decide) ?_
        refine J_iconst (v := 1) hS dX8_unit_39 (by decide) ?_
        refine J_callV2 (X' := fun _ _ => False) hS dX8_unit_40 mvX8_192 ob162 rfl (by first | decide | omega) (by decide) (Nat.le_of_ble_eq_true rfl) ⟨Nat.le_trans (by decide) hR.1, Nat.le_trans (by decide) hR.2⟩ (fun _ _ q => q.elim) (m_opens r1 (by decide) (by decide) (by decide) (fun d' ed g4 o1 o2 => ?_) (fun e g4 o1 o2 => ?_))
        · have hs4 := psO_inr hsn o1
          have hu' := hu d' ed
          have p4 : POM T n k g g4 c d' [] (nx T n s) := POM.nilR p1 o2
          refine J_aload_n hS dX8_unit_43 rfl ?_
          refine J_callV0 (X' := fun _ _ => False) hS dX8_unit_44 mvX8_195 ob162 rfl (by first | decide | omega) (by decide) (Nat.le_of_ble_eq_true rfl) ⟨Nat.le_trans (by decide) hR.1, Nat.le_trans (by decide) hR.2⟩ (fun _ _ q => q.elim) (hu' g4 c (nx T n s) _ _ p4.r (fun L s5 g5 y1 y2 => ?_) (fun e g5 y1 y2 => ?_))
          · have z5 := hg (nx T n s) hs4.2.2.2.1 L s5 y1
            have p5 : POM T n k g g5 c d' L s5 := p4.trans y2
            refine J_aload_n hS dX8_unit_47 rfl ?_
            refine J_bipush (v := 41) hS dX8_unit_48 (by decide) ?_
            refine J_callV1 (X' := fun _ _ => False) hS dX8_unit_50 mvX8_198 ob162 rfl (by first | decide | omega) (by decide) (Nat.le_of_ble_eq_true rfl) ⟨Nat.le_trans (by decide) hR.1, Nat.le_trans (by decide) hR.2⟩ (fun _ _ q => q.elim) (m_closes p5.r (by omega) (by decide) (by decide) (by decide) (fun g8 y7 y8 => ?_) (fun g8 y7 y8 => ?_))
            · have p8 := p5.nilR y8
              rw [← ed] at p8
              refine J_vret hS hZ hr dX8_unit_53 (by omega) (by omega) ?_
              exact q1 L _ g8 (by rw [eu, rb_ok o1, rb_ok y1, rb_ok y7]) p8
            ·
              refine J_vret hS hZ hr dX8_unit_53 (by omega) (by omega) ?_
              exact q0 _ g8 (by rw [eu, rb_ok o1, rb_ok y1, rb_bad y7]) (p5.bad y8)
          · have b5 := p4.bad y2
            refine J_aload_n hS dX8_unit_47 rfl ?_
            refine J_bipush (v := 41) hS dX8_unit_48 (by decide) ?_
            refine J_callV1 (X' := fun _ _ => False) hS dX8_unit_50 mvX8_198 ob162 rfl (by first | decide | omega) (by decide) (Nat.le_of_ble_eq_true rfl) ⟨Nat.le_trans (by decide) hR.1, Nat.le_trans (by decide) hR.2⟩ (fun _ _ q => q.elim) (m_closesN b5.bd (fun ga oa => ?_))
            refine J_vret hS hZ hr dX8_unit_53 (by omega) (by omega) ?_
            exact q0 e ga (by rw [eu, rb_ok o1, rb_bad y1]) (b5.o oa)
        · have b4 := p1.bad o2
          refine J_aload_n hS dX8_unit_43 rfl ?_
          refine J_callV0 (X' := fun _ _ => False) hS dX8_unit_44 mvX8_195 ob162 rfl (by first | decide | omega) (by decide) (Nat.le_of_ble_eq_true rfl) ⟨Nat.le_trans (by decide) hR.1, Nat.le_trans (by decide) hR.2⟩ (fun _ _ q => q.elim) (m_sumN g4 _ _ b4.bd ?_)
          refine J_aload_n hS dX8_unit_47 rfl ?_
          refine J_bipush (v := 41) hS dX8_unit_48 (by decide) ?_
          refine J_callV1 (X' := fun _ _ => False) hS dX8_unit_50 mvX8_198 ob162 rfl (by first | decide | omega) (by decide) (Nat.le_of_ble_eq_true rfl) ⟨Nat.le_trans (by decide) hR.1, Nat.le_trans (by decide) hR.2⟩ (fun _ _ q => q.elim) (m_closesN b4.bd (fun ga oa => ?_))
          refine J_vret hS hZ hr dX8_unit_53 (by omega) (by omega) ?_
          exact q0 e ga (by rw [eu, rb_bad o1]) (b4.o oa)
    · have h1 : tkK T n s = 1 := hv_dg.mp (t2.mp (t1.resolve_left c1))
      have glt := gx.2.2 (dg_E h1).1
      refine J_aload_n hS dX8_unit_20 rfl ?_
      refine J_iconst (v := 0) hS dX8_unit_21 (by decide) ?_
      refine J_aload_n hS dX8_unit_22 rfl ?_
      refine J_callV0 (X' := fun _ _ => False) hS dX8_unit_23 mvX8_186 ob162 rfl (by first | decide | omega) (by decide) (Nat.le_of_ble_eq_true rfl) ⟨Nat.le_trans (by decide) hR.1, Nat.le_trans (by decide) hR.2⟩ (fun _ _ q => q.elim) (m_readNumber r1 e1 h1 (fun g2 hno f2 r2 => ?_) (fun g2 vv hyes b2 => ?_))
      · have p2 : POM T n k g g2 c d [] (nx T n s) := POM.nil r2 (f1.trans f2).p
        refine J_callV2 (X' := fun _ _ => False) hS dX8_unit_26 mvX8_189 ob162 rfl (by first | decide | omega) (by decide) (Nat.le_of_ble_eq_true rfl) ⟨Nat.le_trans (by decide) hR.1, Nat.le_trans (by decide) hR.2⟩ (fun _ _ q => q.elim) (m_emit (t := (0, tkN T n s)) p2 rfl rfl (by show c + 0 < nx T n s; omega) (fun g3 p3 _ => ?_))
        refine J_vret hS hZ hr dX8_unit_29 (by omega) (by omega) ?_
        refine q1 [(0, tkN T n s)] (nx T n s) g3 ?_ p3
        unfold unt
        rw [if_pos h1, if_neg hno]
      · have b := p1.bad b2
        refine J_callV2 (X' := fun _ _ => False) hS dX8_unit_26 mvX8_189 ob162 rfl (by first | decide | omega) (by decide) (Nat.le_of_ble_eq_true rfl) ⟨Nat.le_trans (by decide) hR.1, Nat.le_trans (by decide) hR.2⟩ (fun _ _ q => q.elim) (m_emitN b.bd ?_)
        refine J_vret hS hZ hr dX8_unit_29 (by omega) (by omega) ?_
        refine q0 (2, s) g2 ?_ b
        unfold unt
        rw [if_pos h1, if_pos hyes]
  · exact absurd c0 (by decide)
/-- sums of a depth -/
theorem m_sumD : ∀ (d D : Nat), 6 + 3 * d ≤ D → CtM l E yX8_sum D d T n k (sumD T n d)
  | 0, D, hD => by
    obtain ⟨j, ej⟩ : ∃ j, D = j + 1 + 1 + 1 := ⟨D - 3, by omega⟩
    subst ej
    exact m_sum (by omega) (m_product (by omega) (m_unit (D := j) (by omega) (fun d' z => absurd z (by omega)) (fun s _ L s' e => by cases e)) (fun s hs => gd_unt (fun s _ L s' e => by cases e) hs)) (fun s hs => gd_chn (fun _ _ z => lkP_ok z) (fun s hs => gd_unt (fun s _ L s' e => by cases e) hs) hs)
  | d + 1, D, hD => by
    obtain ⟨j, ej⟩ : ∃ j, D = j + 1 + 1 + 1 := ⟨D - 3, by omega⟩
    subst ej
    exact m_sum (by omega) (m_product (by omega) (m_unit (D := j) (by omega) (fun d' z => by rw [show d' = d by omega]; exact m_sumD d j (by omega)) (fun s hs => gd_sumD d s hs)) (fun s hs => gd_unt (fun s hs => gd_sumD d s hs) hs)) (fun s hs => gd_chn (fun _ _ z => lkP_ok z) (fun s hs => gd_unt (fun s hs => gd_sumD d s hs) hs) hs)
end RdU


/-! THE REFERENCE'S READER: conditions -/
section RdT
variable {l : Launch} {E : Ey} {T : Wr} {n k : Nat}
/-- one less is open -/
theorem POM.close {g g1 : Mm} {c d s : Nat} {L : List Tok} (h : POM T n k g g1 c d L s) (hd : d < 6) : POM T n k g (u2 g1 162 9 (nI (6 - (d + 1)))) c (d + 1) L s := by
  obtain ⟨f, ⟨⟨h1, h2, h3, h4, h5⟩, h6, h7, h8, h9, h10, p, hp, ep, es⟩, kk⟩ := h
  refine ⟨f.trans (FrP_u (by decide) (by decide)) (Nat.le_refl _), ⟨⟨by rw [u2_at, if_neg (by decide)]; exact h1, h2, by rw [u2_ne 176 (by decide)]; exact h3, by rw [u2_at, if_neg (by decide)]; exact h4, h5⟩, by rw [u2_at, if_neg (by decide)]; exact h6, ⟨by omega, u2_self⟩, by rw [u2_at, if_neg (by decide)]; exact h8, h9, h10, p, hp, by rw [u2_at, if_neg (by decide)]; exact ep, es⟩, kk.fr (u2_ne 182 (by decide)) (u2_ne 183 (by decide))⟩
theorem six_dec {d : Nat} (hd : d < 6) : nI (6 - d) - 1 = nI (6 - (d + 1)) := by
  have := nI_add (6 - (d + 1)) 1
  rw [show 6 - (d + 1) + 1 = 6 - d by omega] at this
  rw [← this]; show nI (6 - (d + 1)) + 1 - 1 = _; rw [Int32.add_sub_cancel]
set_option maxRecDepth 10000 in
theorem m_opens0 {g : Mm} {Q : Option Value → Mm → Prop} {X : String → Mm → Prop} {c d s : Nat} (h : RdM T n k g c d s) (ep : g 162 6 = nI s) (hw : isW T n s 15 = true) (q1 : ∀ d', d = d' + 1 → ∀ g', POM T n k g g' c d' [] (nx T n s) → Q none g') (q0 : d = 0 → ∀ g', PBM k g g' c (3, s) → Q none g') : Ct l E lay NC 1 0 0 yX8_opensAt [.ref 162, .int 0, .int 3] g Q X := by
  have hd6 := h.2.2.1.1
  have e9 := h.2.2.1.2
  have hsn := h.2.2.2.2.2.1
  have hlt := isW_lt hw
  have hE : tkE T n s = s + 3 := (isW_iff.mp hw).2.1
  have hE2 := (tkE_le (T := T) hsn).2.1
  refine Ct_in k_yX8_opensAt (by decide) rfl (Nat.le_of_ble_eq_true rfl) rfl ?_
  intro S hS hZ hr ht hR
  show J S 0 0 (g) 0 [some (.ref 162), some (.int 0), some (.int 3)] []
  refine J_aload_n hS dX8_opensAt_0 rfl ?_
  refine J_callV0 (X' := fun _ _ => False) hS dX8_opensAt_1 mvX8_164 ob162 rfl (by first | decide | omega) (by decide) (Nat.le_of_ble_eq_true rfl) ⟨Nat.le_trans (by decide) hR.1, Nat.le_trans (by decide) hR.2⟩ (fun _ _ q => q.elim) (m_fineY h.2.1 ?_)
  refine J_if_ne (tgt := 8) hS dX8_opensAt_4 (by decide) (fun c1 => ?_) (fun c1 => ?_)
  ·
    refine J_iload_n hS dX8_opensAt_8 rfl ?_
    refine J_if_eq (tgt := 32) hS dX8_opensAt_9 (by decide) (fun c2 => ?_) (fun c2 => ?_)
    ·
      refine J_aload_n hS dX8_opensAt_32 rfl ?_
      refine J_getI hS dX8_opensAt_33 flX8_174 ob162 rfl ?_
      refine J_bipush (v := 6) hS dX8_opensAt_36 (by decide) ?_
      show J S 0 0 (g) 38 [some (.ref 162), some (.int 0), some (.int 3)] [.int 6, .int _]
      rw [e9]
      refine J_icmp_ne (tgt := 50) hS dX8_opensAt_38 (by decide) (fun c4 => ?_) (fun c4 => ?_)
      · have hd0 : d ≠ 0 := fun z => c4 (by rw [z]; rfl)
        obtain ⟨d', ed⟩ : ∃ d', d = d' + 1 := ⟨d - 1, by omega⟩
        subst ed
        refine J_aload_n hS dX8_opensAt_50 rfl ?_
        refine J_callV0 (X' := fun _ _ => False) hS dX8_opensAt_51 mvX8_164 ob162 rfl (by first | decide | omega) (by decide) (Nat.le_of_ble_eq_true rfl) ⟨Nat.le_trans (by decide) hR.1, Nat.le_trans (by decide) hR.2⟩ (fun _ _ q => q.elim) (m_fineY h.2.1 ?_)
        refine J_if_eq (tgt := 67) hS dX8_opensAt_54 (by decide) (fun c5 => ?_) (fun c5 => ?_)
        · exact absurd c5 (by decide)
        ·
          refine J_aload_n hS dX8_opensAt_57 rfl ?_
          refine J_dup hS dX8_opensAt_58 rfl ?_
          refine J_getI hS dX8_opensAt_59 flX8_144 ob162 rfl ?_
          refine J_iload_n hS dX8_opensAt_62 rfl ?_
          refine J_iadd hS dX8_opensAt_63 ?_
          show J S 0 0 (g) 64 [some (.ref 162), some (.int 0), some (.int 3)] [.int _, .ref 162]
          rw [ep, n3, nI_add]
          refine J_putI hS dX8_opensAt_64 fpX8_144 ob162 rfl (fun g64 eg64 => ?_)
          refine J_aload_n hS dX8_opensAt_67 rfl ?_
          refine J_dup hS dX8_opensAt_68 rfl ?_
          refine J_getI hS dX8_opensAt_69 flX8_174 ob162 rfl ?_
          refine J_iconst (v := 1) hS dX8_opensAt_72 (by decide) ?_
          refine J_iadd hS dX8_opensAt_73 ?_
          show J S 0 0 (g64) 74 [some (.ref 162), some (.int 0), some (.int 3)] [.int _, .ref 162]
          rw [show g64 162 9 = nI (6 - (d' + 1)) by rw [eg64, u2_at, if_neg (by decide)]; exact e9, nI_1, show 6 - (d' + 1) + 1 = 6 - d' by omega]
          refine J_putI hS dX8_opensAt_74 fpX8_174 ob162 rfl (fun g74 eg74 => ?_)
          refine J_vret hS hZ hr dX8_opensAt_77 (by omega) (by omega) ?_
          have fr : FrH g g64 := by rw [eg64]; exact FrH_u
          refine q1 d' rfl g74 (POM.nil ?_ ((fr.p (k := k) (c := c)).trans (by rw [eg74]; exact FrP_u (by decide) (by decide)) (Nat.le_refl _)))
          rw [eg74]
          refine h.open1 fr (show s + 3 ≤ n by omega) (by rw [eg64, u2_self]) ?_ (nx_le (T := T) hsn).1
          unfold nx; rw [hE]
      · have hd0 : d = 0 := by
          have := (nI_eq (a := 6 - d) (b := 6) (by omega) (by decide)).mp c4
          omega
        refine J_aload_n hS dX8_opensAt_41 rfl ?_
        refine J_iconst (v := 3) hS dX8_opensAt_42 (by decide) ?_
        refine J_aload_n hS dX8_opensAt_43 rfl ?_
        refine J_getI hS dX8_opensAt_44 flX8_144 ob162 rfl ?_
        show J S 0 0 (g) 47 [some (.ref 162), some (.int 0), some (.int 3)] [.int _, .int 3, .ref 162]
        rw [ep]
        refine J_callV2 (X' := fun _ _ => False) hS dX8_opensAt_47 mvX8_160 ob162 rfl (by first | decide | omega) (by decide) (Nat.le_of_ble_eq_true rfl) ⟨Nat.le_trans (by decide) hR.1, Nat.le_trans (by decide) hR.2⟩ (fun _ _ q => q.elim) (m_wrongY h.2.1 ?_)
        have b := h.bad (e := 3)
        rw [show (nI 3 : Int32) = 3 from rfl] at b
        obtain ⟨g2, eg2⟩ : ∃ g2, g2 = u2 (u2 g 162 7 (nI s)) 162 8 3 := ⟨_, rfl⟩
        rw [← eg2] at b ⊢
        refine J_aload_n hS dX8_opensAt_50 rfl ?_
        refine J_callV0 (X' := fun _ _ => False) hS dX8_opensAt_51 mvX8_164 ob162 rfl (by first | decide | omega) (by decide) (Nat.le_of_ble_eq_true rfl) ⟨Nat.le_trans (by decide) hR.1, Nat.le_trans (by decide) hR.2⟩ (fun _ _ q => q.elim) (m_fineN b.bd ?_)
        refine J_if_eq (tgt := 67) hS dX8_opensAt_54 (by decide) (fun c5 => ?_) (fun c5 => ?_)
        ·
          refine J_aload_n hS dX8_opensAt_67 rfl ?_
          refine J_dup hS dX8_opensAt_68 rfl ?_
          refine J_getI hS dX8_opensAt_69 flX8_174 ob162 rfl ?_
          refine J_iconst (v := 1) hS dX8_opensAt_72 (by decide) ?_
          refine J_iadd hS dX8_opensAt_73 ?_
          refine J_putI hS dX8_opensAt_74 fpX8_174 ob162 rfl (fun g74 eg74 => ?_)
          refine J_vret hS hZ hr dX8_opensAt_77 (by omega) (by omega) ?_
          refine q0 hd0 g74 (b.o ?_)
          rw [eg74]; exact ⟨fun z hz => u2_ne z hz, fun j hj => by rw [u2_at, if_neg hj]⟩
        · exact absurd rfl c5
    · exact absurd rfl c2
  · exact absurd c1 (by decide)
set_option maxRecDepth 10000 in
set_option maxHeartbeats 4000000 in
theorem m_term {D d : Nat} {nb ne sm : Nat → Res} (hD : 3 ≤ D) (h1 : ∀ d', d = d' + 1 → CtM l E yX8_term D d' T n k nb) (h2 : ∀ d', d = d' + 1 → CtM l E yX8_anyOf D d' T n k ne) (h3 : CtM l E yX8_sum D d T n k sm) (g1' : ∀ s, s ≤ n → gd n true s (nb s)) (g2' : ∀ s, s ≤ n → gd n true s (ne s)) (g3' : ∀ s, s ≤ n → gd n false s (sm s)) : CtM l E yX8_term (D + 1) d T n k (bas T n nb ne sm d) := by
  intro g c s Q X hp q1 q0
  have hn3 := hp.1.2.1
  have hsn := hp.2.2.2.2.2.1
  have hcs := hp.2.2.2.2.1
  have hd6 := hp.2.2.1.1
  have gx := nx_le (T := T) hsn
  have v91 := isC_hv (T := T) (n := n) (s := s) (c := 91) (by decide) (by decide) (by decide)
  have w15 := wcI (T := T) (n := n) (s := s) (i := 15) (W := 14836) (by decide) rfl
  refine Ct_in k_yX8_term (by decide) rfl (Nat.le_of_ble_eq_true rfl) rfl ?_
  intro S hS hZ hr ht hR
  show J S 0 0 (g) 0 [some (.ref 162), none] []
  refine J_aload_n hS dX8_term_0 rfl ?_
  refine J_callV0 (X' := fun _ _ => False) hS dX8_term_1 mvX8_164 ob162 rfl (by first | decide | omega) (by decide) (Nat.le_of_ble_eq_true rfl) ⟨Nat.le_trans (by decide) hR.1, Nat.le_trans (by decide) hR.2⟩ (fun _ _ q => q.elim) (m_fineY hp.2.1 ?_)
  refine J_if_ne (tgt := 8) hS dX8_term_4 (by decide) (fun c0 => ?_) (fun c0 => ?_)
  ·
    refine J_aload_n hS dX8_term_8 rfl ?_
    refine J_callV0 (X' := fun _ _ => False) hS dX8_term_9 mvX8_150 ob162 rfl (by first | decide | omega) (by decide) (Nat.le_of_ble_eq_true rfl) ⟨Nat.le_trans (by decide) hR.1, Nat.le_trans (by decide) hR.2⟩ (fun _ _ q => q.elim) (m_here hp (fun g1 f1 e1 r1 => ?_))
    refine J_bipush (v := 91) hS dX8_term_12 (by decide) ?_
    have p1 : POM T n k g g1 c d [] s := POM.nil r1 f1.p
    refine J_icmp_ne (tgt := 37) hS dX8_term_14 (by decide) (fun c1 => ?_) (fun c1 => ?_)
    · have n91 : ¬ isC T n s 91 = true := fun z => c1 (v91.mp z)
      refine J_aload_n hS dX8_term_37 rfl ?_
      refine J_callV0 (X' := fun _ _ => False) hS dX8_term_38 mvX8_201 ob162 rfl (by first | decide | omega) (by decide) (Nat.le_of_ble_eq_true rfl) ⟨Nat.le_trans (by decide) hR.1, Nat.le_trans (by decide) hR.2⟩ (fun _ _ q => q.elim) (m_word r1 (fun g2 f2 e2 r2 => ?_))
      refine J_sipush (v := 14836) hS dX8_term_41 (by decide) ?_
      have p2 : POM T n k g g2 c d [] s := POM.nil r2 (f1.trans f2).p
      refine J_icmp_ne (tgt := 77) hS dX8_term_44 (by decide) (fun c2 => ?_) (fun c2 => ?_)
      · have n15 : ¬ isW T n s 15 = true := fun z => c2 (w15.mpr z)
        have eb : bas T n nb ne sm d s = cmp T n sm s := by unfold bas; rw [if_neg n15, if_neg n91]
        have emB : ∀ (g9 : Mm) (x : Int32) (e : Nat × Nat), bas T n nb ne sm d s = .inl e → PBM k g g9 c e → J S 0 0 g9 145 [some (.ref 162), some (.int x)] [] := by
          intro g9 x e he hb
          have fin : ∀ av : Int32, J S 0 0 g9 170 [some (.ref 162), some (.int x)] [.int av, .ref 162] := by
            intro av
            refine J_iconst (v := 0) hS dX8_term_170 (by decide) ?_
            refine J_callV2 (X' := fun _ _ => False) hS dX8_term_171 mvX8_189 ob162 rfl (by first | decide | omega) (by decide) (Nat.le_of_ble_eq_true rfl) ⟨Nat.le_trans (by decide) hR.1, Nat.le_trans (by decide) hR.2⟩ (fun _ _ q => q.elim) (m_emitN hb.bd ?_)
            refine J_vret hS hZ hr dX8_term_174 (by omega) (by omega) ?_
            exact q0 e g9 he hb
          refine J_aload_n hS dX8_term_145 rfl ?_
          refine J_iload_n hS dX8_term_146 rfl ?_
          refine J_bipush (v := 60) hS dX8_term_147 (by decide) ?_
          refine J_icmp_ne (tgt := 157) hS dX8_term_149 (by decide) (fun k1 => ?_) (fun k1 => ?_)
          ·
            refine J_iload_n hS dX8_term_157 rfl ?_
            refine J_bipush (v := 62) hS dX8_term_158 (by decide) ?_
            refine J_icmp_ne (tgt := 168) hS dX8_term_160 (by decide) (fun k2 => ?_) (fun k2 => ?_)
            ·
              refine J_bipush (v := 15) hS dX8_term_168 (by decide) ?_
              exact fin _
            ·
              refine J_bipush (v := 14) hS dX8_term_163 (by decide) ?_
              refine J_goto (tgt := 170) hS dX8_term_165 (by decide) ?_
              exact fin _
          ·
            refine J_bipush (v := 13) hS dX8_term_152 (by decide) ?_
            refine J_goto (tgt := 170) hS dX8_term_154 (by decide) ?_
            exact fin _
        have tailB : ∀ (g9 : Mm) (x : Int32) (e : Nat × Nat), bas T n nb ne sm d s = .inl e → PBM k g g9 c e → J S 0 0 g9 124 [some (.ref 162), some (.int x)] [] := by
          intro g9 x e he hb
          refine J_aload_n hS dX8_term_124 rfl ?_
          refine J_callV0 (X' := fun _ _ => False) hS dX8_term_125 mvX8_164 ob162 rfl (by first | decide | omega) (by decide) (Nat.le_of_ble_eq_true rfl) ⟨Nat.le_trans (by decide) hR.1, Nat.le_trans (by decide) hR.2⟩ (fun _ _ q => q.elim) (m_fineN hb.bd ?_)
          refine J_if_eq (tgt := 141) hS dX8_term_128 (by decide) (fun k1 => ?_) (fun k1 => ?_)
          ·
            refine J_aload_n hS dX8_term_141 rfl ?_
            refine J_callV0 (X' := fun _ _ => False) hS dX8_term_142 mvX8_195 ob162 rfl (by first | decide | omega) (by decide) (Nat.le_of_ble_eq_true rfl) ⟨Nat.le_trans (by decide) hR.1, Nat.le_trans (by decide) hR.2⟩ (fun _ _ q => q.elim) (m_sumN g9 _ _ hb.bd ?_)
            exact emB g9 x e he hb
          · exact absurd rfl k1
        refine J_aload_n hS dX8_term_77 rfl ?_
        refine J_callV0 (X' := fun _ _ => False) hS dX8_term_78 mvX8_195 ob162 rfl (by first | decide | omega) (by decide) (Nat.le_of_ble_eq_true rfl) ⟨Nat.le_trans (by decide) hR.1, Nat.le_trans (by decide) hR.2⟩ (fun _ _ q => q.elim) (h3 g2 c s _ _ r2 (fun L s1 g3 y1 y2 => ?_) (fun e g3 y1 y2 => ?_))
        · have d3 := g3' s hsn L s1 y1
          have p3 : POM T n k g g3 c d L s1 := p2.trans y2
          have r3 := p3.r
          have v60 := isC_hv (T := T) (n := n) (s := s1) (c := 60) (by decide) (by decide) (by decide)
          have v62 := isC_hv (T := T) (n := n) (s := s1) (c := 62) (by decide) (by decide) (by decide)
          have v61 := isC_hv (T := T) (n := n) (s := s1) (c := 61) (by decide) (by decide) (by decide)
          refine J_aload_n hS dX8_term_81 rfl ?_
          refine J_callV0 (X' := fun _ _ => False) hS dX8_term_82 mvX8_164 ob162 rfl (by first | decide | omega) (by decide) (Nat.le_of_ble_eq_true rfl) ⟨Nat.le_trans (by decide) hR.1, Nat.le_trans (by decide) hR.2⟩ (fun _ _ q => q.elim) (m_fineY r3.2.1 ?_)
          refine J_if_eq (tgt := 95) hS dX8_term_85 (by decide) (fun c3 => ?_) (fun c3 => ?_)
          · exact absurd c3 (by decide)
          ·
            refine J_aload_n hS dX8_term_88 rfl ?_
            refine J_callV0 (X' := fun _ _ => False) hS dX8_term_89 mvX8_150 ob162 rfl (by first | decide | omega) (by decide) (Nat.le_of_ble_eq_true rfl) ⟨Nat.le_trans (by decide) hR.1, Nat.le_trans (by decide) hR.2⟩ (fun _ _ q => q.elim) (m_here r3 (fun g4 f4 e4 r4 => ?_))
            refine J_goto (tgt := 96) hS dX8_term_92 (by decide) ?_
            refine J_istore_n (lt := fun x1 => [some (.ref 162), some (.int x1)]) hS dX8_term_96 (Nat.le_of_ble_eq_true rfl) (fun _ => rfl) (fun x1 ex1 => ?_)
            rw [show x1 = hv T n s1 from ex1]
            have p4 : POM T n k g g4 c d L s1 := p3.nilR (POM.nil r4 f4.p)
            have good : ∀ (b : Int32) (a : Nat), hv T n s1 = b → isC T n s1 b = true → cmN T n s1 = some a → ((b = 60 ∧ a = 13) ∨ (b = 62 ∧ a = 14) ∨ (b = 61 ∧ a = 15)) → J S 0 0 g4 124 [some (.ref 162), some (.int (hv T n s1))] [] := by
              intro b a hb hx hcm hab
              have gx1 := nx_le (T := T) d3.2.1
              have glt1 := gx1.2.2 (isC_lt hx)
              refine J_aload_n hS dX8_term_124 rfl ?_
              refine J_callV0 (X' := fun _ _ => False) hS dX8_term_125 mvX8_164 ob162 rfl (by first | decide | omega) (by decide) (Nat.le_of_ble_eq_true rfl) ⟨Nat.le_trans (by decide) hR.1, Nat.le_trans (by decide) hR.2⟩ (fun _ _ q => q.elim) (m_fineY r4.2.1 ?_)
              refine J_if_eq (tgt := 141) hS dX8_term_128 (by decide) (fun k1 => ?_) (fun k1 => ?_)
              · exact absurd k1 (by decide)
              ·
                refine J_aload_n hS dX8_term_131 rfl ?_
                refine J_dup hS dX8_term_132 rfl ?_
                refine J_getI hS dX8_term_133 flX8_144 ob162 rfl ?_
                refine J_iconst (v := 1) hS dX8_term_136 (by decide) ?_
                refine J_iadd hS dX8_term_137 ?_
                show J S 0 0 (g4) 138 [some (.ref 162), some (.int (hv T n s1))] [.int _, .ref 162]
                rw [e4, nI_1]
                refine J_putI hS dX8_term_138 fpX8_144 ob162 rfl (fun g138 eg138 => ?_)
                have r5 : RdM T n k g138 (c + L.length) d (nx T n s1) := r4.pass1 hx (by rw [eg138]; exact FrH_u) (by rw [eg138, u2_self])
                have p5 : POM T n k g g138 c d L (nx T n s1) := p4.nilR (POM.nil r5 (FrH.p (by rw [eg138]; exact FrH_u)))
                refine J_aload_n hS dX8_term_141 rfl ?_
                refine J_callV0 (X' := fun _ _ => False) hS dX8_term_142 mvX8_195 ob162 rfl (by first | decide | omega) (by decide) (Nat.le_of_ble_eq_true rfl) ⟨Nat.le_trans (by decide) hR.1, Nat.le_trans (by decide) hR.2⟩ (fun _ _ q => q.elim) (h3 g138 (c + L.length) (nx T n s1) _ _ r5 (fun L2 s2 g6 y3 y4 => ?_) (fun e g6 y3 y4 => ?_))
                · have d6 := g3' (nx T n s1) gx1.2.1 L2 s2 y3
                  have p6 := p5.trans y4
                  have fin : ∀ av : Int32, av = nI a → J S 0 0 g6 170 [some (.ref 162), some (.int (hv T n s1))] [.int av, .ref 162] := by
                    intro av hav
                    refine J_iconst (v := 0) hS dX8_term_170 (by decide) ?_
                    refine J_callV2 (X' := fun _ _ => False) hS dX8_term_171 mvX8_189 ob162 rfl (by first | decide | omega) (by decide) (Nat.le_of_ble_eq_true rfl) ⟨Nat.le_trans (by decide) hR.1, Nat.le_trans (by decide) hR.2⟩ (fun _ _ q => q.elim) (m_emit (t := (a, 0)) p6 hav rfl (by simp only [List.length_append]; omega) (fun g7 p7 _ => ?_))
                    refine J_vret hS hZ hr dX8_term_174 (by omega) (by omega) ?_
                    refine q1 _ _ g7 ?_ p7
                    rw [eb]; unfold cmp
                    rw [rb_ok y1, hcm]
                    show rb (sm (nx T n s1)) _ = _
                    rw [rb_ok y3]
                  refine J_aload_n hS dX8_term_145 rfl ?_
                  refine J_iload_n hS dX8_term_146 rfl ?_
                  refine J_bipush (v := 60) hS dX8_term_147 (by decide) ?_
                  refine J_icmp_ne (tgt := 157) hS dX8_term_149 (by decide) (fun k2 => ?_) (fun k2 => ?_)
                  · have nb60 : ¬ b = 60 := fun z => k2 (by rw [hb]; exact z)
                    refine J_iload_n hS dX8_term_157 rfl ?_
                    refine J_bipush (v := 62) hS dX8_term_158 (by decide) ?_
                    refine J_icmp_ne (tgt := 168) hS dX8_term_160 (by decide) (fun k3 => ?_) (fun k3 => ?_)
                    · have nb62 : ¬ b = 62 := fun z => k3 (by rw [hb]; exact z)
                      refine J_bipush (v := 15) hS dX8_term_168 (by decide) ?_
                      exact fin _ (by rw [((hab.resolve_left (fun z => nb60 z.1)).resolve_left (fun z => nb62 z.1)).2]; rfl)
                    ·
                      refine J_bipush (v := 14) hS dX8_term_163 (by decide) ?_
                      refine J_goto (tgt := 170) hS dX8_term_165 (by decide) ?_
                      refine fin _ ?_
                      rcases hab with ⟨z, _⟩ | ⟨_, z⟩ | ⟨z, _⟩
                      · exact absurd z nb60
                      · rw [z]; rfl
                      · rw [hb, z] at k3; exact absurd k3 (by decide)
                  ·
                    refine J_bipush (v := 13) hS dX8_term_152 (by decide) ?_
                    refine J_goto (tgt := 170) hS dX8_term_154 (by decide) ?_
                    refine fin _ ?_
                    rcases hab with ⟨_, z⟩ | ⟨z, _⟩ | ⟨z, _⟩
                    · rw [z]; rfl
                    · rw [hb, z] at k2; exact absurd k2 (by decide)
                    · rw [hb, z] at k2; exact absurd k2 (by decide)
                · refine emB g6 _ e ?_ (p5.bad y4)
                  rw [eb]; unfold cmp
                  rw [rb_ok y1, hcm]
                  show rb (sm (nx T n s1)) _ = _
                  rw [rb_bad y3]
            refine J_iload_n hS dX8_term_97 rfl ?_
            refine J_bipush (v := 60) hS dX8_term_98 (by decide) ?_
            refine J_icmp_eq (tgt := 124) hS dX8_term_100 (by decide) (fun c4 => ?_) (fun c4 => ?_)
            · have hx := v60.mpr c4
              exact good 60 13 c4 hx (by unfold cmN; rw [if_pos hx]) (Or.inl ⟨rfl, rfl⟩)
            · have n60 : ¬ isC T n s1 60 = true := fun z => c4 (v60.mp z)
              refine J_iload_n hS dX8_term_103 rfl ?_
              refine J_bipush (v := 62) hS dX8_term_104 (by decide) ?_
              refine J_icmp_eq (tgt := 124) hS dX8_term_106 (by decide) (fun c5 => ?_) (fun c5 => ?_)
              · have hx := v62.mpr c5
                exact good 62 14 c5 hx (by unfold cmN; rw [if_neg n60, if_pos hx]) (Or.inr (Or.inl ⟨rfl, rfl⟩))
              · have n62 : ¬ isC T n s1 62 = true := fun z => c5 (v62.mp z)
                refine J_iload_n hS dX8_term_109 rfl ?_
                refine J_bipush (v := 61) hS dX8_term_110 (by decide) ?_
                refine J_icmp_eq (tgt := 124) hS dX8_term_112 (by decide) (fun c6 => ?_) (fun c6 => ?_)
                · have hx := v61.mpr c6
                  exact good 61 15 c6 hx (by unfold cmN; rw [if_neg n60, if_neg n62, if_pos hx]) (Or.inr (Or.inr ⟨rfl, rfl⟩))
                · have n61 : ¬ isC T n s1 61 = true := fun z => c6 (v61.mp z)
                  refine J_aload_n hS dX8_term_115 rfl ?_
                  refine J_iconst (v := 1) hS dX8_term_116 (by decide) ?_
                  refine J_aload_n hS dX8_term_117 rfl ?_
                  refine J_getI hS dX8_term_118 flX8_144 ob162 rfl ?_
                  show J S 0 0 (g4) 121 [some (.ref 162), some (.int (hv T n s1))] [.int _, .int 1, .ref 162]
                  rw [e4]
                  refine J_callV2 (X' := fun _ _ => False) hS dX8_term_121 mvX8_160 ob162 rfl (by first | decide | omega) (by decide) (Nat.le_of_ble_eq_true rfl) ⟨Nat.le_trans (by decide) hR.1, Nat.le_trans (by decide) hR.2⟩ (fun _ _ q => q.elim) (m_wrongY r4.2.1 ?_)
                  refine tailB _ _ (1, s1) ?_ (p4.bad (r4.bad (e := 1)))
                  rw [eb]; unfold cmp
                  rw [rb_ok y1]
                  unfold cmN
                  rw [if_neg n60, if_neg n62, if_neg n61]
        · have b3 := p2.bad y2
          have he : bas T n nb ne sm d s = .inl e := by rw [eb]; unfold cmp; rw [rb_bad y1]
          refine J_aload_n hS dX8_term_81 rfl ?_
          refine J_callV0 (X' := fun _ _ => False) hS dX8_term_82 mvX8_164 ob162 rfl (by first | decide | omega) (by decide) (Nat.le_of_ble_eq_true rfl) ⟨Nat.le_trans (by decide) hR.1, Nat.le_trans (by decide) hR.2⟩ (fun _ _ q => q.elim) (m_fineN b3.bd ?_)
          refine J_if_eq (tgt := 95) hS dX8_term_85 (by decide) (fun c3 => ?_) (fun c3 => ?_)
          ·
            refine J_iconst (v := 0) hS dX8_term_95 (by decide) ?_
            refine J_istore_n (lt := fun x1 => [some (.ref 162), some (.int x1)]) hS dX8_term_96 (Nat.le_of_ble_eq_true rfl) (fun _ => rfl) (fun x1 ex1 => ?_)
            refine J_iload_n hS dX8_term_97 rfl ?_
            refine J_bipush (v := 60) hS dX8_term_98 (by decide) ?_
            refine J_icmp_eq (tgt := 124) hS dX8_term_100 (by decide) (fun c4 => ?_) (fun c4 => ?_)
            · rw [show x1 = 0 from ex1] at c4; exact absurd c4 (by decide)
            ·
              refine J_iload_n hS dX8_term_103 rfl ?_
              refine J_bipush (v := 62) hS dX8_term_104 (by decide) ?_
              refine J_icmp_eq (tgt := 124) hS dX8_term_106 (by decide) (fun c5 => ?_) (fun c5 => ?_)
              · rw [show x1 = 0 from ex1] at c5; exact absurd c5 (by decide)
              ·
                refine J_iload_n hS dX8_term_109 rfl ?_
                refine J_bipush (v := 61) hS dX8_term_110 (by decide) ?_
                refine J_icmp_eq (tgt := 124) hS dX8_term_112 (by decide) (fun c6 => ?_) (fun c6 => ?_)
                · rw [show x1 = 0 from ex1] at c6; exact absurd c6 (by decide)
                ·
                  refine J_aload_n hS dX8_term_115 rfl ?_
                  refine J_iconst (v := 1) hS dX8_term_116 (by decide) ?_
                  refine J_aload_n hS dX8_term_117 rfl ?_
                  refine J_getI hS dX8_term_118 flX8_144 ob162 rfl ?_
                  refine J_callV2 (X' := fun _ _ => False) hS dX8_term_121 mvX8_160 ob162 rfl (by first | decide | omega) (by decide) (Nat.le_of_ble_eq_true rfl) ⟨Nat.le_trans (by decide) hR.1, Nat.le_trans (by decide) hR.2⟩ (fun _ _ q => q.elim) (m_wrongN b3.bd ?_)
                  exact tailB g3 _ e he b3
          · exact absurd rfl c3
      · have h15 := w15.mp c2
        have eb : bas T n nb ne sm d s = ngt T n nb d s := by unfold bas; rw [if_pos h15]
        have glt := gx.2.2 (isW_lt h15)
        have tailB : ∀ (g9 : Mm) (e : Nat × Nat), bas T n nb ne sm d s = .inl e → PBM k g g9 c e → J S 0 0 g9 57 [some (.ref 162), none] [] := by
          intro g9 e he hb
          refine J_aload_n hS dX8_term_57 rfl ?_
          refine J_dup hS dX8_term_58 rfl ?_
          refine J_getI hS dX8_term_59 flX8_174 ob162 rfl ?_
          refine J_iconst (v := 1) hS dX8_term_62 (by decide) ?_
          refine J_isub hS dX8_term_63 ?_
          refine J_putI hS dX8_term_64 fpX8_174 ob162 rfl (fun g64 eg64 => ?_)
          have b2 : PBM k g g64 c e := hb.o (by rw [eg64]; exact ⟨fun z hz => u2_ne z hz, fun j hj => by rw [u2_at, if_neg hj]⟩)
          refine J_aload_n hS dX8_term_67 rfl ?_
          refine J_bipush (v := 18) hS dX8_term_68 (by decide) ?_
          refine J_iconst (v := 0) hS dX8_term_70 (by decide) ?_
          refine J_callV2 (X' := fun _ _ => False) hS dX8_term_71 mvX8_189 ob162 rfl (by first | decide | omega) (by decide) (Nat.le_of_ble_eq_true rfl) ⟨Nat.le_trans (by decide) hR.1, Nat.le_trans (by decide) hR.2⟩ (fun _ _ q => q.elim) (m_emitN b2.bd ?_)
          refine J_goto (tgt := 174) hS dX8_term_74 (by decide) ?_
          refine J_vret hS hZ hr dX8_term_174 (by omega) (by omega) ?_
          exact q0 e g64 he b2
        refine J_aload_n hS dX8_term_47 rfl ?_
        refine J_iconst (v := 0) hS dX8_term_48 (by decide) ?_
        refine J_iconst (v := 3) hS dX8_term_49 (by decide) ?_
        refine J_callV2 (X' := fun _ _ => False) hS dX8_term_50 mvX8_192 ob162 rfl (by first | decide | omega) (by decide) (Nat.le_of_ble_eq_true rfl) ⟨Nat.le_trans (by decide) hR.1, Nat.le_trans (by decide) hR.2⟩ (fun _ _ q => q.elim) (m_opens0 r2 e2 h15 (fun d' ed g3 o1 => ?_) (fun ed g3 o1 => ?_))
        · have p3 : POM T n k g g3 c d' [] (nx T n s) := POM.nilR p2 o1
          have h1' := h1 d' ed
          refine J_aload_n hS dX8_term_53 rfl ?_
          refine J_callV0 (X' := fun _ _ => False) hS dX8_term_54 mvX8_221 ob162 rfl (by first | decide | omega) (by decide) (Nat.le_of_ble_eq_true rfl) ⟨Nat.le_trans (by decide) hR.1, Nat.le_trans (by decide) hR.2⟩ (fun _ _ q => q.elim) (h1' g3 c (nx T n s) _ _ p3.r (fun L s1 g4 y1 y2 => ?_) (fun e g4 y1 y2 => ?_))
          · have d4 := g1' (nx T n s) gx.2.1 L s1 y1
            have p4 : POM T n k g g4 c d' L s1 := p3.trans y2
            have p5 := p4.close (show d' < 6 by omega)
            refine J_aload_n hS dX8_term_57 rfl ?_
            refine J_dup hS dX8_term_58 rfl ?_
            refine J_getI hS dX8_term_59 flX8_174 ob162 rfl ?_
            refine J_iconst (v := 1) hS dX8_term_62 (by decide) ?_
            refine J_isub hS dX8_term_63 ?_
            show J S 0 0 (g4) 64 [some (.ref 162), none] [.int _, .ref 162]
            rw [p4.r.2.2.1.2, six_dec (show d' < 6 by omega)]
            refine J_putI hS dX8_term_64 fpX8_174 ob162 rfl (fun g64 eg64 => ?_)
            rw [← eg64, ← ed] at p5
            refine J_aload_n hS dX8_term_67 rfl ?_
            refine J_bipush (v := 18) hS dX8_term_68 (by decide) ?_
            refine J_iconst (v := 0) hS dX8_term_70 (by decide) ?_
            refine J_callV2 (X' := fun _ _ => False) hS dX8_term_71 mvX8_189 ob162 rfl (by first | decide | omega) (by decide) (Nat.le_of_ble_eq_true rfl) ⟨Nat.le_trans (by decide) hR.1, Nat.le_trans (by decide) hR.2⟩ (fun _ _ q => q.elim) (m_emit (t := (18, 0)) p5 rfl rfl (by omega) (fun g7 p7 _ => ?_))
            refine J_goto (tgt := 174) hS dX8_term_74 (by decide) ?_
            refine J_vret hS hZ hr dX8_term_174 (by omega) (by omega) ?_
            refine q1 _ _ g7 ?_ p7
            rw [eb]; unfold ngt
            rw [if_neg (by omega), rb_ok y1]
          · refine tailB g4 e ?_ (p3.bad y2)
            rw [eb]; unfold ngt
            rw [if_neg (by omega), rb_bad y1]
        · have b3 := p2.bad o1
          refine J_aload_n hS dX8_term_53 rfl ?_
          refine J_callV0 (X' := fun _ _ => False) hS dX8_term_54 mvX8_221 ob162 rfl (by first | decide | omega) (by decide) (Nat.le_of_ble_eq_true rfl) ⟨Nat.le_trans (by decide) hR.1, Nat.le_trans (by decide) hR.2⟩ (fun _ _ q => q.elim) (m_termN g3 _ _ b3.bd ?_)
          refine tailB g3 _ ?_ b3
          rw [eb]; unfold ngt
          rw [if_pos ed]
    · have h91 := v91.mpr c1
      have n15 : ¬ isW T n s 15 = true := fun z => by
        have a := (isW_iff.mp z).1
        have b := (of_decide_eq_true h91).1
        rw [a] at b; cases b
      have eb : bas T n nb ne sm d s = rb (psO T n 91 d s) (fun _ s1 => rb (ne s1) (fun L s2 => rb (psC T n 93 s2) (fun _ s3 => .inr (L, s3)))) := by unfold bas; rw [if_neg n15, if_pos h91]
      refine J_aload_n hS dX8_term_17 rfl ?_
      refine J_bipush (v := 91) hS dX8_term_18 (by decide) ?_
      refine J_iconst (v := 1) hS dX8_term_20 (by decide) ?_
      refine J_callV2 (X' := fun _ _ => False) hS dX8_term_21 mvX8_192 ob162 rfl (by first | decide | omega) (by decide) (Nat.le_of_ble_eq_true rfl) ⟨Nat.le_trans (by decide) hR.1, Nat.le_trans (by decide) hR.2⟩ (fun _ _ q => q.elim) (m_opens r1 (by decide) (by decide) (by decide) (fun d' ed g4 o1 o2 => ?_) (fun e g4 o1 o2 => ?_))
      · have hs4 := psO_inr hsn o1
        have h2' := h2 d' ed
        have p4 : POM T n k g g4 c d' [] (nx T n s) := POM.nilR p1 o2
        refine J_aload_n hS dX8_term_24 rfl ?_
        refine J_callV0 (X' := fun _ _ => False) hS dX8_term_25 mvX8_224 ob162 rfl (by first | decide | omega) (by decide) (Nat.le_of_ble_eq_true rfl) ⟨Nat.le_trans (by decide) hR.1, Nat.le_trans (by decide) hR.2⟩ (fun _ _ q => q.elim) (h2' g4 c (nx T n s) _ _ p4.r (fun L s5 g5 y1 y2 => ?_) (fun e g5 y1 y2 => ?_))
        · have z5 := g2' (nx T n s) hs4.2.2.2.1 L s5 y1
          have p5 : POM T n k g g5 c d' L s5 := p4.trans y2
          refine J_aload_n hS dX8_term_28 rfl ?_
          refine J_bipush (v := 93) hS dX8_term_29 (by decide) ?_
          refine J_callV1 (X' := fun _ _ => False) hS dX8_term_31 mvX8_198 ob162 rfl (by first | decide | omega) (by decide) (Nat.le_of_ble_eq_true rfl) ⟨Nat.le_trans (by decide) hR.1, Nat.le_trans (by decide) hR.2⟩ (fun _ _ q => q.elim) (m_closes p5.r (by omega) (by decide) (by decide) (by decide) (fun g8 y7 y8 => ?_) (fun g8 y7 y8 => ?_))
          · have p8 := p5.nilR y8
            rw [← ed] at p8
            refine J_goto (tgt := 174) hS dX8_term_34 (by decide) ?_
            refine J_vret hS hZ hr dX8_term_174 (by omega) (by omega) ?_
            exact q1 L _ g8 (by rw [eb, rb_ok o1, rb_ok y1, rb_ok y7]) p8
          ·
            refine J_goto (tgt := 174) hS dX8_term_34 (by decide) ?_
            refine J_vret hS hZ hr dX8_term_174 (by omega) (by omega) ?_
            exact q0 _ g8 (by rw [eb, rb_ok o1, rb_ok y1, rb_bad y7]) (p5.bad y8)
        · have b5 := p4.bad y2
          refine J_aload_n hS dX8_term_28 rfl ?_
          refine J_bipush (v := 93) hS dX8_term_29 (by decide) ?_
          refine J_callV1 (X' := fun _ _ => False) hS dX8_term_31 mvX8_198 ob162 rfl (by first | decide | omega) (by decide) (Nat.le_of_ble_eq_true rfl) ⟨Nat.le_trans (by decide) hR.1, Nat.le_trans (by decide) hR.2⟩ (fun _ _ q => q.elim) (m_closesN b5.bd (fun ga oa => ?_))
          refine J_goto (tgt := 174) hS dX8_term_34 (by decide) ?_
          refine J_vret hS hZ hr dX8_term_174 (by omega) (by omega) ?_
          exact q0 e ga (by rw [eb, rb_ok o1, rb_bad y1]) (b5.o oa)
      · have b4 := p1.bad o2
        refine J_aload_n hS dX8_term_24 rfl ?_
        refine J_callV0 (X' := fun _ _ => False) hS dX8_term_25 mvX8_224 ob162 rfl (by first | decide | omega) (by decide) (Nat.le_of_ble_eq_true rfl) ⟨Nat.le_trans (by decide) hR.1, Nat.le_trans (by decide) hR.2⟩ (fun _ _ q => q.elim) (m_anyOfN g4 _ _ b4.bd ?_)
        refine J_aload_n hS dX8_term_28 rfl ?_
        refine J_bipush (v := 93) hS dX8_term_29 (by decide) ?_
        refine J_callV1 (X' := fun _ _ => False) hS dX8_term_31 mvX8_198 ob162 rfl (by first | decide | omega) (by decide) (Nat.le_of_ble_eq_true rfl) ⟨Nat.le_trans (by decide) hR.1, Nat.le_trans (by decide) hR.2⟩ (fun _ _ q => q.elim) (m_closesN b4.bd (fun ga oa => ?_))
        refine J_goto (tgt := 174) hS dX8_term_34 (by decide) ?_
        refine J_vret hS hZ hr dX8_term_174 (by omega) (by omega) ?_
        exact q0 e ga (by rw [eb, rb_bad o1]) (b4.o oa)
  · exact absurd c0 (by decide)
theorem m_basD : ∀ (d D : Nat), 30 + 4 * d ≤ D → CtM l E yX8_term D d T n k (basD T n d)
  | 0, D, hD => by
    obtain ⟨j, ej⟩ : ∃ j, D = j + 1 := ⟨D - 1, by omega⟩
    subst ej
    exact m_term (by omega) (fun d' z => absurd z (by omega)) (fun d' z => absurd z (by omega)) (m_sumD 0 j (by omega)) (fun s _ L s' e => by cases e) (fun s _ L s' e => by cases e) (fun s hs => gd_sumD 0 s hs)
  | d + 1, D, hD => by
    obtain ⟨j, ej⟩ : ∃ j, D = j + 1 + 1 + 1 := ⟨D - 3, by omega⟩
    subst ej
    refine m_term (by omega) (fun d' z => ?_) (fun d' z => ?_) (m_sumD (d + 1) _ (by omega)) (fun s hs => gd_basD d s hs) (fun s hs => gd_eit (fun s hs => gd_basD d s hs) hs) (fun s hs => gd_sumD (d + 1) s hs)
    · rw [show d' = d by omega]; exact m_basD d _ (by omega)
    · rw [show d' = d by omega]
      exact m_anyOf (by omega) (m_allOf (by omega) (m_basD d _ (by omega)) (fun s hs => gd_basD d s hs)) (fun s hs => gd_chn (fun _ _ z => lkA_ok z) (fun s hs => gd_basD d s hs) hs)
theorem m_eitD : CtM l E yX8_anyOf 60 6 T n k (eit T n (basD T n 6)) :=
  m_anyOf (by omega) (m_allOf (by omega) (m_basD 6 58 (by omega)) (fun s hs => gd_basD 6 s hs)) (fun s hs => gd_chn (fun _ _ z => lkA_ok z) (fun s hs => gd_basD 6 s hs) hs)
end RdT


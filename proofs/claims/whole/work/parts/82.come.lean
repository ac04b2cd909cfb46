/-! THE REFERENCE: a child comes -/
/-- the words of a child that comes -/
def cmB (w : Wr) (n : Nat) (y a : Int32) (t : Bool) (r : Nat) : Int32 :=
  if r = 0 then y else if r = 1 then a else if r = 2 then w 2 else if r = 3 then 1 else if r = 4 then kindA a t else if 8 ≤ r ∧ r < 136 ∧ (r - 8) % 16 = fwT t n ((r - 8) / 16) then (if t then 500 else 10) else if r = 136 ∧ t = true then 500 else 0
def comW (w : Wr) (n : Nat) (y a : Int32) (t : Bool) : Wr := fun i => if 56 + 142 * n ≤ i ∧ i < 56 + 142 * n + 142 then cmB w n y a t (i - (56 + 142 * n)) else if i = 6 then nI (n + 1) else w i
section RefC
variable {l : Launch} {E : Ey} {g : Mm} {Q : Option Value → Mm → Prop} {X : String → Mm → Prop} {w : Wr} {n : Nat}
theorem u2_at {g : Mm} {a k j : Nat} {v : Int32} : u2 g a k v a j = if j = k then v else g a j := by
  unfold u2; by_cases c : j = k
  · rw [if_pos ⟨rfl, c⟩, if_pos c]
  · rw [if_neg (fun z => c z.2), if_neg c]
set_option maxRecDepth 10000 in
set_option maxHeartbeats 4000000 in
theorem m_come {y a tc : Int32} {t : Bool} (hI : RI g w n) (htc : t = true ↔ tc ≠ 0) (x : ou 3 y ∨ ou 21 a → ∀ g', FrZ g g' → g' 162 0 = 1 → Q (some (.int 0)) g') (q24 : ¬ ou 3 y → ¬ ou 21 a → n = 24 → ∀ g', FrZ g g' → g' 162 0 = 0 → Q (some (.int (-1))) g') (q : ¬ ou 3 y → ¬ ou 21 a → n < 24 → ∀ g', FrRm g g' → (∀ i, i < 3464 → g' 164 i = comW w n y a t i) → Q (some (.int (nI n))) g') : Ct l E lay NC 2 0 0 yX8_come [.ref 162, .int y, .int a, .int tc] g Q X := by
  have hn := hI.hn
  refine Ct_in k_yX8_come (by decide) rfl (Nat.le_of_ble_eq_true rfl) rfl ?_
  intro S hS hZ hr ht hR
  show J S 0 0 (g) 0 [some (.ref 162), some (.int y), some (.int a), some (.int tc), none, none, none] []
  refine J_aload_n hS dX8_come_0 rfl ?_
  refine J_iconst (v := 0) hS dX8_come_1 (by decide) ?_
  refine J_putI hS dX8_come_2 fpX8_1 ob162 rfl (fun g2 eg2 => ?_)
  have z2 : FrZ g g2 := by rw [eg2]; exact FrZ_thr
  have t2 : g2 162 0 = 0 := by rw [eg2, u2_self]
  have i2 := hI.fr z2
  have bad : ou 3 y ∨ ou 21 a → J S 0 0 g2 27 [some (.ref 162), some (.int y), some (.int a), some (.int tc), none, none, none] [.ref 162] := by
    intro b1
    refine J_iconst (v := 0) hS dX8_come_27 (by decide) ?_
    refine J_iconst (v := 1) hS dX8_come_28 (by decide) ?_
    refine J_callV2 (X' := fun _ _ => False) hS dX8_come_29 mvX8_110 ob162 rfl (by first | decide | omega) (by decide) (Nat.le_of_ble_eq_true rfl) ⟨Nat.le_trans (by decide) hR.1, Nat.le_trans (by decide) hR.2⟩ (fun _ _ q => q.elim) (m_mayN t2 (by decide) ?_)
    refine J_if_ne (tgt := 37) hS dX8_come_32 (by decide) (fun c2 => ?_) (fun c2 => ?_)
    · exact absurd rfl c2
    ·
      refine J_iconst (v := 0) hS dX8_come_35 (by decide) ?_
      refine J_iret hS hZ hr dX8_come_36 (by omega) (by omega) ?_
      exact x b1 _ (z2.trans FrZ_thr) (u2_self ..)
  by_cases hy : ou 3 y
  ·
    refine J_aload_n hS dX8_come_5 rfl ?_
    refine J_iload_n hS dX8_come_6 rfl ?_
    refine J_callS1 (X' := fun _ _ => False) hS dX8_come_7 msX8_117 rfl (by first | decide | omega) (by decide) (Nat.le_of_ble_eq_true rfl) ⟨Nat.le_trans (by decide) hR.1, Nat.le_trans (by decide) hR.2⟩ (fun _ _ q => q.elim) (m_yardN hy ?_)
    refine J_if_eq (tgt := 27) hS dX8_come_10 (by decide) (fun c1 => ?_) (fun c1 => ?_)
    · exact bad (Or.inl hy)
    · exact absurd rfl c1
  ·
    refine J_aload_n hS dX8_come_5 rfl ?_
    refine J_iload_n hS dX8_come_6 rfl ?_
    refine J_callS1 (X' := fun _ _ => False) hS dX8_come_7 msX8_117 rfl (by first | decide | omega) (by decide) (Nat.le_of_ble_eq_true rfl) ⟨Nat.le_trans (by decide) hR.1, Nat.le_trans (by decide) hR.2⟩ (fun _ _ q => q.elim) (m_yardY' hy ?_)
    refine J_if_eq (tgt := 27) hS dX8_come_10 (by decide) (fun c1 => ?_) (fun c1 => ?_)
    · exact absurd c1 (by decide)
    · by_cases ha : ou 21 a
      ·
        refine J_iload_n hS dX8_come_13 rfl ?_
        refine J_iconst (v := 0) hS dX8_come_14 (by decide) ?_
        refine J_bipush (v := 20) hS dX8_come_15 (by decide) ?_
        refine J_callS3 (X' := fun _ _ => False) hS dX8_come_17 msX8_106 rfl (by first | decide | omega) (by decide) (Nat.le_of_ble_eq_true rfl) ⟨Nat.le_trans (by decide) hR.1, Nat.le_trans (by decide) hR.2⟩ (fun _ _ q => q.elim) (m_ouN (m := 21) (by decide) (by decide) ha ?_)
        refine J_if_eq (tgt := 27) hS dX8_come_20 (by decide) (fun c2 => ?_) (fun c2 => ?_)
        · exact bad (Or.inr ha)
        · exact absurd rfl c2
      ·
        refine J_iload_n hS dX8_come_13 rfl ?_
        refine J_iconst (v := 0) hS dX8_come_14 (by decide) ?_
        refine J_bipush (v := 20) hS dX8_come_15 (by decide) ?_
        refine J_callS3 (X' := fun _ _ => False) hS dX8_come_17 msX8_106 rfl (by first | decide | omega) (by decide) (Nat.le_of_ble_eq_true rfl) ⟨Nat.le_trans (by decide) hR.1, Nat.le_trans (by decide) hR.2⟩ (fun _ _ q => q.elim) (m_winY ((ou_w (n := 21) (by decide) (by decide)).mpr ha) ?_)
        refine J_if_eq (tgt := 27) hS dX8_come_20 (by decide) (fun c2 => ?_) (fun c2 => ?_)
        · exact absurd c2 (by decide)
        ·
          refine J_iconst (v := 1) hS dX8_come_23 (by decide) ?_
          refine J_goto (tgt := 28) hS dX8_come_24 (by decide) ?_
          refine J_iconst (v := 1) hS dX8_come_28 (by decide) ?_
          refine J_callV2 (X' := fun _ _ => False) hS dX8_come_29 mvX8_110 ob162 rfl (by first | decide | omega) (by decide) (Nat.le_of_ble_eq_true rfl) ⟨Nat.le_trans (by decide) hR.1, Nat.le_trans (by decide) hR.2⟩ (fun _ _ q => q.elim) (m_mayY t2 (by decide) ?_)
          refine J_if_ne (tgt := 37) hS dX8_come_32 (by decide) (fun c3 => ?_) (fun c3 => ?_)
          ·
            refine J_aload_n hS dX8_come_37 rfl ?_
            refine J_getR (t := 164) hS dX8_come_38 flX8_13 ob162 rfl ?_
            refine J_bipush (v := 6) hS dX8_come_41 (by decide) ?_
            refine J_ialdN hS (6) dX8_come_43 (show Ar lay NC .int 164 3464 from arM 1 3464 (by decide) (by decide) rfl) (by first | rfl | (simp only [n0, n1, n2, n3, n4, n5, n6, n7, n8, n9, n10, n11, n12, n13, n14, n15, n16, n17, n18, n19, n20, n24, n32, n56, n60, n64, n72, n99, n100, n128, n136, n142, n144, n200, n300, n999, n1000, n1500, n3464, nI_add, pk_mul] <;> first | rfl | (congr 1; omega))) (by decide) (by decide) ?_
            show J S 0 0 (g2) 44 [some (.ref 162), some (.int y), some (.int a), some (.int tc), none, none, none] [.int _]
            rw [i2.m6]
            refine J_bipush (v := 24) hS dX8_come_44 (by decide) ?_
            refine J_icmp_ne (tgt := 51) hS dX8_come_46 (by decide) (fun c4 => ?_) (fun c4 => ?_)
            · have hn2 : n < 24 := by
                rcases Nat.lt_or_ge n 24 with z | z
                · exact z
                · have z2 : n = 24 := by omega
                  subst z2; exact absurd rfl c4
              refine J_aload_n hS dX8_come_51 rfl ?_
              refine J_getR (t := 164) hS dX8_come_52 flX8_13 ob162 rfl ?_
              refine J_bipush (v := 6) hS dX8_come_55 (by decide) ?_
              refine J_ialdN hS (6) dX8_come_57 (show Ar lay NC .int 164 3464 from arM 1 3464 (by decide) (by decide) rfl) (by first | rfl | (simp only [n0, n1, n2, n3, n4, n5, n6, n7, n8, n9, n10, n11, n12, n13, n14, n15, n16, n17, n18, n19, n20, n24, n32, n56, n60, n64, n72, n99, n100, n128, n136, n142, n144, n200, n300, n999, n1000, n1500, n3464, nI_add, pk_mul] <;> first | rfl | (congr 1; omega))) (by decide) (by decide) ?_
              show J S 0 0 (g2) 58 [some (.ref 162), some (.int y), some (.int a), some (.int tc), none, none, none] [.int _]
              rw [i2.m6]
              refine J_istore (lt := fun k4 => [some (.ref 162), some (.int y), some (.int a), some (.int tc), some (.int k4), none, none]) hS dX8_come_58 (Nat.le_of_ble_eq_true rfl) (fun _ => rfl) (fun k4 ek4 => ?_)
              rw [show k4 = nI n from ek4]
              refine J_iload hS dX8_come_60 rfl ?_
              refine J_callS1 (X' := fun _ _ => False) hS dX8_come_62 msX8_121 rfl (by first | decide | omega) (by decide) (Nat.le_of_ble_eq_true rfl) ⟨Nat.le_trans (by decide) hR.1, Nat.le_trans (by decide) hR.2⟩ (fun _ _ q => q.elim) (m_at ?_)
              obtain ⟨p, hp⟩ : ∃ p, p = 56 + 142 * n := ⟨_, rfl⟩
              rw [← hp]
              refine J_istore (lt := fun k5 => [some (.ref 162), some (.int y), some (.int a), some (.int tc), some (.int (nI n)), some (.int k5), none]) hS dX8_come_65 (Nat.le_of_ble_eq_true rfl) (fun _ => rfl) (fun k5 ek5 => ?_)
              refine J_iconst (v := 0) hS dX8_come_67 (by decide) ?_
              refine J_istore (lt := fun k6 => [some (.ref 162), some (.int y), some (.int a), some (.int tc), some (.int (nI n)), some (.int k5), some (.int k6)]) hS dX8_come_68 (Nat.le_of_ble_eq_true rfl) (fun _ => rfl) (fun k6 ek6 => ?_)
              rw [show k5 = nI p from ek5]
              obtain ⟨F2, hF2⟩ : ∃ F2 : Wr, F2 = fun i => if i = p + 4 then kindA a t else if i = p + 3 then 1 else if i = p + 2 then w 2 else if i = p + 1 then a else if i = p then y else if p ≤ i ∧ i < p + 142 then 0 else w i := ⟨_, rfl⟩
              obtain ⟨F3, hF3⟩ : ∃ F3 : Nat → Wr, F3 = fun k i => if p + 8 ≤ i ∧ i < p + 8 + 16 * k ∧ (i - (p + 8)) % 16 = fwT t n ((i - (p + 8)) / 16) then (if t then 500 else 10) else F2 i := ⟨_, rfl⟩
              obtain ⟨F4, hF4⟩ : ∃ F4 : Wr, F4 = fun i => if i = p + 136 ∧ t = true then 500 else F3 8 i := ⟨_, rfl⟩
              have hF5 : ∀ i, (if i = 6 then F4 6 + 1 else F4 i) = comW w n y a t i := by
                intro i
                unfold comW cmB
                rw [← hp]
                by_cases c6 : i = 6
                · rw [if_pos c6, if_neg (by omega), if_pos c6, hF4]
                  dsimp only
                  rw [if_neg (by omega), hF3]
                  dsimp only
                  rw [if_neg (by omega), hF2]
                  dsimp only
                  rw [if_neg (by omega), if_neg (by omega), if_neg (by omega), if_neg (by omega), if_neg (by omega), if_neg (by omega), hI.mn]
                  exact nI_1 n
                · rw [if_neg c6]
                  by_cases cB : p ≤ i ∧ i < p + 142
                  · obtain ⟨r, hr⟩ : ∃ r, i = p + r := ⟨i - p, by omega⟩
                    subst hr
                    rw [if_pos cB, show p + r - p = r by omega, hF4]
                    dsimp only
                    by_cases d0 : r = 0
                    · subst d0; rw [if_neg (by omega), hF3]; dsimp only; rw [if_neg (by omega), hF2]; dsimp only; rw [if_neg (by omega), if_neg (by omega), if_neg (by omega), if_neg (by omega), if_pos (Nat.add_zero p), if_pos rfl]
                    · rw [if_neg d0]
                      by_cases d1 : r = 1
                      · subst d1; rw [if_neg (by omega), hF3]; dsimp only; rw [if_neg (by omega), hF2]; dsimp only; rw [if_neg (by omega), if_neg (by omega), if_neg (by omega), if_pos rfl, if_pos rfl]
                      · rw [if_neg d1]
                        by_cases d2 : r = 2
                        · subst d2; rw [if_neg (by omega), hF3]; dsimp only; rw [if_neg (by omega), hF2]; dsimp only; rw [if_neg (by omega), if_neg (by omega), if_pos rfl, if_pos rfl]
                        · rw [if_neg d2]
                          by_cases d3 : r = 3
                          · subst d3; rw [if_neg (by omega), hF3]; dsimp only; rw [if_neg (by omega), hF2]; dsimp only; rw [if_neg (by omega), if_pos rfl, if_pos rfl]
                          · rw [if_neg d3]
                            by_cases d4 : r = 4
                            · subst d4; rw [if_neg (by omega), hF3]; dsimp only; rw [if_neg (by omega), hF2]; dsimp only; rw [if_pos rfl, if_pos rfl]
                            · rw [if_neg d4]
                              have f2 : F2 (p + r) = 0 := by rw [hF2]; dsimp only; rw [if_neg (by omega), if_neg (by omega), if_neg (by omega), if_neg (by omega), if_neg (by omega), if_pos cB]
                              by_cases dS : 8 ≤ r ∧ r < 136 ∧ (r - 8) % 16 = fwT t n ((r - 8) / 16)
                              · rw [if_pos dS, if_neg (by omega), hF3]; dsimp only
                                rw [if_pos (by rw [show p + r - (p + 8) = r - 8 by omega]; exact ⟨by omega, by omega, dS.2.2⟩)]
                              · rw [if_neg dS]
                                have f3 : F3 8 (p + r) = 0 := by
                                  rw [hF3]; dsimp only
                                  rw [if_neg (by rw [show p + r - (p + 8) = r - 8 by omega]; exact fun z => dS ⟨by omega, by omega, z.2.2⟩)]; exact f2
                                rw [f3]
                                by_cases dT : r = 136 ∧ t = true
                                · rw [if_pos dT, if_pos ⟨by omega, dT.2⟩]
                                · rw [if_neg dT, if_neg (fun z => dT ⟨by omega, z.2⟩)]
                  · rw [if_neg cB, if_neg c6, hF4]
                    dsimp only
                    rw [if_neg (by omega), hF3]
                    dsimp only
                    rw [if_neg (by omega), hF2]
                    dsimp only
                    rw [if_neg (by omega), if_neg (by omega), if_neg (by omega), if_neg (by omega), if_neg (by omega), if_neg cB]
              -- the end, behind all weights
              have fin : ∀ (v : Option Value) (g6 : Mm), (∀ z, z ≠ 164 → g6 z = g2 z) → (∀ i, i < 3464 → g6 164 i = F4 i) → J S 0 0 g6 272 [some (.ref 162), some (.int y), some (.int a), some (.int tc), some (.int (nI n)), some (.int (nI p)), v] [] := by
                intro v g6 f1 f2
                refine J_weak (ls' := [some (.ref 162), some (.int y), some (.int a), some (.int tc), some (.int (nI n)), some (.int (nI p)), none]) ⟨Or.inr rfl, Or.inr rfl, Or.inr rfl, Or.inr rfl, Or.inr rfl, Or.inr rfl, Or.inl rfl, trivial⟩ ?_
                refine J_aload_n hS dX8_come_272 rfl ?_
                refine J_getR (t := 164) hS dX8_come_273 flX8_13 ob162 rfl ?_
                refine J_bipush (v := 6) hS dX8_come_276 (by decide) ?_
                refine J_dup2 hS dX8_come_278 rfl rfl ?_
                refine J_ialdN hS (6) dX8_come_279 (show Ar lay NC .int 164 3464 from arM 1 3464 (by decide) (by decide) rfl) (by first | rfl | (simp only [n0, n1, n2, n3, n4, n5, n6, n7, n8, n9, n10, n11, n12, n13, n14, n15, n16, n17, n18, n19, n20, n24, n32, n56, n60, n64, n72, n99, n100, n128, n136, n142, n144, n200, n300, n999, n1000, n1500, n3464, nI_add, pk_mul] <;> first | rfl | (congr 1; omega))) (by decide) (by decide) ?_
                show J S 0 0 (g6) 280 [some (.ref 162), some (.int y), some (.int a), some (.int tc), some (.int (nI n)), some (.int (nI p)), none] [.int _, .int 6, .ref (164)]
                rw [f2 6 (by decide)]
                refine J_iconst (v := 1) hS dX8_come_280 (by decide) ?_
                refine J_iadd hS dX8_come_281 ?_
                refine J_iastN hS (6) dX8_come_282 (show Ar lay NC .int 164 3464 from arM 1 3464 (by decide) (by decide) rfl) (by first | rfl | (simp only [n0, n1, n2, n3, n4, n5, n6, n7, n8, n9, n10, n11, n12, n13, n14, n15, n16, n17, n18, n19, n20, n24, n32, n56, n60, n64, n72, n99, n100, n128, n136, n142, n144, n200, n300, n999, n1000, n1500, n3464, nI_add, pk_mul] <;> first | rfl | (congr 1; omega))) (by decide) (by decide) (fun g282 eg282 => ?_)
                refine J_aload_n hS dX8_come_283 rfl ?_
                refine J_callV0 (X' := fun _ _ => False) hS dX8_come_284 mvX8_114 ob162 rfl (by first | decide | omega) (by decide) (Nat.le_of_ble_eq_true rfl) ⟨Nat.le_trans (by decide) hR.1, Nat.le_trans (by decide) hR.2⟩ (fun _ _ q => q.elim) (m_ends ?_)
                refine J_iload hS dX8_come_287 rfl ?_
                refine J_iret hS hZ hr dX8_come_289 (by omega) (by omega) ?_
                refine q hy ha hn2 _ ⟨fun z za zb => ?_, fun j j1 j2 => ?_, u2_self .., ?_⟩ (fun i hi => ?_)
                · rw [u2_ne z za, eg282, u2_ne z zb, f1 z zb, eg2, u2_ne z za]
                · unfold u2; rw [if_neg (fun z => j2 z.2), eg282, u2_ne _ (by decide), f1 162 (by decide), eg2]; unfold u2; rw [if_neg (fun z => j1 z.2)]
                · unfold u2; rw [if_neg (by decide), eg282, u2_ne _ (by decide), f1 162 (by decide), eg2, u2_self]
                · rw [u2_ne _ (by decide), eg282, u2_at, f2 i hi]; exact hF5 i
              have lp2 : ∀ (s k : Nat) (i : Int32) (g5 : Mm), k + s = 8 → i = nI k → (∀ z, z ≠ 164 → g5 z = g2 z) → (∀ i, i < 3464 → g5 164 i = F3 k i) → J S 0 0 g5 181 [some (.ref 162), some (.int y), some (.int a), some (.int tc), some (.int (nI n)), some (.int (nI p)), some (.int i)] [] := by
                intro s
                induction s with
                | zero =>
                  intro k i g5 hk hi f1 f2
                  have ek : k = 8 := by omega
                  subst ek; subst hi
                  refine J_iload hS dX8_come_181 rfl ?_
                  refine J_bipush (v := 8) hS dX8_come_183 (by decide) ?_
                  refine J_icmp_ge (tgt := 254) hS dX8_come_185 (by decide) (fun d1 => ?_) (fun d1 => ?_)
                  ·
                    refine J_iload_n hS dX8_come_254 rfl ?_
                    refine J_if_eq (tgt := 272) hS dX8_come_255 (by decide) (fun d2 => ?_) (fun d2 => ?_)
                    · refine fin _ g5 f1 (fun i hi => ?_)
                      rw [f2 i hi, hF4]; dsimp only; rw [if_neg (fun z => (htc.mp z.2) d2)]
                    ·
                      refine J_aload_n hS dX8_come_258 rfl ?_
                      refine J_getR (t := 164) hS dX8_come_259 flX8_13 ob162 rfl ?_
                      refine J_iload hS dX8_come_262 rfl ?_
                      refine J_sipush (v := 136) hS dX8_come_264 (by decide) ?_
                      refine J_iadd hS dX8_come_267 ?_
                      refine J_sipush (v := 500) hS dX8_come_268 (by decide) ?_
                      refine J_iastN hS (p + 136) dX8_come_271 (show Ar lay NC .int 164 3464 from arM 1 3464 (by decide) (by decide) rfl) (by rw [n136, nI_add]) (by omega) (by decide) (fun g271 eg271 => ?_)
                      refine fin _ g271 (fun z hz => by rw [eg271, u2_ne z hz]; exact f1 z hz) (fun i hi => ?_)
                      rw [eg271, u2_at, hF4]; dsimp only
                      by_cases d3 : i = p + 136
                      · rw [if_pos d3, if_pos ⟨d3, htc.mpr d2⟩]
                      · rw [if_neg d3, if_neg (fun z => d3 z.1)]; exact f2 i hi
                  · exact absurd (Int32.le_refl _) d1
                | succ s ih =>
                  intro k i g5 hk hi f1 f2
                  subst hi
                  have hk8 : k < 8 := by omega
                  have step : ∀ (g6 : Mm) (x : Int32) (m : Nat), m = fwT t n k → x = (if t then 500 else 10) → g6 = u2 g5 164 (p + 8 + 16 * k + m) x → ∀ i, i < 3464 → g6 164 i = F3 (k + 1) i := by
                    intro g6 x m hm hx e6 i hi
                    have hm16 : m < 16 := by rw [hm]; exact fwT_lt hk8
                    rw [e6, u2_at, f2 i hi, hF3]; dsimp only
                    by_cases d1 : i = p + 8 + 16 * k + m
                    · rw [if_pos d1, if_pos ?_, hx]
                      refine ⟨by omega, by omega, ?_⟩
                      rw [show (i - (p + 8)) % 16 = m by omega, show (i - (p + 8)) / 16 = k by omega]; exact hm
                    · rw [if_neg d1]
                      by_cases d2 : p + 8 ≤ i ∧ i < p + 8 + 16 * k ∧ (i - (p + 8)) % 16 = fwT t n ((i - (p + 8)) / 16)
                      · rw [if_pos d2, if_pos (show p + 8 ≤ i ∧ i < p + 8 + 16 * (k + 1) ∧ (i - (p + 8)) % 16 = fwT t n ((i - (p + 8)) / 16) from ⟨d2.1, by omega, d2.2.2⟩)]
                      · rw [if_neg d2, if_neg ?_]
                        rintro ⟨e1, e2, e3⟩
                        rcases Nat.lt_or_ge i (p + 8 + 16 * k) with z | z
                        · exact d2 ⟨e1, z, e3⟩
                        · rw [show (i - (p + 8)) / 16 = k by omega, ← hm] at e3
                          exact d1 (by omega)
                  refine J_iload hS dX8_come_181 rfl ?_
                  refine J_bipush (v := 8) hS dX8_come_183 (by decide) ?_
                  refine J_icmp_ge (tgt := 254) hS dX8_come_185 (by decide) (fun d1 => ?_) (fun d1 => ?_)
                  · exact absurd d1 (nI_ge hk8 (by decide))
                  ·
                    refine J_iload_n hS dX8_come_188 rfl ?_
                    refine J_if_eq (tgt := 217) hS dX8_come_189 (by decide) (fun d2 => ?_) (fun d2 => ?_)
                    · have tf : t = false := by
                        cases t with
                        | true => exact absurd d2 (htc.mp rfl)
                        | false => rfl
                      refine J_aload_n hS dX8_come_217 rfl ?_
                      refine J_getR (t := 164) hS dX8_come_218 flX8_13 ob162 rfl ?_
                      refine J_iload hS dX8_come_221 rfl ?_
                      refine J_bipush (v := 8) hS dX8_come_223 (by decide) ?_
                      refine J_iadd hS dX8_come_225 ?_
                      refine J_bipush (v := 16) hS dX8_come_226 (by decide) ?_
                      refine J_iload hS dX8_come_228 rfl ?_
                      refine J_imul hS dX8_come_230 ?_
                      refine J_iadd hS dX8_come_231 ?_
                      refine J_iconst (v := 5) hS dX8_come_232 (by decide) ?_
                      refine J_iload hS dX8_come_233 rfl ?_
                      refine J_imul hS dX8_come_235 ?_
                      refine J_iconst (v := 3) hS dX8_come_236 (by decide) ?_
                      refine J_iload hS dX8_come_237 rfl ?_
                      refine J_imul hS dX8_come_239 ?_
                      refine J_iadd hS dX8_come_240 ?_
                      refine J_bipush (v := 16) hS dX8_come_241 (by decide) ?_
                      refine J_irem hS dX8_come_243 (by decide) ?_
                      show J S 0 0 (g5) 244 [some (.ref 162), some (.int y), some (.int a), some (.int tc), some (.int (nI n)), some (.int (nI p)), some (.int (nI k))] [.int _, .int _, .ref (164)]
                      rw [n16, n8, n5, n3, pk_mul, pk_mul, pk_mul, nI_add, nI_add, nI_add, pk_rem (by omega) (by decide) (by decide)]
                      refine J_iadd hS dX8_come_244 ?_
                      refine J_bipush (v := 10) hS dX8_come_245 (by decide) ?_
                      refine J_iastN hS (p + 8 + 16 * k + (5 * n + 3 * k) % 16) dX8_come_247 (show Ar lay NC .int 164 3464 from arM 1 3464 (by decide) (by decide) rfl) (by first | rfl | (simp only [n0, n1, n2, n3, n4, n5, n6, n7, n8, n9, n10, n11, n12, n13, n14, n15, n16, n17, n18, n19, n20, n24, n32, n56, n60, n64, n72, n99, n100, n128, n136, n142, n144, n200, n300, n999, n1000, n1500, n3464, nI_add, pk_mul] <;> first | rfl | (congr 1; omega))) (by omega) (by decide) (fun g247 eg247 => ?_)
                      refine J_iinc (lt := fun i2 => [some (.ref 162), some (.int y), some (.int a), some (.int tc), some (.int (nI n)), some (.int (nI p)), some (.int i2)]) (v := 1) hS dX8_come_248 rfl (by decide) (fun _ => rfl) (fun i2 ei2 => ?_)
                      refine J_goto (tgt := 181) hS dX8_come_251 (by decide) ?_
                      refine ih (k + 1) i2 g247 (by omega) (by rw [ei2]; exact nI_1 k) (fun z hz => by rw [eg247, u2_ne z hz]; exact f1 z hz) (step g247 10 _ (by unfold fwT; rw [tf]; simp) (by rw [tf]; rfl) eg247)
                    · have tf : t = true := htc.mpr d2
                      refine J_aload_n hS dX8_come_192 rfl ?_
                      refine J_getR (t := 164) hS dX8_come_193 flX8_13 ob162 rfl ?_
                      refine J_iload hS dX8_come_196 rfl ?_
                      refine J_bipush (v := 8) hS dX8_come_198 (by decide) ?_
                      refine J_iadd hS dX8_come_200 ?_
                      refine J_bipush (v := 16) hS dX8_come_201 (by decide) ?_
                      refine J_iload hS dX8_come_203 rfl ?_
                      refine J_imul hS dX8_come_205 ?_
                      refine J_iadd hS dX8_come_206 ?_
                      refine J_iload hS dX8_come_207 rfl ?_
                      refine J_iadd hS dX8_come_209 ?_
                      refine J_sipush (v := 500) hS dX8_come_210 (by decide) ?_
                      refine J_iastN hS (p + 8 + 16 * k + k) dX8_come_213 (show Ar lay NC .int 164 3464 from arM 1 3464 (by decide) (by decide) rfl) (by rw [n16, n8, pk_mul, nI_add, nI_add, nI_add]) (by omega) (by decide) (fun g213 eg213 => ?_)
                      refine J_goto (tgt := 248) hS dX8_come_214 (by decide) ?_
                      refine J_iinc (lt := fun i2 => [some (.ref 162), some (.int y), some (.int a), some (.int tc), some (.int (nI n)), some (.int (nI p)), some (.int i2)]) (v := 1) hS dX8_come_248 rfl (by decide) (fun _ => rfl) (fun i2 ei2 => ?_)
                      refine J_goto (tgt := 181) hS dX8_come_251 (by decide) ?_
                      refine ih (k + 1) i2 g213 (by omega) (by rw [ei2]; exact nI_1 k) (fun z hz => by rw [eg213, u2_ne z hz]; exact f1 z hz) (step g213 500 _ (by unfold fwT; rw [tf]; simp) (by rw [tf]; rfl) eg213)
              have lp1 : ∀ (s k : Nat) (i : Int32) (g5 : Mm), k + s = 142 → i = nI k → (∀ z, z ≠ 164 → g5 z = g2 z) → (∀ i, i < 3464 → g5 164 i = if p ≤ i ∧ i < p + k then 0 else w i) → J S 0 0 g5 70 [some (.ref 162), some (.int y), some (.int a), some (.int tc), some (.int (nI n)), some (.int (nI p)), some (.int i)] [] := by
                intro s
                induction s with
                | zero =>
                  intro k i g5 hk hi f1 f2
                  have ek : k = 142 := by omega
                  subst ek; subst hi
                  refine J_iload hS dX8_come_70 rfl ?_
                  refine J_sipush (v := 142) hS dX8_come_72 (by decide) ?_
                  refine J_icmp_ge (tgt := 95) hS dX8_come_75 (by decide) (fun d1 => ?_) (fun d1 => ?_)
                  ·
                    refine J_aload_n hS dX8_come_95 rfl ?_
                    refine J_getR (t := 164) hS dX8_come_96 flX8_13 ob162 rfl ?_
                    refine J_iload hS dX8_come_99 rfl ?_
                    refine J_iconst (v := 0) hS dX8_come_101 (by decide) ?_
                    refine J_iadd hS dX8_come_102 ?_
                    refine J_iload_n hS dX8_come_103 rfl ?_
                    refine J_iastN hS (p) dX8_come_104 (show Ar lay NC .int 164 3464 from arM 1 3464 (by decide) (by decide) rfl) (by rw [n0, nI_add]; rfl) (by omega) (by decide) (fun g104 eg104 => ?_)
                    refine J_aload_n hS dX8_come_105 rfl ?_
                    refine J_getR (t := 164) hS dX8_come_106 flX8_13 ob162 rfl ?_
                    refine J_iload hS dX8_come_109 rfl ?_
                    refine J_iconst (v := 1) hS dX8_come_111 (by decide) ?_
                    refine J_iadd hS dX8_come_112 ?_
                    refine J_iload_n hS dX8_come_113 rfl ?_
                    refine J_iastN hS (p + 1) dX8_come_114 (show Ar lay NC .int 164 3464 from arM 1 3464 (by decide) (by decide) rfl) (by first | rfl | (simp only [n0, n1, n2, n3, n4, n5, n6, n7, n8, n9, n10, n11, n12, n13, n14, n15, n16, n17, n18, n19, n20, n24, n32, n56, n60, n64, n72, n99, n100, n128, n136, n142, n144, n200, n300, n999, n1000, n1500, n3464, nI_add, pk_mul] <;> first | rfl | (congr 1; omega))) (by omega) (by decide) (fun g114 eg114 => ?_)
                    refine J_aload_n hS dX8_come_115 rfl ?_
                    refine J_getR (t := 164) hS dX8_come_116 flX8_13 ob162 rfl ?_
                    refine J_iload hS dX8_come_119 rfl ?_
                    refine J_iconst (v := 2) hS dX8_come_121 (by decide) ?_
                    refine J_iadd hS dX8_come_122 ?_
                    refine J_aload_n hS dX8_come_123 rfl ?_
                    refine J_getR (t := 164) hS dX8_come_124 flX8_13 ob162 rfl ?_
                    refine J_iconst (v := 2) hS dX8_come_127 (by decide) ?_
                    refine J_ialdN hS (2) dX8_come_128 (show Ar lay NC .int 164 3464 from arM 1 3464 (by decide) (by decide) rfl) (by first | rfl | (simp only [n0, n1, n2, n3, n4, n5, n6, n7, n8, n9, n10, n11, n12, n13, n14, n15, n16, n17, n18, n19, n20, n24, n32, n56, n60, n64, n72, n99, n100, n128, n136, n142, n144, n200, n300, n999, n1000, n1500, n3464, nI_add, pk_mul] <;> first | rfl | (congr 1; omega))) (by decide) (by decide) ?_
                    show J S 0 0 (g114) 129 [some (.ref 162), some (.int y), some (.int a), some (.int tc), some (.int (nI n)), some (.int (nI p)), some (.int (nI 142))] [.int _, .int _, .ref (164)]
                    rw [show g114 164 2 = w 2 by rw [eg114, u2_at, if_neg (by omega), eg104, u2_at, if_neg (by omega), f2 2 (by decide), if_neg (by omega)]]
                    refine J_iastN hS (p + 2) dX8_come_129 (show Ar lay NC .int 164 3464 from arM 1 3464 (by decide) (by decide) rfl) (by first | rfl | (simp only [n0, n1, n2, n3, n4, n5, n6, n7, n8, n9, n10, n11, n12, n13, n14, n15, n16, n17, n18, n19, n20, n24, n32, n56, n60, n64, n72, n99, n100, n128, n136, n142, n144, n200, n300, n999, n1000, n1500, n3464, nI_add, pk_mul] <;> first | rfl | (congr 1; omega))) (by omega) (by decide) (fun g129 eg129 => ?_)
                    refine J_aload_n hS dX8_come_130 rfl ?_
                    refine J_getR (t := 164) hS dX8_come_131 flX8_13 ob162 rfl ?_
                    refine J_iload hS dX8_come_134 rfl ?_
                    refine J_iconst (v := 3) hS dX8_come_136 (by decide) ?_
                    refine J_iadd hS dX8_come_137 ?_
                    refine J_iconst (v := 1) hS dX8_come_138 (by decide) ?_
                    refine J_iastN hS (p + 3) dX8_come_139 (show Ar lay NC .int 164 3464 from arM 1 3464 (by decide) (by decide) rfl) (by first | rfl | (simp only [n0, n1, n2, n3, n4, n5, n6, n7, n8, n9, n10, n11, n12, n13, n14, n15, n16, n17, n18, n19, n20, n24, n32, n56, n60, n64, n72, n99, n100, n128, n136, n142, n144, n200, n300, n999, n1000, n1500, n3464, nI_add, pk_mul] <;> first | rfl | (congr 1; omega))) (by omega) (by decide) (fun g139 eg139 => ?_)
                    refine J_aload_n hS dX8_come_140 rfl ?_
                    refine J_getR (t := 164) hS dX8_come_141 flX8_13 ob162 rfl ?_
                    refine J_iload hS dX8_come_144 rfl ?_
                    refine J_iconst (v := 4) hS dX8_come_146 (by decide) ?_
                    refine J_iadd hS dX8_come_147 ?_
                    refine J_iload_n hS dX8_come_148 rfl ?_
                    have kd : ∀ x : Int32, x = kindA a t → J S 0 0 g139 177 [some (.ref 162), some (.int y), some (.int a), some (.int tc), some (.int (nI n)), some (.int (nI p)), some (.int (nI 142))] [.int x, .int (nI p + 4), .ref 164] := by
                      intro x hx
                      refine J_iastN hS (p + 4) dX8_come_177 (show Ar lay NC .int 164 3464 from arM 1 3464 (by decide) (by decide) rfl) (by first | rfl | (simp only [n0, n1, n2, n3, n4, n5, n6, n7, n8, n9, n10, n11, n12, n13, n14, n15, n16, n17, n18, n19, n20, n24, n32, n56, n60, n64, n72, n99, n100, n128, n136, n142, n144, n200, n300, n999, n1000, n1500, n3464, nI_add, pk_mul] <;> first | rfl | (congr 1; omega))) (by omega) (by decide) (fun g177 eg177 => ?_)
                      refine J_iconst (v := 0) hS dX8_come_178 (by decide) ?_
                      refine J_istore (lt := fun j6 => [some (.ref 162), some (.int y), some (.int a), some (.int tc), some (.int (nI n)), some (.int (nI p)), some (.int j6)]) hS dX8_come_179 (Nat.le_of_ble_eq_true rfl) (fun _ => rfl) (fun j6 ej6 => ?_)
                      refine lp2 8 0 j6 g177 (by decide) ej6 (fun z hz => by rw [eg177, u2_ne z hz, eg139, u2_ne z hz, eg129, u2_ne z hz, eg114, u2_ne z hz, eg104, u2_ne z hz]; exact f1 z hz) (fun i hi => ?_)
                      rw [hF3]; dsimp only
                      rw [if_neg (by omega), hF2]; dsimp only
                      rw [eg177, u2_at, hx, eg139, u2_at, eg129, u2_at, eg114, u2_at, eg104, u2_at, f2 i hi]
                    refine J_if_eq (tgt := 156) hS dX8_come_149 (by decide) (fun d2 => ?_) (fun d2 => ?_)
                    · have tf : t = false := by
                        cases t with
                        | true => exact absurd d2 (htc.mp rfl)
                        | false => rfl
                      refine J_iload_n hS dX8_come_156 rfl ?_
                      refine J_bipush (v := 7) hS dX8_come_157 (by decide) ?_
                      refine J_icmp_ge (tgt := 166) hS dX8_come_159 (by decide) (fun d3 => ?_) (fun d3 => ?_)
                      ·
                        refine J_iload_n hS dX8_come_166 rfl ?_
                        refine J_bipush (v := 12) hS dX8_come_167 (by decide) ?_
                        refine J_icmp_lt (tgt := 176) hS dX8_come_169 (by decide) (fun d4 => ?_) (fun d4 => ?_)
                        ·
                          refine J_iconst (v := 1) hS dX8_come_176 (by decide) ?_
                          exact kd 1 (by rw [tf]; unfold kindA; simp only [Bool.false_eq_true, if_false]; rw [if_neg (Int32.not_lt.mpr d3), if_pos d4])
                        ·
                          refine J_iconst (v := 2) hS dX8_come_172 (by decide) ?_
                          refine J_goto (tgt := 177) hS dX8_come_173 (by decide) ?_
                          exact kd 2 (by rw [tf]; unfold kindA; simp only [Bool.false_eq_true, if_false]; rw [if_neg (Int32.not_lt.mpr d3), if_neg d4])
                      ·
                        refine J_iconst (v := 0) hS dX8_come_162 (by decide) ?_
                        refine J_goto (tgt := 177) hS dX8_come_163 (by decide) ?_
                        exact kd 0 (by rw [tf]; unfold kindA; simp only [Bool.false_eq_true, if_false]; rw [if_pos (Int32.not_le.mp d3)])
                    ·
                      refine J_iconst (v := 3) hS dX8_come_152 (by decide) ?_
                      refine J_goto (tgt := 177) hS dX8_come_153 (by decide) ?_
                      exact kd 3 (kindA_3.mpr (htc.mpr d2)).symm
                  · exact absurd (Int32.le_refl _) d1
                | succ s ih =>
                  intro k i g5 hk hi f1 f2
                  subst hi
                  have hk8 : k < 142 := by omega
                  refine J_iload hS dX8_come_70 rfl ?_
                  refine J_sipush (v := 142) hS dX8_come_72 (by decide) ?_
                  refine J_icmp_ge (tgt := 95) hS dX8_come_75 (by decide) (fun d1 => ?_) (fun d1 => ?_)
                  · exact absurd d1 (nI_ge hk8 (by decide))
                  ·
                    refine J_aload_n hS dX8_come_78 rfl ?_
                    refine J_getR (t := 164) hS dX8_come_79 flX8_13 ob162 rfl ?_
                    refine J_iload hS dX8_come_82 rfl ?_
                    refine J_iload hS dX8_come_84 rfl ?_
                    refine J_iadd hS dX8_come_86 ?_
                    refine J_iconst (v := 0) hS dX8_come_87 (by decide) ?_
                    refine J_iastN hS (p + k) dX8_come_88 (show Ar lay NC .int 164 3464 from arM 1 3464 (by decide) (by decide) rfl) (by first | rfl | (simp only [n0, n1, n2, n3, n4, n5, n6, n7, n8, n9, n10, n11, n12, n13, n14, n15, n16, n17, n18, n19, n20, n24, n32, n56, n60, n64, n72, n99, n100, n128, n136, n142, n144, n200, n300, n999, n1000, n1500, n3464, nI_add, pk_mul] <;> first | rfl | (congr 1; omega))) (by omega) (by decide) (fun g88 eg88 => ?_)
                    refine J_iinc (lt := fun i2 => [some (.ref 162), some (.int y), some (.int a), some (.int tc), some (.int (nI n)), some (.int (nI p)), some (.int i2)]) (v := 1) hS dX8_come_89 rfl (by decide) (fun _ => rfl) (fun i2 ei2 => ?_)
                    refine J_goto (tgt := 70) hS dX8_come_92 (by decide) ?_
                    refine ih (k + 1) i2 g88 (by omega) (by rw [ei2]; exact nI_1 k) (fun z hz => by rw [eg88, u2_ne z hz]; exact f1 z hz) (fun i hi => ?_)
                    rw [eg88, u2_at, f2 i hi]
                    by_cases e : i = p + k
                    · rw [if_pos e, if_pos (by omega)]
                    · rw [if_neg e]
                      by_cases e2 : p ≤ i ∧ i < p + k
                      · rw [if_pos e2, if_pos (by omega)]
                      · rw [if_neg e2, if_neg (by omega)]
              exact lp1 142 0 k6 g2 (by decide) ek6 (fun _ _ => rfl) (fun i hi => by rw [if_neg (by omega)]; exact i2.row i hi)
            · have hn2 : n = 24 := (nI_eq (by omega) (by decide)).mp (c4.trans n24)
              refine J_iconst (v := (-1)) hS dX8_come_49 (by decide) ?_
              refine J_iret hS hZ hr dX8_come_50 (by omega) (by omega) ?_
              exact q24 hy ha hn2 g2 z2 t2
          · exact absurd c3 (by decide)
end RefC


/-! THE REFERENCE: what a law says -/
def LawM (g : Mm) (k : Nat) (L : List Cls) : Prop := L.length ≤ 12 ∧ g 177 k = nI L.length ∧ ∀ (j : Nat) (c : Cls), L[j]? = some c → clsOk c ∧ ∃ s : Nat, s + c.2.1.length + c.2.2.length ≤ 300 ∧ g 178 (12 * k + j) = nI c.1 ∧ g 179 (12 * k + j) = nI s ∧ g 180 (12 * k + j) = nI (s + c.2.1.length) ∧ g 181 (12 * k + j) = nI (s + c.2.1.length + c.2.2.length) ∧ CodM g (300 * k + s) c.2.1 ∧ CodM g (300 * k + s + c.2.1.length) c.2.2
theorem CodM.fr {g g' : Mm} {i : Nat} {l : List Tok} (h : CodM g i l) (e1 : g' 182 = g 182) (e2 : g' 183 = g 183) : CodM g' i l := fun j t hj => by rw [e1, e2]; exact h j t hj
theorem LawM.fr {g g' : Mm} {k : Nat} {L : List Cls} (h : LawM g k L) (e : ∀ z, 177 ≤ z → z ≤ 183 → g' z = g z) : LawM g' k L := by
  refine ⟨h.1, by rw [e 177 (by decide) (by decide)]; exact h.2.1, fun j c hj => ?_⟩
  obtain ⟨h1, s, h2, h3, h4, h5, h6, h7, h8⟩ := h.2.2 j c hj
  exact ⟨h1, s, h2, by rw [e 178 (by decide) (by decide)]; exact h3, by rw [e 179 (by decide) (by decide)]; exact h4, by rw [e 180 (by decide) (by decide)]; exact h5, by rw [e 181 (by decide) (by decide)]; exact h6, h7.fr (e 182 (by decide) (by decide)) (e 183 (by decide) (by decide)), h8.fr (e 182 (by decide) (by decide)) (e 183 (by decide) (by decide))⟩
def RuleM (g : Mm) (r : Nat) (lw : Option (List Cls)) : Prop := (lw = none ∧ g r 5 = -1) ∨ ∃ (k : Nat) (L : List Cls), k < 6 ∧ lw = some L ∧ g r 5 = nI k ∧ LawM g k L
theorem RuleM.fr {g g' : Mm} {r : Nat} {lw : Option (List Cls)} (h : RuleM g r lw) (e5 : g' r 5 = g r 5) (e : ∀ z, 177 ≤ z → z ≤ 183 → g' z = g z) : RuleM g' r lw := by
  rcases h with ⟨h1, h2⟩ | ⟨k, L, h1, h2, h3, h4⟩
  · exact Or.inl ⟨h1, by rw [e5]; exact h2⟩
  · exact Or.inr ⟨k, L, h1, h2, by rw [e5]; exact h3, h4.fr e⟩
section RefT
variable {l : Launch} {E : Ey} {g : Mm} {Q : Option Value → Mm → Prop} {X : String → Mm → Prop} {r : Nat} {w b : Wr}
set_option maxRecDepth 10000 in
set_option maxHeartbeats 4000000 in
theorem m_told {wd : Nat} {v lo : Int32} {f : Nat → Int32} {lw : Option (List Cls)} (hr1 : Rw r) (hw : g 162 3 = nI r) (hwd : wd < 4) (hlo : g 162 27 = lo) (hRl : RuleM g r lw) (hf : ∀ j, j < 6 → j ≠ 4 → g 162 (21 + j) = f j) (hf4 : f 4 = v) (q : ∀ g', (∀ z, z ≠ 162 → z ≠ 191 → g' z = g z) → (∀ j, j ≠ 25 → g' 162 j = g 162 j) → Q (some (.int (rval lw lo f wd))) g') : Ct l E lay NC 2 0 0 yX8_told [.ref 162, .int (nI wd), .int v] g Q X := by
  have hr2 : r = 164 ∨ r = 165 := hr1
  refine Ct_in k_yX8_told (by decide) rfl (Nat.le_of_ble_eq_true rfl) rfl ?_
  intro S hS hZ hr ht hR
  show J S 0 0 (g) 0 [some (.ref 162), some (.int (nI wd)), some (.int v), none, none, none] []
  refine J_aload_n hS dX8_told_0 rfl ?_
  refine J_iload_n hS dX8_told_1 rfl ?_
  refine J_putI hS dX8_told_2 fpX8_252 ob162 rfl (fun g2 eg2 => ?_)
  have o2 : ∀ z, z ≠ 162 → g2 z = g z := fun z hz => by rw [eg2, u2_ne z hz]
  have s2 : ∀ j, j ≠ 25 → g2 162 j = g 162 j := fun j hj => by rw [eg2]; unfold u2; rw [if_neg (fun z => hj z.2)]
  have hf2 : AskM g2 f := by
    intro j hj
    by_cases e : j = 4
    · subst e; rw [eg2, u2_self, hf4]
    · rw [s2 _ (by omega)]; exact hf j hj e
  have none_end : ∀ (g3 : Mm) (i4 : Int32) (x : Option Value), (∀ z, z ≠ 162 → z ≠ 191 → g3 z = g z) → (∀ j, j ≠ 25 → g3 162 j = g 162 j) → rval lw lo f wd = zWI wd → J S 0 0 g3 137 [some (.ref 162), some (.int (nI wd)), some (.int v), some (.int (-1)), some (.int i4), x] [] := by
    intro g3 i4 x k1 k2 hz
    have q2 := q g3 k1 k2
    rw [hz] at q2
    refine J_weak (ls' := [some (.ref 162), some (.int (nI wd)), some (.int v), some (.int (-1)), some (.int i4), none]) ⟨Or.inr rfl, Or.inr rfl, Or.inr rfl, Or.inr rfl, Or.inr rfl, Or.inl rfl, trivial⟩ ?_
    refine J_iload_n hS dX8_told_137 rfl ?_
    refine J_iconst (v := (-1)) hS dX8_told_138 (by decide) ?_
    refine J_icmp_ne (tgt := 164) hS dX8_told_139 (by decide) (fun c1 => ?_) (fun c1 => ?_)
    · exact absurd rfl c1
    ·
      refine J_iload_n hS dX8_told_142 rfl ?_
      refine J_iconst (v := 2) hS dX8_told_143 (by decide) ?_
      refine J_icmp_ne (tgt := 151) hS dX8_told_144 (by decide) (fun c2 => ?_) (fun c2 => ?_)
      ·
        refine J_iload_n hS dX8_told_151 rfl ?_
        refine J_iconst (v := 3) hS dX8_told_152 (by decide) ?_
        refine J_icmp_ne (tgt := 161) hS dX8_told_153 (by decide) (fun c3 => ?_) (fun c3 => ?_)
        ·
          refine J_bipush (v := 10) hS dX8_told_161 (by decide) ?_
          refine J_iret hS hZ hr dX8_told_163 (by omega) (by omega) ?_
          have : wd = 0 ∨ wd = 1 := by
            have a1 : wd ≠ 2 := fun z => c2 (by rw [z]; rfl)
            have a2 : wd ≠ 3 := fun z => c3 (by rw [z]; rfl)
            omega
          rcases this with e | e
          · subst e; exact q2
          · subst e; exact q2
        ·
          refine J_bipush (v := 100) hS dX8_told_156 (by decide) ?_
          refine J_goto (tgt := 163) hS dX8_told_158 (by decide) ?_
          refine J_iret hS hZ hr dX8_told_163 (by omega) (by omega) ?_
          have : wd = 3 := (nI_eq (by omega) (by decide)).mp c3
          subst this; exact q2
      ·
        refine J_iconst (v := 2) hS dX8_told_147 (by decide) ?_
        refine J_goto (tgt := 163) hS dX8_told_148 (by decide) ?_
        refine J_iret hS hZ hr dX8_told_163 (by omega) (by omega) ?_
        have : wd = 2 := (nI_eq (by omega) (by decide)).mp c2
        subst this; exact q2
  refine J_iconst (v := (-1)) hS dX8_told_5 (by decide) ?_
  refine J_istore_n (lt := fun x3 => [some (.ref 162), some (.int (nI wd)), some (.int v), some (.int x3), none, none]) hS dX8_told_6 (Nat.le_of_ble_eq_true rfl) (fun _ => rfl) (fun x3 ex3 => ?_)
  refine J_aload_n hS dX8_told_7 rfl ?_
  refine J_getD (v := .ref r) hS dX8_told_8 flX8_20 ob162 rfl (by rw [s2 3 (by decide)]; exact wI hr1 hw) ?_
  refine J_iconst (v := 5) hS dX8_told_11 (by decide) ?_
  refine J_ialdN hS (5) dX8_told_12 hr1.ar (by first | rfl | (simp only [n0, n1, n2, n3, n4, n5, n6, n7, n8, n9, n10, n11, n12, n13, n14, n15, n16, n17, n18, n19, n20, n24, n32, n56, n60, n64, n72, n99, n100, n128, n136, n142, n144, n200, n300, n999, n1000, n1500, n3464, nI_add, pk_mul] <;> first | rfl | (congr 1; omega))) (by decide) (by decide) ?_
  show J S 0 0 (g2) 13 [some (.ref 162), some (.int (nI wd)), some (.int v), some (.int x3), none, none] [.int _]
  rw [o2 r (by omega)]
  rcases hRl with ⟨h1, h2⟩ | ⟨k, L, hk, h2, h3, h4⟩
  · rw [h2]
    refine J_istore (lt := fun x4 => [some (.ref 162), some (.int (nI wd)), some (.int v), some (.int x3), some (.int x4), none]) hS dX8_told_13 (Nat.le_of_ble_eq_true rfl) (fun _ => rfl) (fun x4 ex4 => ?_)
    refine J_bipush (v := 12) hS dX8_told_15 (by decide) ?_
    refine J_iload hS dX8_told_17 rfl ?_
    refine J_imul hS dX8_told_19 ?_
    refine J_istore (lt := fun x5 => [some (.ref 162), some (.int (nI wd)), some (.int v), some (.int x3), some (.int x4), some (.int x5)]) hS dX8_told_20 (Nat.le_of_ble_eq_true rfl) (fun _ => rfl) (fun x5 ex5 => ?_)
    refine J_iload hS dX8_told_22 rfl ?_
    refine J_iconst (v := (-1)) hS dX8_told_24 (by decide) ?_
    refine J_icmp_eq (tgt := 137) hS dX8_told_25 (by decide) (fun c1 => ?_) (fun c1 => ?_)
    · rw [show x3 = -1 from ex3]
      exact none_end g2 x4 _ (fun z z1 _ => o2 z z1) s2 (by rw [h1]; rfl)
    · exact absurd ex4 c1
  · rw [h3]
    subst h2
    have hLn := h4.1
    refine J_istore (lt := fun x4 => [some (.ref 162), some (.int (nI wd)), some (.int v), some (.int x3), some (.int x4), none]) hS dX8_told_13 (Nat.le_of_ble_eq_true rfl) (fun _ => rfl) (fun x4 ex4 => ?_)
    rw [show x4 = nI k from ex4]
    refine J_bipush (v := 12) hS dX8_told_15 (by decide) ?_
    refine J_iload hS dX8_told_17 rfl ?_
    refine J_imul hS dX8_told_19 ?_
    show J S 0 0 (g2) 20 [some (.ref 162), some (.int (nI wd)), some (.int v), some (.int x3), some (.int (nI k)), none] [.int _]
    rw [n12, pk_mul]
    refine J_istore (lt := fun x5 => [some (.ref 162), some (.int (nI wd)), some (.int v), some (.int x3), some (.int (nI k)), some (.int x5)]) hS dX8_told_20 (Nat.le_of_ble_eq_true rfl) (fun _ => rfl) (fun x5 ex5 => ?_)
    have key : rval (some L) lo f wd = lawv L lo f wd L.length := rfl
    suffices H : ∀ (t n : Nat) (fd i : Int32) (g3 : Mm), n + t = L.length → i = nI (12 * k + n) → ((fd = -1 ∧ lawv L lo f wd n = zWI wd) ∨ ∃ j, j < n ∧ fd = nI (12 * k + j) ∧ lawv L lo f wd n = clv L f j) → (∀ z, z ≠ 162 → z ≠ 191 → g3 z = g z) → (∀ j, j ≠ 25 → g3 162 j = g 162 j) → AskM g3 f → J S 0 0 g3 22 [some (.ref 162), some (.int (nI wd)), some (.int v), some (.int fd), some (.int (nI k)), some (.int i)] [] by
      exact H L.length 0 x3 x5 g2 (by omega) ex5 (Or.inl ⟨ex3, rfl⟩) (fun z z1 _ => o2 z z1) s2 hf2
    intro t
    induction t with
    | zero =>
      intro n fd i g3 hn hi hfd k1 k2 hf3
      have en : n = L.length := by omega
      subst hi
      have h43 := h4.fr (g' := g3) (fun z z1 z2 => k1 z (by omega) (by omega))
      have fin : J S 0 0 g3 137 [some (.ref 162), some (.int (nI wd)), some (.int v), some (.int fd), some (.int (nI k)), some (.int (nI (12 * k + n)))] [] := by
        rcases hfd with ⟨e1, e2⟩ | ⟨j, hj, e1, e2⟩
        · rw [e1]
          exact none_end g3 _ _ k1 k2 (by rw [key, ← en]; exact e2)
        · subst e1
          obtain ⟨c, hc⟩ : ∃ c, L[j]? = some c := ⟨L[j]'(by omega), List.getElem?_eq_getElem (by omega)⟩
          obtain ⟨w1, s, w2, w3, w4, w5, w6, w7, w8⟩ := h43.2.2 j c hc
          have q2 := q
          refine J_iload_n hS dX8_told_137 rfl ?_
          refine J_iconst (v := (-1)) hS dX8_told_138 (by decide) ?_
          refine J_icmp_ne (tgt := 164) hS dX8_told_139 (by decide) (fun c1 => ?_) (fun c1 => ?_)
          ·
            refine J_aload_n hS dX8_told_164 rfl ?_
            refine J_sipush (v := 300) hS dX8_told_165 (by decide) ?_
            refine J_iload hS dX8_told_168 rfl ?_
            refine J_imul hS dX8_told_170 ?_
            refine J_aload_n hS dX8_told_171 rfl ?_
            refine J_getR (t := 179) hS dX8_told_172 flX8_35 ob162 rfl ?_
            refine J_iload_n hS dX8_told_175 rfl ?_
            refine J_ialdN hS (12 * k + j) dX8_told_176 (show Ar lay NC .int 179 72 from arM 16 72 (by decide) (by decide) rfl) (by first | rfl | (simp only [n0, n1, n2, n3, n4, n5, n6, n7, n8, n9, n10, n11, n12, n13, n14, n15, n16, n17, n18, n19, n20, n24, n32, n56, n60, n64, n72, n99, n100, n128, n136, n142, n144, n200, n300, n999, n1000, n1500, n3464, nI_add, pk_mul] <;> first | rfl | (congr 1; omega))) (by omega) (by decide) ?_
            show J S 0 0 (g3) 177 [some (.ref 162), some (.int (nI wd)), some (.int v), some (.int (nI (12 * k + j))), some (.int (nI k)), some (.int (nI (12 * k + n)))] [.int _, .int _, .ref 162]
            rw [w4, show (300 : Int32) * nI k = nI (300 * k) by rw [n300, pk_mul]]
            refine J_iadd hS dX8_told_177 ?_
            show J S 0 0 (g3) 178 [some (.ref 162), some (.int (nI wd)), some (.int v), some (.int (nI (12 * k + j))), some (.int (nI k)), some (.int (nI (12 * k + n)))] [.int _, .ref 162]
            rw [nI_add]
            refine J_sipush (v := 300) hS dX8_told_178 (by decide) ?_
            refine J_iload hS dX8_told_181 rfl ?_
            refine J_imul hS dX8_told_183 ?_
            refine J_aload_n hS dX8_told_184 rfl ?_
            refine J_getR (t := 180) hS dX8_told_185 flX8_38 ob162 rfl ?_
            refine J_iload_n hS dX8_told_188 rfl ?_
            refine J_ialdN hS (12 * k + j) dX8_told_189 (show Ar lay NC .int 180 72 from arM 17 72 (by decide) (by decide) rfl) (by first | rfl | (simp only [n0, n1, n2, n3, n4, n5, n6, n7, n8, n9, n10, n11, n12, n13, n14, n15, n16, n17, n18, n19, n20, n24, n32, n56, n60, n64, n72, n99, n100, n128, n136, n142, n144, n200, n300, n999, n1000, n1500, n3464, nI_add, pk_mul] <;> first | rfl | (congr 1; omega))) (by omega) (by decide) ?_
            show J S 0 0 (g3) 190 [some (.ref 162), some (.int (nI wd)), some (.int v), some (.int (nI (12 * k + j))), some (.int (nI k)), some (.int (nI (12 * k + n)))] [.int _, .int _, .int (nI (300 * k + s)), .ref 162]
            rw [w5, show (300 : Int32) * nI k = nI (300 * k) by rw [n300, pk_mul]]
            refine J_iadd hS dX8_told_190 ?_
            show J S 0 0 (g3) 191 [some (.ref 162), some (.int (nI wd)), some (.int v), some (.int (nI (12 * k + j))), some (.int (nI k)), some (.int (nI (12 * k + n)))] [.int _, .int (nI (300 * k + s)), .ref 162]
            rw [nI_add, show 300 * k + (s + c.2.1.length) = 300 * k + s + c.2.1.length by omega]
            refine J_callV2 (X' := fun _ _ => False) hS dX8_told_191 mvX8_265 ob162 rfl (by first | decide | omega) (by decide) (Nat.le_of_ble_eq_true rfl) ⟨Nat.le_trans (by decide) hR.1, Nat.le_trans (by decide) hR.2⟩ (fun _ _ q => q.elim) (m_valueOf (by omega) (by omega) w1.2.1 w7 w1.2.2.2.1 hf3 (fun g4 d1 => ?_))
            refine J_callS1 (X' := fun _ _ => False) hS dX8_told_194 msX8_269 rfl (by first | decide | omega) (by decide) (Nat.le_of_ble_eq_true rfl) ⟨Nat.le_trans (by decide) hR.1, Nat.le_trans (by decide) hR.2⟩ (fun _ _ q => q.elim) (m_bounded ?_)
            refine J_iret hS hZ hr dX8_told_197 (by omega) (by omega) ?_
            have q3 := q g4 (fun z z1 z2 => by rw [d1 z z2]; exact k1 z z1 z2) (fun j hj => by rw [d1 162 (by decide)]; exact k2 j hj)
            rw [key, ← en, e2] at q3
            unfold clv at q3
            rw [hc] at q3
            exact q3
          · exact absurd c1 (nI_nem1 (by omega))
      refine J_iload hS dX8_told_22 rfl ?_
      refine J_iconst (v := (-1)) hS dX8_told_24 (by decide) ?_
      refine J_icmp_eq (tgt := 137) hS dX8_told_25 (by decide) (fun c1 => ?_) (fun c1 => ?_)
      · exact absurd c1 (nI_nem1 (by omega))
      ·
        refine J_iload hS dX8_told_28 rfl ?_
        refine J_bipush (v := 12) hS dX8_told_30 (by decide) ?_
        refine J_iload hS dX8_told_32 rfl ?_
        refine J_imul hS dX8_told_34 ?_
        refine J_aload_n hS dX8_told_35 rfl ?_
        refine J_getR (t := 177) hS dX8_told_36 flX8_29 ob162 rfl ?_
        refine J_iload hS dX8_told_39 rfl ?_
        refine J_ialdN hS (k) dX8_told_41 (show Ar lay NC .int 177 6 from arM 14 6 (by decide) (by decide) rfl) (by first | rfl | (simp only [n0, n1, n2, n3, n4, n5, n6, n7, n8, n9, n10, n11, n12, n13, n14, n15, n16, n17, n18, n19, n20, n24, n32, n56, n60, n64, n72, n99, n100, n128, n136, n142, n144, n200, n300, n999, n1000, n1500, n3464, nI_add, pk_mul] <;> first | rfl | (congr 1; omega))) (by omega) (by decide) ?_
        show J S 0 0 (g3) 42 [some (.ref 162), some (.int (nI wd)), some (.int v), some (.int fd), some (.int (nI k)), some (.int (nI (12 * k + n)))] [.int _, .int _, .int (nI (12 * k + n))]
        rw [h43.2.1, show (12 : Int32) * nI k = nI (12 * k) by rw [n12, pk_mul]]
        refine J_iadd hS dX8_told_42 ?_
        show J S 0 0 (g3) 43 [some (.ref 162), some (.int (nI wd)), some (.int v), some (.int fd), some (.int (nI k)), some (.int (nI (12 * k + n)))] [.int _, .int (nI (12 * k + n))]
        rw [nI_add]
        refine J_icmp_ge (tgt := 137) hS dX8_told_43 (by decide) (fun c2 => ?_) (fun c2 => ?_)
        · exact fin
        · exact absurd (nI_le (show 12 * k + L.length ≤ 12 * k + n by omega) (by omega)) c2
    | succ t ih =>
      intro n fd i g3 hn hi hfd k1 k2 hf3
      subst hi
      have hnL : n < L.length := by omega
      have h43 := h4.fr (g' := g3) (fun z z1 z2 => k1 z (by omega) (by omega))
      obtain ⟨c, hc⟩ : ∃ c, L[n]? = some c := ⟨L[n], List.getElem?_eq_getElem hnL⟩
      obtain ⟨w1, s, w2, w3, w4, w5, w6, w7, w8⟩ := h43.2.2 n c hc
      have hclh : clh L lo f wd n = (decide (c.1 = wd) && decide (nI n ≠ lo) && (decide (c.2.2 = []) || decide ((ev f c.2.2 []).getD 0 0 ≠ 0))) := by unfold clh; rw [hc]
      have hst : lawv L lo f wd (n + 1) = if clh L lo f wd n = true then clv L f n else lawv L lo f wd n := rfl
      have skip : ∀ g4 : Mm, clh L lo f wd n = false → (∀ z, z ≠ 162 → z ≠ 191 → g4 z = g z) → (∀ j, j ≠ 25 → g4 162 j = g 162 j) → AskM g4 f → J S 0 0 g4 131 [some (.ref 162), some (.int (nI wd)), some (.int v), some (.int fd), some (.int (nI k)), some (.int (nI (12 * k + n)))] [] := by
        intro g4 hno k3 k4 k5
        refine J_iinc (lt := fun i2 => [some (.ref 162), some (.int (nI wd)), some (.int v), some (.int fd), some (.int (nI k)), some (.int i2)]) (v := 1) hS dX8_told_131 rfl (by decide) (fun _ => rfl) (fun i2 ei2 => ?_)
        refine J_goto (tgt := 22) hS dX8_told_134 (by decide) ?_
        refine ih (n + 1) fd i2 g4 (by omega) (by rw [ei2, nI_1]; rfl) ?_ k3 k4 k5
        rw [hst, if_neg (by rw [hno]; decide)]
        rcases hfd with z | ⟨j, hj, z⟩
        · exact Or.inl z
        · exact Or.inr ⟨j, by omega, z⟩
      have take : ∀ g4 : Mm, clh L lo f wd n = true → (∀ z, z ≠ 162 → z ≠ 191 → g4 z = g z) → (∀ j, j ≠ 25 → g4 162 j = g 162 j) → AskM g4 f → J S 0 0 g4 128 [some (.ref 162), some (.int (nI wd)), some (.int v), some (.int fd), some (.int (nI k)), some (.int (nI (12 * k + n)))] [] := by
        intro g4 hyes k3 k4 k5
        refine J_iload hS dX8_told_128 rfl ?_
        refine J_istore_n (lt := fun f2 => [some (.ref 162), some (.int (nI wd)), some (.int v), some (.int f2), some (.int (nI k)), some (.int (nI (12 * k + n)))]) hS dX8_told_130 (Nat.le_of_ble_eq_true rfl) (fun _ => rfl) (fun f2 ef2 => ?_)
        refine J_iinc (lt := fun i2 => [some (.ref 162), some (.int (nI wd)), some (.int v), some (.int f2), some (.int (nI k)), some (.int i2)]) (v := 1) hS dX8_told_131 rfl (by decide) (fun _ => rfl) (fun i2 ei2 => ?_)
        refine J_goto (tgt := 22) hS dX8_told_134 (by decide) ?_
        refine ih (n + 1) f2 i2 g4 (by omega) (by rw [ei2, nI_1]; rfl) (Or.inr ⟨n, by omega, ef2, ?_⟩) k3 k4 k5
        rw [hst, if_pos hyes]
      refine J_iload hS dX8_told_22 rfl ?_
      refine J_iconst (v := (-1)) hS dX8_told_24 (by decide) ?_
      refine J_icmp_eq (tgt := 137) hS dX8_told_25 (by decide) (fun c1 => ?_) (fun c1 => ?_)
      · exact absurd c1 (nI_nem1 (by omega))
      ·
        refine J_iload hS dX8_told_28 rfl ?_
        refine J_bipush (v := 12) hS dX8_told_30 (by decide) ?_
        refine J_iload hS dX8_told_32 rfl ?_
        refine J_imul hS dX8_told_34 ?_
        refine J_aload_n hS dX8_told_35 rfl ?_
        refine J_getR (t := 177) hS dX8_told_36 flX8_29 ob162 rfl ?_
        refine J_iload hS dX8_told_39 rfl ?_
        refine J_ialdN hS (k) dX8_told_41 (show Ar lay NC .int 177 6 from arM 14 6 (by decide) (by decide) rfl) (by first | rfl | (simp only [n0, n1, n2, n3, n4, n5, n6, n7, n8, n9, n10, n11, n12, n13, n14, n15, n16, n17, n18, n19, n20, n24, n32, n56, n60, n64, n72, n99, n100, n128, n136, n142, n144, n200, n300, n999, n1000, n1500, n3464, nI_add, pk_mul] <;> first | rfl | (congr 1; omega))) (by omega) (by decide) ?_
        show J S 0 0 (g3) 42 [some (.ref 162), some (.int (nI wd)), some (.int v), some (.int fd), some (.int (nI k)), some (.int (nI (12 * k + n)))] [.int _, .int _, .int (nI (12 * k + n))]
        rw [h43.2.1, show (12 : Int32) * nI k = nI (12 * k) by rw [n12, pk_mul]]
        refine J_iadd hS dX8_told_42 ?_
        show J S 0 0 (g3) 43 [some (.ref 162), some (.int (nI wd)), some (.int v), some (.int fd), some (.int (nI k)), some (.int (nI (12 * k + n)))] [.int _, .int (nI (12 * k + n))]
        rw [nI_add]
        refine J_icmp_ge (tgt := 137) hS dX8_told_43 (by decide) (fun c2 => ?_) (fun c2 => ?_)
        · exact absurd c2 (nI_ge (show 12 * k + n < 12 * k + L.length by omega) (by omega))
        ·
          refine J_aload_n hS dX8_told_46 rfl ?_
          refine J_getR (t := 178) hS dX8_told_47 flX8_32 ob162 rfl ?_
          refine J_iload hS dX8_told_50 rfl ?_
          refine J_ialdN hS (12 * k + n) dX8_told_52 (show Ar lay NC .int 178 72 from arM 15 72 (by decide) (by decide) rfl) (by first | rfl | (simp only [n0, n1, n2, n3, n4, n5, n6, n7, n8, n9, n10, n11, n12, n13, n14, n15, n16, n17, n18, n19, n20, n24, n32, n56, n60, n64, n72, n99, n100, n128, n136, n142, n144, n200, n300, n999, n1000, n1500, n3464, nI_add, pk_mul] <;> first | rfl | (congr 1; omega))) (by omega) (by decide) ?_
          show J S 0 0 (g3) 53 [some (.ref 162), some (.int (nI wd)), some (.int v), some (.int fd), some (.int (nI k)), some (.int (nI (12 * k + n)))] [.int _]
          rw [w3]
          refine J_iload_n hS dX8_told_53 rfl ?_
          have hc4 := w1.1
          refine J_icmp_ne (tgt := 131) hS dX8_told_54 (by decide) (fun c3 => ?_) (fun c3 => ?_)
          · have : ¬ c.1 = wd := fun z => c3 (by rw [z])
            exact skip g3 (by rw [hclh, decide_eq_false this]; rfl) k1 k2 hf3
          · have y3 : c.1 = wd := (nI_eq (by omega) (by omega)).mp c3
            refine J_iload hS dX8_told_57 rfl ?_
            refine J_bipush (v := 12) hS dX8_told_59 (by decide) ?_
            refine J_iload hS dX8_told_61 rfl ?_
            refine J_imul hS dX8_told_63 ?_
            show J S 0 0 (g3) 64 [some (.ref 162), some (.int (nI wd)), some (.int v), some (.int fd), some (.int (nI k)), some (.int (nI (12 * k + n)))] [.int _, .int (nI (12 * k + n))]
            rw [show (12 : Int32) * nI k = nI (12 * k) by rw [n12, pk_mul]]
            refine J_isub hS dX8_told_64 ?_
            refine J_aload_n hS dX8_told_65 rfl ?_
            refine J_getI hS dX8_told_66 flX8_50 ob162 rfl ?_
            show J S 0 0 (g3) 69 [some (.ref 162), some (.int (nI wd)), some (.int v), some (.int fd), some (.int (nI k)), some (.int (nI (12 * k + n)))] [.int _, .int _]
            rw [pk_sub (by omega), show 12 * k + n - 12 * k = n by omega, k2 27 (by decide), hlo]
            refine J_icmp_ne (tgt := 75) hS dX8_told_69 (by decide) (fun c4 => ?_) (fun c4 => ?_)
            · have y4 : nI n ≠ lo := c4
              refine J_aload_n hS dX8_told_75 rfl ?_
              refine J_getR (t := 180) hS dX8_told_76 flX8_38 ob162 rfl ?_
              refine J_iload hS dX8_told_79 rfl ?_
              refine J_ialdN hS (12 * k + n) dX8_told_81 (show Ar lay NC .int 180 72 from arM 17 72 (by decide) (by decide) rfl) (by first | rfl | (simp only [n0, n1, n2, n3, n4, n5, n6, n7, n8, n9, n10, n11, n12, n13, n14, n15, n16, n17, n18, n19, n20, n24, n32, n56, n60, n64, n72, n99, n100, n128, n136, n142, n144, n200, n300, n999, n1000, n1500, n3464, nI_add, pk_mul] <;> first | rfl | (congr 1; omega))) (by omega) (by decide) ?_
              refine J_aload_n hS dX8_told_82 rfl ?_
              refine J_getR (t := 181) hS dX8_told_83 flX8_41 ob162 rfl ?_
              refine J_iload hS dX8_told_86 rfl ?_
              refine J_ialdN hS (12 * k + n) dX8_told_88 (show Ar lay NC .int 181 72 from arM 18 72 (by decide) (by decide) rfl) (by first | rfl | (simp only [n0, n1, n2, n3, n4, n5, n6, n7, n8, n9, n10, n11, n12, n13, n14, n15, n16, n17, n18, n19, n20, n24, n32, n56, n60, n64, n72, n99, n100, n128, n136, n142, n144, n200, n300, n999, n1000, n1500, n3464, nI_add, pk_mul] <;> first | rfl | (congr 1; omega))) (by omega) (by decide) ?_
              show J S 0 0 (g3) 89 [some (.ref 162), some (.int (nI wd)), some (.int v), some (.int fd), some (.int (nI k)), some (.int (nI (12 * k + n)))] [.int _, .int _]
              rw [w5, w6]
              refine J_icmp_eq (tgt := 128) hS dX8_told_89 (by decide) (fun c5 => ?_) (fun c5 => ?_)
              · have e0 : c.2.2 = [] := by
                  have := (nI_eq (by omega) (by omega)).mp c5
                  exact List.length_eq_zero_iff.mp (by omega)
                exact take g3 (by rw [hclh, decide_eq_true y3, decide_eq_true y4, decide_eq_true e0]; rfl) k1 k2 hf3
              · have e0 : ¬ c.2.2 = [] := fun z => c5 (by rw [z]; rfl)
                refine J_aload_n hS dX8_told_92 rfl ?_
                refine J_sipush (v := 300) hS dX8_told_93 (by decide) ?_
                refine J_iload hS dX8_told_96 rfl ?_
                refine J_imul hS dX8_told_98 ?_
                refine J_aload_n hS dX8_told_99 rfl ?_
                refine J_getR (t := 180) hS dX8_told_100 flX8_38 ob162 rfl ?_
                refine J_iload hS dX8_told_103 rfl ?_
                refine J_ialdN hS (12 * k + n) dX8_told_105 (show Ar lay NC .int 180 72 from arM 17 72 (by decide) (by decide) rfl) (by first | rfl | (simp only [n0, n1, n2, n3, n4, n5, n6, n7, n8, n9, n10, n11, n12, n13, n14, n15, n16, n17, n18, n19, n20, n24, n32, n56, n60, n64, n72, n99, n100, n128, n136, n142, n144, n200, n300, n999, n1000, n1500, n3464, nI_add, pk_mul] <;> first | rfl | (congr 1; omega))) (by omega) (by decide) ?_
                show J S 0 0 (g3) 106 [some (.ref 162), some (.int (nI wd)), some (.int v), some (.int fd), some (.int (nI k)), some (.int (nI (12 * k + n)))] [.int _, .int _, .ref 162]
                rw [w5, show (300 : Int32) * nI k = nI (300 * k) by rw [n300, pk_mul]]
                refine J_iadd hS dX8_told_106 ?_
                show J S 0 0 (g3) 107 [some (.ref 162), some (.int (nI wd)), some (.int v), some (.int fd), some (.int (nI k)), some (.int (nI (12 * k + n)))] [.int _, .ref 162]
                rw [nI_add]
                refine J_sipush (v := 300) hS dX8_told_107 (by decide) ?_
                refine J_iload hS dX8_told_110 rfl ?_
                refine J_imul hS dX8_told_112 ?_
                refine J_aload_n hS dX8_told_113 rfl ?_
                refine J_getR (t := 181) hS dX8_told_114 flX8_41 ob162 rfl ?_
                refine J_iload hS dX8_told_117 rfl ?_
                refine J_ialdN hS (12 * k + n) dX8_told_119 (show Ar lay NC .int 181 72 from arM 18 72 (by decide) (by decide) rfl) (by first | rfl | (simp only [n0, n1, n2, n3, n4, n5, n6, n7, n8, n9, n10, n11, n12, n13, n14, n15, n16, n17, n18, n19, n20, n24, n32, n56, n60, n64, n72, n99, n100, n128, n136, n142, n144, n200, n300, n999, n1000, n1500, n3464, nI_add, pk_mul] <;> first | rfl | (congr 1; omega))) (by omega) (by decide) ?_
                show J S 0 0 (g3) 120 [some (.ref 162), some (.int (nI wd)), some (.int v), some (.int fd), some (.int (nI k)), some (.int (nI (12 * k + n)))] [.int _, .int _, .int (nI (300 * k + (s + c.2.1.length))), .ref 162]
                rw [w6, show (300 : Int32) * nI k = nI (300 * k) by rw [n300, pk_mul]]
                refine J_iadd hS dX8_told_120 ?_
                show J S 0 0 (g3) 121 [some (.ref 162), some (.int (nI wd)), some (.int v), some (.int fd), some (.int (nI k)), some (.int (nI (12 * k + n)))] [.int _, .int (nI (300 * k + (s + c.2.1.length))), .ref 162]
                rw [nI_add, show 300 * k + (s + c.2.1.length + c.2.2.length) = 300 * k + s + c.2.1.length + c.2.2.length by omega, show 300 * k + (s + c.2.1.length) = 300 * k + s + c.2.1.length by omega]
                have hty := w1.2.2.2.2.resolve_left e0
                refine J_callV2 (X' := fun _ _ => False) hS dX8_told_121 mvX8_265 ob162 rfl (by first | decide | omega) (by decide) (Nat.le_of_ble_eq_true rfl) ⟨Nat.le_trans (by decide) hR.1, Nat.le_trans (by decide) hR.2⟩ (fun _ _ q => q.elim) (m_valueOf (by omega) (by omega) w1.2.2.1 w8 hty hf3 (fun g4 d1 => ?_))
                refine J_iconst (v := 1) hS dX8_told_124 (by decide) ?_
                have k3 : ∀ z, z ≠ 162 → z ≠ 191 → g4 z = g z := fun z z1 z2 => by rw [d1 z z2]; exact k1 z z1 z2
                have k4 : ∀ j, j ≠ 25 → g4 162 j = g 162 j := fun j hj => by rw [d1 162 (by decide)]; exact k2 j hj
                have k5 : AskM g4 f := fun j hj => by rw [d1 162 (by decide)]; exact hf3 j hj
                have v01 : (ev f c.2.2 []).getD 0 0 = 0 ∨ (ev f c.2.2 []).getD 0 0 = 1 := by
                  have tt := ev_ty (f := f) (st := []) hty trivial
                  match hev : ev f c.2.2 [], tt with
                  | [x], tt => exact tt.1 rfl
                refine J_icmp_ne (tgt := 131) hS dX8_told_125 (by decide) (fun c6 => ?_) (fun c6 => ?_)
                · exact skip g4 (by rw [hclh, decide_eq_true y3, decide_eq_true y4, decide_eq_false e0, decide_eq_false (fun z => z (v01.resolve_right c6))]; rfl) k3 k4 k5
                · exact take g4 (by rw [hclh, decide_eq_true y3, decide_eq_true y4, decide_eq_true (show (ev f c.2.2 []).getD 0 0 ≠ 0 by rw [c6]; decide)]; simp) k3 k4 k5
            ·
              refine J_goto (tgt := 131) hS dX8_told_72 (by decide) ?_
              exact skip g3 (by rw [hclh, decide_eq_true y3, decide_eq_false (fun z => z c4)]; rfl) k1 k2 hf3
theorem m_asks {c : Nat} {rt sh : Int32} (hr1 : Rw r) (hw : g 162 3 = nI r) (hrow : RowM g r w b) (hc : c < 24) (q : ∀ g', (∀ z, z ≠ 162 → g' z = g z) → (∀ j, (j < 21 ∨ 26 < j) → g' 162 j = g 162 j) → (∀ v j, j < 6 → j ≠ 4 → g' 162 (21 + j) = fac w c rt sh v j) → Q none g') : Ct l E lay NC 1 0 0 yX8_asks [.ref 162, .int (nI c), .int rt, .int sh] g Q X := by
  have hr2 : r = 164 ∨ r = 165 := hr1
  refine Ct_in k_yX8_asks (by decide) rfl (Nat.le_of_ble_eq_true rfl) rfl ?_
  intro S hS hZ hr ht hR
  show J S 0 0 (g) 0 [some (.ref 162), some (.int (nI c)), some (.int rt), some (.int sh), none] []
  refine J_iload_n hS dX8_asks_0 rfl ?_
  refine J_callS1 (X' := fun _ _ => False) hS dX8_asks_1 msX8_121 rfl (by first | decide | omega) (by decide) (Nat.le_of_ble_eq_true rfl) ⟨Nat.le_trans (by decide) hR.1, Nat.le_trans (by decide) hR.2⟩ (fun _ _ q => q.elim) (m_at ?_)
  refine J_istore (lt := fun x4 => [some (.ref 162), some (.int (nI c)), some (.int rt), some (.int sh), some (.int x4)]) hS dX8_asks_4 (Nat.le_of_ble_eq_true rfl) (fun _ => rfl) (fun x4 ex4 => ?_)
  rw [show x4 = nI (56 + 142 * c) from ex4]
  refine J_aload_n hS dX8_asks_6 rfl ?_
  refine J_aload_n hS dX8_asks_7 rfl ?_
  refine J_getD (v := .ref r) hS dX8_asks_8 flX8_20 ob162 rfl (wI hr1 hw) ?_
  refine J_iconst (v := 2) hS dX8_asks_11 (by decide) ?_
  refine J_ialdN hS (2) dX8_asks_12 hr1.ar (by first | rfl | (simp only [n0, n1, n2, n3, n4, n5, n6, n7, n8, n9, n10, n11, n12, n13, n14, n15, n16, n17, n18, n19, n20, n24, n32, n56, n60, n64, n72, n99, n100, n128, n136, n142, n144, n200, n300, n999, n1000, n1500, n3464, nI_add, pk_mul] <;> first | rfl | (congr 1; omega))) (by decide) (by decide) ?_
  refine J_aload_n hS dX8_asks_13 rfl ?_
  refine J_getD (v := .ref r) hS dX8_asks_14 flX8_20 ob162 rfl (wI hr1 hw) ?_
  refine J_iload hS dX8_asks_17 rfl ?_
  refine J_iconst (v := 2) hS dX8_asks_19 (by decide) ?_
  refine J_iadd hS dX8_asks_20 ?_
  refine J_ialdN hS (56 + 142 * c + 2) dX8_asks_21 hr1.ar (by first | rfl | (simp only [n0, n1, n2, n3, n4, n5, n6, n7, n8, n9, n10, n11, n12, n13, n14, n15, n16, n17, n18, n19, n20, n24, n32, n56, n60, n64, n72, n99, n100, n128, n136, n142, n144, n200, n300, n999, n1000, n1500, n3464, nI_add, pk_mul] <;> first | rfl | (congr 1; omega))) (by omega) (by decide) ?_
  refine J_isub hS dX8_asks_22 ?_
  refine J_putI hS dX8_asks_23 fpX8_243 ob162 rfl (fun g23 eg23 => ?_)
  have w23 : g23 162 3 = nI r := by rw [eg23]; exact hw
  have r23 : g23 r = g r := by rw [eg23, u2_ne _ (by omega)]
  refine J_aload_n hS dX8_asks_26 rfl ?_
  refine J_aload_n hS dX8_asks_27 rfl ?_
  refine J_getI hS dX8_asks_28 flX8_243 ob162 rfl ?_
  refine J_aload_n hS dX8_asks_31 rfl ?_
  refine J_getD (v := .ref r) hS dX8_asks_32 flX8_20 ob162 rfl (wI hr1 w23) ?_
  refine J_iload hS dX8_asks_35 rfl ?_
  refine J_iconst (v := 1) hS dX8_asks_37 (by decide) ?_
  refine J_iadd hS dX8_asks_38 ?_
  refine J_ialdN hS (56 + 142 * c + 1) dX8_asks_39 hr1.ar (by first | rfl | (simp only [n0, n1, n2, n3, n4, n5, n6, n7, n8, n9, n10, n11, n12, n13, n14, n15, n16, n17, n18, n19, n20, n24, n32, n56, n60, n64, n72, n99, n100, n128, n136, n142, n144, n200, n300, n999, n1000, n1500, n3464, nI_add, pk_mul] <;> first | rfl | (congr 1; omega))) (by omega) (by decide) ?_
  refine J_iadd hS dX8_asks_40 ?_
  refine J_putI hS dX8_asks_41 fpX8_240 ob162 rfl (fun g41 eg41 => ?_)
  refine J_aload_n hS dX8_asks_44 rfl ?_
  refine J_iload_n hS dX8_asks_45 rfl ?_
  refine J_putI hS dX8_asks_46 fpX8_246 ob162 rfl (fun g46 eg46 => ?_)
  refine J_aload_n hS dX8_asks_49 rfl ?_
  refine J_iload_n hS dX8_asks_50 rfl ?_
  refine J_putI hS dX8_asks_51 fpX8_249 ob162 rfl (fun g51 eg51 => ?_)
  have w51 : g51 162 3 = nI r := by rw [eg51, eg46, eg41]; exact w23
  have r51 : g51 r = g r := by rw [eg51, u2_ne _ (by omega), eg46, u2_ne _ (by omega), eg41, u2_ne _ (by omega)]; exact r23
  refine J_aload_n hS dX8_asks_54 rfl ?_
  refine J_aload_n hS dX8_asks_55 rfl ?_
  refine J_getD (v := .ref r) hS dX8_asks_56 flX8_20 ob162 rfl (wI hr1 w51) ?_
  refine J_iload hS dX8_asks_59 rfl ?_
  refine J_iconst (v := 5) hS dX8_asks_61 (by decide) ?_
  refine J_iadd hS dX8_asks_62 ?_
  refine J_ialdN hS (56 + 142 * c + 5) dX8_asks_63 hr1.ar (by first | rfl | (simp only [n0, n1, n2, n3, n4, n5, n6, n7, n8, n9, n10, n11, n12, n13, n14, n15, n16, n17, n18, n19, n20, n24, n32, n56, n60, n64, n72, n99, n100, n128, n136, n142, n144, n200, n300, n999, n1000, n1500, n3464, nI_add, pk_mul] <;> first | rfl | (congr 1; omega))) (by omega) (by decide) ?_
  refine J_putI hS dX8_asks_64 fpX8_255 ob162 rfl (fun g64 eg64 => ?_)
  refine J_vret hS hZ hr dX8_asks_67 (by omega) (by omega) ?_
  have a2 : g r 2 = w 2 := hrow.at (by decide) (Mk_lo (by decide) (by decide))
  have c2 : g r (56 + 142 * c + 2) = w (56 + 142 * c + 2) := hrow.at (by omega) (Mk_blk (by decide) (by decide))
  have c1 : g r (56 + 142 * c + 1) = w (56 + 142 * c + 1) := hrow.at (by omega) (Mk_blk (by decide) (by decide))
  have c5 : g r (56 + 142 * c + 5) = w (56 + 142 * c + 5) := hrow.at (by omega) (Mk_blk (by decide) (by decide))
  refine q g64 (fun z hz => ?_) (fun j hj => ?_) (fun v j hj h4 => ?_)
  · rw [eg64, u2_ne z hz, eg51, u2_ne z hz, eg46, u2_ne z hz, eg41, u2_ne z hz, eg23, u2_ne z hz]
  · rw [eg64, eg51, eg46, eg41, eg23]
    unfold u2
    rw [if_neg (by omega), if_neg (by omega), if_neg (by omega), if_neg (by omega), if_neg (by omega)]
  · have e23 : g23 162 22 = w 2 - w (56 + 142 * c + 2) := by rw [eg23, u2_self, a2, c2]
    rcases (show j = 0 ∨ j = 1 ∨ j = 2 ∨ j = 3 ∨ j = 5 by omega) with e | e | e | e | e
    · subst e
      rw [eg64]; show u2 g51 162 26 _ 162 21 = _; unfold u2; rw [if_neg (by decide), eg51]; unfold u2; rw [if_neg (by decide), eg46]; unfold u2; rw [if_neg (by decide), eg41]; unfold u2
      rw [if_pos ⟨rfl, rfl⟩, e23, r23, c1]
      show _ = w (56 + 142 * c + 1) + (w 2 - w (56 + 142 * c + 2))
      exact Int32.add_comm _ _
    · subst e
      rw [eg64]; show u2 g51 162 26 _ 162 22 = _; unfold u2; rw [if_neg (by decide), eg51]; unfold u2; rw [if_neg (by decide), eg46]; unfold u2; rw [if_neg (by decide), eg41]; unfold u2
      rw [if_neg (by decide), e23]; rfl
    · subst e
      rw [eg64]; show u2 g51 162 26 _ 162 23 = _; unfold u2; rw [if_neg (by decide), eg51]; unfold u2; rw [if_neg (by decide), eg46]; unfold u2; rw [if_pos ⟨rfl, rfl⟩]; rfl
    · subst e
      rw [eg64]; show u2 g51 162 26 _ 162 24 = _; unfold u2; rw [if_neg (by decide), eg51]; unfold u2; rw [if_pos ⟨rfl, rfl⟩]; rfl
    · subst e
      rw [eg64]; show u2 g51 162 26 _ 162 26 = _; unfold u2; rw [if_pos ⟨rfl, rfl⟩, r51, c5]; rfl
theorem m_holdsNow {c o : Nat} {lo : Int32} {lw : Option (List Cls)} (hr1 : Rw r) (hw : g 162 3 = nI r) (hrow : RowM g r w b) (hc : c < 24) (ho : o < 6) (hlo : g 162 27 = lo) (hRl : RuleM g r lw) (q : ∀ (g' : Mm) (x : Int32), (∀ z, z ≠ 162 → z ≠ 191 → g' z = g z) → (∀ j, (j < 21 ∨ 26 < j) → g' 162 j = g 162 j) → (x = 0 ∨ x = 1) → (x = 1 ↔ hldB lw lo w c o = true) → Q (some (.int x)) g') : Ct l E lay NC 3 0 0 yX8_holdsNow [.ref 162, .int (nI c), .int (nI o)] g Q X := by
  have hr2 : r = 164 ∨ r = 165 := hr1
  have hB : odB c + 6 ≤ 3464 := by unfold odB; omega
  refine Ct_in k_yX8_holdsNow (by decide) rfl (Nat.le_of_ble_eq_true rfl) rfl ?_
  intro S hS hZ hr ht hR
  show J S 0 0 (g) 0 [some (.ref 162), some (.int (nI c)), some (.int (nI o)), none] []
  refine J_aload_n hS dX8_holdsNow_0 rfl ?_
  refine J_iload_n hS dX8_holdsNow_1 rfl ?_
  refine J_iconst (v := 0) hS dX8_holdsNow_2 (by decide) ?_
  refine J_iconst (v := 0) hS dX8_holdsNow_3 (by decide) ?_
  refine J_callV3 (X' := fun _ _ => False) hS dX8_holdsNow_4 mvX8_272 ob162 rfl (by first | decide | omega) (by decide) (Nat.le_of_ble_eq_true rfl) ⟨Nat.le_trans (by decide) hR.1, Nat.le_trans (by decide) hR.2⟩ (fun _ _ q => q.elim) (m_asks (rt := 0) (sh := 0) hr1 hw hrow hc (fun g1 b1 b2 b3 => ?_))
  have w1 : g1 162 3 = nI r := by rw [b2 3 (by decide)]; exact hw
  have row1 := hrow.fr (b1 r (by omega))
  refine J_aload_n hS dX8_holdsNow_7 rfl ?_
  refine J_getD (v := .ref r) hS dX8_holdsNow_8 flX8_20 ob162 rfl (wI hr1 w1) ?_
  refine J_iload_n hS dX8_holdsNow_11 rfl ?_
  refine J_callS1 (X' := fun _ _ => False) hS dX8_holdsNow_12 msX8_121 rfl (by first | decide | omega) (by decide) (Nat.le_of_ble_eq_true rfl) ⟨Nat.le_trans (by decide) hR.1, Nat.le_trans (by decide) hR.2⟩ (fun _ _ q => q.elim) (m_at ?_)
  refine J_sipush (v := 136) hS dX8_holdsNow_15 (by decide) ?_
  refine J_iadd hS dX8_holdsNow_18 ?_
  refine J_iload_n hS dX8_holdsNow_19 rfl ?_
  refine J_iadd hS dX8_holdsNow_20 ?_
  refine J_ialdN hS (odB c + o) dX8_holdsNow_21 hr1.ar (by rw [n136, nI_add, nI_add]; rfl) (by omega) (by decide) ?_
  show J S 0 0 (g1) 22 [some (.ref 162), some (.int (nI c)), some (.int (nI o)), none] [.int _]
  rw [row1.at (i := odB c + o) (by omega) (Mk_od ho)]
  refine J_istore_n (lt := fun x3 => [some (.ref 162), some (.int (nI c)), some (.int (nI o)), some (.int x3)]) hS dX8_holdsNow_22 (Nat.le_of_ble_eq_true rfl) (fun _ => rfl) (fun x3 ex3 => ?_)
  rw [show x3 = w (odB c + o) from ex3]
  refine J_iload_n hS dX8_holdsNow_23 rfl ?_
  refine J_aload_n hS dX8_holdsNow_24 rfl ?_
  refine J_iconst (v := 3) hS dX8_holdsNow_25 (by decide) ?_
  refine J_iload_n hS dX8_holdsNow_26 rfl ?_
  refine J_callV2 (X' := fun _ _ => False) hS dX8_holdsNow_27 mvX8_276 ob162 rfl (by first | decide | omega) (by decide) (Nat.le_of_ble_eq_true rfl) ⟨Nat.le_trans (by decide) hR.1, Nat.le_trans (by decide) hR.2⟩ (fun _ _ q => q.elim) (m_told (wd := 3) (lo := lo) (f := fac w c 0 0 (w (odB c + o))) hr1 w1 (by decide) ((b2 27 (by decide)).trans hlo) (hRl.fr (by rw [b1 r (by omega)]) (fun z z1 z2 => b1 z (by omega))) (fun j h1 h2 => b3 _ j h1 h2) rfl (fun g2 d1 d2 => ?_))
  have fr1 : ∀ z, z ≠ 162 → z ≠ 191 → g2 z = g z := fun z z1 z2 => by rw [d1 z z1 z2]; exact b1 z z1
  have fr2 : ∀ j, (j < 21 ∨ 26 < j) → g2 162 j = g 162 j := fun j hj => by rw [d2 j (by omega)]; exact b2 j hj
  have hh : hldB lw lo w c o = decide (rval lw lo (fac w c 0 0 (w (odB c + o))) 3 ≤ w (odB c + o)) := rfl
  refine J_icmp_lt (tgt := 37) hS dX8_holdsNow_30 (by decide) (fun c1 => ?_) (fun c1 => ?_)
  ·
    refine J_iconst (v := 0) hS dX8_holdsNow_37 (by decide) ?_
    refine J_zret hS hZ hr dX8_holdsNow_38 (by decide) (by omega) (by omega) ?_
    refine q g2 0 fr1 fr2 (Or.inl rfl) ⟨fun z => absurd z (by decide), fun z => ?_⟩
    rw [hh] at z
    exact absurd c1 (Int32.not_lt.mpr (of_decide_eq_true z))
  ·
    refine J_iconst (v := 1) hS dX8_holdsNow_33 (by decide) ?_
    refine J_goto (tgt := 38) hS dX8_holdsNow_34 (by decide) ?_
    refine J_zret hS hZ hr dX8_holdsNow_38 (by decide) (by omega) (by omega) ?_
    exact q g2 1 fr1 fr2 (Or.inr rfl) ⟨fun _ => by rw [hh]; exact decide_eq_true (Int32.not_lt.mp c1), fun _ => rfl⟩
end RefT


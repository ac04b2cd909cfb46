/-! THE CLASS: Ruling -/
def LawC (g : Mm) (h : Nat) (L : List Cls) : Prop := L.length ≤ 12 ∧ g h 0 = nI L.length ∧ ∀ (k : Nat) (c : Cls), L[k]? = some c → clsOk c ∧ ∃ s : Nat, s + c.2.1.length + c.2.2.length ≤ 300 ∧ g (h + 1) k = nI c.1 ∧ g (h + 2) k = nI s ∧ g (h + 3) k = nI (s + c.2.1.length) ∧ g (h + 4) k = nI (s + c.2.1.length + c.2.2.length) ∧ Cod g h s c.2.1 ∧ Cod g h (s + c.2.1.length) c.2.2
theorem LawC.fr {g g' : Mm} {h : Nat} {L : List Cls} (hl : LawC g h L) (e : ∀ a, h ≤ a → a ≤ h + 5 → g' a = g a) : LawC g' h L := by
  refine ⟨hl.1, by rw [e h (by omega) (by omega)]; exact hl.2.1, fun k c hk => ?_⟩
  obtain ⟨h1, s, h2, h3, h4, h5, h6, h7, h8⟩ := hl.2.2 k c hk
  refine ⟨h1, s, h2, ?_, ?_, ?_, ?_, ?_, ?_⟩
  · rw [e (h + 1) (by omega) (by omega)]; exact h3
  · rw [e (h + 2) (by omega) (by omega)]; exact h4
  · rw [e (h + 3) (by omega) (by omega)]; exact h5
  · rw [e (h + 4) (by omega) (by omega)]; exact h6
  · intro j t hj; rw [e (h + 5) (by omega) (by omega)]; exact h7 j t hj
  · intro j t hj; rw [e (h + 5) (by omega) (by omega)]; exact h8 j t hj
/-- the law that is asked -/
def RuleC (g : Mm) (lw : Option (List Cls)) : Prop := (lw = none ∧ g 152 2 = 0) ∨ ∃ (h : Nat) (L : List Cls), lw = some L ∧ Lw h ∧ g 152 2 = nI h ∧ LawC g h L
theorem RuleC.fr {g g' : Mm} {lw : Option (List Cls)} (hl : RuleC g lw) (e : ∀ a, (107 ≤ a ∧ a < 143) ∨ a = 152 → g' a = g a) : RuleC g' lw := by
  rcases hl with ⟨h1, h2⟩ | ⟨h, L, h1, h2, h3, h4⟩
  · exact Or.inl ⟨h1, by rw [e 152 (Or.inr rfl)]; exact h2⟩
  · refine Or.inr ⟨h, L, h1, h2, by rw [e 152 (Or.inr rfl)]; exact h3, h4.fr (fun a ha hb => e a (Or.inl ?_))⟩
    obtain ⟨i, hi, e1⟩ := h2; omega
def rval (lw : Option (List Cls)) (lo : Int32) (f : Nat → Int32) (word : Nat) : Int32 := match lw with
  | none => zWI word
  | some L => lawOf L lo f word
theorem ab2_ref {h : Nat} (h0 : 0 < h) (hh : h < 2 ^ 31) : ab 2 (nI h) = .ref h := by
  show (if nI h = 0 then Value.null else .ref (nI h).toNatClampNeg) = .ref h
  rw [if_neg (nI_ne0 h0 hh), nI_clamp hh]
section ClsF
variable {l : Launch} {E : Ey} {g : Mm} {Q : Option Value → Mm → Prop} {X : String → Mm → Prop} {h : Nat}
set_option maxRecDepth 10000 in
set_option maxHeartbeats 4000000 in
theorem c_valueOf {w : Nat} {v : Int32} {lw : Option (List Cls)} (hw : w < 4) (hR0 : RuleC g lw) (q : ∀ g', (∀ z, z ≠ 153 → z ≠ 154 → g' z = g z) → g' 153 = upd (g 153) 4 v → Q (some (.int (rval lw (g 152 3) (upd (g 153) 4 v) w))) g') : Ct l E lay NC 2 0 0 yX4_valueOf [.ref 152, .int (nI w), .int v] g Q X := by
  refine Ct_in k_yX4_valueOf (by decide) rfl (Nat.le_of_ble_eq_true rfl) rfl ?_
  intro S hS hZ hr ht hR
  show J S 0 0 g 0 [some (.ref 152), some (.int (nI w)), some (.int v), none, none, none] []
  refine J_aload_n hS dX4_valueOf_0 rfl ?_
  refine J_getR (t := 153) hS dX4_valueOf_1 flX4_11 ob152 rfl ?_
  refine J_iconst (v := 4) hS dX4_valueOf_4 (by decide) ?_
  refine J_iload_n hS dX4_valueOf_5 rfl ?_
  refine J_iastN hS (4) dX4_valueOf_6 ar153 (by first | rfl | (simp only [n0, n1, n2, n3, n4, n5, n6, n7, n8, n9, n10, n11, n12, n13, n14, n15, n16, n17, n18, n19, n20, n24, n32, n56, n60, n64, n72, n99, n100, n128, n136, n142, n144, n200, n300, n999, n1000, n1500, n3464, nI_add, pk_mul] <;> first | rfl | (congr 1; omega))) (by omega) (by decide) (fun g6 eg6 => ?_)
  have f6 : ∀ z, z ≠ 153 → g6 z = g z := fun z hz => by rw [eg6, u2_ne z hz]
  have r6 : g6 153 = upd (g 153) 4 v := by rw [eg6, u2_row]
  have fin : ∀ (ls : List (Option Value)) (g2 : Mm), 6 = ls.length → ls[1]? = some (some (.int (nI w))) → (∀ z, z ≠ 153 → z ≠ 154 → g2 z = g z) → g2 153 = upd (g 153) 4 v → rval lw (g 152 3) (upd (g 153) 4 v) w = zWI w → J S 0 0 g2 136 ls [] := by
    intro ls g2 hlen hl1 h1 h2 h3
    refine J_gets hS dX4_valueOf_136 stX4_77 ro_WITHOUT ?_
    refine J_iload_n hS dX4_valueOf_139 hl1 ?_
    refine J_taldN hS w dX4_valueOf_140 ro_WITHOUTt rfl hw (by decide) ?_
    refine J_iret hS hZ hr dX4_valueOf_141 (by omega) (by omega) ?_
    rw [← h3]; exact q g2 h1 h2
  rcases hR0 with ⟨h1, h2⟩ | ⟨h, L, h1, h2, h3, h4⟩
  ·
    refine J_aload_n hS dX4_valueOf_7 rfl ?_
    refine J_getD (v := .null) hS dX4_valueOf_8 flX4_20 ob152 rfl (by rw [f6 152 (by decide), h2]; rfl) ?_
    refine J_ifnullN (tgt := 136) hS dX4_valueOf_11 (by decide) ?_
    exact fin _ g6 rfl rfl (fun z hz _ => f6 z hz) r6 (by rw [h1]; rfl)
  · have hh : 0 < h ∧ h + 5 < 143 := by obtain ⟨i, hi, e⟩ := h2; omega
    have hrv : ∀ g2 : Mm, g2 152 = g 152 → ab 2 (g2 152 2) = .ref h := fun g2 e => by rw [e, h3]; exact ab2_ref hh.1 (by omega)
    have hL := h2
    have h46 : LawC g6 h L := h4.fr (fun a ha hb => f6 a (by omega))
    refine J_aload_n hS dX4_valueOf_7 rfl ?_
    refine J_getD (v := .ref h) hS dX4_valueOf_8 flX4_20 ob152 rfl (hrv g6 (f6 152 (by decide))) ?_
    refine J_ifnull hS dX4_valueOf_11 ?_
    refine J_aload_n hS dX4_valueOf_14 rfl ?_
    refine J_getD (v := .ref h) hS dX4_valueOf_15 flX4_20 ob152 rfl (hrv g6 (f6 152 (by decide))) ?_
    refine J_getI hS dX4_valueOf_18 flX4_55 hL.ob rfl ?_
    refine J_iconst (v := 1) hS dX4_valueOf_21 (by decide) ?_
    refine J_isub hS dX4_valueOf_22 ?_
    refine J_istore_n (lt := fun i1 => [some (.ref 152), some (.int (nI w)), some (.int v), some (.int i1), none, none]) hS dX4_valueOf_23 (Nat.le_of_ble_eq_true rfl) (fun _ => rfl) (fun i1 ei1 => ?_)
    suffices H : ∀ (k : Nat) (i : Int32) (g2 : Mm), k ≤ L.length → i = nI k - 1 → (∀ z, z ≠ 153 → z ≠ 154 → g2 z = g z) → g2 153 = upd (g 153) 4 v → rval lw (g 152 3) (upd (g 153) 4 v) w = lawv L (g 152 3) (upd (g 153) 4 v) w k → J S 0 0 g2 24 [some (.ref 152), some (.int (nI w)), some (.int v), some (.int i), none, none] [] by
      exact H L.length i1 g6 (Nat.le_refl _) (by rw [ei1, h46.2.1]) (fun z hz _ => f6 z hz) r6 (by rw [h1]; rfl)
    intro k
    induction k with
    | zero =>
      intro i g2 hk hi f2 r2 hv
      refine J_iload_n hS dX4_valueOf_24 rfl ?_
      refine J_if_lt (tgt := 136) hS dX4_valueOf_25 (by decide) (fun c1 => ?_) (fun c1 => ?_)
      · exact fin _ g2 rfl rfl f2 r2 hv
      · exact absurd (by rw [hi]; decide) c1
    | succ k ih =>
      intro i g2 hk hi f2 r2 hv
      rw [show nI (k + 1) - 1 = nI k from nI_pred k] at hi
      subst hi
      have hl12 := h4.1
      have hlw : LawC g2 h L := h4.fr (fun a ha hb => f2 a (by omega) (by omega))
      obtain ⟨c, hkl⟩ : ∃ c : Cls, L[k]? = some c := ⟨_, List.getElem?_eq_getElem (by omega)⟩
      obtain ⟨cok, s, q1, q2, q3, q4, q5, q6, q7⟩ := hlw.2.2 k c hkl
      have skip : ∀ (ls : List (Option Value)) (g3 : Mm), lf ls [some (.ref 152), some (.int (nI w)), some (.int v), some (.int (nI k)), none, none] → (∀ z, z ≠ 153 → z ≠ 154 → g3 z = g z) → g3 153 = upd (g 153) 4 v → clh L (g 152 3) (upd (g 153) 4 v) w k = false → J S 0 0 g3 130 ls [] := by
        intro ls g3 hlf f3 r3 hno
        refine J_weak hlf ?_
        refine J_iinc (lt := fun i2 => [some (.ref 152), some (.int (nI w)), some (.int v), some (.int i2), none, none]) (v := (-1)) hS dX4_valueOf_130 rfl (by decide) (fun _ => rfl) (fun i2 ei2 => ?_)
        refine J_goto (tgt := 24) hS dX4_valueOf_133 (by decide) ?_
        refine ih i2 g3 (by omega) (by rw [ei2]; exact (Int32.sub_eq_add_neg _ _).symm) f3 r3 ?_
        rw [hv]; simp [lawv, hno]
      have take : ∀ (ls : List (Option Value)) (g3 : Mm), 6 = ls.length → ls[0]? = some (some (.ref 152)) → ls[3]? = some (some (.int (nI k))) → ls[4]? = some (some (.int (nI (s + c.2.1.length)))) → (∀ z, z ≠ 153 → z ≠ 154 → g3 z = g z) → g3 153 = upd (g 153) 4 v → clh L (g 152 3) (upd (g 153) 4 v) w k = true → J S 0 0 g3 100 ls [] := by
        intro ls g3 hlen l0 l3 l4 f3 r3 hyes
        have hl3 : LawC g3 h L := h4.fr (fun a ha hb => f3 a (by omega) (by omega))
        have e9 : g3 (h + 2) k = nI s := by rw [f3 _ (by omega) (by omega), ← f2 _ (by omega) (by omega)]; exact q3
        have cd9 : Cod g3 h s c.2.1 := by intro j t hj; rw [f3 _ (by omega) (by omega), ← f2 _ (by omega) (by omega)]; exact q6 j t hj
        refine J_aload_n hS dX4_valueOf_100 l0 ?_
        refine J_getD (v := .ref h) hS dX4_valueOf_101 flX4_20 ob152 rfl (hrv g3 (f3 152 (by decide) (by decide))) ?_
        refine J_aload_n hS dX4_valueOf_104 l0 ?_
        refine J_getD (v := .ref h) hS dX4_valueOf_105 flX4_20 ob152 rfl (hrv g3 (f3 152 (by decide) (by decide))) ?_
        refine J_getR (t := h + 2) hS dX4_valueOf_108 flX4_71 hL.ob rfl ?_
        refine J_iload_n hS dX4_valueOf_111 l3 ?_
        refine J_ialdN hS k dX4_valueOf_112 (show Ar lay NC .int (h + 2) 12 from hL.ar 2 (by decide) (by decide)) rfl (by omega) (by decide) ?_
        rw [e9]
        refine J_iload hS dX4_valueOf_113 l4 ?_
        refine J_aload_n hS dX4_valueOf_115 l0 ?_
        refine J_getR (t := 153) hS dX4_valueOf_116 flX4_11 ob152 rfl ?_
        refine J_aload_n hS dX4_valueOf_119 l0 ?_
        refine J_getR (t := 154) hS dX4_valueOf_120 flX4_17 ob152 rfl ?_
        refine J_callV4 (X' := fun _ _ => False) hS dX4_valueOf_123 mvX4_67 hL.ob hlen (by decide) (by decide) (Nat.le_of_ble_eq_true rfl) hR (fun _ _ q => q.elim) (c_work hL (by omega) cok.2.1 cd9 cok.2.2.2.1 (fun g4 f4 => ?_))
        refine J_callN1 hS dX4_valueOf_126 mnX4_74 hlen (by decide) (by decide) (Nat.le_of_ble_eq_true rfl) hR (c_keepInBounds ?_)
        refine J_iret hS hZ hr dX4_valueOf_129 (by omega) (by omega) ?_
        have e10 : rval lw (g 152 3) (upd (g 153) 4 v) w = kb ((ev (g3 153) c.2.1 []).getD 0 0) := by
          rw [hv]; simp [lawv, hyes, clv, hkl, r3]
        have e11 := q g4 (fun z hz hz' => by rw [f4 z hz']; exact f3 z hz hz') (by rw [f4 153 (by decide)]; exact r3)
        rw [e10] at e11
        exact e11
      refine J_iload_n hS dX4_valueOf_24 rfl ?_
      refine J_if_lt (tgt := 136) hS dX4_valueOf_25 (by decide) (fun c1 => ?_) (fun c1 => ?_)
      · exact absurd c1 (nI_pos (by omega))
      ·
        refine J_aload_n hS dX4_valueOf_28 rfl ?_
        refine J_getD (v := .ref h) hS dX4_valueOf_29 flX4_20 ob152 rfl (hrv g2 (f2 152 (by decide) (by decide))) ?_
        refine J_getR (t := h + 3) hS dX4_valueOf_32 flX4_58 hL.ob rfl ?_
        refine J_iload_n hS dX4_valueOf_35 rfl ?_
        refine J_ialdN hS (k) dX4_valueOf_36 (show Ar lay NC .int (h + 3) 12 from hL.ar 3 (by decide) (by decide)) (by first | rfl | (simp only [n0, n1, n2, n3, n4, n5, n6, n7, n8, n9, n10, n11, n12, n13, n14, n15, n16, n17, n18, n19, n20, n24, n32, n56, n60, n64, n72, n99, n100, n128, n136, n142, n144, n200, n300, n999, n1000, n1500, n3464, nI_add, pk_mul] <;> first | rfl | (congr 1; omega))) (by omega) (by decide) ?_
        refine J_istore (lt := fun md => [some (.ref 152), some (.int (nI w)), some (.int v), some (.int (nI k)), some (.int md), none]) hS dX4_valueOf_37 (Nat.le_of_ble_eq_true rfl) (fun _ => rfl) (fun md emd => ?_)
        rw [q4] at emd
        subst emd
        refine J_aload_n hS dX4_valueOf_39 rfl ?_
        refine J_getD (v := .ref h) hS dX4_valueOf_40 flX4_20 ob152 rfl (hrv g2 (f2 152 (by decide) (by decide))) ?_
        refine J_getR (t := h + 4) hS dX4_valueOf_43 flX4_61 hL.ob rfl ?_
        refine J_iload_n hS dX4_valueOf_46 rfl ?_
        refine J_ialdN hS (k) dX4_valueOf_47 (show Ar lay NC .int (h + 4) 12 from hL.ar 4 (by decide) (by decide)) (by first | rfl | (simp only [n0, n1, n2, n3, n4, n5, n6, n7, n8, n9, n10, n11, n12, n13, n14, n15, n16, n17, n18, n19, n20, n24, n32, n56, n60, n64, n72, n99, n100, n128, n136, n142, n144, n200, n300, n999, n1000, n1500, n3464, nI_add, pk_mul] <;> first | rfl | (congr 1; omega))) (by omega) (by decide) ?_
        refine J_istore (lt := fun en => [some (.ref 152), some (.int (nI w)), some (.int v), some (.int (nI k)), some (.int (nI (s + c.2.1.length))), some (.int en)]) hS dX4_valueOf_48 (Nat.le_of_ble_eq_true rfl) (fun _ => rfl) (fun en een => ?_)
        rw [q5] at een
        subst een
        refine J_aload_n hS dX4_valueOf_50 rfl ?_
        refine J_getD (v := .ref h) hS dX4_valueOf_51 flX4_20 ob152 rfl (hrv g2 (f2 152 (by decide) (by decide))) ?_
        refine J_getR (t := h + 1) hS dX4_valueOf_54 flX4_64 hL.ob rfl ?_
        refine J_iload_n hS dX4_valueOf_57 rfl ?_
        refine J_ialdN hS (k) dX4_valueOf_58 (show Ar lay NC .int (h + 1) 12 from hL.ar 1 (by decide) (by decide)) (by first | rfl | (simp only [n0, n1, n2, n3, n4, n5, n6, n7, n8, n9, n10, n11, n12, n13, n14, n15, n16, n17, n18, n19, n20, n24, n32, n56, n60, n64, n72, n99, n100, n128, n136, n142, n144, n200, n300, n999, n1000, n1500, n3464, nI_add, pk_mul] <;> first | rfl | (congr 1; omega))) (by omega) (by decide) ?_
        refine J_iload_n hS dX4_valueOf_59 rfl ?_
        show J S 0 0 g2 60 [some (.ref 152), some (.int (nI w)), some (.int v), some (.int (nI k)), some (.int (nI (s + c.2.1.length))), some (.int (nI (s + c.2.1.length + c.2.2.length)))] [.int (nI w), .int _]
        rw [q2]
        refine J_icmp_ne (tgt := 130) hS dX4_valueOf_60 (by decide) (fun c2 => ?_) (fun c2 => ?_)
        · refine skip _ g2 ⟨Or.inr rfl, Or.inr rfl, Or.inr rfl, Or.inr rfl, Or.inl rfl, Or.inl rfl, trivial⟩ f2 r2 ?_
          have : ¬ c.1 = w := fun z => c2 (by rw [z])
          simp [clh, hkl, this]
        · have hcw : c.1 = w := (nI_eq (by have := cok.1; omega) (by omega)).mp c2
          refine J_iload_n hS dX4_valueOf_63 rfl ?_
          refine J_aload_n hS dX4_valueOf_64 rfl ?_
          refine J_getI hS dX4_valueOf_65 flX4_24 ob152 rfl ?_
          refine J_icmp_eq (tgt := 130) hS dX4_valueOf_68 (by decide) (fun c3 => ?_) (fun c3 => ?_)
          · refine skip _ g2 ⟨Or.inr rfl, Or.inr rfl, Or.inr rfl, Or.inr rfl, Or.inl rfl, Or.inl rfl, trivial⟩ f2 r2 ?_
            rw [f2 152 (by decide) (by decide)] at c3
            simp [clh, hkl, c3]
          · have hlo : nI k ≠ g 152 3 := by rw [← f2 152 (by decide) (by decide)]; exact c3
            refine J_iload hS dX4_valueOf_71 rfl ?_
            refine J_iload hS dX4_valueOf_73 rfl ?_
            refine J_icmp_eq (tgt := 100) hS dX4_valueOf_75 (by decide) (fun c4 => ?_) (fun c4 => ?_)
            · have hnil : c.2.2 = [] := by
                have := (nI_eq (by omega) (by omega)).mp c4
                exact List.length_eq_zero_iff.mp (by omega)
              exact take _ g2 rfl rfl rfl rfl f2 r2 (by simp [clh, hkl, hcw, hlo, hnil])
            · have hnn : c.2.2 ≠ [] := fun z => c4 (by rw [z]; simp)
              have hct : tck c.2.2 [] = some [true] := (cok.2.2.2.2.resolve_left hnn)
              refine J_aload_n hS dX4_valueOf_78 rfl ?_
              refine J_getD (v := .ref h) hS dX4_valueOf_79 flX4_20 ob152 rfl (hrv g2 (f2 152 (by decide) (by decide))) ?_
              refine J_iload hS dX4_valueOf_82 rfl ?_
              refine J_iload hS dX4_valueOf_84 rfl ?_
              refine J_aload_n hS dX4_valueOf_86 rfl ?_
              refine J_getR (t := 153) hS dX4_valueOf_87 flX4_11 ob152 rfl ?_
              refine J_aload_n hS dX4_valueOf_90 rfl ?_
              refine J_getR (t := 154) hS dX4_valueOf_91 flX4_17 ob152 rfl ?_
              refine J_callV4 (X' := fun _ _ => False) hS dX4_valueOf_94 mvX4_67 hL.ob rfl (by decide) (by decide) (Nat.le_of_ble_eq_true rfl) hR (fun _ _ q => q.elim) (c_work hL (by omega) cok.2.2.1 q7 hct (fun g4 f4 => ?_))
              have f4' : ∀ z, z ≠ 153 → z ≠ 154 → g4 z = g z := fun z hz hz' => by rw [f4 z hz']; exact f2 z hz hz'
              have r4 : g4 153 = upd (g 153) 4 v := by rw [f4 153 (by decide)]; exact r2
              refine J_if_eq (tgt := 130) hS dX4_valueOf_97 (by decide) (fun c5 => ?_) (fun c5 => ?_)
              · refine skip _ g4 ⟨Or.inr rfl, Or.inr rfl, Or.inr rfl, Or.inr rfl, Or.inl rfl, Or.inl rfl, trivial⟩ f4' r4 ?_
                rw [r2] at c5
                simp [clh, hkl, hcw, hlo, hnn]
                simpa using c5
              · refine take _ g4 rfl rfl rfl rfl f4' r4 ?_
                rw [r2] at c5
                simp [clh, hkl, hcw, hlo, hnn]
                simpa using c5
/-- what a law is asked of: the facts of a child in a world, and of a talk -/
def fac (w : Nat → Int32) (c : Nat) (rt sh : Int32) (v : Int32) : Nat → Int32 := fun j =>
  if j = 0 then w (56 + 142 * c + 1) + (w 2 - w (56 + 142 * c + 2)) else if j = 1 then w 2 - w (56 + 142 * c + 2) else if j = 2 then rt else if j = 3 then sh else if j = 4 then v else if j = 5 then w (56 + 142 * c + 5) else 0
set_option maxRecDepth 10000 in
theorem c_ofChild (hW : Wo h) {c : Nat} (hc : c < 24) (q : ∀ g', (∀ z, z ≠ 153 → g' z = g z) → g' 153 0 = wv g h (56 + 142 * c + 1) + (wv g h 2 - wv g h (56 + 142 * c + 2)) → g' 153 1 = wv g h 2 - wv g h (56 + 142 * c + 2) → g' 153 5 = wv g h (56 + 142 * c + 5) → (∀ j, j ≠ 0 → j ≠ 1 → j ≠ 5 → g' 153 j = g 153 j) → Q none g') : Ct l E lay NC 2 0 0 yX4_ofChild [.ref 152, .ref h, .int (nI c)] g Q X := by
  have hh : h + 10 < 152 := by obtain ⟨i, hi, e⟩ := hW; omega
  refine Ct_in k_yX4_ofChild (by decide) rfl (Nat.le_of_ble_eq_true rfl) rfl ?_
  intro S hS hZ hr ht hR
  show J S 0 0 g 0 [some (.ref 152), some (.ref h), some (.int (nI c))] []
  refine J_aload_n hS dX4_ofChild_0 rfl ?_
  refine J_getR (t := 153) hS dX4_ofChild_1 flX4_11 ob152 rfl ?_
  refine J_iconst (v := 0) hS dX4_ofChild_4 (by decide) ?_
  refine J_aload_n hS dX4_ofChild_5 rfl ?_
  refine J_iload_n hS dX4_ofChild_6 rfl ?_
  refine J_callV1 (X' := fun _ _ => False) hS dX4_ofChild_7 mvX4_28 hW.ob rfl (by decide) (by decide) (Nat.le_of_ble_eq_true rfl) hR (fun _ _ q => q.elim) (c_ageNow hW hc ?_)
  refine J_iastN hS (0) dX4_ofChild_10 ar153 (by first | rfl | (simp only [n0, n1, n2, n3, n4, n5, n6, n7, n8, n9, n10, n11, n12, n13, n14, n15, n16, n17, n18, n19, n20, n24, n32, n56, n60, n64, n72, n99, n100, n128, n136, n142, n144, n200, n300, n999, n1000, n1500, n3464, nI_add, pk_mul] <;> first | rfl | (congr 1; omega))) (by omega) (by decide) (fun g10 eg10 => ?_)
  refine J_aload_n hS dX4_ofChild_11 rfl ?_
  refine J_getR (t := 153) hS dX4_ofChild_12 flX4_11 ob152 rfl ?_
  refine J_iconst (v := 1) hS dX4_ofChild_15 (by decide) ?_
  refine J_aload_n hS dX4_ofChild_16 rfl ?_
  refine J_iload_n hS dX4_ofChild_17 rfl ?_
  refine J_callV1 (X' := fun _ _ => False) hS dX4_ofChild_18 mvX4_34 hW.ob rfl (by decide) (by decide) (Nat.le_of_ble_eq_true rfl) hR (fun _ _ q => q.elim) (c_yearsHere hW hc ?_)
  refine J_iastN hS (1) dX4_ofChild_21 ar153 (by first | rfl | (simp only [n0, n1, n2, n3, n4, n5, n6, n7, n8, n9, n10, n11, n12, n13, n14, n15, n16, n17, n18, n19, n20, n24, n32, n56, n60, n64, n72, n99, n100, n128, n136, n142, n144, n200, n300, n999, n1000, n1500, n3464, nI_add, pk_mul] <;> first | rfl | (congr 1; omega))) (by omega) (by decide) (fun g21 eg21 => ?_)
  refine J_aload_n hS dX4_ofChild_22 rfl ?_
  refine J_getR (t := 153) hS dX4_ofChild_23 flX4_11 ob152 rfl ?_
  refine J_iconst (v := 5) hS dX4_ofChild_26 (by decide) ?_
  refine J_aload_n hS dX4_ofChild_27 rfl ?_
  refine J_getR (t := h + 6) hS dX4_ofChild_28 flX4_37 hW.ob rfl ?_
  refine J_iload_n hS dX4_ofChild_31 rfl ?_
  refine J_ialdN hS (c) dX4_ofChild_32 (show Ar lay NC .int (h + 6) 24 from hW.ar 6 (by decide) (by decide)) (by first | rfl | (simp only [n0, n1, n2, n3, n4, n5, n6, n7, n8, n9, n10, n11, n12, n13, n14, n15, n16, n17, n18, n19, n20, n24, n32, n56, n60, n64, n72, n99, n100, n128, n136, n142, n144, n200, n300, n999, n1000, n1500, n3464, nI_add, pk_mul] <;> first | rfl | (congr 1; omega))) hc (by decide) ?_
  refine J_iastN hS (5) dX4_ofChild_33 ar153 (by first | rfl | (simp only [n0, n1, n2, n3, n4, n5, n6, n7, n8, n9, n10, n11, n12, n13, n14, n15, n16, n17, n18, n19, n20, n24, n32, n56, n60, n64, n72, n99, n100, n128, n136, n142, n144, n200, n300, n999, n1000, n1500, n3464, nI_add, pk_mul] <;> first | rfl | (congr 1; omega))) (by omega) (by decide) (fun g33 eg33 => ?_)
  refine J_vret hS hZ hr dX4_ofChild_34 (by omega) (by omega) ?_
  rw [wv_at (wx_age hc), wv_at (wx_came hc), wv_at (wx_took hc), wv_at (wx_i (show 2 < 7 by decide))] at q
  subst eg33; subst eg21; subst eg10
  refine q _ (fun z hz => by rw [u2_ne z hz, u2_ne z hz, u2_ne z hz]) ?_ ?_ ?_ ?_
  · simp [u2]
  · simp [u2]
    intro z; omega
  · simp [u2]
    rw [if_neg (by omega), if_neg (by omega)]
  · intro j h0 h1 h5; simp [u2, h0, h1, h5]
set_option maxRecDepth 10000 in
theorem c_ofTalk {a b : Int32} (ha : a = 0 ∨ a = 1) (hb : b = 0 ∨ b = 1) (q : ∀ g', (∀ z, z ≠ 153 → g' z = g z) → g' 153 2 = a → g' 153 3 = b → (∀ j, j ≠ 2 → j ≠ 3 → g' 153 j = g 153 j) → Q none g') : Ct l E lay NC 0 0 0 yX4_ofTalk [.ref 152, .int a, .int b] g Q X := by
  refine Ct_in k_yX4_ofTalk (by decide) rfl (Nat.le_of_ble_eq_true rfl) rfl ?_
  intro S hS hZ hr ht hR
  show J S 0 0 g 0 [some (.ref 152), some (.int a), some (.int b)] []
  have snd : ∀ g2 : Mm, (∀ z, z ≠ 153 → g2 z = g z) → g2 153 2 = a → (∀ j, j ≠ 2 → g2 153 j = g 153 j) → J S 0 0 g2 15 [some (.ref 152), some (.int a), some (.int b)] [] := by
    intro g2 f2 e2 r2
    have fin : ∀ g3 : Mm, g3 = u2 g2 153 3 b → J S 0 0 g3 30 [some (.ref 152), some (.int a), some (.int b)] [] := by
      intro g3 e3
      refine J_vret hS hZ hr dX4_ofTalk_30 (by omega) (by omega) ?_
      refine q g3 (fun z hz => by rw [e3, u2_ne z hz]; exact f2 z hz) ?_ ?_ ?_
      · rw [e3]; simp [u2, e2]
      · rw [e3]; simp [u2]
      · intro j h2 h3; rw [e3]; simp [u2, h3]; exact r2 j h2
    refine J_aload_n hS dX4_ofTalk_15 rfl ?_
    refine J_getR (t := 153) hS dX4_ofTalk_16 flX4_11 ob152 rfl ?_
    refine J_iconst (v := 3) hS dX4_ofTalk_19 (by decide) ?_
    refine J_iload_n hS dX4_ofTalk_20 rfl ?_
    refine J_if_eq (tgt := 28) hS dX4_ofTalk_21 (by decide) (fun c1 => ?_) (fun c1 => ?_)
    ·
      refine J_iconst (v := 0) hS dX4_ofTalk_28 (by decide) ?_
      refine J_iastN hS (3) dX4_ofTalk_29 ar153 (by first | rfl | (simp only [n0, n1, n2, n3, n4, n5, n6, n7, n8, n9, n10, n11, n12, n13, n14, n15, n16, n17, n18, n19, n20, n24, n32, n56, n60, n64, n72, n99, n100, n128, n136, n142, n144, n200, n300, n999, n1000, n1500, n3464, nI_add, pk_mul] <;> first | rfl | (congr 1; omega))) (by omega) (by decide) (fun g29 eg29 => ?_)
      exact fin g29 (by rw [eg29, c1])
    ·
      refine J_iconst (v := 1) hS dX4_ofTalk_24 (by decide) ?_
      refine J_goto (tgt := 29) hS dX4_ofTalk_25 (by decide) ?_
      refine J_iastN hS (3) dX4_ofTalk_29 ar153 (by first | rfl | (simp only [n0, n1, n2, n3, n4, n5, n6, n7, n8, n9, n10, n11, n12, n13, n14, n15, n16, n17, n18, n19, n20, n24, n32, n56, n60, n64, n72, n99, n100, n128, n136, n142, n144, n200, n300, n999, n1000, n1500, n3464, nI_add, pk_mul] <;> first | rfl | (congr 1; omega))) (by omega) (by decide) (fun g29 eg29 => ?_)
      exact fin g29 (by rw [eg29, hb.resolve_left c1])
  refine J_aload_n hS dX4_ofTalk_0 rfl ?_
  refine J_getR (t := 153) hS dX4_ofTalk_1 flX4_11 ob152 rfl ?_
  refine J_iconst (v := 2) hS dX4_ofTalk_4 (by decide) ?_
  refine J_iload_n hS dX4_ofTalk_5 rfl ?_
  refine J_if_eq (tgt := 13) hS dX4_ofTalk_6 (by decide) (fun c1 => ?_) (fun c1 => ?_)
  ·
    refine J_iconst (v := 0) hS dX4_ofTalk_13 (by decide) ?_
    refine J_iastN hS (2) dX4_ofTalk_14 ar153 (by first | rfl | (simp only [n0, n1, n2, n3, n4, n5, n6, n7, n8, n9, n10, n11, n12, n13, n14, n15, n16, n17, n18, n19, n20, n24, n32, n56, n60, n64, n72, n99, n100, n128, n136, n142, n144, n200, n300, n999, n1000, n1500, n3464, nI_add, pk_mul] <;> first | rfl | (congr 1; omega))) (by omega) (by decide) (fun g14 eg14 => ?_)
    refine snd g14 (fun z hz => by rw [eg14, u2_ne z hz]) (by rw [eg14, c1]; simp [u2]) (fun j hj => by rw [eg14]; simp [u2, hj])
  ·
    refine J_iconst (v := 1) hS dX4_ofTalk_9 (by decide) ?_
    refine J_goto (tgt := 14) hS dX4_ofTalk_10 (by decide) ?_
    refine J_iastN hS (2) dX4_ofTalk_14 ar153 (by first | rfl | (simp only [n0, n1, n2, n3, n4, n5, n6, n7, n8, n9, n10, n11, n12, n13, n14, n15, n16, n17, n18, n19, n20, n24, n32, n56, n60, n64, n72, n99, n100, n128, n136, n142, n144, n200, n300, n999, n1000, n1500, n3464, nI_add, pk_mul] <;> first | rfl | (congr 1; omega))) (by omega) (by decide) (fun g14 eg14 => ?_)
    refine snd g14 (fun z hz => by rw [eg14, u2_ne z hz]) (by rw [eg14, ha.resolve_left c1]; simp [u2]) (fun j hj => by rw [eg14]; simp [u2, hj])
/-- the six facts -/
def f6 (f f' : Nat → Int32) : Prop := ∀ j, j < 6 → f j = f' j
theorem stp_congr {f f' : Nat → Int32} (hf : f6 f f') {t : Tok} {st : List Int32} : stp f t st = stp f' t st := by
  unfold stp
  by_cases c0 : t.1 = 0
  · simp [c0]
  · by_cases c1 : t.1 ≤ 6
    · simp [c0, c1, hf (t.1 - 1) (by omega)]
    · simp [c0, c1]
theorem ev_congr {f f' : Nat → Int32} (hf : f6 f f') : ∀ (l : List Tok) (st : List Int32), ev f l st = ev f' l st
  | [], _ => rfl
  | t :: l, st => by simp only [ev, stp_congr hf]; exact ev_congr hf l _
theorem lawv_congr {f f' : Nat → Int32} (hf : f6 f f') {L : List Cls} {lo : Int32} {w : Nat} : ∀ n, lawv L lo f w n = lawv L lo f' w n
  | 0 => rfl
  | n + 1 => by
    have e1 : clh L lo f w n = clh L lo f' w n := by unfold clh; split <;> simp [ev_congr hf]
    have e2 : clv L f n = clv L f' n := by unfold clv; split <;> simp [ev_congr hf]
    simp only [lawv, e1, e2, lawv_congr hf n]
theorem rval_congr {f f' : Nat → Int32} (hf : f6 f f') {lw : Option (List Cls)} {lo : Int32} {w : Nat} : rval lw lo f w = rval lw lo f' w := by
  cases lw with
  | none => rfl
  | some L => exact lawv_congr hf _
/-- held: the weight of the order is what it must be, or more -/
def hld (lw : Option (List Cls)) (lo : Int32) (w : Nat → Int32) (c o : Nat) : Prop := rval lw lo (fac w c 0 0 (w (56 + 142 * c + 136 + o))) 3 ≤ w (56 + 142 * c + 136 + o)
set_option maxRecDepth 10000 in
theorem c_isHeld (hW : Wo h) {c o : Nat} {lw : Option (List Cls)} (hc : c < 24) (ho : o < 6) (hR0 : RuleC g lw) (q : ∀ (g' : Mm) (r : Int32), (∀ z, z ≠ 153 → z ≠ 154 → g' z = g z) → (r = 0 ∨ r = 1) → (r = 1 ↔ hld lw (g 152 3) (wv g h) c o) → Q (some (.int r)) g') : Ct l E lay NC 3 0 0 yX4_isHeld [.ref 152, .ref h, .int (nI c), .int (nI o)] g Q X := by
  have hh : h + 10 < 107 := by obtain ⟨i, hi, e⟩ := hW; omega
  refine Ct_in k_yX4_isHeld (by decide) rfl (Nat.le_of_ble_eq_true rfl) rfl ?_
  intro S hS hZ hr ht hR
  show J S 0 0 g 0 [some (.ref 152), some (.ref h), some (.int (nI c)), some (.int (nI o)), none] []
  refine J_aload_n hS dX4_isHeld_0 rfl ?_
  refine J_aload_n hS dX4_isHeld_1 rfl ?_
  refine J_iload_n hS dX4_isHeld_2 rfl ?_
  refine J_callV2 (X' := fun _ _ => False) hS dX4_isHeld_3 mvX4_40 ob152 rfl (by decide) (by decide) (Nat.le_of_ble_eq_true rfl) hR (fun _ _ q => q.elim) (c_ofChild hW hc (fun g3 k1 k2 k3 k4 k5 => ?_))
  refine J_aload_n hS dX4_isHeld_6 rfl ?_
  refine J_iconst (v := 0) hS dX4_isHeld_7 (by decide) ?_
  refine J_iconst (v := 0) hS dX4_isHeld_8 (by decide) ?_
  refine J_callV2 (X' := fun _ _ => False) hS dX4_isHeld_9 mvX4_44 ob152 rfl (by decide) (by decide) (Nat.le_of_ble_eq_true rfl) hR (fun _ _ q => q.elim) (c_ofTalk (Or.inl rfl) (Or.inl rfl) (fun g9 m1 m2 m3 m4 => ?_))
  have fr9 : ∀ z, z ≠ 153 → g9 z = g z := fun z hz => by rw [m1 z hz, k1 z hz]
  refine J_aload_n hS dX4_isHeld_12 rfl ?_
  refine J_getR (t := h + 9) hS dX4_isHeld_13 flX4_48 hW.ob rfl ?_
  refine J_iload_n hS dX4_isHeld_16 rfl ?_
  refine J_bipush (v := 6) hS dX4_isHeld_17 (by decide) ?_
  refine J_imul hS dX4_isHeld_19 ?_
  refine J_iload_n hS dX4_isHeld_20 rfl ?_
  refine J_iadd hS dX4_isHeld_21 ?_
  refine J_ialdN hS (c * 6 + o) dX4_isHeld_22 (show Ar lay NC .int (h + 9) 144 from hW.ar 9 (by decide) (by decide)) (by first | rfl | (simp only [n0, n1, n2, n3, n4, n5, n6, n7, n8, n9, n10, n11, n12, n13, n14, n15, n16, n17, n18, n19, n20, n24, n32, n56, n60, n64, n72, n99, n100, n128, n136, n142, n144, n200, n300, n999, n1000, n1500, n3464, nI_add, pk_mul] <;> first | rfl | (congr 1; omega))) (by omega) (by decide) ?_
  refine J_istore (lt := fun v => [some (.ref 152), some (.ref h), some (.int (nI c)), some (.int (nI o)), some (.int v)]) hS dX4_isHeld_23 (Nat.le_of_ble_eq_true rfl) (fun _ => rfl) (fun v ev => ?_)
  have hv : v = wv g h (56 + 142 * c + 136 + o) := by rw [ev, fr9 (h + 9) (by omega), wv_at (wx_order hc ho)]
  refine J_iload hS dX4_isHeld_25 rfl ?_
  refine J_aload_n hS dX4_isHeld_27 rfl ?_
  refine J_iconst (v := 3) hS dX4_isHeld_28 (by decide) ?_
  refine J_iload hS dX4_isHeld_29 rfl ?_
  refine J_callV2 (X' := fun _ _ => False) hS dX4_isHeld_31 mvX4_51 ob152 rfl (by decide) (by decide) (Nat.le_of_ble_eq_true rfl) hR (fun _ _ q => q.elim) (c_valueOf (w := 3) (by decide) (hR0.fr (fun a ha => fr9 a (by omega))) (fun g31 n1 n2 => ?_))
  have ef : rval lw (g9 152 3) (upd (g9 153) 4 v) 3 = rval lw (g 152 3) (fac (wv g h) c 0 0 v) 3 := by
    rw [fr9 152 (by decide)]
    refine rval_congr (fun j hj => ?_)
    have : j = 0 ∨ j = 1 ∨ j = 2 ∨ j = 3 ∨ j = 4 ∨ j = 5 := by omega
    rcases this with rfl | rfl | rfl | rfl | rfl | rfl
    · simp [upd, fac, m4 0, k2]
    · simp [upd, fac, m4 1, k3]
    · simp [upd, fac, m2]
    · simp [upd, fac, m3]
    · simp [upd, fac]
    · simp [upd, fac, m4 5, k4]
  have fr31 : ∀ z, z ≠ 153 → z ≠ 154 → g31 z = g z := fun z h1 h2 => by rw [n1 z h1 h2, fr9 z h1]
  show J S 0 0 g31 34 [some (.ref 152), some (.ref h), some (.int (nI c)), some (.int (nI o)), some (.int v)] [.int _, .int v]
  rw [ef]
  refine J_icmp_lt (tgt := 41) hS dX4_isHeld_34 (by decide) (fun c1 => ?_) (fun c1 => ?_)
  ·
    refine J_iconst (v := 0) hS dX4_isHeld_41 (by decide) ?_
    refine J_zret hS hZ hr dX4_isHeld_42 (by decide) (by omega) (by omega) ?_
    refine q g31 0 fr31 (Or.inl rfl) ⟨fun z => absurd z (by decide), fun z => ?_⟩
    unfold hld at z
    rw [← hv] at z
    exact absurd c1 (Int32.not_lt.mpr z)
  ·
    refine J_iconst (v := 1) hS dX4_isHeld_37 (by decide) ?_
    refine J_goto (tgt := 42) hS dX4_isHeld_38 (by decide) ?_
    refine J_zret hS hZ hr dX4_isHeld_42 (by decide) (by omega) (by omega) ?_
    refine q g31 1 fr31 (Or.inr rfl) ⟨fun _ => ?_, fun _ => rfl⟩
    unfold hld
    rw [← hv]
    exact Int32.not_lt.mp c1
set_option maxRecDepth 10000 in
theorem c_use {a : Int32} {v : Value} {x : Int32} (hx : ab 2 x = v) (hv : v = .null ∨ ∃ t, v = .ref t) (q : Q none (u2 (u2 g 152 2 x) 152 3 a)) : Ct l E lay NC 0 0 0 yX4_use [.ref 152, v, .int a] g Q X := by
  rcases hv with e | ⟨t, e⟩
  · subst e
    refine Ct_in k_yX4_use (by decide) rfl (Nat.le_of_ble_eq_true rfl) rfl ?_
    intro S hS hZ hr ht hR
    show J S 0 0 g 0 [some (.ref 152), some (.null), some (.int a)] []
    refine J_aload_n hS dX4_use_0 rfl ?_
    refine J_aload_nN hS dX4_use_1 rfl ?_
    refine J_putD hS dX4_use_2 fpX4_20 (by first | exact Or.inl ⟨_, rfl⟩ | exact Or.inr ⟨_, rfl⟩) ob152 rfl hx (by first | exact Or.inl rfl | exact Or.inr ⟨_, rfl⟩) (fun g2 eg2 => ?_)
    refine J_aload_n hS dX4_use_5 rfl ?_
    refine J_iload_n hS dX4_use_6 rfl ?_
    refine J_putI hS dX4_use_7 fpX4_24 ob152 rfl (fun g7 eg7 => ?_)
    refine J_vret hS hZ hr dX4_use_10 (by omega) (by omega) ?_
    rw [eg7, eg2]; exact q
  · subst e
    refine Ct_in k_yX4_use (by decide) rfl (Nat.le_of_ble_eq_true rfl) rfl ?_
    intro S hS hZ hr ht hR
    show J S 0 0 g 0 [some (.ref 152), some (.ref t), some (.int a)] []
    refine J_aload_n hS dX4_use_0 rfl ?_
    refine J_aload_n hS dX4_use_1 rfl ?_
    refine J_putD hS dX4_use_2 fpX4_20 (by first | exact Or.inl ⟨_, rfl⟩ | exact Or.inr ⟨_, rfl⟩) ob152 rfl hx (by first | exact Or.inl rfl | exact Or.inr ⟨_, rfl⟩) (fun g2 eg2 => ?_)
    refine J_aload_n hS dX4_use_5 rfl ?_
    refine J_iload_n hS dX4_use_6 rfl ?_
    refine J_putI hS dX4_use_7 fpX4_24 ob152 rfl (fun g7 eg7 => ?_)
    refine J_vret hS hZ hr dX4_use_10 (by omega) (by omega) ?_
    rw [eg7, eg2]; exact q
end ClsF


/-! THE CLASS: public methods, IV -/
/-- the k-th that is so (or, for -1, how many are); from t on, r are left -/
def bkA (P : Nat → Bool) (k : Int32) : Nat → Nat → Int32
  | t, 0 => if k = -1 then nI (here P t).length else -1
  | t, r + 1 => if P t = true ∧ k = nI (here P t).length then nI t else bkA P k (t + 1) r
theorem bkA_no {P : Nat → Bool} {k : Int32} {t r : Nat} (h : P t = false) : bkA P k t (r + 1) = bkA P k (t + 1) r := by
  show (if P t = true ∧ k = nI (here P t).length then nI t else bkA P k (t + 1) r) = _
  rw [if_neg (fun z => by rw [h] at z; exact absurd z.1 (by decide))]
theorem bkA_skip {P : Nat → Bool} {k : Int32} {r : Nat} : ∀ {s t : Nat}, (∀ i, t ≤ i → i < t + s → P i = false) → bkA P k t (s + r) = bkA P k (t + s) r
  | 0, t, _ => by rw [Nat.zero_add]; rfl
  | s + 1, t, h => by
    rw [show s + 1 + r = (s + r) + 1 by omega, bkA_no (h t (by omega) (by omega)), bkA_skip (s := s) (t := t + 1) (fun i h1 h2 => h i (by omega) (by omega)), show t + 1 + s = t + (s + 1) by omega]
theorem here_skip {P : Nat → Bool} {t : Nat} : ∀ {s : Nat}, (∀ i, t ≤ i → i < t + s → P i = false) → here P (t + s) = here P t
  | 0, _ => rfl
  | s + 1, h => by
    rw [show t + (s + 1) = t + s + 1 by omega, here_succ, h (t + s) (by omega) (by omega), here_skip (s := s) (fun i h1 h2 => h i h1 (by omega))]; simp
def shP (n : Wr) (yr a b rt : Int32) (t : Nat) : Bool := decide (n (t * 19) = yr ∧ (a = -1 ∨ n (t * 19 + 17) = a) ∧ (b = -1 ∨ n (t * 19 + 18) = b) ∧ (rt = 0 ∨ n (t * 19 + 14) = 1))
def lnP (n : Wr) (c o : Int32) (t : Nat) : Bool := decide (n (t * 19 + 2) = c ∧ n (t * 19 + 16) = o)
section ClsP4
variable {l : Launch} {E : Ey} {g : Mm} {Q : Option Value → Mm → Prop} {X : String → Mm → Prop} {h : Nat}
set_option maxRecDepth 10000 in
theorem c_share {m : Nat} {yr a b rt : Int32} (hm : m ≤ 1500) (em : g 143 0 = nI m) (x : ((a < -1 ∨ 3 < a) ∨ (b < -1 ∨ 3 < b)) → X eIA g) (q : ¬ (a < -1 ∨ 3 < a) → ¬ (b < -1 ∨ 3 < b) → Q (some (.int (nI (here (shP (g 144) yr a b rt) m).length))) g) : Ct l E lay NC 8 1 6 yX7_share [.ref 1, .int yr, .int a, .int b, .int rt] g Q X := by
  refine Ct_in k_yX7_share (by decide) rfl (Nat.le_of_ble_eq_true rfl) rfl ?_
  intro S hS hZ hr ht hR
  show J S 0 0 (g) 0 [some (.ref 1), some (.int yr), some (.int a), some (.int b), some (.int rt), none, none] []
  refine J_iload_n hS dX7_share_0 rfl ?_
  by_cases ha : a < -1 ∨ 3 < a
  ·
    refine J_callS1 hS dX7_share_1 msX7_252 rfl (by decide) (by decide) (Nat.le_of_ble_eq_true rfl) ⟨Nat.le_trans (by decide) hR.1, Nat.le_trans (by decide) hR.2⟩ (fun _ _ q => q) (c_checkKindBad ha (JX_out hS hZ ht (by omega) (by omega) (x (Or.inl ha))))
  ·
    refine J_callS1 (X' := fun _ _ => False) hS dX7_share_1 msX7_252 rfl (by decide) (by decide) (Nat.le_of_ble_eq_true rfl) ⟨Nat.le_trans (by decide) hR.1, Nat.le_trans (by decide) hR.2⟩ (fun _ _ q => q.elim) (c_checkKindOk (fun z => ha (Or.inl z)) (Int32.not_lt.mp (fun z => ha (Or.inr z))) ?_)
    refine J_iload_n hS dX7_share_4 rfl ?_
    by_cases hb : b < -1 ∨ 3 < b
    ·
      refine J_callS1 hS dX7_share_5 msX7_252 rfl (by decide) (by decide) (Nat.le_of_ble_eq_true rfl) ⟨Nat.le_trans (by decide) hR.1, Nat.le_trans (by decide) hR.2⟩ (fun _ _ q => q) (c_checkKindBad hb (JX_out hS hZ ht (by omega) (by omega) (x (Or.inr hb))))
    · have q2 := q ha hb
      obtain ⟨P, hP⟩ : ∃ P : Nat → Bool, P = shP (g 144) yr a b rt := ⟨_, rfl⟩
      rw [← hP] at q2
      refine J_callS1 (X' := fun _ _ => False) hS dX7_share_5 msX7_252 rfl (by decide) (by decide) (Nat.le_of_ble_eq_true rfl) ⟨Nat.le_trans (by decide) hR.1, Nat.le_trans (by decide) hR.2⟩ (fun _ _ q => q.elim) (c_checkKindOk (fun z => hb (Or.inl z)) (Int32.not_lt.mp (fun z => hb (Or.inr z))) ?_)
      refine J_iconst (v := 0) hS dX7_share_8 (by decide) ?_
      refine J_istore (lt := fun f1 => [some (.ref 1), some (.int yr), some (.int a), some (.int b), some (.int rt), some (.int f1), none]) hS dX7_share_9 (Nat.le_of_ble_eq_true rfl) (fun _ => rfl) (fun f1 ef1 => ?_)
      refine J_iconst (v := 0) hS dX7_share_11 (by decide) ?_
      refine J_istore (lt := fun t1 => [some (.ref 1), some (.int yr), some (.int a), some (.int b), some (.int rt), some (.int f1), some (.int t1)]) hS dX7_share_12 (Nat.le_of_ble_eq_true rfl) (fun _ => rfl) (fun t1 et1 => ?_)
      suffices H : ∀ (r k : Nat) (f t : Int32), k + r = m → t = nI k → f = nI (here P k).length → J S 0 0 g 14 [some (.ref 1), some (.int yr), some (.int a), some (.int b), some (.int rt), some (.int f), some (.int t)] [] by
        exact H m 0 f1 t1 (by omega) et1 ef1
      intro r
      induction r with
      | zero =>
        intro k f t hk he hf
        have e : k = m := by omega
        subst he
        refine J_iload hS dX7_share_14 rfl ?_
        refine J_aload_n hS dX7_share_16 rfl ?_
        refine J_getR (t := 143) hS dX7_share_17 flX7_38 ob1 rfl ?_
        refine J_getI hS dX7_share_20 flX7_214 ob143 rfl ?_
        show J S 0 0 (g) 23 [some (.ref 1), some (.int yr), some (.int a), some (.int b), some (.int rt), some (.int f), some (.int (nI k))] [.int _, .int (nI k)]
        rw [em]
        refine J_icmp_ge (tgt := 109) hS dX7_share_23 (by decide) (fun c1 => ?_) (fun c1 => ?_)
        ·
          refine J_iload hS dX7_share_109 rfl ?_
          refine J_iret hS hZ hr dX7_share_111 (by omega) (by omega) ?_
          rw [hf, e]; exact q2
        · exact absurd (nI_le (show m ≤ k by omega) (by omega)) c1
      | succ r ih =>
        intro k f t hk he hf
        subst he
        have hs := here_succ P k
        have hk5 : k < 1500 := by omega
        have no : P k = false → J S 0 0 g 103 [some (.ref 1), some (.int yr), some (.int a), some (.int b), some (.int rt), some (.int f), some (.int (nI k))] [] := by
          intro hno
          refine J_iinc (lt := fun t2 => [some (.ref 1), some (.int yr), some (.int a), some (.int b), some (.int rt), some (.int f), some (.int t2)]) (v := 1) hS dX7_share_103 rfl (by decide) (fun _ => rfl) (fun t2 et2 => ?_)
          refine J_goto (tgt := 14) hS dX7_share_106 (by decide) ?_
          exact ih (k + 1) f t2 (by omega) (by rw [et2]; exact nI_1 k) (by rw [hf, hs]; simp [hno])
        have yes : P k = true → J S 0 0 g 100 [some (.ref 1), some (.int yr), some (.int a), some (.int b), some (.int rt), some (.int f), some (.int (nI k))] [] := by
          intro hyes
          refine J_iinc (lt := fun f2 => [some (.ref 1), some (.int yr), some (.int a), some (.int b), some (.int rt), some (.int f2), some (.int (nI k))]) (v := 1) hS dX7_share_100 rfl (by decide) (fun _ => rfl) (fun f2 ef2 => ?_)
          refine J_iinc (lt := fun t2 => [some (.ref 1), some (.int yr), some (.int a), some (.int b), some (.int rt), some (.int f2), some (.int t2)]) (v := 1) hS dX7_share_103 rfl (by decide) (fun _ => rfl) (fun t2 et2 => ?_)
          refine J_goto (tgt := 14) hS dX7_share_106 (by decide) ?_
          exact ih (k + 1) f2 t2 (by omega) (by rw [et2]; exact nI_1 k) (by rw [ef2, hf, hs, nI_1]; simp [hyes])
        refine J_iload hS dX7_share_14 rfl ?_
        refine J_aload_n hS dX7_share_16 rfl ?_
        refine J_getR (t := 143) hS dX7_share_17 flX7_38 ob1 rfl ?_
        refine J_getI hS dX7_share_20 flX7_214 ob143 rfl ?_
        show J S 0 0 (g) 23 [some (.ref 1), some (.int yr), some (.int a), some (.int b), some (.int rt), some (.int f), some (.int (nI k))] [.int _, .int (nI k)]
        rw [em]
        refine J_icmp_ge (tgt := 109) hS dX7_share_23 (by decide) (fun c1 => ?_) (fun c1 => ?_)
        · exact absurd c1 (nI_ge (show k < m by omega) (by omega))
        ·
          refine J_aload_n hS dX7_share_26 rfl ?_
          refine J_getR (t := 143) hS dX7_share_27 flX7_38 ob1 rfl ?_
          refine J_iload hS dX7_share_30 rfl ?_
          refine J_iconst (v := 0) hS dX7_share_32 (by decide) ?_
          refine J_callV2 (X' := fun _ _ => False) hS dX7_share_33 mvX7_248 ob143 rfl (by decide) (by decide) (Nat.le_of_ble_eq_true rfl) ⟨Nat.le_trans (by decide) hR.1, Nat.le_trans (by decide) hR.2⟩ (fun _ _ q => q.elim) (c_at hk5 (c := 0) (by decide) ?_)
          refine J_iload_n hS dX7_share_36 rfl ?_
          have nof : ¬ (g 144 (k * 19) = yr ∧ (a = -1 ∨ g 144 (k * 19 + 17) = a) ∧ (b = -1 ∨ g 144 (k * 19 + 18) = b) ∧ (rt = 0 ∨ g 144 (k * 19 + 14) = 1)) → P k = false := fun z => by rw [hP]; exact decide_eq_false z
          have yest : (g 144 (k * 19) = yr ∧ (a = -1 ∨ g 144 (k * 19 + 17) = a) ∧ (b = -1 ∨ g 144 (k * 19 + 18) = b) ∧ (rt = 0 ∨ g 144 (k * 19 + 14) = 1)) → P k = true := fun z => by rw [hP]; exact decide_eq_true z
          refine J_icmp_ne (tgt := 103) hS dX7_share_37 (by decide) (fun c2 => ?_) (fun c2 => ?_)
          · exact no (nof (fun z => c2 z.1))
          · have s4 : (a = -1 ∨ g 144 (k * 19 + 17) = a) → (b = -1 ∨ g 144 (k * 19 + 18) = b) → J S 0 0 g 80 [some (.ref 1), some (.int yr), some (.int a), some (.int b), some (.int rt), some (.int f), some (.int (nI k))] [] := by
              intro z1 z2
              refine J_iload hS dX7_share_80 rfl ?_
              refine J_if_eq (tgt := 100) hS dX7_share_82 (by decide) (fun c5 => ?_) (fun c5 => ?_)
              · exact yes (yest ⟨c2, z1, z2, Or.inl c5⟩)
              ·
                refine J_aload_n hS dX7_share_85 rfl ?_
                refine J_getR (t := 143) hS dX7_share_86 flX7_38 ob1 rfl ?_
                refine J_iload hS dX7_share_89 rfl ?_
                refine J_bipush (v := 14) hS dX7_share_91 (by decide) ?_
                refine J_callV2 (X' := fun _ _ => False) hS dX7_share_93 mvX7_248 ob143 rfl (by decide) (by decide) (Nat.le_of_ble_eq_true rfl) ⟨Nat.le_trans (by decide) hR.1, Nat.le_trans (by decide) hR.2⟩ (fun _ _ q => q.elim) (c_at hk5 (c := 14) (by decide) ?_)
                refine J_iconst (v := 1) hS dX7_share_96 (by decide) ?_
                refine J_icmp_ne (tgt := 103) hS dX7_share_97 (by decide) (fun c6 => ?_) (fun c6 => ?_)
                · exact no (nof (fun z => z.2.2.2.elim c5 c6))
                · exact yes (yest ⟨c2, z1, z2, Or.inr c6⟩)
            have s3 : (a = -1 ∨ g 144 (k * 19 + 17) = a) → J S 0 0 g 60 [some (.ref 1), some (.int yr), some (.int a), some (.int b), some (.int rt), some (.int f), some (.int (nI k))] [] := by
              intro z1
              refine J_iload_n hS dX7_share_60 rfl ?_
              refine J_iconst (v := (-1)) hS dX7_share_61 (by decide) ?_
              refine J_icmp_eq (tgt := 80) hS dX7_share_62 (by decide) (fun c5 => ?_) (fun c5 => ?_)
              · exact s4 z1 (Or.inl c5)
              ·
                refine J_aload_n hS dX7_share_65 rfl ?_
                refine J_getR (t := 143) hS dX7_share_66 flX7_38 ob1 rfl ?_
                refine J_iload hS dX7_share_69 rfl ?_
                refine J_bipush (v := 18) hS dX7_share_71 (by decide) ?_
                refine J_callV2 (X' := fun _ _ => False) hS dX7_share_73 mvX7_248 ob143 rfl (by decide) (by decide) (Nat.le_of_ble_eq_true rfl) ⟨Nat.le_trans (by decide) hR.1, Nat.le_trans (by decide) hR.2⟩ (fun _ _ q => q.elim) (c_at hk5 (c := 18) (by decide) ?_)
                refine J_iload_n hS dX7_share_76 rfl ?_
                refine J_icmp_ne (tgt := 103) hS dX7_share_77 (by decide) (fun c6 => ?_) (fun c6 => ?_)
                · exact no (nof (fun z => z.2.2.1.elim c5 c6))
                · exact s4 z1 (Or.inr c6)
            refine J_iload_n hS dX7_share_40 rfl ?_
            refine J_iconst (v := (-1)) hS dX7_share_41 (by decide) ?_
            refine J_icmp_eq (tgt := 60) hS dX7_share_42 (by decide) (fun c3 => ?_) (fun c3 => ?_)
            · exact s3 (Or.inl c3)
            ·
              refine J_aload_n hS dX7_share_45 rfl ?_
              refine J_getR (t := 143) hS dX7_share_46 flX7_38 ob1 rfl ?_
              refine J_iload hS dX7_share_49 rfl ?_
              refine J_bipush (v := 17) hS dX7_share_51 (by decide) ?_
              refine J_callV2 (X' := fun _ _ => False) hS dX7_share_53 mvX7_248 ob143 rfl (by decide) (by decide) (Nat.le_of_ble_eq_true rfl) ⟨Nat.le_trans (by decide) hR.1, Nat.le_trans (by decide) hR.2⟩ (fun _ _ q => q.elim) (c_at hk5 (c := 17) (by decide) ?_)
              refine J_iload_n hS dX7_share_56 rfl ?_
              refine J_icmp_ne (tgt := 103) hS dX7_share_57 (by decide) (fun c4 => ?_) (fun c4 => ?_)
              · exact no (nof (fun z => z.2.1.elim c3 c4))
              · exact s3 (Or.inr c4)
set_option maxRecDepth 10000 in
theorem c_back {n m : Nat} {c o k : Int32} (hn : n ≤ 24) (hgm : g 2 6 = nI n) (hm : m ≤ 1500) (em : g 143 0 = nI m) (x : ou n c → X eNS g) (x2 : ¬ ou n c → ou 6 o → X eIA g) (q : ¬ ou n c → ¬ ou 6 o → Q (some (.int (bkA (lnP (g 144) c o) k 0 m))) g) : Ct l E lay NC 8 1 6 yX7_back [.ref 1, .int c, .int o, .int k] g Q X := by
  refine Ct_in k_yX7_back (by decide) rfl (Nat.le_of_ble_eq_true rfl) rfl ?_
  intro S hS hZ hr ht hR
  show J S 0 0 (g) 0 [some (.ref 1), some (.int c), some (.int o), some (.int k), none, none] []
  refine J_aload_n hS dX7_back_0 rfl ?_
  refine J_iload_n hS dX7_back_1 rfl ?_
  rcases in_or (y := c) (b := n) (by first | decide | omega) with ⟨c1, hc1, ec1⟩ | hbc1
  ·
    subst ec1
    have nc := nou hc1 (by omega)
    refine J_callV1 (X' := fun _ _ => False) hS dX7_back_2 mvX7_121 ob1 rfl (by decide) (by decide) (Nat.le_of_ble_eq_true rfl) ⟨Nat.le_trans (by decide) hR.1, Nat.le_trans (by decide) hR.2⟩ (fun _ _ q => q.elim) (c_checkChildOk hgm hn hc1 ?_)
    refine J_iload_n hS dX7_back_5 rfl ?_
    rcases in_or (y := o) (b := 6) (by first | decide | omega) with ⟨o1, ho1, eo1⟩ | hbo1
    ·
      subst eo1
      have q2 := q nc (nou ho1 (by decide))
      obtain ⟨P, hP⟩ : ∃ P : Nat → Bool, P = lnP (g 144) (nI c1) (nI o1) := ⟨_, rfl⟩
      rw [← hP] at q2
      refine J_callS1 (X' := fun _ _ => False) hS dX7_back_6 msX7_161 rfl (by decide) (by decide) (Nat.le_of_ble_eq_true rfl) ⟨Nat.le_trans (by decide) hR.1, Nat.le_trans (by decide) hR.2⟩ (fun _ _ q => q.elim) (c_checkOrderOk ho1 ?_)
      refine J_iconst (v := 0) hS dX7_back_9 (by decide) ?_
      refine J_istore (lt := fun f1 => [some (.ref 1), some (.int (nI c1)), some (.int (nI o1)), some (.int k), some (.int f1), none]) hS dX7_back_10 (Nat.le_of_ble_eq_true rfl) (fun _ => rfl) (fun f1 ef1 => ?_)
      refine J_iconst (v := 0) hS dX7_back_12 (by decide) ?_
      refine J_istore (lt := fun t1 => [some (.ref 1), some (.int (nI c1)), some (.int (nI o1)), some (.int k), some (.int f1), some (.int t1)]) hS dX7_back_13 (Nat.le_of_ble_eq_true rfl) (fun _ => rfl) (fun t1 et1 => ?_)
      suffices H : ∀ (r j : Nat) (f t : Int32), j + r = m → t = nI j → f = nI (here P j).length → bkA P k 0 m = bkA P k j r → J S 0 0 g 15 [some (.ref 1), some (.int (nI c1)), some (.int (nI o1)), some (.int k), some (.int f), some (.int t)] [] by
        exact H m 0 f1 t1 (by omega) et1 ef1 rfl
      intro r
      induction r with
      | zero =>
        intro j f t hj he hf hb
        have e : j = m := by omega
        subst he
        refine J_iload hS dX7_back_15 rfl ?_
        refine J_aload_n hS dX7_back_17 rfl ?_
        refine J_getR (t := 143) hS dX7_back_18 flX7_38 ob1 rfl ?_
        refine J_getI hS dX7_back_21 flX7_214 ob143 rfl ?_
        show J S 0 0 (g) 24 [some (.ref 1), some (.int (nI c1)), some (.int (nI o1)), some (.int k), some (.int f), some (.int (nI j))] [.int _, .int (nI j)]
        rw [em]
        refine J_icmp_ge (tgt := 59) hS dX7_back_24 (by decide) (fun cc1 => ?_) (fun cc1 => ?_)
        ·
          refine J_iload_n hS dX7_back_59 rfl ?_
          refine J_iconst (v := (-1)) hS dX7_back_60 (by decide) ?_
          rw [hb] at q2
          refine J_icmp_ne (tgt := 69) hS dX7_back_61 (by decide) (fun cc2 => ?_) (fun cc2 => ?_)
          ·
            refine J_iconst (v := (-1)) hS dX7_back_69 (by decide) ?_
            refine J_iret hS hZ hr dX7_back_70 (by omega) (by omega) ?_
            rw [show bkA P k j 0 = if k = -1 then nI (here P j).length else -1 from rfl, if_neg cc2] at q2; exact q2
          ·
            refine J_iload hS dX7_back_64 rfl ?_
            refine J_goto (tgt := 70) hS dX7_back_66 (by decide) ?_
            refine J_iret hS hZ hr dX7_back_70 (by omega) (by omega) ?_
            rw [show bkA P k j 0 = if k = -1 then nI (here P j).length else -1 from rfl, if_pos cc2] at q2; rw [hf]; exact q2
        · exact absurd (nI_le (show m ≤ j by omega) (by omega)) cc1
      | succ r ih =>
        intro j f t hj he hf hb
        subst he
        have hs := here_succ P j
        refine J_iload hS dX7_back_15 rfl ?_
        refine J_aload_n hS dX7_back_17 rfl ?_
        refine J_getR (t := 143) hS dX7_back_18 flX7_38 ob1 rfl ?_
        refine J_getI hS dX7_back_21 flX7_214 ob143 rfl ?_
        show J S 0 0 (g) 24 [some (.ref 1), some (.int (nI c1)), some (.int (nI o1)), some (.int k), some (.int f), some (.int (nI j))] [.int _, .int (nI j)]
        rw [em]
        refine J_icmp_ge (tgt := 59) hS dX7_back_24 (by decide) (fun cc1 => ?_) (fun cc1 => ?_)
        · exact absurd cc1 (nI_ge (show j < m by omega) (by omega))
        ·
          refine J_aload_n hS dX7_back_27 rfl ?_
          refine J_getR (t := 143) hS dX7_back_28 flX7_38 ob1 rfl ?_
          refine J_iload hS dX7_back_31 rfl ?_
          refine J_iload_n hS dX7_back_33 rfl ?_
          refine J_iload_n hS dX7_back_34 rfl ?_
          refine J_callV3 (X' := fun _ _ => False) hS dX7_back_35 mvX7_265 ob143 rfl (by decide) (by decide) (Nat.le_of_ble_eq_true rfl) ⟨Nat.le_trans (by decide) hR.1, Nat.le_trans (by decide) hR.2⟩ (fun _ _ q => q.elim) (c_isLearnt (show j < 1500 by omega) ?_)
          refine J_if_eq (tgt := 53) hS dX7_back_38 (by decide) (fun cc2 => ?_) (fun cc2 => ?_)
          · have hno : P j = false := by
              rw [hP]
              refine decide_eq_false (fun z => ?_)
              rw [b01_t z] at cc2; exact absurd cc2 (by decide)
            refine J_iinc (lt := fun t2 => [some (.ref 1), some (.int (nI c1)), some (.int (nI o1)), some (.int k), some (.int f), some (.int t2)]) (v := 1) hS dX7_back_53 rfl (by decide) (fun _ => rfl) (fun t2 et2 => ?_)
            refine J_goto (tgt := 15) hS dX7_back_56 (by decide) ?_
            exact ih (j + 1) f t2 (by omega) (by rw [et2]; exact nI_1 j) (by rw [hf, hs]; simp [hno]) (by rw [hb, bkA_no hno])
          · have hyes : P j = true := by
              rw [hP]
              refine decide_eq_true ?_
              by_cases z : g 144 (j * 19 + 2) = nI c1 ∧ g 144 (j * 19 + 16) = nI o1
              · exact z
              · exact absurd (b01_f z) cc2
            have hu : bkA P k j (r + 1) = if P j = true ∧ k = nI (here P j).length then nI j else bkA P k (j + 1) r := rfl
            refine J_iload hS dX7_back_41 rfl ?_
            refine J_iload_n hS dX7_back_43 rfl ?_
            refine J_icmp_ne (tgt := 50) hS dX7_back_44 (by decide) (fun cc3 => ?_) (fun cc3 => ?_)
            ·
              refine J_iinc (lt := fun f2 => [some (.ref 1), some (.int (nI c1)), some (.int (nI o1)), some (.int k), some (.int f2), some (.int (nI j))]) (v := 1) hS dX7_back_50 rfl (by decide) (fun _ => rfl) (fun f2 ef2 => ?_)
              refine J_iinc (lt := fun t2 => [some (.ref 1), some (.int (nI c1)), some (.int (nI o1)), some (.int k), some (.int f2), some (.int t2)]) (v := 1) hS dX7_back_53 rfl (by decide) (fun _ => rfl) (fun t2 et2 => ?_)
              refine J_goto (tgt := 15) hS dX7_back_56 (by decide) ?_
              exact ih (j + 1) f2 t2 (by omega) (by rw [et2]; exact nI_1 j) (by rw [ef2, hf, hs, nI_1]; simp [hyes]) (by rw [hb, hu, if_neg (fun z => cc3 (by rw [hf]; exact z.2.symm))])
            ·
              refine J_iload hS dX7_back_47 rfl ?_
              refine J_iret hS hZ hr dX7_back_49 (by omega) (by omega) ?_
              rw [hb, hu, if_pos ⟨hyes, by rw [← hf]; exact cc3.symm⟩] at q2; exact q2
    ·
      refine J_callS1 hS dX7_back_6 msX7_161 rfl (by decide) (by decide) (Nat.le_of_ble_eq_true rfl) ⟨Nat.le_trans (by decide) hR.1, Nat.le_trans (by decide) hR.2⟩ (fun _ _ q => q) (c_checkOrderBad hbo1 (JX_out hS hZ ht (by omega) (by omega) (x2 nc hbo1)))
  ·
    refine J_callV1 hS dX7_back_2 mvX7_121 ob1 rfl (by decide) (by decide) (Nat.le_of_ble_eq_true rfl) ⟨Nat.le_trans (by decide) hR.1, Nat.le_trans (by decide) hR.2⟩ (fun _ _ q => q) (c_checkChildBad (by rw [hgm]; exact hbc1) (JX_out hS hZ ht (by omega) (by omega) (x hbc1)))
end ClsP4


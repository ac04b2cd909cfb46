/-! THE CLASS: who held an order first; the law in force; who holds -/
/-- the laws of the class -/
def LawsC (g : Mm) (Ls : List (List Cls)) : Prop := Ls.length ≤ 6 ∧ g 1 14 = nI Ls.length ∧ ∀ (k : Nat) (L : List Cls), Ls[k]? = some L → LawC g (107 + 6 * k) L
theorem LawsC.fr {g g' : Mm} {Ls : List (List Cls)} (hl : LawsC g Ls) (e1 : g' 1 14 = g 1 14) (e : ∀ a, 107 ≤ a → a < 143 → g' a = g a) : LawsC g' Ls :=
  ⟨hl.1, by rw [e1]; exact hl.2.1, fun k L hk => (hl.2.2 k L hk).fr (fun a h1 h2 => e a (by omega) (by have := (List.getElem?_eq_some_iff.mp hk).1; have := hl.1; omega))⟩
/-- the law of a number; -1: none -/
def lwOf (Ls : List (List Cls)) (v : Int32) : Option (List Cls) := if v = -1 then none else Ls[v.toNatClampNeg]?
def isLw (n : Nat) (v : Int32) : Prop := v = -1 ∨ ∃ k : Nat, k < n ∧ v = nI k
section ClsN
variable {l : Launch} {E : Ey} {g : Mm} {Q : Option Value → Mm → Prop} {X : String → Mm → Prop} {h : Nat}
set_option maxRecDepth 10000 in
theorem c_stopFilm (q : Q none (u2 g 1 16 (-1))) : Ct l E lay NC 0 0 0 yX7_stopFilm [.ref 1] g Q X := by
  refine Ct_in k_yX7_stopFilm (by decide) rfl (Nat.le_of_ble_eq_true rfl) rfl ?_
  intro S hS hZ hr ht hR
  show J S 0 0 g 0 [some (.ref 1)] []
  refine J_aload_n hS dX7_stopFilm_0 rfl ?_
  refine J_iconst (v := (-1)) hS dX7_stopFilm_1 (by decide) ?_
  refine J_putI hS dX7_stopFilm_2 fpX7_86 ob1 rfl (fun g2 eg2 => ?_)
  refine J_vret hS hZ hr dX7_stopFilm_5 (by omega) (by omega) ?_
  rw [eg2]; exact q
set_option maxRecDepth 10000 in
theorem c_lawOf {Ls : List (List Cls)} {v : Int32} (hl : LawsC g Ls) (hv : isLw Ls.length v) (q : ∀ (r : Value) (x : Int32), ab 2 x = r → (r = .null ∨ ∃ t, r = .ref t) → ((v = -1 ∧ x = 0) ∨ ∃ k : Nat, k < Ls.length ∧ v = nI k ∧ x = nI (107 + 6 * k)) → Q (some r) g) : Ct l E lay NC 0 0 0 yX7_lawOf [.ref 1, .int v] g Q X := by
  have hn := hl.1
  refine Ct_in k_yX7_lawOf (by decide) rfl (Nat.le_of_ble_eq_true rfl) rfl ?_
  intro S hS hZ hr ht hR
  show J S 0 0 g 0 [some (.ref 1), some (.int v)] []
  refine J_iload_n hS dX7_lawOf_0 rfl ?_
  rcases hv with e | ⟨k, hk, e⟩
  ·
    refine J_if_lt (tgt := 12) hS dX7_lawOf_1 (by decide) (fun c1 => ?_) (fun c1 => ?_)
    ·
      refine J_null hS dX7_lawOf_12 ?_
      refine J_goto (tgt := 22) hS dX7_lawOf_13 (by decide) ?_
      refine J_aret hS hZ hr (Or.inl ⟨_, rfl⟩) (Or.inl rfl) dX7_lawOf_22 (by omega) (by omega) ?_
      exact q .null 0 rfl (Or.inl rfl) (Or.inl ⟨e, rfl⟩)
    · exact absurd (by rw [e]; decide) c1
  · subst e
    refine J_if_lt (tgt := 12) hS dX7_lawOf_1 (by decide) (fun c1 => ?_) (fun c1 => ?_)
    · exact absurd c1 (nI_pos (by omega))
    ·
      refine J_iload_n hS dX7_lawOf_4 rfl ?_
      refine J_aload_n hS dX7_lawOf_5 rfl ?_
      refine J_getI hS dX7_lawOf_6 flX7_80 ob1 rfl ?_
      show J S 0 0 g 9 [some (.ref 1), some (.int (nI k))] [.int _, .int (nI k)]
      rw [hl.2.1]
      refine J_icmp_lt (tgt := 16) hS dX7_lawOf_9 (by decide) (fun c2 => ?_) (fun c2 => ?_)
      ·
        refine J_aload_n hS dX7_lawOf_16 rfl ?_
        refine J_getR (t := 161) hS dX7_lawOf_17 flX7_31 ob1 rfl ?_
        refine J_iload_n hS dX7_lawOf_20 rfl ?_
        refine J_aaldN (t0 := 5) (t := 107 + 6 * k) hS (k) dX7_lawOf_21 aq161 (fun _ => rfl) (by first | rfl | (simp only [n0, n1, n2, n3, n4, n5, n6, n7, n8, n9, n10, n11, n12, n13, n14, n15, n16, n17, n18, n19, n20, n24, n32, n56, n60, n64, n72, n99, n100, n128, n136, n142, n144, n200, n300, n999, n1000, n1500, n3464, nI_add, pk_mul] <;> first | rfl | (congr 1; omega))) (by omega) (by decide) rfl ?_
        refine J_aret hS hZ hr (Or.inl ⟨_, rfl⟩) (Or.inr ⟨_, rfl⟩) dX7_lawOf_22 (by omega) (by omega) ?_
        exact q (.ref (107 + 6 * k)) (nI (107 + 6 * k)) (ab2_ref (by omega) (by omega)) (Or.inr ⟨_, rfl⟩) (Or.inr ⟨k, hk, rfl, rfl⟩)
      · exact absurd (nI_lt hk (by omega)) c2
theorem use_rule {Ls : List (List Cls)} {v x lo : Int32} (hl : LawsC g Ls) (hx : (v = -1 ∧ x = 0) ∨ ∃ k : Nat, k < Ls.length ∧ v = nI k ∧ x = nI (107 + 6 * k)) : RuleC (u2 (u2 g 152 2 x) 152 3 lo) (lwOf Ls v) := by
  have hn := hl.1
  rcases hx with ⟨e, ex⟩ | ⟨k, hk, e, ex⟩
  · left
    refine ⟨by unfold lwOf; rw [if_pos e], by simp [u2, ex]⟩
  · right
    have hkl : Ls[k]? = some Ls[k] := List.getElem?_eq_getElem hk
    refine ⟨107 + 6 * k, Ls[k], ?_, ⟨k, by omega, rfl⟩, by simp [u2, ex], (hl.2.2 k _ hkl).fr (fun a h1 h2 => by rw [u2_ne a (by omega), u2_ne a (by omega)])⟩
    unfold lwOf
    rw [if_neg (by rw [e]; exact nI_nem1 (by omega)), e, nI_clamp (by omega)]; exact hkl
set_option maxRecDepth 10000 in
theorem c_useLawInForce {Ls : List (List Cls)} (hl : LawsC g Ls) (hv : isLw Ls.length (wv g 2 5)) (q : ∀ g', (∀ z, z ≠ 152 → g' z = g z) → RuleC g' (lwOf Ls (wv g 2 5)) → g' 152 3 = -1 → Q none g') : Ct l E lay NC 1 0 0 yX7_useLawInForce [.ref 1] g Q X := by
  refine Ct_in k_yX7_useLawInForce (by decide) rfl (Nat.le_of_ble_eq_true rfl) rfl ?_
  intro S hS hZ hr ht hR
  show J S 0 0 g 0 [some (.ref 1)] []
  refine J_aload_n hS dX7_useLawInForce_0 rfl ?_
  refine J_getR (t := 152) hS dX7_useLawInForce_1 flX7_52 ob1 rfl ?_
  refine J_aload_n hS dX7_useLawInForce_4 rfl ?_
  refine J_aload_n hS dX7_useLawInForce_5 rfl ?_
  refine J_getR (t := 2) hS dX7_useLawInForce_6 flX7_10 ob1 rfl ?_
  refine J_getI hS dX7_useLawInForce_9 flX7_205 wo_now.ob rfl ?_
  refine J_callV1 (X' := fun _ _ => False) hS dX7_useLawInForce_12 mvX7_299 ob1 rfl (by decide) (by decide) (Nat.le_of_ble_eq_true rfl) hR (fun _ _ q => q.elim) (c_lawOf hl hv (fun r x h1 h2 h3 => ?_))
  show J S 0 0 g 15 [some (.ref 1)] [r, .ref (152)]
  rw [show g 2 5 = wv g 2 5 from rfl] at *
  refine J_iconst (v := (-1)) hS dX7_useLawInForce_15 (by decide) ?_
  refine J_callV2 (X' := fun _ _ => False) hS dX7_useLawInForce_16 mvX7_303 ob152 rfl (by decide) (by decide) (Nat.le_of_ble_eq_true rfl) hR (fun _ _ q => q.elim) (c_use h1 h2 ?_)
  refine J_vret hS hZ hr dX7_useLawInForce_19 (by omega) (by omega) ?_
  exact q _ (fun z hz => by rw [u2_ne z hz, u2_ne z hz]) (use_rule hl h3) (by simp [u2])
set_option maxRecDepth 10000 in
set_option maxHeartbeats 4000000 in
theorem c_askWhatIsHeld (hW : Wo h) {c m : Nat} {lw : Option (List Cls)} (hc : c < 24) (em : g 143 0 = nI (m + 1)) (hR0 : RuleC g lw) (q : ∀ g', (∀ z, z ≠ 145 → z ≠ 146 → z ≠ 147 → z ≠ 153 → z ≠ 154 → g' z = g z) → (∀ o, o < 6 → g' 147 (c * 6 + o) = if g 147 (c * 6 + o) = -1 ∧ hldB lw (g 152 3) (wv g h) c o = true then nI m else g 147 (c * 6 + o)) → (∀ i, (i < c * 6 ∨ c * 6 + 6 ≤ i) → g' 147 i = g 147 i) → (∀ o, o < 6 → g' 146 o = if (g 147 (c * 6 + o) = -1 ∧ hldB lw (g 152 3) (wv g h) c o = true) ∧ g 146 o = -1 then nI m else g 146 o) → (∀ o, o < 6 → g' 145 o = if (g 147 (c * 6 + o) = -1 ∧ hldB lw (g 152 3) (wv g h) c o = true) ∧ g 146 o = -1 then nI c else g 145 o) → Q none g') : Ct l E lay NC 4 0 0 yX3_askWhatIsHeld [.ref 143, .ref h, .ref 152, .int (nI c)] g Q X := by
  have hh : h + 10 < 107 := by obtain ⟨i, hi, e⟩ := hW; omega
  refine Ct_in k_yX3_askWhatIsHeld (by decide) rfl (Nat.le_of_ble_eq_true rfl) rfl ?_
  intro S hS hZ hr ht hR
  show J S 0 0 g 0 [some (.ref 143), some (.ref h), some (.ref 152), some (.int (nI c)), none, none] []
  refine J_iconst (v := 0) hS dX3_askWhatIsHeld_0 (by decide) ?_
  refine J_istore (lt := fun i1 => [some (.ref 143), some (.ref h), some (.ref 152), some (.int (nI c)), some (.int i1), none]) hS dX3_askWhatIsHeld_1 (Nat.le_of_ble_eq_true rfl) (fun _ => rfl) (fun i1 ei1 => ?_)
  suffices H : ∀ (n k : Nat) (i : Int32) (g1 : Mm), k + n = 6 → i = nI k → (∀ z, z ≠ 145 → z ≠ 146 → z ≠ 147 → z ≠ 153 → z ≠ 154 → g1 z = g z) → (∀ o, o < k → g1 147 (c * 6 + o) = if g 147 (c * 6 + o) = -1 ∧ hldB lw (g 152 3) (wv g h) c o = true then nI m else g 147 (c * 6 + o)) → (∀ i, (i < c * 6 ∨ c * 6 + k ≤ i) → g1 147 i = g 147 i) → (∀ o, o < k → g1 146 o = if (g 147 (c * 6 + o) = -1 ∧ hldB lw (g 152 3) (wv g h) c o = true) ∧ g 146 o = -1 then nI m else g 146 o) → (∀ o, o < k → g1 145 o = if (g 147 (c * 6 + o) = -1 ∧ hldB lw (g 152 3) (wv g h) c o = true) ∧ g 146 o = -1 then nI c else g 145 o) → (∀ o, k ≤ o → g1 146 o = g 146 o ∧ g1 145 o = g 145 o) → J S 0 0 g1 3 [some (.ref 143), some (.ref h), some (.ref 152), some (.int (nI c)), some (.int i), none] [] by
    exact H 6 0 i1 g rfl ei1 (fun _ _ _ _ _ _ => rfl) (fun o ho => absurd ho (by omega)) (fun _ _ => rfl) (fun o ho => absurd ho (by omega)) (fun o ho => absurd ho (by omega)) (fun _ _ => ⟨rfl, rfl⟩)
  intro n
  induction n with
  | zero =>
    intro k i g1 hk hi f1 s1 t1 u1 v1 x1
    have hk3 : k = 6 := by omega
    subst hk3
    refine J_iload hS dX3_askWhatIsHeld_3 rfl ?_
    refine J_bipush (v := 6) hS dX3_askWhatIsHeld_5 (by decide) ?_
    refine J_icmp_ge (tgt := 92) hS dX3_askWhatIsHeld_7 (by decide) (fun c1 => ?_) (fun c1 => ?_)
    ·
      refine J_vret hS hZ hr dX3_askWhatIsHeld_92 (by omega) (by omega) ?_
      exact q g1 f1 s1 t1 u1 v1
    · exact absurd (by rw [hi]; decide) c1
  | succ n ih =>
    intro k i g1 hk hi f1 s1 t1 u1 v1 x1
    subst hi
    have hk6 : k < 6 := by omega
    have w1 : wv g1 h = wv g h := wv_fr (fun z h1 h2 => f1 z (by omega) (by omega) (by omega) (by omega) (by omega))
    have e147 : g1 147 (c * 6 + k) = g 147 (c * 6 + k) := t1 _ (by omega)
    obtain ⟨P, hP⟩ : ∃ P : Prop, P = (g 147 (c * 6 + k) = -1 ∧ hldB lw (g 152 3) (wv g h) c k = true) := ⟨_, rfl⟩
    have nxt : ∀ (i' x : Int32) (g2 : Mm), i' = nI k + 1 → (∀ z, z ≠ 145 → z ≠ 146 → z ≠ 147 → z ≠ 153 → z ≠ 154 → g2 z = g z) → (∀ i, i ≠ c * 6 + k → g2 147 i = g1 147 i) → (g2 147 (c * 6 + k) = if g 147 (c * 6 + k) = -1 ∧ hldB lw (g 152 3) (wv g h) c k = true then nI m else g 147 (c * 6 + k)) → (∀ o, o ≠ k → g2 146 o = g1 146 o ∧ g2 145 o = g1 145 o) → (g2 146 k = if (g 147 (c * 6 + k) = -1 ∧ hldB lw (g 152 3) (wv g h) c k = true) ∧ g 146 k = -1 then nI m else g 146 k) → (g2 145 k = if (g 147 (c * 6 + k) = -1 ∧ hldB lw (g 152 3) (wv g h) c k = true) ∧ g 146 k = -1 then nI c else g 145 k) → J S 0 0 g2 3 [some (.ref 143), some (.ref h), some (.ref 152), some (.int (nI c)), some (.int i'), some (.int x)] [] := by
      intro i' x g2 hi' f2 a1 a2 a3 a4 a5
      refine J_weak (ls' := [some (.ref 143), some (.ref h), some (.ref 152), some (.int (nI c)), some (.int i'), none]) ⟨Or.inr rfl, Or.inr rfl, Or.inr rfl, Or.inr rfl, Or.inr rfl, Or.inl rfl, trivial⟩ ?_
      refine ih (k + 1) i' g2 (by omega) (by rw [hi']; exact nI_1 k) f2 ?_ ?_ ?_ ?_ ?_
      · intro o ho
        by_cases e : o = k
        · subst e; exact a2
        · rw [a1 _ (by omega)]; exact s1 o (by omega)
      · intro i hi2
        rw [a1 i (by omega)]; exact t1 i (by omega)
      · intro o ho
        by_cases e : o = k
        · subst e; exact a4
        · rw [(a3 o e).1]; exact u1 o (by omega)
      · intro o ho
        by_cases e : o = k
        · subst e; exact a5
        · rw [(a3 o e).2]; exact v1 o (by omega)
      · intro o ho
        rw [(a3 o (by omega)).1, (a3 o (by omega)).2]; exact x1 o (by omega)
    refine J_iload hS dX3_askWhatIsHeld_3 rfl ?_
    refine J_bipush (v := 6) hS dX3_askWhatIsHeld_5 (by decide) ?_
    refine J_icmp_ge (tgt := 92) hS dX3_askWhatIsHeld_7 (by decide) (fun c1 => ?_) (fun c1 => ?_)
    · exact absurd c1 (nI_ge (show k < 6 by omega) (by decide))
    ·
      refine J_iload_n hS dX3_askWhatIsHeld_10 rfl ?_
      refine J_bipush (v := 6) hS dX3_askWhatIsHeld_11 (by decide) ?_
      refine J_imul hS dX3_askWhatIsHeld_13 ?_
      refine J_iload hS dX3_askWhatIsHeld_14 rfl ?_
      refine J_iadd hS dX3_askWhatIsHeld_16 ?_
      refine J_istore (lt := fun ix => [some (.ref 143), some (.ref h), some (.ref 152), some (.int (nI c)), some (.int (nI k)), some (.int ix)]) hS dX3_askWhatIsHeld_17 (Nat.le_of_ble_eq_true rfl) (fun _ => rfl) (fun ix eix => ?_)
      have eix' : ix = nI (c * 6 + k) := by rw [eix]; simp only [n6, pk_mul, nI_add]
      subst eix'
      refine J_aload_n hS dX3_askWhatIsHeld_19 rfl ?_
      refine J_getR (t := 147) hS dX3_askWhatIsHeld_20 flX3_25 ob143 rfl ?_
      refine J_iload hS dX3_askWhatIsHeld_23 rfl ?_
      refine J_ialdN hS (c * 6 + k) dX3_askWhatIsHeld_25 ar147 (by first | rfl | (simp only [n0, n1, n2, n3, n4, n5, n6, n7, n8, n9, n10, n11, n12, n13, n14, n15, n16, n17, n18, n19, n20, n24, n32, n56, n60, n64, n72, n99, n100, n128, n136, n142, n144, n200, n300, n999, n1000, n1500, n3464, nI_add, pk_mul] <;> first | rfl | (congr 1; omega))) (by omega) (by decide) ?_
      refine J_iconst (v := (-1)) hS dX3_askWhatIsHeld_26 (by decide) ?_
      show J S 0 0 g1 27 [some (.ref 143), some (.ref h), some (.ref 152), some (.int (nI c)), some (.int (nI k)), some (.int (nI (c * 6 + k)))] [.int (-1), .int _]
      rw [e147]
      refine J_icmp_ne (tgt := 86) hS dX3_askWhatIsHeld_27 (by decide) (fun c2 => ?_) (fun c2 => ?_)
      ·
        refine J_iinc (lt := fun i2 => [some (.ref 143), some (.ref h), some (.ref 152), some (.int (nI c)), some (.int i2), some (.int (nI (c * 6 + k)))]) (v := 1) hS dX3_askWhatIsHeld_86 rfl (by decide) (fun _ => rfl) (fun i2 ei2 => ?_)
        refine J_goto (tgt := 3) hS dX3_askWhatIsHeld_89 (by decide) ?_
        exact nxt i2 _ g1 ei2 f1 (fun _ _ => rfl) (by rw [if_neg (fun z => c2 z.1)]; exact e147) (fun _ _ => ⟨rfl, rfl⟩) (by rw [if_neg (fun z => c2 z.1.1)]; exact (x1 k (by omega)).1) (by rw [if_neg (fun z => c2 z.1.1)]; exact (x1 k (by omega)).2)
      ·
        refine J_aload_n hS dX3_askWhatIsHeld_30 rfl ?_
        refine J_aload_n hS dX3_askWhatIsHeld_31 rfl ?_
        refine J_iload_n hS dX3_askWhatIsHeld_32 rfl ?_
        refine J_iload hS dX3_askWhatIsHeld_33 rfl ?_
        refine J_callV3 (X' := fun _ _ => False) hS dX3_askWhatIsHeld_35 mvX3_73 ob152 rfl (by decide) (by decide) (Nat.le_of_ble_eq_true rfl) hR (fun _ _ q => q.elim) (c_isHeld hW hc hk6 (hR0.fr (fun a ha => f1 a (by omega) (by omega) (by omega) (by omega) (by omega))) (fun g2 r b1 b2 b3 => ?_))
        rw [w1, f1 152 (by decide) (by decide) (by decide) (by decide) (by decide), ← hldB_iff] at b3
        have f2 : ∀ z, z ≠ 145 → z ≠ 146 → z ≠ 147 → z ≠ 153 → z ≠ 154 → g2 z = g z := fun z h1 h2 h3 h4 h5 => by rw [b1 z h4 h5]; exact f1 z h1 h2 h3 h4 h5
        refine J_if_eq (tgt := 86) hS dX3_askWhatIsHeld_38 (by decide) (fun c3 => ?_) (fun c3 => ?_)
        · have hno : ¬ hldB lw (g 152 3) (wv g h) c k = true := fun z => by rw [b3.mpr z] at c3; exact absurd c3 (by decide)
          refine J_iinc (lt := fun i2 => [some (.ref 143), some (.ref h), some (.ref 152), some (.int (nI c)), some (.int i2), some (.int (nI (c * 6 + k)))]) (v := 1) hS dX3_askWhatIsHeld_86 rfl (by decide) (fun _ => rfl) (fun i2 ei2 => ?_)
          refine J_goto (tgt := 3) hS dX3_askWhatIsHeld_89 (by decide) ?_
          exact nxt i2 _ g2 ei2 f2 (fun i _ => by rw [b1 147 (by decide) (by decide)]) (by rw [if_neg (fun z => hno z.2), b1 147 (by decide) (by decide)]; exact e147) (fun o _ => by rw [b1 146 (by decide) (by decide), b1 145 (by decide) (by decide)]; exact ⟨rfl, rfl⟩) (by rw [if_neg (fun z => hno z.1.2), b1 146 (by decide) (by decide)]; exact (x1 k (by omega)).1) (by rw [if_neg (fun z => hno z.1.2), b1 145 (by decide) (by decide)]; exact (x1 k (by omega)).2)
        · have hyes : hldB lw (g 152 3) (wv g h) c k = true := b3.mp (b2.resolve_left c3)
          refine J_aload_n hS dX3_askWhatIsHeld_41 rfl ?_
          refine J_getR (t := 147) hS dX3_askWhatIsHeld_42 flX3_25 ob143 rfl ?_
          refine J_iload hS dX3_askWhatIsHeld_45 rfl ?_
          refine J_aload_n hS dX3_askWhatIsHeld_47 rfl ?_
          refine J_getI hS dX3_askWhatIsHeld_48 flX3_9 ob143 rfl ?_
          show J S 0 0 g2 51 [some (.ref 143), some (.ref h), some (.ref 152), some (.int (nI c)), some (.int (nI k)), some (.int (nI (c * 6 + k)))] [.int _, .int (nI (c * 6 + k)), .ref (147)]
          rw [f2 143 (by decide) (by decide) (by decide) (by decide) (by decide), em]
          refine J_iconst (v := 1) hS dX3_askWhatIsHeld_51 (by decide) ?_
          refine J_isub hS dX3_askWhatIsHeld_52 ?_
          refine J_top (nI_pred m) ?_
          refine J_iastN hS (c * 6 + k) dX3_askWhatIsHeld_53 ar147 (by first | rfl | (simp only [n0, n1, n2, n3, n4, n5, n6, n7, n8, n9, n10, n11, n12, n13, n14, n15, n16, n17, n18, n19, n20, n24, n32, n56, n60, n64, n72, n99, n100, n128, n136, n142, n144, n200, n300, n999, n1000, n1500, n3464, nI_add, pk_mul] <;> first | rfl | (congr 1; omega))) (by omega) (by decide) (fun g53 eg53 => ?_)
          refine J_aload_n hS dX3_askWhatIsHeld_54 rfl ?_
          refine J_getR (t := 146) hS dX3_askWhatIsHeld_55 flX3_22 ob143 rfl ?_
          refine J_iload hS dX3_askWhatIsHeld_58 rfl ?_
          refine J_ialdN hS (k) dX3_askWhatIsHeld_60 ar146 (by first | rfl | (simp only [n0, n1, n2, n3, n4, n5, n6, n7, n8, n9, n10, n11, n12, n13, n14, n15, n16, n17, n18, n19, n20, n24, n32, n56, n60, n64, n72, n99, n100, n128, n136, n142, n144, n200, n300, n999, n1000, n1500, n3464, nI_add, pk_mul] <;> first | rfl | (congr 1; omega))) (by omega) (by decide) ?_
          refine J_iconst (v := (-1)) hS dX3_askWhatIsHeld_61 (by decide) ?_
          have e146 : g53 146 k = g 146 k := by rw [eg53, u2_ne 146 (by decide), b1 146 (by decide) (by decide)]; exact (x1 k (by omega)).1
          have e145 : g53 145 k = g 145 k := by rw [eg53, u2_ne 145 (by decide), b1 145 (by decide) (by decide)]; exact (x1 k (by omega)).2
          have f53 : ∀ z, z ≠ 145 → z ≠ 146 → z ≠ 147 → z ≠ 153 → z ≠ 154 → g53 z = g z := fun z h1 h2 h3 h4 h5 => by rw [eg53, u2_ne z h3]; exact f2 z h1 h2 h3 h4 h5
          have r53 : ∀ i, i ≠ c * 6 + k → g53 147 i = g1 147 i := fun i hi2 => by rw [eg53]; simp only [u2, hi2, and_false, if_false]; rw [b1 147 (by decide) (by decide)]
          have q53 : g53 147 (c * 6 + k) = if g 147 (c * 6 + k) = -1 ∧ hldB lw (g 152 3) (wv g h) c k = true then nI m else g 147 (c * 6 + k) := by rw [if_pos ⟨c2, hyes⟩, eg53]; simp [u2]
          have o53 : ∀ o, g53 146 o = g1 146 o ∧ g53 145 o = g1 145 o := fun o => by rw [eg53, u2_ne 146 (by decide), u2_ne 145 (by decide), b1 146 (by decide) (by decide), b1 145 (by decide) (by decide)]; exact ⟨rfl, rfl⟩
          show J S 0 0 g53 62 [some (.ref 143), some (.ref h), some (.ref 152), some (.int (nI c)), some (.int (nI k)), some (.int (nI (c * 6 + k)))] [.int (-1), .int _]
          rw [e146]
          refine J_icmp_ne (tgt := 86) hS dX3_askWhatIsHeld_62 (by decide) (fun c4 => ?_) (fun c4 => ?_)
          ·
            refine J_iinc (lt := fun i2 => [some (.ref 143), some (.ref h), some (.ref 152), some (.int (nI c)), some (.int i2), some (.int (nI (c * 6 + k)))]) (v := 1) hS dX3_askWhatIsHeld_86 rfl (by decide) (fun _ => rfl) (fun i2 ei2 => ?_)
            refine J_goto (tgt := 3) hS dX3_askWhatIsHeld_89 (by decide) ?_
            exact nxt i2 _ g53 ei2 f53 r53 q53 (fun o _ => o53 o) (by rw [if_neg (fun z => c4 z.2)]; exact e146) (by rw [if_neg (fun z => c4 z.2)]; exact e145)
          ·
            refine J_aload_n hS dX3_askWhatIsHeld_65 rfl ?_
            refine J_getR (t := 146) hS dX3_askWhatIsHeld_66 flX3_22 ob143 rfl ?_
            refine J_iload hS dX3_askWhatIsHeld_69 rfl ?_
            refine J_aload_n hS dX3_askWhatIsHeld_71 rfl ?_
            refine J_getI hS dX3_askWhatIsHeld_72 flX3_9 ob143 rfl ?_
            show J S 0 0 g53 75 [some (.ref 143), some (.ref h), some (.ref 152), some (.int (nI c)), some (.int (nI k)), some (.int (nI (c * 6 + k)))] [.int _, .int (nI k), .ref (146)]
            rw [f53 143 (by decide) (by decide) (by decide) (by decide) (by decide), em]
            refine J_iconst (v := 1) hS dX3_askWhatIsHeld_75 (by decide) ?_
            refine J_isub hS dX3_askWhatIsHeld_76 ?_
            refine J_top (nI_pred m) ?_
            refine J_iastN hS (k) dX3_askWhatIsHeld_77 ar146 (by first | rfl | (simp only [n0, n1, n2, n3, n4, n5, n6, n7, n8, n9, n10, n11, n12, n13, n14, n15, n16, n17, n18, n19, n20, n24, n32, n56, n60, n64, n72, n99, n100, n128, n136, n142, n144, n200, n300, n999, n1000, n1500, n3464, nI_add, pk_mul] <;> first | rfl | (congr 1; omega))) (by omega) (by decide) (fun g77 eg77 => ?_)
            refine J_aload_n hS dX3_askWhatIsHeld_78 rfl ?_
            refine J_getR (t := 145) hS dX3_askWhatIsHeld_79 flX3_19 ob143 rfl ?_
            refine J_iload hS dX3_askWhatIsHeld_82 rfl ?_
            refine J_iload_n hS dX3_askWhatIsHeld_84 rfl ?_
            refine J_iastN hS (k) dX3_askWhatIsHeld_85 ar145 (by first | rfl | (simp only [n0, n1, n2, n3, n4, n5, n6, n7, n8, n9, n10, n11, n12, n13, n14, n15, n16, n17, n18, n19, n20, n24, n32, n56, n60, n64, n72, n99, n100, n128, n136, n142, n144, n200, n300, n999, n1000, n1500, n3464, nI_add, pk_mul] <;> first | rfl | (congr 1; omega))) (by omega) (by decide) (fun g85 eg85 => ?_)
            refine J_iinc (lt := fun i2 => [some (.ref 143), some (.ref h), some (.ref 152), some (.int (nI c)), some (.int i2), some (.int (nI (c * 6 + k)))]) (v := 1) hS dX3_askWhatIsHeld_86 rfl (by decide) (fun _ => rfl) (fun i2 ei2 => ?_)
            refine J_goto (tgt := 3) hS dX3_askWhatIsHeld_89 (by decide) ?_
            refine nxt i2 _ g85 ei2 (fun z h1 h2 h3 h4 h5 => by rw [eg85, u2_ne z h1, eg77, u2_ne z h2]; exact f53 z h1 h2 h3 h4 h5) (fun i hi2 => by rw [eg85, u2_ne 147 (by decide), eg77, u2_ne 147 (by decide)]; exact r53 i hi2) (by rw [eg85, u2_ne 147 (by decide), eg77, u2_ne 147 (by decide)]; exact q53) ?_ ?_ ?_
            · intro o ho
              rw [eg85, u2_ne 146 (by decide), eg77]
              simp only [u2, ho, and_false, if_false]
              exact o53 o
            · rw [if_pos ⟨⟨c2, hyes⟩, c4⟩, eg85, u2_ne 146 (by decide), eg77]; simp [u2]
            · rw [if_pos ⟨⟨c2, hyes⟩, c4⟩, eg85]; simp [u2]
end ClsN


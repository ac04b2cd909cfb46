/-! THE CLASS: what is counted -/
theorem hv0_is {f : Nat → Int32} {n : Nat} (h : 0 < n) (hb : bst f n < n) : ∃ s, s < n ∧ (hv0 f n).1 = nI s := by
  unfold hv0
  rw [if_neg (by omega)]
  split
  · exact ⟨_, hb, rfl⟩
  · exact ⟨0, h, rfl⟩
theorem Wo2 : Wo 2 := ⟨0, by decide, rfl⟩
theorem Wo13 : Wo 13 := ⟨1, by decide, rfl⟩
section ClsP
variable {l : Launch} {E : Ey} {g : Mm} {Q : Option Value → Mm → Prop} {X : String → Mm → Prop} {h : Nat}
set_option maxRecDepth 10000 in
theorem c_countOrdersHeld {Ls : List (List Cls)} {c : Nat} (hc : c < 24) (hl : LawsC g Ls) (hv : isLw Ls.length (wv g 2 5)) (q : ∀ g', (∀ z, z ≠ 152 → z ≠ 153 → z ≠ 154 → g' z = g z) → Q (some (.int (nI (here (fun o => hldB (lwOf Ls (wv g 2 5)) (-1) (wv g 2) c o) 6).length))) g') : Ct l E lay NC 4 0 0 yX7_countOrdersHeld [.ref 1, .int (nI c)] g Q X := by
  refine Ct_in k_yX7_countOrdersHeld (by decide) rfl (Nat.le_of_ble_eq_true rfl) rfl ?_
  intro S hS hZ hr ht hR
  show J S 0 0 g 0 [some (.ref 1), some (.int (nI c)), none, none] []
  refine J_aload_n hS dX7_countOrdersHeld_0 rfl ?_
  refine J_callV0 (X' := fun _ _ => False) hS dX7_countOrdersHeld_1 mvX7_167 ob1 rfl (by decide) (by decide) (Nat.le_of_ble_eq_true rfl) hR (fun _ _ q => q.elim) (c_useLawInForce hl hv (fun g0 f0 hRl lo0 => ?_))
  refine J_iconst (v := 0) hS dX7_countOrdersHeld_4 (by decide) ?_
  refine J_istore_n (lt := fun b1 => [some (.ref 1), some (.int (nI c)), some (.int b1), none]) hS dX7_countOrdersHeld_5 (Nat.le_of_ble_eq_true rfl) (fun _ => rfl) (fun b1 eb1 => ?_)
  refine J_iconst (v := 0) hS dX7_countOrdersHeld_6 (by decide) ?_
  refine J_istore_n (lt := fun i1 => [some (.ref 1), some (.int (nI c)), some (.int b1), some (.int i1)]) hS dX7_countOrdersHeld_7 (Nat.le_of_ble_eq_true rfl) (fun _ => rfl) (fun i1 ei1 => ?_)
  obtain ⟨p, hp⟩ : ∃ p : Nat → Bool, p = fun o => hldB (lwOf Ls (wv g 2 5)) (-1) (wv g 2) c o := ⟨_, rfl⟩
  have w0 : wv g0 2 = wv g 2 := wv_fr (fun z h1 h2 => f0 z (by omega))
  suffices H : ∀ (r k : Nat) (b i : Int32) (g1 : Mm), k + r = 6 → i = nI k → b = nI (here p k).length → (∀ z, z ≠ 153 → z ≠ 154 → g1 z = g0 z) → J S 0 0 g1 8 [some (.ref 1), some (.int (nI c)), some (.int b), some (.int i)] [] by
    exact H 6 0 b1 i1 g0 (by omega) ei1 (by rw [eb1]; rfl) (fun _ _ _ => rfl)
  intro r
  induction r with
  | zero =>
    intro k b i g1 hk hi hb f1
    have hk6 : k = 6 := by omega
    subst hk6
    refine J_iload_n hS dX7_countOrdersHeld_8 rfl ?_
    refine J_bipush (v := 6) hS dX7_countOrdersHeld_9 (by decide) ?_
    refine J_icmp_ge (tgt := 39) hS dX7_countOrdersHeld_11 (by decide) (fun c1 => ?_) (fun c1 => ?_)
    ·
      refine J_iload_n hS dX7_countOrdersHeld_39 rfl ?_
      refine J_iret hS hZ hr dX7_countOrdersHeld_40 (by omega) (by omega) ?_
      rw [hb, hp]; exact q g1 (fun z h1 h2 h3 => by rw [f1 z h2 h3]; exact f0 z h1)
    · exact absurd (by rw [hi]; decide) c1
  | succ r ih =>
    intro k b i g1 hk hi hb f1
    subst hi
    have w1 : wv g1 2 = wv g 2 := by rw [← w0]; exact wv_fr (fun z h1 h2 => f1 z (by omega) (by omega))
    refine J_iload_n hS dX7_countOrdersHeld_8 rfl ?_
    refine J_bipush (v := 6) hS dX7_countOrdersHeld_9 (by decide) ?_
    refine J_icmp_ge (tgt := 39) hS dX7_countOrdersHeld_11 (by decide) (fun c1 => ?_) (fun c1 => ?_)
    · exact absurd c1 (nI_ge (show k < 6 by omega) (by decide))
    ·
      refine J_aload_n hS dX7_countOrdersHeld_14 rfl ?_
      refine J_getR (t := 152) hS dX7_countOrdersHeld_15 flX7_52 ob1 rfl ?_
      refine J_aload_n hS dX7_countOrdersHeld_18 rfl ?_
      refine J_getR (t := 2) hS dX7_countOrdersHeld_19 flX7_10 ob1 rfl ?_
      refine J_iload_n hS dX7_countOrdersHeld_22 rfl ?_
      refine J_iload_n hS dX7_countOrdersHeld_23 rfl ?_
      refine J_callV3 (X' := fun _ _ => False) hS dX7_countOrdersHeld_24 mvX7_170 ob152 rfl (by decide) (by decide) (Nat.le_of_ble_eq_true rfl) hR (fun _ _ q => q.elim) (c_isHeld Wo2 hc (show k < 6 by omega) (hRl.fr (fun a ha => f1 a (by omega) (by omega))) (fun g2 r b1 b2 b3 => ?_))
      rw [w1, f1 152 (by decide) (by decide), lo0, ← hldB_iff] at b3
      have hs := here_succ p k
      have f2 : ∀ z, z ≠ 153 → z ≠ 154 → g2 z = g0 z := fun z h1 h2 => by rw [b1 z h1 h2]; exact f1 z h1 h2
      refine J_if_eq (tgt := 33) hS dX7_countOrdersHeld_27 (by decide) (fun c2 => ?_) (fun c2 => ?_)
      · have hno : p k = false := by
          rw [hp]
          cases e : hldB (lwOf Ls (wv g 2 5)) (-1) (wv g 2) c k with
          | false => exact e
          | true => rw [b3.mpr e] at c2; exact absurd c2 (by decide)
        refine J_iinc (lt := fun i2 => [some (.ref 1), some (.int (nI c)), some (.int b), some (.int i2)]) (v := 1) hS dX7_countOrdersHeld_33 rfl (by decide) (fun _ => rfl) (fun i2 ei2 => ?_)
        refine J_goto (tgt := 8) hS dX7_countOrdersHeld_36 (by decide) ?_
        exact ih (k + 1) b i2 g2 (by omega) (by rw [ei2]; exact nI_1 k) (by rw [hb, hs]; simp [hno]) f2
      · have hyes : p k = true := by rw [hp]; exact b3.mp (b2.resolve_left c2)
        refine J_iinc (lt := fun b4 => [some (.ref 1), some (.int (nI c)), some (.int b4), some (.int (nI k))]) (v := 1) hS dX7_countOrdersHeld_30 rfl (by decide) (fun _ => rfl) (fun b4 eb4 => ?_)
        refine J_iinc (lt := fun i2 => [some (.ref 1), some (.int (nI c)), some (.int b4), some (.int i2)]) (v := 1) hS dX7_countOrdersHeld_33 rfl (by decide) (fun _ => rfl) (fun i2 ei2 => ?_)
        refine J_goto (tgt := 8) hS dX7_countOrdersHeld_36 (by decide) ?_
        exact ih (k + 1) b4 i2 g2 (by omega) (by rw [ei2]; exact nI_1 k) (by rw [eb4, hb, hs]; simp [hyes, nI_1]) f2
set_option maxRecDepth 10000 in
theorem c_countHolders (hW : Wo h) {n o : Nat} {y : Int32} {lw : Option (List Cls)} (hn : n ≤ 24) (hm : g h 6 = nI n) (ho : o < 6) (hRl : RuleC g lw) (q : ∀ g', (∀ z, z ≠ 153 → z ≠ 154 → g' z = g z) → Q (some (.int (nI (here (fun c => thr g h y c && hldB lw (g 152 3) (wv g h) c o) n).length))) g') : Ct l E lay NC 4 0 0 yX7_countHolders [.ref 1, .ref h, .int y, .int (nI o)] g Q X := by
  have hh : h + 10 < 107 := by obtain ⟨i, hi, e⟩ := hW; omega
  refine Ct_in k_yX7_countHolders (by decide) rfl (Nat.le_of_ble_eq_true rfl) rfl ?_
  intro S hS hZ hr ht hR
  show J S 0 0 g 0 [some (.ref 1), some (.ref h), some (.int y), some (.int (nI o)), none, none] []
  refine J_iconst (v := 0) hS dX7_countHolders_0 (by decide) ?_
  refine J_istore (lt := fun b1 => [some (.ref 1), some (.ref h), some (.int y), some (.int (nI o)), some (.int b1), none]) hS dX7_countHolders_1 (Nat.le_of_ble_eq_true rfl) (fun _ => rfl) (fun b1 eb1 => ?_)
  refine J_iconst (v := 0) hS dX7_countHolders_3 (by decide) ?_
  refine J_istore (lt := fun i1 => [some (.ref 1), some (.ref h), some (.int y), some (.int (nI o)), some (.int b1), some (.int i1)]) hS dX7_countHolders_4 (Nat.le_of_ble_eq_true rfl) (fun _ => rfl) (fun i1 ei1 => ?_)
  obtain ⟨p, hp⟩ : ∃ p : Nat → Bool, p = fun c => thr g h y c && hldB lw (g 152 3) (wv g h) c o := ⟨_, rfl⟩
  suffices H : ∀ (r k : Nat) (b i : Int32) (g1 : Mm), k + r = n → i = nI k → b = nI (here p k).length → (∀ z, z ≠ 153 → z ≠ 154 → g1 z = g z) → J S 0 0 g1 6 [some (.ref 1), some (.ref h), some (.int y), some (.int (nI o)), some (.int b), some (.int i)] [] by
    exact H n 0 b1 i1 g (by omega) ei1 (by rw [eb1]; rfl) (fun _ _ _ => rfl)
  intro r
  induction r with
  | zero =>
    intro k b i g1 hk hi hb f1
    have hk6 : k = n := by omega
    subst hk6
    refine J_iload hS dX7_countHolders_6 rfl ?_
    refine J_aload_n hS dX7_countHolders_8 rfl ?_
    refine J_getI hS dX7_countHolders_9 flX7_114 hW.ob rfl ?_
    refine J_icmp_ge (tgt := 48) hS dX7_countHolders_12 (by decide) (fun c1 => ?_) (fun c1 => ?_)
    ·
      refine J_iload hS dX7_countHolders_48 rfl ?_
      refine J_iret hS hZ hr dX7_countHolders_50 (by omega) (by omega) ?_
      rw [hb, hp]; exact q g1 f1
    · exact absurd (by rw [hi, f1 h (by omega) (by omega), hm]; exact Int32.le_refl _) c1
  | succ r ih =>
    intro k b i g1 hk hi hb f1
    subst hi
    have w1 : wv g1 h = wv g h := wv_fr (fun z h1 h2 => f1 z (by omega) (by omega))
    have t1 : thr g1 h y = thr g h y := by funext c; unfold thr; rw [f1 (h + 5) (by omega) (by omega), f1 (h + 1) (by omega) (by omega)]
    have hs := here_succ p k
    refine J_iload hS dX7_countHolders_6 rfl ?_
    refine J_aload_n hS dX7_countHolders_8 rfl ?_
    refine J_getI hS dX7_countHolders_9 flX7_114 hW.ob rfl ?_
    refine J_icmp_ge (tgt := 48) hS dX7_countHolders_12 (by decide) (fun c1 => ?_) (fun c1 => ?_)
    · exact absurd (by rw [f1 h (by omega) (by omega), hm] at c1; exact c1) (nI_ge (show k < n by omega) (by omega))
    ·
      refine J_aload_n hS dX7_countHolders_15 rfl ?_
      refine J_iload hS dX7_countHolders_16 rfl ?_
      refine J_iload_n hS dX7_countHolders_18 rfl ?_
      refine J_callV2 (X' := fun _ _ => False) hS dX7_countHolders_19 mvX7_393 hW.ob rfl (by decide) (by decide) (Nat.le_of_ble_eq_true rfl) hR (fun _ _ q => q.elim) (c_isThere hW (show k < 24 by omega) ?_)
      show J S 0 0 g1 22 [some (.ref 1), some (.ref h), some (.int y), some (.int (nI o)), some (.int b), some (.int (nI k))] [.int _]
      rw [thr_b01, t1]
      refine J_if_eq (tgt := 42) hS dX7_countHolders_22 (by decide) (fun c2 => ?_) (fun c2 => ?_)
      · have hno : p k = false := by
          rw [hp]
          cases e : thr g h y k with
          | false => simp [e]
          | true => simp [e] at c2
        refine J_iinc (lt := fun i2 => [some (.ref 1), some (.ref h), some (.int y), some (.int (nI o)), some (.int b), some (.int i2)]) (v := 1) hS dX7_countHolders_42 rfl (by decide) (fun _ => rfl) (fun i2 ei2 => ?_)
        refine J_goto (tgt := 6) hS dX7_countHolders_45 (by decide) ?_
        exact ih (k + 1) b i2 g1 (by omega) (by rw [ei2]; exact nI_1 k) (by rw [hb, hs]; simp [hno]) f1
      · have hth : thr g h y k = true := by
          cases e : thr g h y k with
          | true => rfl
          | false => simp [e] at c2
        refine J_aload_n hS dX7_countHolders_25 rfl ?_
        refine J_getR (t := 152) hS dX7_countHolders_26 flX7_52 ob1 rfl ?_
        refine J_aload_n hS dX7_countHolders_29 rfl ?_
        refine J_iload hS dX7_countHolders_30 rfl ?_
        refine J_iload_n hS dX7_countHolders_32 rfl ?_
        refine J_callV3 (X' := fun _ _ => False) hS dX7_countHolders_33 mvX7_170 ob152 rfl (by decide) (by decide) (Nat.le_of_ble_eq_true rfl) hR (fun _ _ q => q.elim) (c_isHeld hW (show k < 24 by omega) ho (hRl.fr (fun a ha => f1 a (by omega) (by omega))) (fun g2 r b1 b2 b3 => ?_))
        rw [w1, f1 152 (by decide) (by decide), ← hldB_iff] at b3
        have f2 : ∀ z, z ≠ 153 → z ≠ 154 → g2 z = g z := fun z h1 h2 => by rw [b1 z h1 h2]; exact f1 z h1 h2
        refine J_if_eq (tgt := 42) hS dX7_countHolders_36 (by decide) (fun c3 => ?_) (fun c3 => ?_)
        · have hno : p k = false := by
            rw [hp]
            cases e : hldB lw (g 152 3) (wv g h) k o with
            | false => simp [e]
            | true => rw [b3.mpr e] at c3; exact absurd c3 (by decide)
          refine J_iinc (lt := fun i2 => [some (.ref 1), some (.ref h), some (.int y), some (.int (nI o)), some (.int b), some (.int i2)]) (v := 1) hS dX7_countHolders_42 rfl (by decide) (fun _ => rfl) (fun i2 ei2 => ?_)
          refine J_goto (tgt := 6) hS dX7_countHolders_45 (by decide) ?_
          exact ih (k + 1) b i2 g2 (by omega) (by rw [ei2]; exact nI_1 k) (by rw [hb, hs]; simp [hno]) f2
        · have hyes : p k = true := by rw [hp]; simp [hth, b3.mp (b2.resolve_left c3)]
          refine J_iinc (lt := fun b4 => [some (.ref 1), some (.ref h), some (.int y), some (.int (nI o)), some (.int b4), some (.int (nI k))]) (v := 1) hS dX7_countHolders_39 rfl (by decide) (fun _ => rfl) (fun b4 eb4 => ?_)
          refine J_iinc (lt := fun i2 => [some (.ref 1), some (.ref h), some (.int y), some (.int (nI o)), some (.int b4), some (.int i2)]) (v := 1) hS dX7_countHolders_42 rfl (by decide) (fun _ => rfl) (fun i2 ei2 => ?_)
          refine J_goto (tgt := 6) hS dX7_countHolders_45 (by decide) ?_
          exact ih (k + 1) b4 i2 g2 (by omega) (by rw [ei2]; exact nI_1 k) (by rw [eb4, hb, hs]; simp [hyes, nI_1]) f2
end ClsP


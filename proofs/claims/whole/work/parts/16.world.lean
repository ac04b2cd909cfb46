/-! THE CLASS: the rest of World -/
/-- the heaviest of n, or a draw: what is chosen, and the seed behind it -/
def pickO (f : Nat → Int32) (n : Nat) (ch : Int32) : Nat × Int32 := if 0 < f (bst f n) then (bst f n, ch) else (dr (adv ch) n, adv ch)
theorem pickO_lt {f : Nat → Int32} {n : Nat} {ch : Int32} (h : 0 < n) : (pickO f n ch).1 < n := by
  unfold pickO; split
  · exact bst_lt h
  · exact dr_lt h
theorem u2_same {g : Mm} {a k : Nat} : u2 g a k (g a k) = g := by
  funext b j; unfold u2; split
  · rename_i e; rw [e.1, e.2]
  · rfl
/-- the sum over those of whom p holds -/
def ssum (p : Nat → Bool) (v : Nat → Int32) : Nat → Int32
  | 0 => 0
  | n + 1 => if p n then ssum p v n + v n else ssum p v n
/-- the class's loop for a yard: (best, most) from (0, 0) on -/
def hv0 (f : Nat → Int32) (i : Nat) : Int32 × Int32 := if i = 0 then (0, 0) else if 0 < f (bst f i) then (nI (bst f i), f (bst f i)) else (0, 0)
theorem hv0_step {f : Nat → Int32} {i : Nat} : hv0 f (i + 1) = if (hv0 f i).2 < f i then (nI i, f i) else hv0 f i := by
  unfold hv0
  rw [if_neg (by omega)]
  by_cases h0 : i = 0
  · subst h0
    simp only [if_true, bst]
    have : ¬ f 0 < f 0 := fun q => Int32.lt_irrefl q
    simp only [this, if_false]
  · rw [if_neg h0]
    simp only [bst]
    by_cases h1 : f (bst f i) < f i
    · simp only [h1, if_true]
      by_cases h2 : 0 < f (bst f i)
      · have h3 : 0 < f i := Int32.lt_trans h2 h1
        simp [h2, h1, h3]
      · simp only [h2, if_false]
    · simp only [h1, if_false]
      by_cases h2 : 0 < f (bst f i)
      · simp [h2, h1]
      · have h3 : ¬ 0 < f i := fun q => h1 (Int32.lt_of_le_of_lt (Int32.not_lt.mp h2) q)
        simp [h2, h3]
theorem bst_max {f : Nat → Int32} : ∀ {n j : Nat}, j < n → f j ≤ f (bst f n)
  | 0, _, h => absurd h (by omega)
  | n + 1, j, h => by
    unfold bst
    by_cases e : j = n
    · subst e; split
      · exact Int32.le_refl _
      · rename_i q; exact Int32.not_lt.mp q
    · have ih := @bst_max f n j (by omega)
      split
      · rename_i q; exact Int32.le_trans ih (Int32.le_of_lt q)
      · exact ih
theorem bst_zero {f : Nat → Int32} : ∀ {n : Nat}, (∀ j, j < n → f j = f 0) → bst f n = 0
  | 0, _ => rfl
  | n + 1, h => by
    have ih := @bst_zero f n (fun j hj => h j (by omega))
    unfold bst
    rw [ih, if_neg]
    rw [h n (by omega)]; exact fun q => Int32.lt_irrefl q
theorem hv0_end {f : Nat → Int32} {n : Nat} (h : 0 < n) (hf : ∀ j, j < n → 0 ≤ f j) : (hv0 f n).1 = nI (bst f n) := by
  unfold hv0
  rw [if_neg (by omega)]
  split
  · rfl
  · rename_i q
    have h2 : ∀ j, j < n → f j = 0 := fun j hj => Int32.le_antisymm (Int32.le_trans (bst_max hj) (Int32.not_lt.mp q)) (hf j hj)
    rw [bst_zero (fun j hj => by rw [h2 j hj, h2 0 h])]; rfl
section ClsC
variable {l : Launch} {E : Ey} {g : Mm} {Q : Option Value → Mm → Prop} {X : String → Mm → Prop} {h : Nat}
theorem nI_nem1 {n : Nat} (hn : n < 2 ^ 31) : ¬ nI n = -1 := by
  intro e
  have h1 := nI_toInt hn
  rw [e] at h1
  have : ((-1 : Int32)).toInt = -1 := by decide
  omega
set_option maxRecDepth 10000 in
theorem c_chooseSign (hW : Wo h) {c p : Nat} (hc : c < 24) (hp : p < 8) (q : Q (some (.int (nI (pickO (fun s => g (h + 8) ((c * 8 + p) * 16 + s)) 16 (g h 1)).1))) (u2 g h 1 (pickO (fun s => g (h + 8) ((c * 8 + p) * 16 + s)) 16 (g h 1)).2)) : Ct l E lay NC 2 0 0 yX6_chooseSign [.ref h, .int (nI c), .int (nI p)] g Q X := by
  refine Ct_in k_yX6_chooseSign (by decide) rfl (Nat.le_of_ble_eq_true rfl) rfl ?_
  intro S hS hZ hr ht hR
  show J S 0 0 g 0 [some (.ref h), some (.int (nI c)), some (.int (nI p)), none] []
  refine J_aload_n hS dX6_chooseSign_0 rfl ?_
  refine J_iload_n hS dX6_chooseSign_1 rfl ?_
  refine J_iload_n hS dX6_chooseSign_2 rfl ?_
  refine J_callV2 (X' := fun _ _ => False) hS dX6_chooseSign_3 mvX6_94 hW.ob rfl (by decide) (by decide) (Nat.le_of_ble_eq_true rfl) hR (fun _ _ q => q.elim) (c_heaviestSign hW hc hp ?_)
  refine J_istore_n (lt := fun s => [some (.ref h), some (.int (nI c)), some (.int (nI p)), some (.int s)]) hS dX6_chooseSign_6 (Nat.le_of_ble_eq_true rfl) (fun _ => rfl) (fun s es => ?_)
  refine J_iload_n hS dX6_chooseSign_7 rfl ?_
  refine J_iconst (v := (-1)) hS dX6_chooseSign_8 (by decide) ?_
  obtain ⟨f, hf⟩ : ∃ f : Nat → Int32, f = fun s => g (h + 8) ((c * 8 + p) * 16 + s) := ⟨_, rfl⟩
  rw [← hf] at q es
  refine J_icmp_ne (tgt := 21) hS dX6_chooseSign_9 (by decide) (fun c1 => ?_) (fun c1 => ?_)
  ·
    refine J_iload_n hS dX6_chooseSign_21 rfl ?_
    refine J_iret hS hZ hr dX6_chooseSign_22 (by omega) (by omega) ?_
    have h2 : 0 < f (bst f 16) := by
      refine Classical.byContradiction fun z => c1 ?_
      rw [es]; unfold hvy; rw [if_neg z]
    have e1 : s = nI (bst f 16) := by rw [es]; unfold hvy; rw [if_pos h2]
    have e2 : pickO f 16 (g h 1) = (bst f 16, g h 1) := by unfold pickO; rw [if_pos h2]
    rw [e2] at q
    simp only [u2_same] at q
    rw [e1]; exact q
  · have h2 : ¬ 0 < f (bst f 16) := by
      intro z
      have : s = nI (bst f 16) := by rw [es]; unfold hvy; rw [if_pos z]
      rw [this] at c1
      exact nI_nem1 (by have := @bst_lt f 16 (by decide); omega) c1
    have e2 : pickO f 16 (g h 1) = (dr (adv (g h 1)) 16, adv (g h 1)) := by unfold pickO; rw [if_neg h2]
    rw [e2] at q
    refine J_aload_n hS dX6_chooseSign_12 rfl ?_
    refine J_bipush (v := 16) hS dX6_chooseSign_13 (by decide) ?_
    refine J_callV1 (X' := fun _ _ => False) hS dX6_chooseSign_15 mvX6_97 hW.ob rfl (by decide) (by decide) (Nat.le_of_ble_eq_true rfl) hR (fun _ _ q => q.elim) (c_drawChance (n := 16) hW (by decide) (by decide) ?_)
    refine J_goto (tgt := 22) hS dX6_chooseSign_18 (by decide) ?_
    refine J_iret hS hZ hr dX6_chooseSign_22 (by omega) (by omega) ?_
    exact q
set_option maxRecDepth 10000 in
theorem c_chooseOrder (hW : Wo h) {c : Nat} (hc : c < 24) (q : Q (some (.int (nI (pickO (fun s => g (h + 9) (c * 6 + s)) 6 (g h 1)).1))) (u2 g h 1 (pickO (fun s => g (h + 9) (c * 6 + s)) 6 (g h 1)).2)) : Ct l E lay NC 2 0 0 yX6_chooseOrder [.ref h, .int (nI c)] g Q X := by
  refine Ct_in k_yX6_chooseOrder (by decide) rfl (Nat.le_of_ble_eq_true rfl) rfl ?_
  intro S hS hZ hr ht hR
  show J S 0 0 g 0 [some (.ref h), some (.int (nI c)), none] []
  refine J_aload_n hS dX6_chooseOrder_0 rfl ?_
  refine J_iload_n hS dX6_chooseOrder_1 rfl ?_
  refine J_callV1 (X' := fun _ _ => False) hS dX6_chooseOrder_2 mvX6_100 hW.ob rfl (by decide) (by decide) (Nat.le_of_ble_eq_true rfl) hR (fun _ _ q => q.elim) (c_heaviestOrder hW hc ?_)
  refine J_istore_n (lt := fun s => [some (.ref h), some (.int (nI c)), some (.int s)]) hS dX6_chooseOrder_5 (Nat.le_of_ble_eq_true rfl) (fun _ => rfl) (fun s es => ?_)
  refine J_iload_n hS dX6_chooseOrder_6 rfl ?_
  refine J_iconst (v := (-1)) hS dX6_chooseOrder_7 (by decide) ?_
  obtain ⟨f, hf⟩ : ∃ f : Nat → Int32, f = fun s => g (h + 9) (c * 6 + s) := ⟨_, rfl⟩
  rw [← hf] at q es
  refine J_icmp_ne (tgt := 20) hS dX6_chooseOrder_8 (by decide) (fun c1 => ?_) (fun c1 => ?_)
  ·
    refine J_iload_n hS dX6_chooseOrder_20 rfl ?_
    refine J_iret hS hZ hr dX6_chooseOrder_21 (by omega) (by omega) ?_
    have h2 : 0 < f (bst f 6) := by
      refine Classical.byContradiction fun z => c1 ?_
      rw [es]; unfold hvy; rw [if_neg z]
    have e1 : s = nI (bst f 6) := by rw [es]; unfold hvy; rw [if_pos h2]
    have e2 : pickO f 6 (g h 1) = (bst f 6, g h 1) := by unfold pickO; rw [if_pos h2]
    rw [e2] at q
    simp only [u2_same] at q
    rw [e1]; exact q
  · have h2 : ¬ 0 < f (bst f 6) := by
      intro z
      have : s = nI (bst f 6) := by rw [es]; unfold hvy; rw [if_pos z]
      rw [this] at c1
      exact nI_nem1 (by have := @bst_lt f 6 (by decide); omega) c1
    have e2 : pickO f 6 (g h 1) = (dr (adv (g h 1)) 6, adv (g h 1)) := by unfold pickO; rw [if_neg h2]
    rw [e2] at q
    refine J_aload_n hS dX6_chooseOrder_11 rfl ?_
    refine J_bipush (v := 6) hS dX6_chooseOrder_12 (by decide) ?_
    refine J_callV1 (X' := fun _ _ => False) hS dX6_chooseOrder_14 mvX6_97 hW.ob rfl (by decide) (by decide) (Nat.le_of_ble_eq_true rfl) hR (fun _ _ q => q.elim) (c_drawChance (n := 6) hW (by decide) (by decide) ?_)
    refine J_goto (tgt := 21) hS dX6_chooseOrder_17 (by decide) ?_
    refine J_iret hS hZ hr dX6_chooseOrder_21 (by omega) (by omega) ?_
    exact q
/-- what a child's sign for a concept is seen as; -1 if it has none -/
noncomputable def sfr (g : Mm) (h y c p : Nat) : Int32 := if 0 < g (h + 8) ((c * 8 + p) * 16 + bst (fun s => g (h + 8) ((c * 8 + p) * 16 + s)) 16) then nI (sna g h y (bst (fun s => g (h + 8) ((c * 8 + p) * 16 + s)) 16)) else -1
set_option maxRecDepth 10000 in
theorem c_seenFor (hW : Wo h) {c p y : Nat} (hc : c < 24) (hp : p < 8) (hy : y < 3) (hyd : g (h + 1) c = nI y) (q : Q (some (.int (sfr g h y c p))) g) : Ct l E lay NC 2 0 0 yX6_seenFor [.ref h, .int (nI c), .int (nI p)] g Q X := by
  refine Ct_in k_yX6_seenFor (by decide) rfl (Nat.le_of_ble_eq_true rfl) rfl ?_
  intro S hS hZ hr ht hR
  show J S 0 0 g 0 [some (.ref h), some (.int (nI c)), some (.int (nI p)), none] []
  refine J_aload_n hS dX6_seenFor_0 rfl ?_
  refine J_iload_n hS dX6_seenFor_1 rfl ?_
  refine J_iload_n hS dX6_seenFor_2 rfl ?_
  refine J_callV2 (X' := fun _ _ => False) hS dX6_seenFor_3 mvX6_94 hW.ob rfl (by decide) (by decide) (Nat.le_of_ble_eq_true rfl) hR (fun _ _ q => q.elim) (c_heaviestSign hW hc hp ?_)
  refine J_istore_n (lt := fun s => [some (.ref h), some (.int (nI c)), some (.int (nI p)), some (.int s)]) hS dX6_seenFor_6 (Nat.le_of_ble_eq_true rfl) (fun _ => rfl) (fun s es => ?_)
  refine J_iload_n hS dX6_seenFor_7 rfl ?_
  refine J_iconst (v := (-1)) hS dX6_seenFor_8 (by decide) ?_
  unfold sfr at q
  obtain ⟨f, hf⟩ : ∃ f : Nat → Int32, f = fun s => g (h + 8) ((c * 8 + p) * 16 + s) := ⟨_, rfl⟩
  rw [show g (h + 8) ((c * 8 + p) * 16 + bst (fun s => g (h + 8) ((c * 8 + p) * 16 + s)) 16) = f (bst f 16) by rw [hf], ← hf] at q
  rw [← hf] at es
  refine J_icmp_ne (tgt := 16) hS dX6_seenFor_9 (by decide) (fun c1 => ?_) (fun c1 => ?_)
  · have h2 : 0 < f (bst f 16) := by
      refine Classical.byContradiction fun z => c1 ?_
      rw [es]; unfold hvy; rw [if_neg z]
    have e1 : s = nI (bst f 16) := by rw [es]; unfold hvy; rw [if_pos h2]
    subst e1
    rw [if_pos h2] at q
    refine J_aload_n hS dX6_seenFor_16 rfl ?_
    refine J_aload_n hS dX6_seenFor_17 rfl ?_
    refine J_getR (t := h + 1) hS dX6_seenFor_18 flX6_33 hW.ob rfl ?_
    refine J_iload_n hS dX6_seenFor_21 rfl ?_
    refine J_ialdN hS (c) dX6_seenFor_22 (show Ar lay NC .int (h + 1) 24 from hW.ar 1 (by decide) (by decide)) (by first | rfl | (simp only [n0, n1, n2, n3, n4, n5, n6, n7, n8, n9, n10, n11, n12, n13, n14, n15, n16, n17, n18, n19, n20, n24, n32, n56, n60, n64, n72, n99, n100, n128, n136, n142, n144, n200, n300, n999, n1000, n1500, n3464, nI_add, pk_mul] <;> first | rfl | (congr 1; omega))) hc (by decide) ?_
    refine J_top hyd ?_
    refine J_iload_n hS dX6_seenFor_23 rfl ?_
    refine J_callV2 (X' := fun _ _ => False) hS dX6_seenFor_24 mvX6_106 hW.ob rfl (by decide) (by decide) (Nat.le_of_ble_eq_true rfl) hR (fun _ _ q => q.elim) (c_seenAs hW hy (bst_lt (by decide)) ?_)
    refine J_iret hS hZ hr dX6_seenFor_27 (by omega) (by omega) ?_
    exact q
  ·
    refine J_iconst (v := (-1)) hS dX6_seenFor_12 (by decide) ?_
    refine J_goto (tgt := 27) hS dX6_seenFor_13 (by decide) ?_
    refine J_iret hS hZ hr dX6_seenFor_27 (by omega) (by omega) ?_
    have h2 : ¬ 0 < f (bst f 16) := by
      intro z
      have : s = nI (bst f 16) := by rw [es]; unfold hvy; rw [if_pos z]
      rw [this] at c1
      exact nI_nem1 (by have := @bst_lt f 16 (by decide); omega) c1
    rw [if_neg h2] at q; exact q
theorem thr_fr {g g' : Mm} {h : Nat} {y : Int32} (e1 : g' (h + 5) = g (h + 5)) (e2 : g' (h + 1) = g (h + 1)) : thr g' h y = thr g h y := by funext c; simp [thr, e1, e2]
set_option maxRecDepth 10000 in
theorem c_gather (hW : Wo h) {n : Nat} {y : Int32} (hn : n ≤ 24) (hm : g h 6 = nI n) (q : ∀ g', (∀ a, a ≠ 157 → g' a = g a) → (∀ j, j < (here (thr g h y) n).length → g' 157 j = nI ((here (thr g h y) n).getD j 0)) → Q (some (.int (nI (here (thr g h y) n).length))) g') : Ct l E lay NC 1 0 0 yX6_gather [.ref h, .int y, .ref 157] g Q X := by
  have hh : h + 10 < 157 := by obtain ⟨i, hi, e⟩ := hW; omega
  refine Ct_in k_yX6_gather (by decide) rfl (Nat.le_of_ble_eq_true rfl) rfl ?_
  intro S hS hZ hr ht hR
  show J S 0 0 g 0 [some (.ref h), some (.int y), some (.ref 157), none, none] []
  refine J_iconst (v := 0) hS dX6_gather_0 (by decide) ?_
  refine J_istore_n (lt := fun b1 => [some (.ref h), some (.int y), some (.ref 157), some (.int b1), none]) hS dX6_gather_1 (Nat.le_of_ble_eq_true rfl) (fun _ => rfl) (fun b1 eb1 => ?_)
  refine J_iconst (v := 0) hS dX6_gather_2 (by decide) ?_
  refine J_istore (lt := fun i1 => [some (.ref h), some (.int y), some (.ref 157), some (.int b1), some (.int i1)]) hS dX6_gather_3 (Nat.le_of_ble_eq_true rfl) (fun _ => rfl) (fun i1 ei1 => ?_)
  suffices H : ∀ (r k : Nat) (b i : Int32) (g1 : Mm), k + r = n → i = nI k → b = nI (here (thr g h y) k).length → (∀ a, a ≠ 157 → g1 a = g a) → (∀ j, j < (here (thr g h y) k).length → g1 157 j = nI ((here (thr g h y) k).getD j 0)) → J S 0 0 g1 5 [some (.ref h), some (.int y), some (.ref 157), some (.int b), some (.int i)] [] by
    exact H n 0 b1 i1 g (by omega) ei1 (by rw [eb1]; rfl) (fun _ _ => rfl) (fun j hj => by simp [here] at hj)
  intro r
  induction r with
  | zero =>
    intro k b i g1 hk hi hb h1 h2
    have hm1 : g1 h 6 = nI n := by rw [h1 h (by omega)]; exact hm
    refine J_iload hS dX6_gather_5 rfl ?_
    refine J_aload_n hS dX6_gather_7 rfl ?_
    refine J_getI hS dX6_gather_8 flX6_30 hW.ob rfl ?_
    refine J_icmp_ge (tgt := 44) hS dX6_gather_11 (by decide) (fun c1 => ?_) (fun c1 => ?_)
    ·
      refine J_iload_n hS dX6_gather_44 rfl ?_
      refine J_iret hS hZ hr dX6_gather_45 (by omega) (by omega) ?_
      have : k = n := by omega
      subst this
      rw [hb]; exact q g1 h1 h2
    · exact absurd (by rw [hi, hm1, show k = n by omega]; exact Int32.le_refl _) c1
  | succ r ih =>
    intro k b i g1 hk hi hb h1 h2
    have hm1 : g1 h 6 = nI n := by rw [h1 h (by omega)]; exact hm
    refine J_iload hS dX6_gather_5 rfl ?_
    refine J_aload_n hS dX6_gather_7 rfl ?_
    refine J_getI hS dX6_gather_8 flX6_30 hW.ob rfl ?_
    refine J_icmp_ge (tgt := 44) hS dX6_gather_11 (by decide) (fun c1 => ?_) (fun c1 => ?_)
    · exact absurd (by rw [hi, hm1] at c1; exact c1) (nI_ge (show k < n by omega) (by omega))
    · subst hi
      have hlen := here_len (thr g h y) k
      refine J_iload_n hS dX6_gather_14 rfl ?_
      refine J_aload_n hS dX6_gather_15 rfl ?_
      refine J_alen (v := 24) hS dX6_gather_16 ar157 (by decide) ?_
      refine J_icmp_ge (tgt := 44) hS dX6_gather_17 (by decide) (fun c3 => ?_) (fun c3 => ?_)
      · exact absurd (by rw [hb] at c3; exact c3) (nI_ge (show (here (thr g h y) k).length < 24 by omega) (by decide))
      ·
        refine J_aload_n hS dX6_gather_20 rfl ?_
        refine J_iload hS dX6_gather_21 rfl ?_
        refine J_iload_n hS dX6_gather_23 rfl ?_
        refine J_callV2 (X' := fun _ _ => False) hS dX6_gather_24 mvX6_90 hW.ob rfl (by decide) (by decide) (Nat.le_of_ble_eq_true rfl) hR (fun _ _ q => q.elim) (c_isThere hW (show k < 24 by omega) ?_)
        show J S 0 0 g1 27 [some (.ref h), some (.int y), some (.ref 157), some (.int b), some (.int (nI k))] [.int _]
        rw [thr_b01, thr_fr (h1 _ (by omega)) (h1 _ (by omega))]
        have hs := here_succ (thr g h y) k
        refine J_if_eq (tgt := 38) hS dX6_gather_27 (by decide) (fun c2 => ?_) (fun c2 => ?_)
        ·
          refine J_iinc (lt := fun i2 => [some (.ref h), some (.int y), some (.ref 157), some (.int b), some (.int i2)]) (v := 1) hS dX6_gather_38 rfl (by decide) (fun _ => rfl) (fun i2 ei2 => ?_)
          refine J_goto (tgt := 5) hS dX6_gather_41 (by decide) ?_
          have ht : thr g h y k = false := by cases e : thr g h y k with
            | false => rfl
            | true => simp [e] at c2
          rw [ht] at hs
          simp at hs
          exact ih (k + 1) b i2 g1 (by omega) (by rw [ei2]; exact nI_1 k) (by rw [hb, hs]) h1 (by rw [hs]; exact h2)
        · subst hb
          have ht : thr g h y k = true := by cases e : thr g h y k with
            | true => rfl
            | false => simp [e] at c2
          rw [ht] at hs
          simp at hs
          refine J_aload_n hS dX6_gather_30 rfl ?_
          refine J_iload_n hS dX6_gather_31 rfl ?_
          refine J_iload hS dX6_gather_32 rfl ?_
          refine J_iastN hS ((here (thr g h y) k).length) dX6_gather_34 ar157 (by first | rfl | (simp only [n0, n1, n2, n3, n4, n5, n6, n7, n8, n9, n10, n11, n12, n13, n14, n15, n16, n17, n18, n19, n20, n24, n32, n56, n60, n64, n72, n99, n100, n128, n136, n142, n144, n200, n300, n999, n1000, n1500, n3464, nI_add, pk_mul] <;> first | rfl | (congr 1; omega))) (by omega) (by decide) (fun g34 eg34 => ?_)
          refine J_iinc (lt := fun b2 => [some (.ref h), some (.int y), some (.ref 157), some (.int b2), some (.int (nI k))]) (v := 1) hS dX6_gather_35 rfl (by decide) (fun _ => rfl) (fun b2 eb2 => ?_)
          refine J_iinc (lt := fun i2 => [some (.ref h), some (.int y), some (.ref 157), some (.int b2), some (.int i2)]) (v := 1) hS dX6_gather_38 rfl (by decide) (fun _ => rfl) (fun i2 ei2 => ?_)
          refine J_goto (tgt := 5) hS dX6_gather_41 (by decide) ?_
          refine ih (k + 1) b2 i2 g34 (by omega) (by rw [ei2]; exact nI_1 k) (by rw [eb2, hs, List.length_append, nI_1]; rfl) (fun a ha => by rw [eg34, u2_ne a ha]; exact h1 a ha) ?_
          intro j hj
          rw [hs] at hj ⊢
          rw [List.length_append] at hj
          by_cases e : j < (here (thr g h y) k).length
          · rw [eg34, show (here (thr g h y) k ++ [k]).getD j 0 = (here (thr g h y) k).getD j 0 by simp [List.getD_eq_getElem?_getD, List.getElem?_append_left e], ← h2 j e]
            unfold u2
            rw [if_neg (by omega)]
          · have e2 : j = (here (thr g h y) k).length := by simp at hj; omega
            subst e2
            rw [eg34]
            simp [u2]
set_option maxRecDepth 10000 in
theorem c_signOfYard (hW : Wo h) {n p : Nat} {y : Int32} (hn : n ≤ 24) (hp : p < 8) (hm : g h 6 = nI n) (q : Q (some (.int (hv0 (fun s => ssum (thr g h y) (fun c => g (h + 8) ((c * 8 + p) * 16 + s)) n) 16).1)) g) : Ct l E lay NC 1 0 0 yX6_signOfYard [.ref h, .int y, .int (nI p)] g Q X := by
  refine Ct_in k_yX6_signOfYard (by decide) rfl (Nat.le_of_ble_eq_true rfl) rfl ?_
  intro S hS hZ hr ht hR
  show J S 0 0 g 0 [some (.ref h), some (.int y), some (.int (nI p)), none, none, none, none, none] []
  refine J_iconst (v := 0) hS dX6_signOfYard_0 (by decide) ?_
  refine J_istore_n (lt := fun b1 => [some (.ref h), some (.int y), some (.int (nI p)), some (.int b1), none, none, none, none]) hS dX6_signOfYard_1 (Nat.le_of_ble_eq_true rfl) (fun _ => rfl) (fun b1 eb1 => ?_)
  refine J_iconst (v := 0) hS dX6_signOfYard_2 (by decide) ?_
  refine J_istore (lt := fun m1 => [some (.ref h), some (.int y), some (.int (nI p)), some (.int b1), some (.int m1), none, none, none]) hS dX6_signOfYard_3 (Nat.le_of_ble_eq_true rfl) (fun _ => rfl) (fun m1 em1 => ?_)
  refine J_iconst (v := 0) hS dX6_signOfYard_5 (by decide) ?_
  refine J_istore (lt := fun i1 => [some (.ref h), some (.int y), some (.int (nI p)), some (.int b1), some (.int m1), some (.int i1), none, none]) hS dX6_signOfYard_6 (Nat.le_of_ble_eq_true rfl) (fun _ => rfl) (fun i1 ei1 => ?_)
  obtain ⟨f, hf⟩ : ∃ f : Nat → Int32, f = fun s => ssum (thr g h y) (fun c => g (h + 8) ((c * 8 + p) * 16 + s)) n := ⟨_, rfl⟩
  rw [← hf] at q
  suffices H : ∀ (r k : Nat) (b m i : Int32), k + r = 16 → i = nI k → (b, m) = hv0 f k → J S 0 0 g 8 [some (.ref h), some (.int y), some (.int (nI p)), some (.int b), some (.int m), some (.int i), none, none] [] by
    exact H 16 0 b1 m1 i1 rfl ei1 (by rw [eb1, em1]; rfl)
  intro r
  induction r with
  | zero =>
    intro k b m i hk hi hb
    refine J_iload hS dX6_signOfYard_8 rfl ?_
    refine J_bipush (v := 16) hS dX6_signOfYard_10 (by decide) ?_
    refine J_icmp_ge (tgt := 84) hS dX6_signOfYard_12 (by decide) (fun c1 => ?_) (fun c1 => ?_)
    ·
      refine J_iload_n hS dX6_signOfYard_84 rfl ?_
      refine J_iret hS hZ hr dX6_signOfYard_85 (by omega) (by omega) ?_
      rw [show (16 : Nat) = k by omega, ← hb] at q
      exact q
    · exact absurd (by rw [hi, show k = 16 by omega]; decide) c1
  | succ r ih =>
    intro k b m i hk hi hb
    refine J_iload hS dX6_signOfYard_8 rfl ?_
    refine J_bipush (v := 16) hS dX6_signOfYard_10 (by decide) ?_
    refine J_icmp_ge (tgt := 84) hS dX6_signOfYard_12 (by decide) (fun c1 => ?_) (fun c1 => ?_)
    · exact absurd (by rw [hi] at c1; exact c1) (nI_ge (show k < 16 by omega) (by decide))
    · subst hi
      refine J_iconst (v := 0) hS dX6_signOfYard_15 (by decide) ?_
      refine J_istore (lt := fun s1 => [some (.ref h), some (.int y), some (.int (nI p)), some (.int b), some (.int m), some (.int (nI k)), some (.int s1), none]) hS dX6_signOfYard_16 (Nat.le_of_ble_eq_true rfl) (fun _ => rfl) (fun s1 es1 => ?_)
      refine J_iconst (v := 0) hS dX6_signOfYard_18 (by decide) ?_
      refine J_istore (lt := fun j1 => [some (.ref h), some (.int y), some (.int (nI p)), some (.int b), some (.int m), some (.int (nI k)), some (.int s1), some (.int j1)]) hS dX6_signOfYard_19 (Nat.le_of_ble_eq_true rfl) (fun _ => rfl) (fun j1 ej1 => ?_)
      suffices H2 : ∀ (r2 k2 : Nat) (s j : Int32), k2 + r2 = n → j = nI k2 → s = ssum (thr g h y) (fun c => g (h + 8) ((c * 8 + p) * 16 + k)) k2 → J S 0 0 g 21 [some (.ref h), some (.int y), some (.int (nI p)), some (.int b), some (.int m), some (.int (nI k)), some (.int s), some (.int j)] [] by
        exact H2 n 0 s1 j1 (by omega) ej1 (by rw [es1]; rfl)
      intro r2
      induction r2 with
      | zero =>
        intro k2 s j hk2 hj hs2
        refine J_iload hS dX6_signOfYard_21 rfl ?_
        refine J_aload_n hS dX6_signOfYard_23 rfl ?_
        refine J_getI hS dX6_signOfYard_24 flX6_30 hW.ob rfl ?_
        refine J_icmp_ge (tgt := 64) hS dX6_signOfYard_27 (by decide) (fun c3 => ?_) (fun c3 => ?_)
        · have es' : s = f k := by rw [hs2, hf, show k2 = n by omega]
          have hs := hv0_step (f := f) (i := k)
          rw [← hb] at hs
          refine J_iload hS dX6_signOfYard_64 rfl ?_
          refine J_iload hS dX6_signOfYard_66 rfl ?_
          refine J_icmp_le (tgt := 78) hS dX6_signOfYard_68 (by decide) (fun c2 => ?_) (fun c2 => ?_)
          ·
            refine J_iinc (lt := fun i2 => [some (.ref h), some (.int y), some (.int (nI p)), some (.int b), some (.int m), some (.int i2), some (.int s), some (.int j)]) (v := 1) hS dX6_signOfYard_78 rfl (by decide) (fun _ => rfl) (fun i2 ei2 => ?_)
            refine J_goto (tgt := 8) hS dX6_signOfYard_81 (by decide) ?_
            refine J_weak (ls' := [some (.ref h), some (.int y), some (.int (nI p)), some (.int b), some (.int m), some (.int i2), none, none]) ⟨Or.inr rfl, Or.inr rfl, Or.inr rfl, Or.inr rfl, Or.inr rfl, Or.inr rfl, Or.inl rfl, Or.inl rfl, trivial⟩ ?_
            refine ih (k + 1) b m i2 (by omega) (by rw [ei2]; exact nI_1 k) ?_
            rw [hs, if_neg]
            rw [← es']; exact Int32.not_lt.mpr c2
          ·
            refine J_iload hS dX6_signOfYard_71 rfl ?_
            refine J_istore (lt := fun m2 => [some (.ref h), some (.int y), some (.int (nI p)), some (.int b), some (.int m2), some (.int (nI k)), some (.int s), some (.int j)]) hS dX6_signOfYard_73 (Nat.le_of_ble_eq_true rfl) (fun _ => rfl) (fun m2 em2 => ?_)
            refine J_iload hS dX6_signOfYard_75 rfl ?_
            refine J_istore_n (lt := fun b2 => [some (.ref h), some (.int y), some (.int (nI p)), some (.int b2), some (.int m2), some (.int (nI k)), some (.int s), some (.int j)]) hS dX6_signOfYard_77 (Nat.le_of_ble_eq_true rfl) (fun _ => rfl) (fun b2 eb2 => ?_)
            refine J_iinc (lt := fun i2 => [some (.ref h), some (.int y), some (.int (nI p)), some (.int b2), some (.int m2), some (.int i2), some (.int s), some (.int j)]) (v := 1) hS dX6_signOfYard_78 rfl (by decide) (fun _ => rfl) (fun i2 ei2 => ?_)
            refine J_goto (tgt := 8) hS dX6_signOfYard_81 (by decide) ?_
            refine J_weak (ls' := [some (.ref h), some (.int y), some (.int (nI p)), some (.int b2), some (.int m2), some (.int i2), none, none]) ⟨Or.inr rfl, Or.inr rfl, Or.inr rfl, Or.inr rfl, Or.inr rfl, Or.inr rfl, Or.inl rfl, Or.inl rfl, trivial⟩ ?_
            refine ih (k + 1) b2 m2 i2 (by omega) (by rw [ei2]; exact nI_1 k) ?_
            rw [hs, if_pos, eb2, em2, es']
            rw [← es']; exact Int32.not_le.mp c2
        · exact absurd (by rw [hj, hm, show k2 = n by omega]; exact Int32.le_refl _) c3
      | succ r2 ih2 =>
        intro k2 s j hk2 hj hs2
        refine J_iload hS dX6_signOfYard_21 rfl ?_
        refine J_aload_n hS dX6_signOfYard_23 rfl ?_
        refine J_getI hS dX6_signOfYard_24 flX6_30 hW.ob rfl ?_
        refine J_icmp_ge (tgt := 64) hS dX6_signOfYard_27 (by decide) (fun c3 => ?_) (fun c3 => ?_)
        · exact absurd (by rw [hj, hm] at c3; exact c3) (nI_ge (show k2 < n by omega) (by omega))
        · subst hj
          refine J_aload_n hS dX6_signOfYard_30 rfl ?_
          refine J_iload hS dX6_signOfYard_31 rfl ?_
          refine J_iload_n hS dX6_signOfYard_33 rfl ?_
          refine J_callV2 (X' := fun _ _ => False) hS dX6_signOfYard_34 mvX6_90 hW.ob rfl (by decide) (by decide) (Nat.le_of_ble_eq_true rfl) hR (fun _ _ q => q.elim) (c_isThere hW (show k2 < 24 by omega) ?_)
          show J S 0 0 g 37 [some (.ref h), some (.int y), some (.int (nI p)), some (.int b), some (.int m), some (.int (nI k)), some (.int s), some (.int (nI k2))] [.int _]
          rw [thr_b01]
          refine J_if_eq (tgt := 58) hS dX6_signOfYard_37 (by decide) (fun c4 => ?_) (fun c4 => ?_)
          ·
            refine J_iinc (lt := fun j2 => [some (.ref h), some (.int y), some (.int (nI p)), some (.int b), some (.int m), some (.int (nI k)), some (.int s), some (.int j2)]) (v := 1) hS dX6_signOfYard_58 rfl (by decide) (fun _ => rfl) (fun j2 ej2 => ?_)
            refine J_goto (tgt := 21) hS dX6_signOfYard_61 (by decide) ?_
            refine ih2 (k2 + 1) s j2 (by omega) (by rw [ej2]; exact nI_1 k2) ?_
            have ht : thr g h y k2 = false := by cases e : thr g h y k2 with
              | false => rfl
              | true => simp [e] at c4
            rw [hs2]; simp [ssum, ht]
          ·
            refine J_iload hS dX6_signOfYard_40 rfl ?_
            refine J_aload_n hS dX6_signOfYard_42 rfl ?_
            refine J_getR (t := h + 8) hS dX6_signOfYard_43 flX6_55 hW.ob rfl ?_
            refine J_iload hS dX6_signOfYard_46 rfl ?_
            refine J_iload_n hS dX6_signOfYard_48 rfl ?_
            refine J_iload hS dX6_signOfYard_49 rfl ?_
            refine J_callN3 hS dX6_signOfYard_51 mnX6_83 rfl (by decide) (by decide) (Nat.le_of_ble_eq_true rfl) hR (c_signIndex ?_)
            refine J_ialdN hS ((k2 * 8 + p) * 16 + k) dX6_signOfYard_54 (show Ar lay NC .int (h + 8) 3072 from hW.ar 8 (by decide) (by decide)) (by first | rfl | (simp only [n0, n1, n2, n3, n4, n5, n6, n7, n8, n9, n10, n11, n12, n13, n14, n15, n16, n17, n18, n19, n20, n24, n32, n56, n60, n64, n72, n99, n100, n128, n136, n142, n144, n200, n300, n999, n1000, n1500, n3464, nI_add, pk_mul] <;> first | rfl | (congr 1; omega))) (by omega) (by decide) ?_
            refine J_iadd hS dX6_signOfYard_55 ?_
            refine J_istore (lt := fun s2 => [some (.ref h), some (.int y), some (.int (nI p)), some (.int b), some (.int m), some (.int (nI k)), some (.int s2), some (.int (nI k2))]) hS dX6_signOfYard_56 (Nat.le_of_ble_eq_true rfl) (fun _ => rfl) (fun s2 es2 => ?_)
            refine J_iinc (lt := fun j2 => [some (.ref h), some (.int y), some (.int (nI p)), some (.int b), some (.int m), some (.int (nI k)), some (.int s2), some (.int j2)]) (v := 1) hS dX6_signOfYard_58 rfl (by decide) (fun _ => rfl) (fun j2 ej2 => ?_)
            refine J_goto (tgt := 21) hS dX6_signOfYard_61 (by decide) ?_
            refine ih2 (k2 + 1) s2 j2 (by omega) (by rw [ej2]; exact nI_1 k2) ?_
            have ht : thr g h y k2 = true := by cases e : thr g h y k2 with
              | true => rfl
              | false => simp [e] at c4
            rw [es2, hs2]; simp [ssum, ht]
set_option maxRecDepth 10000 in
theorem c_orderOfYard (hW : Wo h) {n : Nat} {y : Int32} (hn : n ≤ 24) (hm : g h 6 = nI n) (q : Q (some (.int (hv0 (fun s => ssum (thr g h y) (fun c => g (h + 9) (c * 6 + s)) n) 6).1)) g) : Ct l E lay NC 1 0 0 yX6_orderOfYard [.ref h, .int y] g Q X := by
  refine Ct_in k_yX6_orderOfYard (by decide) rfl (Nat.le_of_ble_eq_true rfl) rfl ?_
  intro S hS hZ hr ht hR
  show J S 0 0 g 0 [some (.ref h), some (.int y), none, none, none, none, none] []
  refine J_iconst (v := 0) hS dX6_orderOfYard_0 (by decide) ?_
  refine J_istore_n (lt := fun b1 => [some (.ref h), some (.int y), some (.int b1), none, none, none, none]) hS dX6_orderOfYard_1 (Nat.le_of_ble_eq_true rfl) (fun _ => rfl) (fun b1 eb1 => ?_)
  refine J_iconst (v := 0) hS dX6_orderOfYard_2 (by decide) ?_
  refine J_istore_n (lt := fun m1 => [some (.ref h), some (.int y), some (.int b1), some (.int m1), none, none, none]) hS dX6_orderOfYard_3 (Nat.le_of_ble_eq_true rfl) (fun _ => rfl) (fun m1 em1 => ?_)
  refine J_iconst (v := 0) hS dX6_orderOfYard_4 (by decide) ?_
  refine J_istore (lt := fun i1 => [some (.ref h), some (.int y), some (.int b1), some (.int m1), some (.int i1), none, none]) hS dX6_orderOfYard_5 (Nat.le_of_ble_eq_true rfl) (fun _ => rfl) (fun i1 ei1 => ?_)
  obtain ⟨f, hf⟩ : ∃ f : Nat → Int32, f = fun s => ssum (thr g h y) (fun c => g (h + 9) (c * 6 + s)) n := ⟨_, rfl⟩
  rw [← hf] at q
  suffices H : ∀ (r k : Nat) (b m i : Int32), k + r = 6 → i = nI k → (b, m) = hv0 f k → J S 0 0 g 7 [some (.ref h), some (.int y), some (.int b), some (.int m), some (.int i), none, none] [] by
    exact H 6 0 b1 m1 i1 rfl ei1 (by rw [eb1, em1]; rfl)
  intro r
  induction r with
  | zero =>
    intro k b m i hk hi hb
    refine J_iload hS dX6_orderOfYard_7 rfl ?_
    refine J_bipush (v := 6) hS dX6_orderOfYard_9 (by decide) ?_
    refine J_icmp_ge (tgt := 81) hS dX6_orderOfYard_11 (by decide) (fun c1 => ?_) (fun c1 => ?_)
    ·
      refine J_iload_n hS dX6_orderOfYard_81 rfl ?_
      refine J_iret hS hZ hr dX6_orderOfYard_82 (by omega) (by omega) ?_
      rw [show (6 : Nat) = k by omega, ← hb] at q
      exact q
    · exact absurd (by rw [hi, show k = 6 by omega]; decide) c1
  | succ r ih =>
    intro k b m i hk hi hb
    refine J_iload hS dX6_orderOfYard_7 rfl ?_
    refine J_bipush (v := 6) hS dX6_orderOfYard_9 (by decide) ?_
    refine J_icmp_ge (tgt := 81) hS dX6_orderOfYard_11 (by decide) (fun c1 => ?_) (fun c1 => ?_)
    · exact absurd (by rw [hi] at c1; exact c1) (nI_ge (show k < 6 by omega) (by decide))
    · subst hi
      refine J_iconst (v := 0) hS dX6_orderOfYard_14 (by decide) ?_
      refine J_istore (lt := fun s1 => [some (.ref h), some (.int y), some (.int b), some (.int m), some (.int (nI k)), some (.int s1), none]) hS dX6_orderOfYard_15 (Nat.le_of_ble_eq_true rfl) (fun _ => rfl) (fun s1 es1 => ?_)
      refine J_iconst (v := 0) hS dX6_orderOfYard_17 (by decide) ?_
      refine J_istore (lt := fun j1 => [some (.ref h), some (.int y), some (.int b), some (.int m), some (.int (nI k)), some (.int s1), some (.int j1)]) hS dX6_orderOfYard_18 (Nat.le_of_ble_eq_true rfl) (fun _ => rfl) (fun j1 ej1 => ?_)
      suffices H2 : ∀ (r2 k2 : Nat) (s j : Int32), k2 + r2 = n → j = nI k2 → s = ssum (thr g h y) (fun c => g (h + 9) (c * 6 + k)) k2 → J S 0 0 g 20 [some (.ref h), some (.int y), some (.int b), some (.int m), some (.int (nI k)), some (.int s), some (.int j)] [] by
        exact H2 n 0 s1 j1 (by omega) ej1 (by rw [es1]; rfl)
      intro r2
      induction r2 with
      | zero =>
        intro k2 s j hk2 hj hs2
        refine J_iload hS dX6_orderOfYard_20 rfl ?_
        refine J_aload_n hS dX6_orderOfYard_22 rfl ?_
        refine J_getI hS dX6_orderOfYard_23 flX6_30 hW.ob rfl ?_
        refine J_icmp_ge (tgt := 63) hS dX6_orderOfYard_26 (by decide) (fun c3 => ?_) (fun c3 => ?_)
        · have es' : s = f k := by rw [hs2, hf, show k2 = n by omega]
          have hs := hv0_step (f := f) (i := k)
          rw [← hb] at hs
          refine J_iload hS dX6_orderOfYard_63 rfl ?_
          refine J_iload_n hS dX6_orderOfYard_65 rfl ?_
          refine J_icmp_le (tgt := 75) hS dX6_orderOfYard_66 (by decide) (fun c2 => ?_) (fun c2 => ?_)
          ·
            refine J_iinc (lt := fun i2 => [some (.ref h), some (.int y), some (.int b), some (.int m), some (.int i2), some (.int s), some (.int j)]) (v := 1) hS dX6_orderOfYard_75 rfl (by decide) (fun _ => rfl) (fun i2 ei2 => ?_)
            refine J_goto (tgt := 7) hS dX6_orderOfYard_78 (by decide) ?_
            refine J_weak (ls' := [some (.ref h), some (.int y), some (.int b), some (.int m), some (.int i2), none, none]) ⟨Or.inr rfl, Or.inr rfl, Or.inr rfl, Or.inr rfl, Or.inr rfl, Or.inl rfl, Or.inl rfl, trivial⟩ ?_
            refine ih (k + 1) b m i2 (by omega) (by rw [ei2]; exact nI_1 k) ?_
            rw [hs, if_neg]
            rw [← es']; exact Int32.not_lt.mpr c2
          ·
            refine J_iload hS dX6_orderOfYard_69 rfl ?_
            refine J_istore_n (lt := fun m2 => [some (.ref h), some (.int y), some (.int b), some (.int m2), some (.int (nI k)), some (.int s), some (.int j)]) hS dX6_orderOfYard_71 (Nat.le_of_ble_eq_true rfl) (fun _ => rfl) (fun m2 em2 => ?_)
            refine J_iload hS dX6_orderOfYard_72 rfl ?_
            refine J_istore_n (lt := fun b2 => [some (.ref h), some (.int y), some (.int b2), some (.int m2), some (.int (nI k)), some (.int s), some (.int j)]) hS dX6_orderOfYard_74 (Nat.le_of_ble_eq_true rfl) (fun _ => rfl) (fun b2 eb2 => ?_)
            refine J_iinc (lt := fun i2 => [some (.ref h), some (.int y), some (.int b2), some (.int m2), some (.int i2), some (.int s), some (.int j)]) (v := 1) hS dX6_orderOfYard_75 rfl (by decide) (fun _ => rfl) (fun i2 ei2 => ?_)
            refine J_goto (tgt := 7) hS dX6_orderOfYard_78 (by decide) ?_
            refine J_weak (ls' := [some (.ref h), some (.int y), some (.int b2), some (.int m2), some (.int i2), none, none]) ⟨Or.inr rfl, Or.inr rfl, Or.inr rfl, Or.inr rfl, Or.inr rfl, Or.inl rfl, Or.inl rfl, trivial⟩ ?_
            refine ih (k + 1) b2 m2 i2 (by omega) (by rw [ei2]; exact nI_1 k) ?_
            rw [hs, if_pos, eb2, em2, es']
            rw [← es']; exact Int32.not_le.mp c2
        · exact absurd (by rw [hj, hm, show k2 = n by omega]; exact Int32.le_refl _) c3
      | succ r2 ih2 =>
        intro k2 s j hk2 hj hs2
        refine J_iload hS dX6_orderOfYard_20 rfl ?_
        refine J_aload_n hS dX6_orderOfYard_22 rfl ?_
        refine J_getI hS dX6_orderOfYard_23 flX6_30 hW.ob rfl ?_
        refine J_icmp_ge (tgt := 63) hS dX6_orderOfYard_26 (by decide) (fun c3 => ?_) (fun c3 => ?_)
        · exact absurd (by rw [hj, hm] at c3; exact c3) (nI_ge (show k2 < n by omega) (by omega))
        · subst hj
          refine J_aload_n hS dX6_orderOfYard_29 rfl ?_
          refine J_iload hS dX6_orderOfYard_30 rfl ?_
          refine J_iload_n hS dX6_orderOfYard_32 rfl ?_
          refine J_callV2 (X' := fun _ _ => False) hS dX6_orderOfYard_33 mvX6_90 hW.ob rfl (by decide) (by decide) (Nat.le_of_ble_eq_true rfl) hR (fun _ _ q => q.elim) (c_isThere hW (show k2 < 24 by omega) ?_)
          show J S 0 0 g 36 [some (.ref h), some (.int y), some (.int b), some (.int m), some (.int (nI k)), some (.int s), some (.int (nI k2))] [.int _]
          rw [thr_b01]
          refine J_if_eq (tgt := 57) hS dX6_orderOfYard_36 (by decide) (fun c4 => ?_) (fun c4 => ?_)
          ·
            refine J_iinc (lt := fun j2 => [some (.ref h), some (.int y), some (.int b), some (.int m), some (.int (nI k)), some (.int s), some (.int j2)]) (v := 1) hS dX6_orderOfYard_57 rfl (by decide) (fun _ => rfl) (fun j2 ej2 => ?_)
            refine J_goto (tgt := 20) hS dX6_orderOfYard_60 (by decide) ?_
            refine ih2 (k2 + 1) s j2 (by omega) (by rw [ej2]; exact nI_1 k2) ?_
            have ht : thr g h y k2 = false := by cases e : thr g h y k2 with
              | false => rfl
              | true => simp [e] at c4
            rw [hs2]; simp [ssum, ht]
          ·
            refine J_iload hS dX6_orderOfYard_39 rfl ?_
            refine J_aload_n hS dX6_orderOfYard_41 rfl ?_
            refine J_getR (t := h + 9) hS dX6_orderOfYard_42 flX6_58 hW.ob rfl ?_
            refine J_iload hS dX6_orderOfYard_45 rfl ?_
            refine J_bipush (v := 6) hS dX6_orderOfYard_47 (by decide) ?_
            refine J_imul hS dX6_orderOfYard_49 ?_
            refine J_iload hS dX6_orderOfYard_50 rfl ?_
            refine J_iadd hS dX6_orderOfYard_52 ?_
            refine J_ialdN hS (k2 * 6 + k) dX6_orderOfYard_53 (show Ar lay NC .int (h + 9) 144 from hW.ar 9 (by decide) (by decide)) (by first | rfl | (simp only [n0, n1, n2, n3, n4, n5, n6, n7, n8, n9, n10, n11, n12, n13, n14, n15, n16, n17, n18, n19, n20, n24, n32, n56, n60, n64, n72, n99, n100, n128, n136, n142, n144, n200, n300, n999, n1000, n1500, n3464, nI_add, pk_mul] <;> first | rfl | (congr 1; omega))) (by omega) (by decide) ?_
            refine J_iadd hS dX6_orderOfYard_54 ?_
            refine J_istore (lt := fun s2 => [some (.ref h), some (.int y), some (.int b), some (.int m), some (.int (nI k)), some (.int s2), some (.int (nI k2))]) hS dX6_orderOfYard_55 (Nat.le_of_ble_eq_true rfl) (fun _ => rfl) (fun s2 es2 => ?_)
            refine J_iinc (lt := fun j2 => [some (.ref h), some (.int y), some (.int b), some (.int m), some (.int (nI k)), some (.int s2), some (.int j2)]) (v := 1) hS dX6_orderOfYard_57 rfl (by decide) (fun _ => rfl) (fun j2 ej2 => ?_)
            refine J_goto (tgt := 20) hS dX6_orderOfYard_60 (by decide) ?_
            refine ih2 (k2 + 1) s2 j2 (by omega) (by rw [ej2]; exact nI_1 k2) ?_
            have ht : thr g h y k2 = true := by cases e : thr g h y k2 with
              | true => rfl
              | false => simp [e] at c4
            rw [es2, hs2]; simp [ssum, ht]
end ClsC


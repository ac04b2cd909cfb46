/-! THE REFERENCE: the signs of a yard -/
/-- the sum over a list's first k -/
def sumL (v : Nat → Int32) (L : List Nat) : Nat → Int32
  | 0 => 0
  | k + 1 => sumL v L k + v (L.getD k 0)
theorem sumL_app {v : Nat → Int32} {L M : List Nat} : ∀ k, k ≤ L.length → sumL v (L ++ M) k = sumL v L k
  | 0, _ => rfl
  | k + 1, h => by
    show sumL v (L ++ M) k + v ((L ++ M).getD k 0) = sumL v L k + v (L.getD k 0)
    rw [sumL_app k (by omega), List.getD_eq_getElem?_getD, List.getD_eq_getElem?_getD, List.getElem?_append_left (by omega)]
theorem sumL_here {P : Nat → Bool} {v : Nat → Int32} : ∀ n, sumL v (here P n) (here P n).length = ssum P v n
  | 0 => rfl
  | n + 1 => by
    have ih := sumL_here (P := P) (v := v) n
    rw [here_succ]
    show _ = if P n then ssum P v n + v n else ssum P v n
    cases h : P n with
    | true =>
      simp only [if_true, List.length_append, List.length_cons, List.length_nil, Nat.zero_add]
      show sumL v (here P n ++ [n]) (here P n).length + v ((here P n ++ [n]).getD (here P n).length 0) = _
      rw [sumL_app _ (Nat.le_refl _), ih, List.getD_eq_getElem?_getD, List.getElem?_append_right (Nat.le_refl _), Nat.sub_self]; rfl
    | false => simp only [Bool.false_eq_true, if_false, List.append_nil]; exact ih
theorem ssum_rng {P : Nat → Bool} {v : Nat → Int32} : ∀ {n : Nat}, n ≤ 24 → (∀ c, c < n → 0 ≤ v c ∧ v c ≤ 999) → 0 ≤ (ssum P v n).toInt ∧ (ssum P v n).toInt ≤ 999 * n
  | 0, _, _ => by show 0 ≤ (0 : Int32).toInt ∧ (0 : Int32).toInt ≤ 999 * ((0 : Nat) : Int); decide
  | n + 1, hn, h => by
    have ih := ssum_rng (P := P) (v := v) (n := n) (by omega) (fun c hc => h c (by omega))
    obtain ⟨a, b⟩ := h n (by omega)
    have a' : 0 ≤ (v n).toInt := Int32.le_iff_toInt_le.mp a
    have b' : (v n).toInt ≤ 999 := Int32.le_iff_toInt_le.mp b
    show 0 ≤ (if P n then ssum P v n + v n else ssum P v n).toInt ∧ (if P n then ssum P v n + v n else ssum P v n).toInt ≤ _
    split
    · rw [Int32.toInt_add, Int.bmod_eq_of_le (by omega) (by omega)]; omega
    · omega
theorem ssum_nn {P : Nat → Bool} {v : Nat → Int32} {n : Nat} (hn : n ≤ 24) (h : ∀ c, c < n → 0 ≤ v c ∧ v c ≤ 999) : 0 ≤ ssum P v n := Int32.le_iff_toInt_le.mpr (ssum_rng hn h).1
/-- the sign of a yard for a concept, its order -/
def sgN (w : Wr) (n : Nat) (y : Int32) (p : Nat) : Nat := bst (fun s => ssum (thrW w y) (fun c => w (sgB c p + s)) n) 16
def odN (w : Wr) (n : Nat) (y : Int32) : Nat := bst (fun s => ssum (thrW w y) (fun c => w (odB c + s)) n) 6
theorem sgN_lt {w : Wr} {n p : Nat} {y : Int32} : sgN w n y p < 16 := bst_lt (by decide)
theorem odN_lt {w : Wr} {n : Nat} {y : Int32} : odN w n y < 6 := bst_lt (by decide)
/-- the ninth is the order -/
def grN (w : Wr) (n : Nat) (y : Int32) (c : Nat) : Nat := if c < 8 then sgN w n y c else odN w n y
theorem grN_lt {w : Wr} {n c : Nat} {y : Int32} : grN w n y c < 16 := by
  unfold grN; split
  · exact sgN_lt
  · have := odN_lt (w := w) (n := n) (y := y); omega
section RefG
variable {l : Launch} {E : Ey} {g : Mm} {Q : Option Value → Mm → Prop} {X : String → Mm → Prop} {w : Wr} {n : Nat}
set_option maxRecDepth 10000 in
theorem m_greatest {fr mn : Nat} {L : List Nat} (hw : g 162 3 = nI 164) (hrow : ∀ i, i < 3464 → g 164 i = w i) (e41 : g 162 41 = nI L.length) (e205 : ∀ j, j < L.length → g 205 j = nI (L.getD j 0)) (hL : L.length ≤ 24) (hLm : ∀ j, j < L.length → L.getD j 0 < 24) (hfm : fr + mn ≤ 142) (hm1 : 1 ≤ mn) {f : Nat → Int32} (hf : ∀ s, s < mn → f s = sumL (fun c => w (56 + 142 * c + fr + s)) L L.length) (hf0 : ∀ s, s < mn → 0 ≤ f s) (q : Q (some (.int (nI (bst f mn)))) g) : Ct l E lay NC 1 0 0 yX8_greatest [.ref 162, .int (nI fr), .int (nI mn)] g Q X := by
  refine Ct_in k_yX8_greatest (by decide) rfl (Nat.le_of_ble_eq_true rfl) rfl ?_
  intro S hS hZ hr ht hR
  show J S 0 0 (g) 0 [some (.ref 162), some (.int (nI fr)), some (.int (nI mn)), none, none, none, none, none] []
  refine J_iconst (v := 0) hS dX8_greatest_0 (by decide) ?_
  refine J_istore_n (lt := fun b1 => [some (.ref 162), some (.int (nI fr)), some (.int (nI mn)), some (.int b1), none, none, none, none]) hS dX8_greatest_1 (Nat.le_of_ble_eq_true rfl) (fun _ => rfl) (fun b1 eb1 => ?_)
  refine J_iconst (v := (-1)) hS dX8_greatest_2 (by decide) ?_
  refine J_istore (lt := fun m1 => [some (.ref 162), some (.int (nI fr)), some (.int (nI mn)), some (.int b1), some (.int m1), none, none, none]) hS dX8_greatest_3 (Nat.le_of_ble_eq_true rfl) (fun _ => rfl) (fun m1 em1 => ?_)
  refine J_iconst (v := 0) hS dX8_greatest_5 (by decide) ?_
  refine J_istore (lt := fun s1 => [some (.ref 162), some (.int (nI fr)), some (.int (nI mn)), some (.int b1), some (.int m1), some (.int s1), none, none]) hS dX8_greatest_6 (Nat.le_of_ble_eq_true rfl) (fun _ => rfl) (fun s1 es1 => ?_)
  suffices H : ∀ (t s : Nat) (b m i : Int32) (v6 v7 : Option Value), s + t = mn → i = nI s → b = nI (bst f s) → m = (if s = 0 then -1 else f (bst f s)) → J S 0 0 g 8 [some (.ref 162), some (.int (nI fr)), some (.int (nI mn)), some (.int b), some (.int m), some (.int i), v6, v7] [] by
    exact H mn 0 b1 m1 s1 none none (by omega) es1 (by rw [eb1]; rfl) (by rw [em1, if_pos rfl])
  intro t
  induction t with
  | zero =>
    intro s b m i v6 v7 hs hi hb hm
    have e : s = mn := by omega
    subst e; subst hi
    refine J_weak (ls' := [some (.ref 162), some (.int (nI fr)), some (.int (nI s)), some (.int b), some (.int m), some (.int (nI s)), none, none]) ⟨Or.inr rfl, Or.inr rfl, Or.inr rfl, Or.inr rfl, Or.inr rfl, Or.inr rfl, Or.inl rfl, Or.inl rfl, trivial⟩ ?_
    refine J_iload hS dX8_greatest_8 rfl ?_
    refine J_iload_n hS dX8_greatest_10 rfl ?_
    refine J_icmp_ge (tgt := 83) hS dX8_greatest_11 (by decide) (fun c1 => ?_) (fun c1 => ?_)
    ·
      refine J_iload_n hS dX8_greatest_83 rfl ?_
      refine J_iret hS hZ hr dX8_greatest_84 (by omega) (by omega) ?_
      rw [hb]; exact q
    · exact absurd (Int32.le_refl _) c1
  | succ t ih =>
    intro s b m i v6 v7 hs hi hb hm
    subst hi
    have hsm : s < mn := by omega
    have hst : bst f (s + 1) = if f (bst f s) < f s then s else bst f s := rfl
    refine J_weak (ls' := [some (.ref 162), some (.int (nI fr)), some (.int (nI mn)), some (.int b), some (.int m), some (.int (nI s)), none, none]) ⟨Or.inr rfl, Or.inr rfl, Or.inr rfl, Or.inr rfl, Or.inr rfl, Or.inr rfl, Or.inl rfl, Or.inl rfl, trivial⟩ ?_
    have aft : ∀ (x : Int32) (v7 : Option Value), x = f s → J S 0 0 g 60 [some (.ref 162), some (.int (nI fr)), some (.int (nI mn)), some (.int b), some (.int m), some (.int (nI s)), some (.int x), v7] [] := by
      intro x v7 hx
      refine J_weak (ls' := [some (.ref 162), some (.int (nI fr)), some (.int (nI mn)), some (.int b), some (.int m), some (.int (nI s)), some (.int x), none]) ⟨Or.inr rfl, Or.inr rfl, Or.inr rfl, Or.inr rfl, Or.inr rfl, Or.inr rfl, Or.inr rfl, Or.inl rfl, trivial⟩ ?_
      have h0 := hf0 s hsm
      refine J_iload hS dX8_greatest_60 rfl ?_
      refine J_iload hS dX8_greatest_62 rfl ?_
      refine J_icmp_gt (tgt := 70) hS dX8_greatest_64 (by decide) (fun c2 => ?_) (fun c2 => ?_)
      ·
        refine J_iload hS dX8_greatest_70 rfl ?_
        refine J_istore (lt := fun m2 => [some (.ref 162), some (.int (nI fr)), some (.int (nI mn)), some (.int b), some (.int m2), some (.int (nI s)), some (.int x), none]) hS dX8_greatest_72 (Nat.le_of_ble_eq_true rfl) (fun _ => rfl) (fun m2 em2 => ?_)
        refine J_iload hS dX8_greatest_74 rfl ?_
        refine J_istore_n (lt := fun b2 => [some (.ref 162), some (.int (nI fr)), some (.int (nI mn)), some (.int b2), some (.int m2), some (.int (nI s)), some (.int x), none]) hS dX8_greatest_76 (Nat.le_of_ble_eq_true rfl) (fun _ => rfl) (fun b2 eb2 => ?_)
        refine J_iinc (lt := fun i2 => [some (.ref 162), some (.int (nI fr)), some (.int (nI mn)), some (.int b2), some (.int m2), some (.int i2), some (.int x), none]) (v := 1) hS dX8_greatest_77 rfl (by decide) (fun _ => rfl) (fun i2 ei2 => ?_)
        refine J_goto (tgt := 8) hS dX8_greatest_80 (by decide) ?_
        have eb : bst f (s + 1) = s := by
          rw [hst]
          by_cases z : s = 0
          · subst z; rw [show bst f 0 = 0 from rfl]; simp
          · rw [if_neg z] at hm; rw [if_pos (by rw [← hm, ← hx]; exact c2)]
        exact ih (s + 1) b2 m2 i2 _ _ (by omega) (by rw [ei2]; exact nI_1 s) (by rw [eb]; exact eb2) (by rw [if_neg (by omega), eb, em2, hx])
      ·
        refine J_goto (tgt := 77) hS dX8_greatest_67 (by decide) ?_
        refine J_iinc (lt := fun i2 => [some (.ref 162), some (.int (nI fr)), some (.int (nI mn)), some (.int b), some (.int m), some (.int i2), some (.int x), none]) (v := 1) hS dX8_greatest_77 rfl (by decide) (fun _ => rfl) (fun i2 ei2 => ?_)
        refine J_goto (tgt := 8) hS dX8_greatest_80 (by decide) ?_
        have z : s ≠ 0 := by
          intro z
          rw [if_pos z] at hm
          refine c2 ?_
          rw [hm, hx]
          exact Int32.lt_of_lt_of_le (by decide) h0
        rw [if_neg z] at hm
        have eb : bst f (s + 1) = bst f s := by rw [hst, if_neg (by rw [← hm, ← hx]; exact c2)]
        exact ih (s + 1) b m i2 _ _ (by omega) (by rw [ei2]; exact nI_1 s) (by rw [eb]; exact hb) (by rw [if_neg (by omega), eb]; exact hm)
    refine J_iload hS dX8_greatest_8 rfl ?_
    refine J_iload_n hS dX8_greatest_10 rfl ?_
    refine J_icmp_ge (tgt := 83) hS dX8_greatest_11 (by decide) (fun c1 => ?_) (fun c1 => ?_)
    · exact absurd c1 (nI_ge hsm (by omega))
    ·
      refine J_iconst (v := 0) hS dX8_greatest_14 (by decide) ?_
      refine J_istore (lt := fun x6 => [some (.ref 162), some (.int (nI fr)), some (.int (nI mn)), some (.int b), some (.int m), some (.int (nI s)), some (.int x6), none]) hS dX8_greatest_15 (Nat.le_of_ble_eq_true rfl) (fun _ => rfl) (fun x6 ex6 => ?_)
      refine J_iconst (v := 0) hS dX8_greatest_17 (by decide) ?_
      refine J_istore (lt := fun x7 => [some (.ref 162), some (.int (nI fr)), some (.int (nI mn)), some (.int b), some (.int m), some (.int (nI s)), some (.int x6), some (.int x7)]) hS dX8_greatest_18 (Nat.le_of_ble_eq_true rfl) (fun _ => rfl) (fun x7 ex7 => ?_)
      obtain ⟨v, hv⟩ : ∃ v : Nat → Int32, v = fun c => w (56 + 142 * c + fr + s) := ⟨_, rfl⟩
      have hfs := hf s hsm
      rw [← hv] at hfs
      suffices H2 : ∀ (u k : Nat) (x j : Int32), k + u = L.length → j = nI k → x = sumL v L k → J S 0 0 g 20 [some (.ref 162), some (.int (nI fr)), some (.int (nI mn)), some (.int b), some (.int m), some (.int (nI s)), some (.int x), some (.int j)] [] by
        exact H2 L.length 0 x6 x7 (by omega) ex7 ex6
      intro u
      induction u with
      | zero =>
        intro k x j hk hj hx
        have e : k = L.length := by omega
        subst e; subst hj
        refine J_iload hS dX8_greatest_20 rfl ?_
        refine J_aload_n hS dX8_greatest_22 rfl ?_
        refine J_getI hS dX8_greatest_23 flX8_335 ob162 rfl ?_
        show J S 0 0 (g) 26 [some (.ref 162), some (.int (nI fr)), some (.int (nI mn)), some (.int b), some (.int m), some (.int (nI s)), some (.int x), some (.int (nI L.length))] [.int _, .int (nI L.length)]
        rw [e41]
        refine J_icmp_ge (tgt := 60) hS dX8_greatest_26 (by decide) (fun c2 => ?_) (fun c2 => ?_)
        · exact aft x _ (by rw [hx, hfs])
        · exact absurd (Int32.le_refl _) c2
      | succ u ih2 =>
        intro k x j hk hj hx
        subst hj
        have hkL : k < L.length := by omega
        have hc := hLm k hkL
        refine J_iload hS dX8_greatest_20 rfl ?_
        refine J_aload_n hS dX8_greatest_22 rfl ?_
        refine J_getI hS dX8_greatest_23 flX8_335 ob162 rfl ?_
        show J S 0 0 (g) 26 [some (.ref 162), some (.int (nI fr)), some (.int (nI mn)), some (.int b), some (.int m), some (.int (nI s)), some (.int x), some (.int (nI k))] [.int _, .int (nI k)]
        rw [e41]
        refine J_icmp_ge (tgt := 60) hS dX8_greatest_26 (by decide) (fun c2 => ?_) (fun c2 => ?_)
        · exact absurd c2 (nI_ge hkL (by omega))
        ·
          refine J_iload hS dX8_greatest_29 rfl ?_
          refine J_aload_n hS dX8_greatest_31 rfl ?_
          refine J_getD (v := .ref 164) hS dX8_greatest_32 flX8_20 ob162 rfl (wI Rw4 hw) ?_
          refine J_aload_n hS dX8_greatest_35 rfl ?_
          refine J_getR (t := 205) hS dX8_greatest_36 flX8_74 ob162 rfl ?_
          refine J_iload hS dX8_greatest_39 rfl ?_
          refine J_ialdN hS (k) dX8_greatest_41 (show Ar lay NC .int 205 24 from arM 42 24 (by decide) (by decide) rfl) (by first | rfl | (simp only [n0, n1, n2, n3, n4, n5, n6, n7, n8, n9, n10, n11, n12, n13, n14, n15, n16, n17, n18, n19, n20, n24, n32, n56, n60, n64, n72, n99, n100, n128, n136, n142, n144, n200, n300, n999, n1000, n1500, n3464, nI_add, pk_mul] <;> first | rfl | (congr 1; omega))) (by omega) (by decide) ?_
          show J S 0 0 (g) 42 [some (.ref 162), some (.int (nI fr)), some (.int (nI mn)), some (.int b), some (.int m), some (.int (nI s)), some (.int x), some (.int (nI k))] [.int _, .ref 164, .int x]
          rw [e205 k hkL]
          refine J_callS1 (X' := fun _ _ => False) hS dX8_greatest_42 msX8_121 rfl (by first | decide | omega) (by decide) (Nat.le_of_ble_eq_true rfl) ⟨Nat.le_trans (by decide) hR.1, Nat.le_trans (by decide) hR.2⟩ (fun _ _ q => q.elim) (m_at ?_)
          refine J_iload_n hS dX8_greatest_45 rfl ?_
          refine J_iadd hS dX8_greatest_46 ?_
          refine J_iload hS dX8_greatest_47 rfl ?_
          refine J_iadd hS dX8_greatest_49 ?_
          refine J_ialdN hS (56 + 142 * L.getD k 0 + fr + s) dX8_greatest_50 Rw4.ar (by rw [nI_add, nI_add]) (by omega) (by decide) ?_
          show J S 0 0 (g) 51 [some (.ref 162), some (.int (nI fr)), some (.int (nI mn)), some (.int b), some (.int m), some (.int (nI s)), some (.int x), some (.int (nI k))] [.int _, .int x]
          rw [hrow _ (by omega)]
          refine J_iadd hS dX8_greatest_51 ?_
          refine J_istore (lt := fun x8 => [some (.ref 162), some (.int (nI fr)), some (.int (nI mn)), some (.int b), some (.int m), some (.int (nI s)), some (.int x8), some (.int (nI k))]) hS dX8_greatest_52 (Nat.le_of_ble_eq_true rfl) (fun _ => rfl) (fun x8 ex8 => ?_)
          refine J_iinc (lt := fun j8 => [some (.ref 162), some (.int (nI fr)), some (.int (nI mn)), some (.int b), some (.int m), some (.int (nI s)), some (.int x8), some (.int j8)]) (v := 1) hS dX8_greatest_54 rfl (by decide) (fun _ => rfl) (fun j8 ej8 => ?_)
          refine J_goto (tgt := 20) hS dX8_greatest_57 (by decide) ?_
          refine ih2 (k + 1) x8 j8 (by omega) (by rw [ej8]; exact nI_1 k) ?_
          show x8 = sumL v L k + v (L.getD k 0)
          rw [ex8, hx, hv]
/-- who is there is found; the words of the yard are asked -/
theorem m_gr {c : Nat} {y : Int32} {fr mn : Nat} {g1 : Mm} (hI : RI g w n) (o1 : ∀ z, z ≠ 162 → z ≠ 205 → z ≠ 214 → g1 z = g z) (o2 : ∀ j, j ≠ 41 → g1 162 j = g 162 j) (o3 : g1 162 41 = nI (here (thrW w y) n).length) (o4 : ∀ j, j < (here (thrW w y) n).length → g1 205 j = nI ((here (thrW w y) n).getD j 0)) (hc : c < 9) (hfr : fr = if c < 8 then 8 + 16 * c else 136) (hmn : mn = if c < 8 then 16 else 6) (q : Q (some (.int (nI (grN w n y c)))) g1) : Ct l E lay NC 1 0 0 yX8_greatest [.ref 162, .int (nI fr), .int (nI mn)] g1 Q X := by
  have hn := hI.hn
  have hl := here_len (thrW w y) n
  have r1 : ∀ i, i < 3464 → g1 164 i = w i := fun i hi => by rw [o1 164 (by decide) (by decide) (by decide)]; exact hI.row i hi
  have hLm : ∀ j, j < (here (thrW w y) n).length → (here (thrW w y) n).getD j 0 < 24 := fun j hj => by
    have := (here_mem.mp (getD_mem hj)).1; omega
  by_cases c8 : c < 8
  · rw [if_pos c8] at hfr hmn
    subst hfr; subst hmn
    refine m_greatest (w := w) (L := here (thrW w y) n) (f := fun s => ssum (thrW w y) (fun d => w (sgB d c + s)) n) (by rw [o2 3 (by decide)]; exact hI.w3) r1 o3 o4 (by omega) hLm (by omega) (by decide) (fun s hs => ?_) (fun s hs => ssum_nn hn (fun d hd => (hI.ok.2.2 d (by omega)).sg c8 hs)) ?_
    · rw [sumL_here]; congr 1; funext d; unfold sgB; congr 1; omega
    · unfold grN sgN at q; rw [if_pos c8] at q; exact q
  · rw [if_neg c8] at hfr hmn
    subst hfr; subst hmn
    refine m_greatest (w := w) (L := here (thrW w y) n) (f := fun s => ssum (thrW w y) (fun d => w (odB d + s)) n) (by rw [o2 3 (by decide)]; exact hI.w3) r1 o3 o4 (by omega) hLm (by omega) (by decide) (fun s hs => ?_) (fun s hs => ssum_nn hn (fun d hd => (hI.ok.2.2 d (by omega)).od hs)) ?_
    · rw [sumL_here]; rfl
    · unfold grN odN at q; rw [if_neg c8] at q; exact q
theorem m_wordY {y p : Int32} (hI : RI g w n) (x : ou 3 y ∨ ou 8 p → ∀ g', FrZ g g' → g' 162 0 = 1 → Q (some (.int 0)) g') (q : ∀ i j, i < 3 → y = nI i → j < 8 → p = nI j → ∀ g', FrZ g g' → g' 162 0 = 0 → Q (some (.int (if (here (thrW w (nI i)) n).length = 0 then -1 else nI (sgN w n (nI i) j)))) g') : Ct l E lay NC 2 0 0 yX8_word_ [.ref 162, .int y, .int p] g Q X := by
  have hn := hI.hn
  refine Ct_in k_yX8_word_ (by decide) rfl (Nat.le_of_ble_eq_true rfl) rfl ?_
  intro S hS hZ hr ht hR
  show J S 0 0 (g) 0 [some (.ref 162), some (.int y), some (.int p)] []
  refine J_aload_n hS dX8_word__0 rfl ?_
  refine J_iconst (v := 0) hS dX8_word__1 (by decide) ?_
  refine J_putI hS dX8_word__2 fpX8_1 ob162 rfl (fun g2 eg2 => ?_)
  have z2 : FrZ g g2 := by rw [eg2]; exact FrZ_thr
  have t2 : g2 162 0 = 0 := by rw [eg2, u2_self]
  have i2 := hI.fr z2
  have bad : ou 3 y ∨ ou 8 p → J S 0 0 g2 27 [some (.ref 162), some (.int y), some (.int p)] [.ref 162] := by
    intro b1
    refine J_iconst (v := 0) hS dX8_word__27 (by decide) ?_
    refine J_iconst (v := 1) hS dX8_word__28 (by decide) ?_
    refine J_callV2 (X' := fun _ _ => False) hS dX8_word__29 mvX8_110 ob162 rfl (by first | decide | omega) (by decide) (Nat.le_of_ble_eq_true rfl) ⟨Nat.le_trans (by decide) hR.1, Nat.le_trans (by decide) hR.2⟩ (fun _ _ q => q.elim) (m_mayN t2 (by decide) ?_)
    refine J_if_ne (tgt := 37) hS dX8_word__32 (by decide) (fun c2 => ?_) (fun c2 => ?_)
    · exact absurd rfl c2
    ·
      refine J_iconst (v := 0) hS dX8_word__35 (by decide) ?_
      refine J_iret hS hZ hr dX8_word__36 (by omega) (by omega) ?_
      exact x b1 _ (z2.trans FrZ_thr) (u2_self ..)
  rcases in_or (y := y) (b := 3) (by first | decide | omega) with ⟨i, hi, ei⟩ | hbi
  ·
    subst ei
    refine J_aload_n hS dX8_word__5 rfl ?_
    refine J_iload_n hS dX8_word__6 rfl ?_
    refine J_callS1 (X' := fun _ _ => False) hS dX8_word__7 msX8_117 rfl (by first | decide | omega) (by decide) (Nat.le_of_ble_eq_true rfl) ⟨Nat.le_trans (by decide) hR.1, Nat.le_trans (by decide) hR.2⟩ (fun _ _ q => q.elim) (m_yardY hi ?_)
    refine J_if_eq (tgt := 27) hS dX8_word__10 (by decide) (fun c1 => ?_) (fun c1 => ?_)
    · exact absurd c1 (by decide)
    ·
      rcases in_or (y := p) (b := 8) (by first | decide | omega) with ⟨j, hj, ej⟩ | hbj
      ·
        subst ej
        refine J_iload_n hS dX8_word__13 rfl ?_
        refine J_iconst (v := 0) hS dX8_word__14 (by decide) ?_
        refine J_bipush (v := 7) hS dX8_word__15 (by decide) ?_
        refine J_callS3 (X' := fun _ _ => False) hS dX8_word__17 msX8_106 rfl (by first | decide | omega) (by decide) (Nat.le_of_ble_eq_true rfl) ⟨Nat.le_trans (by decide) hR.1, Nat.le_trans (by decide) hR.2⟩ (fun _ _ q => q.elim) (m_ouY (m := 8) (by decide) (by decide) hj ?_)
        refine J_if_eq (tgt := 27) hS dX8_word__20 (by decide) (fun c2 => ?_) (fun c2 => ?_)
        · exact absurd c2 (by decide)
        ·
          refine J_iconst (v := 1) hS dX8_word__23 (by decide) ?_
          refine J_goto (tgt := 28) hS dX8_word__24 (by decide) ?_
          refine J_iconst (v := 1) hS dX8_word__28 (by decide) ?_
          refine J_callV2 (X' := fun _ _ => False) hS dX8_word__29 mvX8_110 ob162 rfl (by first | decide | omega) (by decide) (Nat.le_of_ble_eq_true rfl) ⟨Nat.le_trans (by decide) hR.1, Nat.le_trans (by decide) hR.2⟩ (fun _ _ q => q.elim) (m_mayY t2 (by decide) ?_)
          refine J_if_ne (tgt := 37) hS dX8_word__32 (by decide) (fun c3 => ?_) (fun c3 => ?_)
          ·
            refine J_aload_n hS dX8_word__37 rfl ?_
            refine J_iload_n hS dX8_word__38 rfl ?_
            refine J_callV1 (X' := fun _ _ => False) hS dX8_word__39 mvX8_344 ob162 rfl (by first | decide | omega) (by decide) (Nat.le_of_ble_eq_true rfl) ⟨Nat.le_trans (by decide) hR.1, Nat.le_trans (by decide) hR.2⟩ (fun _ _ q => q.elim) (m_findHere Rw4 i2.w3 hn i2.m6 (i2.tm (y := nI i)) (fun g3 b1 b2 b3 b4 => ?_))
            refine J_aload_n hS dX8_word__42 rfl ?_
            refine J_getI hS dX8_word__43 flX8_335 ob162 rfl ?_
            have z3 : FrZ g g3 := z2.trans ⟨fun z z1 _ _ _ _ _ z7 _ _ _ => b1 z z1 z7, fun j hj => b2 j (by omega)⟩
            have t3 : g3 162 0 = 0 := by rw [b2 0 (by decide)]; exact t2
            have hl := here_len (thrW w (nI i)) n
            have qq := q i j hi rfl hj rfl g3 z3 t3
            show J S 0 0 (g3) 46 [some (.ref 162), some (.int (nI i)), some (.int (nI j))] [.int _]
            rw [b3]
            refine J_if_ne (tgt := 53) hS dX8_word__46 (by decide) (fun c4 => ?_) (fun c4 => ?_)
            ·
              refine J_aload_n hS dX8_word__53 rfl ?_
              refine J_bipush (v := 8) hS dX8_word__54 (by decide) ?_
              refine J_bipush (v := 16) hS dX8_word__56 (by decide) ?_
              refine J_iload_n hS dX8_word__58 rfl ?_
              refine J_imul hS dX8_word__59 ?_
              refine J_iadd hS dX8_word__60 ?_
              refine J_bipush (v := 16) hS dX8_word__61 (by decide) ?_
              show J S 0 0 (g3) 63 [some (.ref 162), some (.int (nI i)), some (.int (nI j))] [.int 16, .int _, .ref 162]
              rw [n8, n16, pk_mul, nI_add]
              rw [if_neg (fun z => c4 (by rw [z]; rfl))] at qq
              refine J_callV2 (X' := fun _ _ => False) hS dX8_word__63 mvX8_380 ob162 rfl (by first | decide | omega) (by decide) (Nat.le_of_ble_eq_true rfl) ⟨Nat.le_trans (by decide) hR.1, Nat.le_trans (by decide) hR.2⟩ (fun _ _ q => q.elim) (m_gr (c := j) (y := nI i) i2 (fun z z1 z2 _ => b1 z z1 z2) b2 b3 b4 (by omega) (by rw [if_pos hj]) (by rw [if_pos hj]) ?_)
              rw [show grN w n (nI i) j = sgN w n (nI i) j by unfold grN; rw [if_pos hj]]
              refine J_iret hS hZ hr dX8_word__66 (by omega) (by omega) ?_
              exact qq
            · rw [if_pos ((nI_eq (by omega) (by decide)).mp c4)] at qq
              refine J_iconst (v := (-1)) hS dX8_word__49 (by decide) ?_
              refine J_goto (tgt := 66) hS dX8_word__50 (by decide) ?_
              refine J_iret hS hZ hr dX8_word__66 (by omega) (by omega) ?_
              exact qq
          · exact absurd c3 (by decide)
      ·
        refine J_iload_n hS dX8_word__13 rfl ?_
        refine J_iconst (v := 0) hS dX8_word__14 (by decide) ?_
        refine J_bipush (v := 7) hS dX8_word__15 (by decide) ?_
        refine J_callS3 (X' := fun _ _ => False) hS dX8_word__17 msX8_106 rfl (by first | decide | omega) (by decide) (Nat.le_of_ble_eq_true rfl) ⟨Nat.le_trans (by decide) hR.1, Nat.le_trans (by decide) hR.2⟩ (fun _ _ q => q.elim) (m_ouN (m := 8) (by decide) (by decide) hbj ?_)
        refine J_if_eq (tgt := 27) hS dX8_word__20 (by decide) (fun c2 => ?_) (fun c2 => ?_)
        · exact bad (Or.inr hbj)
        · exact absurd rfl c2
  ·
    refine J_aload_n hS dX8_word__5 rfl ?_
    refine J_iload_n hS dX8_word__6 rfl ?_
    refine J_callS1 (X' := fun _ _ => False) hS dX8_word__7 msX8_117 rfl (by first | decide | omega) (by decide) (Nat.le_of_ble_eq_true rfl) ⟨Nat.le_trans (by decide) hR.1, Nat.le_trans (by decide) hR.2⟩ (fun _ _ q => q.elim) (m_yardN hbi ?_)
    refine J_if_eq (tgt := 27) hS dX8_word__10 (by decide) (fun c1 => ?_) (fun c1 => ?_)
    · exact bad (Or.inl hbi)
    · exact absurd rfl c1
end RefG


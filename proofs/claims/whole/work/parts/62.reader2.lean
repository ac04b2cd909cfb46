/-! THE READER: what stands at a token; passing -/
section RdU
variable {l : Launch} {E : Ey} {g : Mm} {Q : Option Value → Mm → Prop} {X : String → Mm → Prop} {h : Nat} {T : Wr} {n : Nat}
theorem c_isAt {s : Nat} {c : Int32} (hC : RdC g T n h s) (q : ∀ r : Int32, (r = 0 ∨ r = 1) → (r = 1 ↔ isC T n s c = true) → Q (some (.int r)) g) : Ct l E lay NC 0 0 0 yX2_isAt [.ref 155, .int c] g Q X := by
  obtain ⟨tx, -, hs, k3, k4, -, -⟩ := hC
  have hn3 := tx.2.2.1
  have hk4 : tkK T n s ≤ 3 := by unfold tkK; split; decide; split; decide; split <;> decide
  refine Ct_in k_yX2_isAt (by decide) rfl (Nat.le_of_ble_eq_true rfl) rfl ?_
  intro S hS hZ hr ht hR
  show J S 0 0 (g) 0 [some (.ref 155), some (.int c)] []
  refine J_aload_n hS dX2_isAt_0 rfl ?_
  refine J_getI hS dX2_isAt_1 flX2_23 ob155 rfl ?_
  show J S 0 0 (g) 4 [some (.ref 155), some (.int c)] [.int _]
  rw [k3]
  refine J_iconst (v := 3) hS dX2_isAt_4 (by decide) ?_
  refine J_icmp_ne (tgt := 25) hS dX2_isAt_5 (by decide) (fun c1 => ?_) (fun c1 => ?_)
  ·
    refine J_iconst (v := 0) hS dX2_isAt_25 (by decide) ?_
    refine J_zret hS hZ hr dX2_isAt_26 (by decide) (by omega) (by omega) ?_
    exact q 0 (Or.inl rfl) ⟨fun z => absurd z (by decide), fun z => absurd (show nI (tkK T n s) = 3 by rw [(of_decide_eq_true z).1]; rfl) c1⟩
  · have ek : tkK T n s = 3 := (nI_eq (by omega) (by decide)).mp c1
    have hlt : s < n := by
      rcases Nat.lt_or_ge s n with z | z
      · exact z
      · unfold tkK at ek; rw [if_pos z] at ek; cases ek
    refine J_aload_n hS dX2_isAt_8 rfl ?_
    refine J_getD (v := .ref 156) hS dX2_isAt_9 flX2_9 ob155 rfl tx.txt ?_
    refine J_aload_n hS dX2_isAt_12 rfl ?_
    refine J_getI hS dX2_isAt_13 flX2_26 ob155 rfl ?_
    show J S 0 0 (g) 16 [some (.ref 155), some (.int c)] [.int _, .ref 156]
    rw [k4]
    refine J_ialdN hS (s) dX2_isAt_16 ar156 (by first | rfl | (simp only [n0, n1, n2, n3, n4, n5, n6, n7, n8, n9, n10, n11, n12, n13, n14, n15, n16, n17, n18, n19, n20, n24, n32, n56, n60, n64, n72, n99, n100, n128, n136, n142, n144, n200, n300, n999, n1000, n1500, n3464, nI_add, pk_mul] <;> first | rfl | (congr 1; omega))) (by omega) (by decide) ?_
    show J S 0 0 (g) 17 [some (.ref 155), some (.int c)] [.int _]
    rw [tx.2.2.2]
    refine J_iload_n hS dX2_isAt_17 rfl ?_
    refine J_icmp_ne (tgt := 25) hS dX2_isAt_18 (by decide) (fun c2 => ?_) (fun c2 => ?_)
    ·
      refine J_iconst (v := 0) hS dX2_isAt_25 (by decide) ?_
      refine J_zret hS hZ hr dX2_isAt_26 (by decide) (by omega) (by omega) ?_
      exact q 0 (Or.inl rfl) ⟨fun z => absurd z (by decide), fun z => absurd (of_decide_eq_true z).2 c2⟩
    ·
      refine J_iconst (v := 1) hS dX2_isAt_21 (by decide) ?_
      refine J_goto (tgt := 26) hS dX2_isAt_22 (by decide) ?_
      refine J_zret hS hZ hr dX2_isAt_26 (by decide) (by omega) (by omega) ?_
      exact q 1 (Or.inr rfl) ⟨fun _ => decide_eq_true ⟨ek, c2⟩, fun _ => rfl⟩
set_option maxRecDepth 20000 in
theorem mlX2_len : Cond.methodLink RX2 65 yJ0_length_8abf5 ∈ gw := gw_t 845 (by rfl) (by rfl)
set_option maxRecDepth 20000 in
theorem mlX2_chr : Cond.methodLink RX2 70 yJ0_charAt_5068e ∈ gw := gw_t 855 (by rfl) (by rfl)
set_option maxRecDepth 20000 in
theorem imJ_len : Cond.instanceMethod yJ0_length_8abf5 ∈ gw := gw_t 846 (by rfl) (by rfl)
set_option maxRecDepth 20000 in
theorem slJ_len : Cond.selects RJ0 yJ0_length_8abf5 yJ0_length_8abf5 ∈ gw := gw_t 847 (by rfl) (by rfl)
set_option maxRecDepth 20000 in
theorem imJ_chr : Cond.instanceMethod yJ0_charAt_5068e ∈ gw := gw_t 856 (by rfl) (by rfl)
set_option maxRecDepth 20000 in
theorem slJ_chr : Cond.selects RJ0 yJ0_charAt_5068e yJ0_charAt_5068e ∈ gw := gw_t 857 (by rfl) (by rfl)
set_option maxRecDepth 10000 in
theorem c_isAtW {s i : Nat} (hi : i < 16) (hC : RdC g T n h s) (q : ∀ r : Int32, (r = 0 ∨ r = 1) → (r = 1 ↔ isW T n s i = true) → Q (some (.int r)) g) : Ct l E lay NC 4 0 0 yX2_isAt_ [.ref 155, .ref (1100 + i)] g Q X := by
  obtain ⟨tx, -, hs, k3, k4, k5, -⟩ := hC
  have hn3 := tx.2.2.1
  have h6 := wd_len6 i hi
  have hel := tkE_le (T := T) hs
  have hk4 : tkK T n s ≤ 3 := by unfold tkK; split; decide; split; decide; split <;> decide
  refine Ct_in k_yX2_isAt_ (by decide) rfl (Nat.le_of_ble_eq_true rfl) rfl ?_
  intro S hS hZ hr ht hR
  show J S 0 0 (g) 0 [some (.ref 155), some (.ref (1100 + i)), none] []
  refine J_aload_n hS dX2_isAt__0 rfl ?_
  refine J_getI hS dX2_isAt__1 flX2_23 ob155 rfl ?_
  show J S 0 0 (g) 4 [some (.ref 155), some (.ref (1100 + i)), none] [.int _]
  rw [k3]
  refine J_iconst (v := 2) hS dX2_isAt__4 (by decide) ?_
  refine J_icmp_ne (tgt := 24) hS dX2_isAt__5 (by decide) (fun c1 => ?_) (fun c1 => ?_)
  ·
    refine J_iconst (v := 0) hS dX2_isAt__24 (by decide) ?_
    refine J_zret hS hZ hr dX2_isAt__25 (by decide) (by omega) (by omega) ?_
    exact q 0 (Or.inl rfl) ⟨fun z => absurd z (by decide), fun z => absurd (show nI (tkK T n s) = 2 by rw [(of_decide_eq_true z).1]; rfl) c1⟩
  · have ek : tkK T n s = 2 := (nI_eq (by omega) (by decide)).mp c1
    refine J_aload_n hS dX2_isAt__8 rfl ?_
    refine J_getI hS dX2_isAt__9 flX2_29 ob155 rfl ?_
    refine J_aload_n hS dX2_isAt__12 rfl ?_
    refine J_getI hS dX2_isAt__13 flX2_26 ob155 rfl ?_
    show J S 0 0 (g) 16 [some (.ref 155), some (.ref (1100 + i)), none] [.int _, .int _]
    rw [k4, k5]
    refine J_isub hS dX2_isAt__16 ?_
    show J S 0 0 (g) 17 [some (.ref 155), some (.ref (1100 + i)), none] [.int _]
    rw [pk_sub hel.1]
    refine J_aload_n hS dX2_isAt__17 rfl ?_
    refine J_callK (av := []) hS hi dX2_isAt__18 rfl mlX2_len imJ_len slJ_len inJ0 kJ_len (by decide +kernel) rfl (by decide) (by decide) (Nat.le_of_ble_eq_true rfl) hR (c_strLen hi ?_)
    show J S 0 0 g 21 [some (.ref 155), some (.ref (1100 + i)), none] [.int (nI (wdLen.getD i 0)), .int (nI (tkE T n s - s))]
    refine J_icmp_eq (tgt := 26) hS dX2_isAt__21 (by decide) (fun c2 => ?_) (fun c2 => ?_)
    · have el : tkE T n s - s = wdLen.getD i 0 := (nI_eq (by omega) (by omega)).mp c2
      have el2 : tkE T n s = s + wdLen.getD i 0 := by omega
      refine J_iconst (v := 0) hS dX2_isAt__26 (by decide) ?_
      refine J_istore_n (lt := fun j1 => [some (.ref 155), some (.ref (1100 + i)), some (.int j1)]) hS dX2_isAt__27 (Nat.le_of_ble_eq_true rfl) (fun _ => rfl) (fun j1 ej1 => ?_)
      suffices H : ∀ (r j : Nat) (v : Int32), j + r = wdLen.getD i 0 → v = nI j → (∀ z, z < j → T (s + z) = (wdByt.getD i []).getD z 0) → J S 0 0 g 28 [some (.ref 155), some (.ref (1100 + i)), some (.int v)] [] by
        exact H _ 0 j1 (Nat.zero_add _) ej1 (fun z hz => absurd hz (by omega))
      intro r
      induction r with
      | zero =>
        intro j v hj hv hall
        subst hv
        refine J_iload_n hS dX2_isAt__28 rfl ?_
        refine J_aload_n hS dX2_isAt__29 rfl ?_
        refine J_callK (av := []) hS hi dX2_isAt__30 rfl mlX2_len imJ_len slJ_len inJ0 kJ_len (by decide +kernel) rfl (by decide) (by decide) (Nat.le_of_ble_eq_true rfl) hR (c_strLen hi ?_)
        show J S 0 0 g 33 [some (.ref 155), some (.ref (1100 + i)), some (.int (nI j))] [.int (nI (wdLen.getD i 0)), .int (nI j)]
        refine J_icmp_ge (tgt := 63) hS dX2_isAt__33 (by decide) (fun c3 => ?_) (fun c3 => ?_)
        ·
          refine J_iconst (v := 1) hS dX2_isAt__63 (by decide) ?_
          refine J_zret hS hZ hr dX2_isAt__64 (by decide) (by omega) (by omega) ?_
          exact q 1 (Or.inr rfl) ⟨fun _ => decide_eq_true ⟨ek, el2, fun z hz => hall z (by omega)⟩, fun _ => rfl⟩
        · exact absurd (nI_le (show wdLen.getD i 0 ≤ j by omega) (by omega)) c3
      | succ r ih =>
        intro j v hj hv hall
        subst hv
        have hjl : j < wdLen.getD i 0 := by omega
        refine J_iload_n hS dX2_isAt__28 rfl ?_
        refine J_aload_n hS dX2_isAt__29 rfl ?_
        refine J_callK (av := []) hS hi dX2_isAt__30 rfl mlX2_len imJ_len slJ_len inJ0 kJ_len (by decide +kernel) rfl (by decide) (by decide) (Nat.le_of_ble_eq_true rfl) hR (c_strLen hi ?_)
        show J S 0 0 g 33 [some (.ref 155), some (.ref (1100 + i)), some (.int (nI j))] [.int (nI (wdLen.getD i 0)), .int (nI j)]
        refine J_icmp_ge (tgt := 63) hS dX2_isAt__33 (by decide) (fun c3 => ?_) (fun c3 => ?_)
        · exact absurd c3 (nI_ge hjl (by omega))
        ·
          refine J_aload_n hS dX2_isAt__36 rfl ?_
          refine J_getD (v := .ref 156) hS dX2_isAt__37 flX2_9 ob155 rfl tx.txt ?_
          refine J_aload_n hS dX2_isAt__40 rfl ?_
          refine J_getI hS dX2_isAt__41 flX2_26 ob155 rfl ?_
          show J S 0 0 (g) 44 [some (.ref 155), some (.ref (1100 + i)), some (.int (nI j))] [.int _, .ref 156]
          rw [k4]
          refine J_iload_n hS dX2_isAt__44 rfl ?_
          refine J_iadd hS dX2_isAt__45 ?_
          show J S 0 0 (g) 46 [some (.ref 155), some (.ref (1100 + i)), some (.int (nI j))] [.int _, .ref 156]
          rw [nI_add]
          refine J_ialdN hS (s + j) dX2_isAt__46 ar156 (by first | rfl | (simp only [n0, n1, n2, n3, n4, n5, n6, n7, n8, n9, n10, n11, n12, n13, n14, n15, n16, n17, n18, n19, n20, n24, n32, n56, n60, n64, n72, n99, n100, n128, n136, n142, n144, n200, n300, n999, n1000, n1500, n3464, nI_add, pk_mul] <;> first | rfl | (congr 1; omega))) (by omega) (by decide) ?_
          show J S 0 0 (g) 47 [some (.ref 155), some (.ref (1100 + i)), some (.int (nI j))] [.int _]
          rw [tx.2.2.2]
          refine J_aload_n hS dX2_isAt__47 rfl ?_
          refine J_iload_n hS dX2_isAt__48 rfl ?_
          refine J_callK (av := [.int (nI j)]) hS hi dX2_isAt__49 rfl mlX2_chr imJ_chr slJ_chr inJ0 kJ_chr (show (parseMethodDescriptor yJ0_charAt_5068e.desc).map (fun d => d.parameters.length) = some 1 by decide +kernel) rfl (by decide) (by decide) (Nat.le_of_ble_eq_true rfl) hR (c_strChr hi hjl ?_)
          show J S 0 0 g 52 [some (.ref 155), some (.ref (1100 + i)), some (.int (nI j))] [.int ((wdByt.getD i []).getD j 0), .int (T (s + j))]
          refine J_icmp_eq (tgt := 57) hS dX2_isAt__52 (by decide) (fun c4 => ?_) (fun c4 => ?_)
          ·
            refine J_iinc (lt := fun v2 => [some (.ref 155), some (.ref (1100 + i)), some (.int v2)]) (v := 1) hS dX2_isAt__57 rfl (by decide) (fun _ => rfl) (fun v2 ev2 => ?_)
            refine J_goto (tgt := 28) hS dX2_isAt__60 (by decide) ?_
            refine ih (j + 1) v2 (by omega) (by rw [ev2]; exact nI_1 j) (fun z hz => ?_)
            rcases Nat.lt_or_ge z j with y1 | y1
            · exact hall z y1
            · have : z = j := by omega
              subst this; exact c4
          ·
            refine J_iconst (v := 0) hS dX2_isAt__55 (by decide) ?_
            refine J_zret hS hZ hr dX2_isAt__56 (by decide) (by omega) (by omega) ?_
            exact q 0 (Or.inl rfl) ⟨fun z => absurd z (by decide), fun z => absurd ((of_decide_eq_true z).2.2 j hjl) c4⟩
    ·
      refine J_iconst (v := 0) hS dX2_isAt__24 (by decide) ?_
      refine J_zret hS hZ hr dX2_isAt__25 (by decide) (by omega) (by omega) ?_
      refine q 0 (Or.inl rfl) ⟨fun z => absurd z (by decide), fun z => absurd (show nI (tkE T n s - s) = nI (wdLen.getD i 0) by rw [(of_decide_eq_true z).2.1]; congr 1; omega) c2⟩
theorem c_refuse {k : Int32} (q : Q (some (.int 0)) (u2 (u2 g 155 7 k) 155 8 (g 155 4))) : Ct l E lay NC 0 0 0 yX2_refuse [.ref 155, .int k] g Q X := by
  refine Ct_in k_yX2_refuse (by decide) rfl (Nat.le_of_ble_eq_true rfl) rfl ?_
  intro S hS hZ hr ht hR
  show J S 0 0 (g) 0 [some (.ref 155), some (.int k)] []
  refine J_aload_n hS dX2_refuse_0 rfl ?_
  refine J_iload_n hS dX2_refuse_1 rfl ?_
  refine J_putI hS dX2_refuse_2 fpX2_35 ob155 rfl (fun g2 eg2 => ?_)
  refine J_aload_n hS dX2_refuse_5 rfl ?_
  refine J_aload_n hS dX2_refuse_6 rfl ?_
  refine J_getI hS dX2_refuse_7 flX2_26 ob155 rfl ?_
  refine J_putI hS dX2_refuse_10 fpX2_38 ob155 rfl (fun g10 eg10 => ?_)
  refine J_iconst (v := 0) hS dX2_refuse_13 (by decide) ?_
  refine J_zret hS hZ hr dX2_refuse_14 (by decide) (by omega) (by omega) ?_
  rw [eg10, show g2 155 4 = g 155 4 by rw [eg2]; exact u2_row155 (by decide), eg2]; exact q
/-- the law being written; what reading leaves, well or not -/
def PreP (T : Wr) (n h : Nat) (g : Mm) (m s : Nat) : Prop := RdC g T n h s ∧ g h 6 = nI m ∧ m ≤ s
def FrL (h : Nat) (g g' : Mm) : Prop := (∀ z, z ≠ 155 → z ≠ h → z ≠ h + 5 → g' z = g z) ∧ ∀ j, j ≠ 6 → g' h j = g h j
theorem FrL.refl {h : Nat} {g : Mm} : FrL h g g := ⟨fun _ _ _ _ => rfl, fun _ _ => rfl⟩
theorem FrL.trans {h : Nat} {g g1 g2 : Mm} (a : FrL h g g1) (b : FrL h g1 g2) : FrL h g g2 := ⟨fun z h1 h2 h3 => (b.1 z h1 h2 h3).trans (a.1 z h1 h2 h3), fun j hj => (b.2 j hj).trans (a.2 j hj)⟩
def POk (T : Wr) (n h : Nat) (g g' : Mm) (m : Nat) (L : List Tok) (s' : Nat) : Prop := FrL h g g' ∧ RdC g' T n h s' ∧ g' h 6 = nI (m + L.length) ∧ Cod g' h m L ∧ (∀ i, i < m → g' (h + 5) i = g (h + 5) i) ∧ g' 155 7 = g 155 7 ∧ g' 155 8 = g 155 8
def PBd (h : Nat) (g g' : Mm) (e : Nat × Nat) : Prop := FrL h g g' ∧ g' 155 2 = nI h ∧ g' 155 7 = nI e.1 ∧ g' 155 8 = nI e.2 ∧ ∃ m' : Nat, m' ≤ 300 ∧ g' h 6 = nI m'
theorem FrR.frL {g g' : Mm} (e : FrR g g') (hL : Lw h) : FrL h g g' ∧ g' h = g h ∧ g' (h + 5) = g (h + 5) := by
  obtain ⟨i, hi, eh⟩ := hL
  exact ⟨⟨fun z h1 _ _ => e.1 z h1, fun j _ => by rw [e.1 h (by omega)]⟩, e.1 h (by omega), e.1 (h + 5) (by omega)⟩
theorem POk.tok {g g' : Mm} {m s' : Nat} (hL : Lw h) (e : FrR g g') (hm : g h 6 = nI m) (hC : RdC g' T n h s') : POk T n h g g' m [] s' := by
  obtain ⟨a, b, c⟩ := e.frL hL
  exact ⟨a, hC, by rw [b]; exact hm, (fun j t z => by cases z), (fun i _ => by rw [c]), e.2 7 (by decide), e.2 8 (by decide)⟩
theorem POk.trans {g g1 g2 : Mm} {m s1 s2 : Nat} {L L2 : List Tok} (a : POk T n h g g1 m L s1) (b : POk T n h g1 g2 (m + L.length) L2 s2) : POk T n h g g2 m (L ++ L2) s2 := by
  obtain ⟨a1, a2, a3, a4, a5, a6, a7⟩ := a
  obtain ⟨b1, b2, b3, b4, b5, b6, b7⟩ := b
  refine ⟨a1.trans b1, b2, by rw [b3]; congr 1; simp [Nat.add_assoc], fun j t z => ?_, fun i hi => by rw [b5 i (by omega)]; exact a5 i hi, b6.trans a6, b7.trans a7⟩
  rcases Nat.lt_or_ge j L.length with y | y
  · rw [List.getElem?_append_left y] at z
    rw [b5 (m + j) (by omega)]; exact a4 j t z
  · rw [List.getElem?_append_right y] at z
    have := b4 (j - L.length) t z
    rw [show m + L.length + (j - L.length) = m + j by omega] at this; exact this
theorem POk.put {g g1 : Mm} {m s1 : Nat} {L : List Tok} {t : Tok} (hL : Lw h) (a : POk T n h g g1 m L s1) : POk T n h g (u2 (u2 g1 (h + 5) (m + L.length) (encC t)) h 6 (nI (m + L.length + 1))) m (L ++ [t]) s1 := by
  obtain ⟨i0, hi0, eh⟩ := hL
  obtain ⟨a1, a2, a3, a4, a5, a6, a7⟩ := a
  obtain ⟨g2, hg2⟩ : ∃ g2, g2 = u2 (u2 g1 (h + 5) (m + L.length) (encC t)) h 6 (nI (m + L.length + 1)) := ⟨_, rfl⟩
  rw [← hg2]
  have o : ∀ z, z ≠ h → z ≠ h + 5 → g2 z = g1 z := fun z h1 h2 => by rw [hg2, u2_ne z h1, u2_ne z h2]
  have o5 : ∀ i, i ≠ m + L.length → g2 (h + 5) i = g1 (h + 5) i := fun i hi => by rw [hg2, u2_ne _ (by omega)]; unfold u2; rw [if_neg (fun z => hi z.2)]
  have oh : ∀ j, j ≠ 6 → g2 h j = g1 h j := fun j hj => by rw [hg2]; unfold u2; rw [if_neg (fun z => hj z.2), if_neg (by omega)]
  have e155 : g2 155 = g1 155 := o 155 (by omega) (by omega)
  have e156 : g2 156 = g1 156 := o 156 (by omega) (by omega)
  refine ⟨a1.trans ⟨fun z _ h2 h3 => o z h2 h3, oh⟩, ?_, by rw [hg2, u2_self, List.length_append]; rfl, fun j t' z => ?_, fun i hi => by rw [o5 i (by omega)]; exact a5 i hi, by rw [e155]; exact a6, by rw [e155]; exact a7⟩
  · obtain ⟨r1, r2, r3, r4, r5, r6, r7⟩ := a2
    exact ⟨r1.fr e156 (by rw [e155]) (by rw [e155]), by rw [e155]; exact r2, r3, by rw [e155]; exact r4, by rw [e155]; exact r5, by rw [e155]; exact r6, by rw [e155]; exact r7⟩
  · rcases Nat.lt_or_ge j L.length with y | y
    · rw [List.getElem?_append_left y] at z
      rw [o5 (m + j) (by omega)]; exact a4 j t' z
    · rw [List.getElem?_append_right y] at z
      have e0 : j - L.length = 0 := by
        rcases Nat.eq_zero_or_pos (j - L.length) with q | q
        · exact q
        · rw [List.getElem?_eq_none (show [t].length ≤ j - L.length from q)] at z; cases z
      rw [e0] at z
      cases z
      rw [show m + j = m + L.length by omega, hg2, u2_ne _ (by omega), u2_self]
theorem POk.bad {g g1 g2 : Mm} {m s1 : Nat} {L : List Tok} {e : Nat × Nat} (a : POk T n h g g1 m L s1) (b : PBd h g1 g2 e) : PBd h g g2 e := ⟨a.1.trans b.1, b.2⟩
theorem PBd.put {g g1 : Mm} {e : Nat × Nat} (hL : Lw h) (a : PBd h g g1 e) {x : Int32} (q : ∀ g', PBd h g g' e → Q none g') : Ct l E lay NC 0 0 0 yX1_put [.ref h, .int x] g1 Q X := by
  obtain ⟨a1, a2, a3, a4, m', m1, m2⟩ := a
  refine c_put hL m1 m2 (fun hm => q _ ?_) (fun _ => q g1 ⟨a1, a2, a3, a4, m', m1, m2⟩)
  obtain ⟨i0, hi0, eh⟩ := hL
  obtain ⟨g2, hg2⟩ : ∃ g2, g2 = u2 (u2 g1 (h + 5) m' x) h 6 (nI (m' + 1)) := ⟨_, rfl⟩
  rw [← hg2]
  have o : ∀ z, z ≠ h → z ≠ h + 5 → g2 z = g1 z := fun z h1 h2 => by rw [hg2, u2_ne z h1, u2_ne z h2]
  have oh : ∀ j, j ≠ 6 → g2 h j = g1 h j := fun j hj => by rw [hg2]; unfold u2; rw [if_neg (fun z => hj z.2), if_neg (by omega)]
  have e155 : g2 155 = g1 155 := o 155 (by omega) (by omega)
  exact ⟨a1.trans ⟨fun z _ h2 h3 => o z h2 h3, oh⟩, by rw [e155]; exact a2, by rw [e155]; exact a3, by rw [e155]; exact a4, m' + 1, by omega, by rw [hg2, u2_self]⟩
theorem RdC.bad {g : Mm} {s m : Nat} {k : Nat} (hL : Lw h) (hC : RdC g T n h s) (hm : g h 6 = nI m) (hm3 : m ≤ 300) : PBd h g (u2 (u2 g 155 7 (nI k)) 155 8 (g 155 4)) (k, s) := by
  obtain ⟨i0, hi0, eh⟩ := hL
  obtain ⟨-, r2, r3, -, r5, -, -⟩ := hC
  refine ⟨⟨fun z h1 _ _ => by rw [u2_ne z h1, u2_ne z h1], fun j _ => by rw [u2_ne h (by omega), u2_ne h (by omega)]⟩, ?_, ?_, ?_, m, hm3, by rw [u2_ne h (by omega), u2_ne h (by omega)]; exact hm⟩
  · rw [u2_row155 (by decide), u2_row155 (by decide)]; exact r2
  · rw [u2_row155 (by decide), u2_self]
  · rw [u2_self]; exact r5
theorem c_pass {s m : Nat} {c : Int32} (hL : Lw h) (hp : PreP T n h g m s) (q1 : ∀ g', psC T n c s = .inr ([], nx T n s) → POk T n h g g' m [] (nx T n s) → Q (some (.int 1)) g') (q0 : ∀ g', psC T n c s = .inl (1, s) → PBd h g g' (1, s) → Q (some (.int 0)) g') : Ct l E lay NC 3 0 0 yX2_pass [.ref 155, .int c] g Q X := by
  obtain ⟨hC, hm, hms⟩ := hp
  have hn3 := hC.1.2.2.1
  have hsn := hC.2.2.1
  refine Ct_in k_yX2_pass (by decide) rfl (Nat.le_of_ble_eq_true rfl) rfl ?_
  intro S hS hZ hr ht hR
  show J S 0 0 (g) 0 [some (.ref 155), some (.int c)] []
  refine J_aload_n hS dX2_pass_0 rfl ?_
  refine J_iload_n hS dX2_pass_1 rfl ?_
  refine J_callV1 (X' := fun _ _ => False) hS dX2_pass_2 mvX2_74 ob155 rfl (by first | decide | omega) (by decide) (Nat.le_of_ble_eq_true rfl) ⟨Nat.le_trans (by decide) hR.1, Nat.le_trans (by decide) hR.2⟩ (fun _ _ q => q.elim) (c_isAt hC (fun r t1 t2 => ?_))
  refine J_if_ne (tgt := 14) hS dX2_pass_5 (by decide) (fun c1 => ?_) (fun c1 => ?_)
  · have hyes : isC T n s c = true := t2.mp (t1.resolve_left c1)
    refine J_aload_n hS dX2_pass_14 rfl ?_
    refine J_callV0 (X' := fun _ _ => False) hS dX2_pass_15 mvX2_52 ob155 rfl (by first | decide | omega) (by decide) (Nat.le_of_ble_eq_true rfl) ⟨Nat.le_trans (by decide) hR.1, Nat.le_trans (by decide) hR.2⟩ (fun _ _ q => q.elim) (c_step hC.1 hC.2.1 (tkE_le hsn).2.1 hC.2.2.2.2.2.1 (fun g1 b1 b2 => ?_))
    refine J_iconst (v := 1) hS dX2_pass_18 (by decide) ?_
    refine J_zret hS hZ hr dX2_pass_19 (by decide) (by omega) (by omega) ?_
    exact q1 g1 (by unfold psC; rw [if_pos hyes]) (POk.tok hL b1 hm b2)
  · have hno : ¬ isC T n s c = true := fun z => by rw [t2.mpr z] at c1; exact absurd c1 (by decide)
    refine J_aload_n hS dX2_pass_8 rfl ?_
    refine J_iconst (v := 1) hS dX2_pass_9 (by decide) ?_
    refine J_callV1 (X' := fun _ _ => False) hS dX2_pass_10 mvX2_78 ob155 rfl (by first | decide | omega) (by decide) (Nat.le_of_ble_eq_true rfl) ⟨Nat.le_trans (by decide) hR.1, Nat.le_trans (by decide) hR.2⟩ (fun _ _ q => q.elim) (c_refuse ?_)
    refine J_zret hS hZ hr dX2_pass_13 (by decide) (by omega) (by omega) ?_
    exact q0 _ (by unfold psC; rw [if_neg hno]) (hC.bad (k := 1) hL hm (by omega))
theorem c_passOpening {s m o dd : Nat} {c : Int32} (hL : Lw h) (ho : o + dd = 6) (hp : PreP T n h g m s) (q1 : ∀ g', psO T n c dd s = .inr ([], nx T n s) → POk T n h g g' m [] (nx T n s) → Q (some (.int 1)) g') (q0 : ∀ e g', psO T n c dd s = .inl e → PBd h g g' e → Q (some (.int 0)) g') : Ct l E lay NC 4 0 0 yX2_passOpening [.ref 155, .int c, .int (nI o)] g Q X := by
  have hC := hp.1
  have hn3 := hC.1.2.2.1
  have hsn := hC.2.2.1
  have hms := hp.2.2
  refine Ct_in k_yX2_passOpening (by decide) rfl (Nat.le_of_ble_eq_true rfl) rfl ?_
  intro S hS hZ hr ht hR
  show J S 0 0 (g) 0 [some (.ref 155), some (.int c), some (.int (nI o)), none] []
  refine J_aload_n hS dX2_passOpening_0 rfl ?_
  refine J_iload_n hS dX2_passOpening_1 rfl ?_
  refine J_callV1 (X' := fun _ _ => False) hS dX2_passOpening_2 mvX2_74 ob155 rfl (by first | decide | omega) (by decide) (Nat.le_of_ble_eq_true rfl) ⟨Nat.le_trans (by decide) hR.1, Nat.le_trans (by decide) hR.2⟩ (fun _ _ q => q.elim) (c_isAt hC (fun r t1 t2 => ?_))
  rcases t1 with z | z
  · subst z
    have hno : ¬ isC T n s c = true := fun z => absurd (t2.mpr z) (by decide)
    refine J_istore_n (lt := fun w3 => [some (.ref 155), some (.int c), some (.int (nI o)), some (.int w3)]) hS dX2_passOpening_5 (Nat.le_of_ble_eq_true rfl) (fun _ => rfl) (fun w3 ew3 => ?_)
    subst ew3
    refine J_iload_n hS dX2_passOpening_6 rfl ?_
    refine J_if_eq (tgt := 16) hS dX2_passOpening_7 (by decide) (fun c1 => ?_) (fun c1 => ?_)
    ·
      refine J_aload_n hS dX2_passOpening_16 rfl ?_
      refine J_iload_n hS dX2_passOpening_17 rfl ?_
      refine J_if_eq (tgt := 25) hS dX2_passOpening_18 (by decide) (fun c2 => ?_) (fun c2 => ?_)
      ·
        refine J_iconst (v := 1) hS dX2_passOpening_25 (by decide) ?_
        refine J_callV1 (X' := fun _ _ => False) hS dX2_passOpening_26 mvX2_78 ob155 rfl (by first | decide | omega) (by decide) (Nat.le_of_ble_eq_true rfl) ⟨Nat.le_trans (by decide) hR.1, Nat.le_trans (by decide) hR.2⟩ (fun _ _ q => q.elim) (c_refuse ?_)
        refine J_zret hS hZ hr dX2_passOpening_29 (by decide) (by omega) (by omega) ?_
        exact q0 (1, s) _ (by unfold psO; rw [if_neg (fun z => hno z.1)]; unfold psC; rw [if_neg hno]) (hC.bad (k := 1) hL hp.2.1 (by omega))
      · exact absurd rfl c2
    · exact absurd rfl c1
  · subst z
    have hyes : isC T n s c = true := t2.mp rfl
    refine J_istore_n (lt := fun w3 => [some (.ref 155), some (.int c), some (.int (nI o)), some (.int w3)]) hS dX2_passOpening_5 (Nat.le_of_ble_eq_true rfl) (fun _ => rfl) (fun w3 ew3 => ?_)
    subst ew3
    refine J_iload_n hS dX2_passOpening_6 rfl ?_
    refine J_if_eq (tgt := 16) hS dX2_passOpening_7 (by decide) (fun c1 => ?_) (fun c1 => ?_)
    · exact absurd c1 (by decide)
    ·
      refine J_iload_n hS dX2_passOpening_10 rfl ?_
      refine J_bipush (v := 6) hS dX2_passOpening_11 (by decide) ?_
      refine J_icmp_lt (tgt := 30) hS dX2_passOpening_13 (by decide) (fun c2 => ?_) (fun c2 => ?_)
      · have hd : dd ≠ 0 := by
          intro z
          have : o = 6 := by omega
          subst this; exact absurd c2 (by decide)
        refine J_aload_n hS dX2_passOpening_30 rfl ?_
        refine J_callV0 (X' := fun _ _ => False) hS dX2_passOpening_31 mvX2_52 ob155 rfl (by first | decide | omega) (by decide) (Nat.le_of_ble_eq_true rfl) ⟨Nat.le_trans (by decide) hR.1, Nat.le_trans (by decide) hR.2⟩ (fun _ _ q => q.elim) (c_step hC.1 hC.2.1 (tkE_le hsn).2.1 hC.2.2.2.2.2.1 (fun g1 b1 b2 => ?_))
        refine J_iconst (v := 1) hS dX2_passOpening_34 (by decide) ?_
        refine J_zret hS hZ hr dX2_passOpening_35 (by decide) (by omega) (by omega) ?_
        exact q1 g1 (by unfold psO; rw [if_neg (fun z => hd z.2)]; unfold psC; rw [if_pos hyes]) (POk.tok hL b1 hp.2.1 b2)
      · have hd0 : dd = 0 := by
          rcases Nat.lt_or_ge o 6 with z | z
          · exact absurd (nI_lt z (by decide)) c2
          · omega
        refine J_aload_n hS dX2_passOpening_16 rfl ?_
        refine J_iload_n hS dX2_passOpening_17 rfl ?_
        refine J_if_eq (tgt := 25) hS dX2_passOpening_18 (by decide) (fun c3 => ?_) (fun c3 => ?_)
        · exact absurd c3 (by decide)
        ·
          refine J_iconst (v := 3) hS dX2_passOpening_21 (by decide) ?_
          refine J_goto (tgt := 26) hS dX2_passOpening_22 (by decide) ?_
          refine J_callV1 (X' := fun _ _ => False) hS dX2_passOpening_26 mvX2_78 ob155 rfl (by first | decide | omega) (by decide) (Nat.le_of_ble_eq_true rfl) ⟨Nat.le_trans (by decide) hR.1, Nat.le_trans (by decide) hR.2⟩ (fun _ _ q => q.elim) (c_refuse ?_)
          refine J_zret hS hZ hr dX2_passOpening_29 (by decide) (by omega) (by omega) ?_
          exact q0 (3, s) _ (by unfold psO; rw [if_pos ⟨hyes, hd0⟩]) (hC.bad (k := 3) hL hp.2.1 (by omega))
end RdU


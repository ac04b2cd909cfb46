/-! THE REFERENCE: who is there; drawn talks -/
theorem upd_twice {w : Wr} {i : Nat} {x y : Int32} : upd (upd w i x) i y = upd w i y := by
  funext j; unfold upd; by_cases e : j = i
  · rw [if_pos e, if_pos e]
  · rw [if_neg e, if_neg e, if_neg e]
theorem dI_eq (s : Int32) (n : Nat) : dI s n = dr (adv s) n := by unfold dI; rfl
theorem dJ_eq (s : Int32) (m : Nat) : dJ s (m + 1) = if dr (adv (adv s)) m < dr (adv s) (m + 1) then dr (adv (adv s)) m else dr (adv (adv s)) m + 1 := by unfold dJ dI; rw [Nat.add_sub_cancel]
theorem adv5_eq (s : Int32) : adv5 s = adv (adv (adv (adv (adv s)))) := by unfold adv5; rfl
section RefH
variable {l : Launch} {E : Ey} {g : Mm} {Q : Option Value → Mm → Prop} {X : String → Mm → Prop} {r : Nat} {w bb : Wr}
/-- who is there, of the row r -/
def ThM (g : Mm) (r n : Nat) (y0 : Int32) (p : Nat → Bool) : Prop := ∀ c, c < n → (p c = true ↔ ¬ g r (56 + 142 * c + 3) = 0 ∧ g r (56 + 142 * c) = y0)
set_option maxRecDepth 10000 in
theorem m_findHere {n : Nat} {y0 : Int32} {p : Nat → Bool} (hr1 : Rw r) (hw : g 162 3 = nI r) (hn : n ≤ 24) (em : g r 6 = nI n) (hp : ThM g r n y0 p) (q : ∀ g', (∀ z, z ≠ 162 → z ≠ 205 → g' z = g z) → (∀ j, j ≠ 41 → g' 162 j = g 162 j) → g' 162 41 = nI (here p n).length → (∀ j, j < (here p n).length → g' 205 j = nI ((here p n).getD j 0)) → Q none g') : Ct l E lay NC 1 0 0 yX8_findHere [.ref 162, .int y0] g Q X := by
  have hr2 : r = 164 ∨ r = 165 := hr1
  refine Ct_in k_yX8_findHere (by decide) rfl (Nat.le_of_ble_eq_true rfl) rfl ?_
  intro S hS hZ hr ht hR
  show J S 0 0 (g) 0 [some (.ref 162), some (.int y0), none] []
  refine J_aload_n hS dX8_findHere_0 rfl ?_
  refine J_iconst (v := 0) hS dX8_findHere_1 (by decide) ?_
  refine J_putI hS dX8_findHere_2 fpX8_335 ob162 rfl (fun g2 eg2 => ?_)
  refine J_iconst (v := 0) hS dX8_findHere_5 (by decide) ?_
  refine J_istore_n (lt := fun x2 => [some (.ref 162), some (.int y0), some (.int x2)]) hS dX8_findHere_6 (Nat.le_of_ble_eq_true rfl) (fun _ => rfl) (fun x2 ex2 => ?_)
  suffices H : ∀ (t c : Nat) (i : Int32) (g1 : Mm), c + t = n → i = nI c → (∀ z, z ≠ 162 → z ≠ 205 → g1 z = g z) → (∀ j, j ≠ 41 → g1 162 j = g 162 j) → g1 162 41 = nI (here p c).length → (∀ j, j < (here p c).length → g1 205 j = nI ((here p c).getD j 0)) → J S 0 0 g1 7 [some (.ref 162), some (.int y0), some (.int i)] [] by
    exact H n 0 x2 g2 (by omega) ex2 (fun z z1 _ => by rw [eg2, u2_ne z z1]) (fun j hj => by rw [eg2]; unfold u2; rw [if_neg (fun z => hj z.2)]) (by rw [eg2, u2_self]; rfl) (fun j hj => absurd hj (by simp [here]))
  intro t
  induction t with
  | zero =>
    intro c i g1 hc hi k1 k2 k3 k4
    have ec : c = n := by omega
    subst ec; subst hi
    have w1 : g1 162 3 = nI r := by rw [k2 3 (by decide)]; exact hw
    refine J_iload_n hS dX8_findHere_7 rfl ?_
    refine J_aload_n hS dX8_findHere_8 rfl ?_
    refine J_getD (v := .ref r) hS dX8_findHere_9 flX8_20 ob162 rfl (wI hr1 w1) ?_
    refine J_bipush (v := 6) hS dX8_findHere_12 (by decide) ?_
    refine J_ialdN hS (6) dX8_findHere_14 hr1.ar (by first | rfl | (simp only [n0, n1, n2, n3, n4, n5, n6, n7, n8, n9, n10, n11, n12, n13, n14, n15, n16, n17, n18, n19, n20, n24, n32, n56, n60, n64, n72, n99, n100, n128, n136, n142, n144, n200, n300, n999, n1000, n1500, n3464, nI_add, pk_mul] <;> first | rfl | (congr 1; omega))) (by decide) (by decide) ?_
    show J S 0 0 (g1) 15 [some (.ref 162), some (.int y0), some (.int (nI c))] [.int _, .int (nI c)]
    rw [show g1 r 6 = nI c by rw [k1 r (by omega) (by omega)]; exact em]
    refine J_icmp_ge (tgt := 76) hS dX8_findHere_15 (by decide) (fun c1 => ?_) (fun c1 => ?_)
    ·
      refine J_vret hS hZ hr dX8_findHere_76 (by omega) (by omega) ?_
      exact q g1 k1 k2 k3 k4
    · exact absurd (Int32.le_refl _) c1
  | succ t ih =>
    intro c i g1 hc hi k1 k2 k3 k4
    subst hi
    have w1 : g1 162 3 = nI r := by rw [k2 3 (by decide)]; exact hw
    have er : g1 r = g r := k1 r (by omega) (by omega)
    have hs := here_succ p c
    have hl := here_len p c
    have hpc := hp c (by omega)
    have no : ¬ p c = true → J S 0 0 g1 70 [some (.ref 162), some (.int y0), some (.int (nI c))] [] := by
      intro hno
      have e : here p (c + 1) = here p c := by rw [hs]; simp [hno]
      refine J_iinc (lt := fun i2 => [some (.ref 162), some (.int y0), some (.int i2)]) (v := 1) hS dX8_findHere_70 rfl (by decide) (fun _ => rfl) (fun i2 ei2 => ?_)
      refine J_goto (tgt := 7) hS dX8_findHere_73 (by decide) ?_
      exact ih (c + 1) i2 g1 (by omega) (by rw [ei2]; exact nI_1 c) k1 k2 (by rw [e]; exact k3) (by rw [e]; exact k4)
    refine J_iload_n hS dX8_findHere_7 rfl ?_
    refine J_aload_n hS dX8_findHere_8 rfl ?_
    refine J_getD (v := .ref r) hS dX8_findHere_9 flX8_20 ob162 rfl (wI hr1 w1) ?_
    refine J_bipush (v := 6) hS dX8_findHere_12 (by decide) ?_
    refine J_ialdN hS (6) dX8_findHere_14 hr1.ar (by first | rfl | (simp only [n0, n1, n2, n3, n4, n5, n6, n7, n8, n9, n10, n11, n12, n13, n14, n15, n16, n17, n18, n19, n20, n24, n32, n56, n60, n64, n72, n99, n100, n128, n136, n142, n144, n200, n300, n999, n1000, n1500, n3464, nI_add, pk_mul] <;> first | rfl | (congr 1; omega))) (by decide) (by decide) ?_
    show J S 0 0 (g1) 15 [some (.ref 162), some (.int y0), some (.int (nI c))] [.int _, .int (nI c)]
    rw [show g1 r 6 = nI n by rw [er]; exact em]
    refine J_icmp_ge (tgt := 76) hS dX8_findHere_15 (by decide) (fun c1 => ?_) (fun c1 => ?_)
    · exact absurd c1 (nI_ge (show c < n by omega) (by omega))
    ·
      refine J_aload_n hS dX8_findHere_18 rfl ?_
      refine J_getD (v := .ref r) hS dX8_findHere_19 flX8_20 ob162 rfl (wI hr1 w1) ?_
      refine J_iload_n hS dX8_findHere_22 rfl ?_
      refine J_callS1 (X' := fun _ _ => False) hS dX8_findHere_23 msX8_121 rfl (by first | decide | omega) (by decide) (Nat.le_of_ble_eq_true rfl) ⟨Nat.le_trans (by decide) hR.1, Nat.le_trans (by decide) hR.2⟩ (fun _ _ q => q.elim) (m_at ?_)
      refine J_iconst (v := 3) hS dX8_findHere_26 (by decide) ?_
      refine J_iadd hS dX8_findHere_27 ?_
      refine J_ialdN hS (56 + 142 * c + 3) dX8_findHere_28 hr1.ar (by first | rfl | (simp only [n0, n1, n2, n3, n4, n5, n6, n7, n8, n9, n10, n11, n12, n13, n14, n15, n16, n17, n18, n19, n20, n24, n32, n56, n60, n64, n72, n99, n100, n128, n136, n142, n144, n200, n300, n999, n1000, n1500, n3464, nI_add, pk_mul] <;> first | rfl | (congr 1; omega))) (by omega) (by decide) ?_
      show J S 0 0 (g1) 29 [some (.ref 162), some (.int y0), some (.int (nI c))] [.int _]
      rw [er]
      refine J_if_eq (tgt := 70) hS dX8_findHere_29 (by decide) (fun c2 => ?_) (fun c2 => ?_)
      · exact no (fun z => (hpc.mp z).1 c2)
      ·
        refine J_aload_n hS dX8_findHere_32 rfl ?_
        refine J_getD (v := .ref r) hS dX8_findHere_33 flX8_20 ob162 rfl (wI hr1 w1) ?_
        refine J_iload_n hS dX8_findHere_36 rfl ?_
        refine J_callS1 (X' := fun _ _ => False) hS dX8_findHere_37 msX8_121 rfl (by first | decide | omega) (by decide) (Nat.le_of_ble_eq_true rfl) ⟨Nat.le_trans (by decide) hR.1, Nat.le_trans (by decide) hR.2⟩ (fun _ _ q => q.elim) (m_at ?_)
        refine J_iconst (v := 0) hS dX8_findHere_40 (by decide) ?_
        refine J_iadd hS dX8_findHere_41 ?_
        refine J_ialdN hS (56 + 142 * c) dX8_findHere_42 hr1.ar (by first | rfl | (simp only [n0, n1, n2, n3, n4, n5, n6, n7, n8, n9, n10, n11, n12, n13, n14, n15, n16, n17, n18, n19, n20, n24, n32, n56, n60, n64, n72, n99, n100, n128, n136, n142, n144, n200, n300, n999, n1000, n1500, n3464, nI_add, pk_mul] <;> first | rfl | (congr 1; omega))) (by omega) (by decide) ?_
        refine J_iload_n hS dX8_findHere_43 rfl ?_
        show J S 0 0 (g1) 44 [some (.ref 162), some (.int y0), some (.int (nI c))] [.int y0, .int _]
        rw [er]
        refine J_icmp_eq (tgt := 50) hS dX8_findHere_44 (by decide) (fun c3 => ?_) (fun c3 => ?_)
        · have hyes : p c = true := hpc.mpr ⟨c2, c3⟩
          have e : here p (c + 1) = here p c ++ [c] := by rw [hs, if_pos hyes]
          refine J_aload_n hS dX8_findHere_50 rfl ?_
          refine J_getR (t := 205) hS dX8_findHere_51 flX8_74 ob162 rfl ?_
          refine J_aload_n hS dX8_findHere_54 rfl ?_
          refine J_getI hS dX8_findHere_55 flX8_335 ob162 rfl ?_
          show J S 0 0 (g1) 58 [some (.ref 162), some (.int y0), some (.int (nI c))] [.int _, .ref (205)]
          rw [k3]
          refine J_iload_n hS dX8_findHere_58 rfl ?_
          refine J_iastN hS ((here p c).length) dX8_findHere_59 (show Ar lay NC .int 205 24 from arM 42 24 (by decide) (by decide) rfl) (by first | rfl | (simp only [n0, n1, n2, n3, n4, n5, n6, n7, n8, n9, n10, n11, n12, n13, n14, n15, n16, n17, n18, n19, n20, n24, n32, n56, n60, n64, n72, n99, n100, n128, n136, n142, n144, n200, n300, n999, n1000, n1500, n3464, nI_add, pk_mul] <;> first | rfl | (congr 1; omega))) (by omega) (by decide) (fun g59 eg59 => ?_)
          refine J_aload_n hS dX8_findHere_60 rfl ?_
          refine J_dup hS dX8_findHere_61 rfl ?_
          refine J_getI hS dX8_findHere_62 flX8_335 ob162 rfl ?_
          show J S 0 0 (g59) 65 [some (.ref 162), some (.int y0), some (.int (nI c))] [.int _, .ref 162]
          rw [show g59 162 41 = nI (here p c).length by rw [eg59, u2_ne _ (by decide)]; exact k3]
          refine J_iconst (v := 1) hS dX8_findHere_65 (by decide) ?_
          refine J_iadd hS dX8_findHere_66 ?_
          refine J_putI hS dX8_findHere_67 fpX8_335 ob162 rfl (fun g67 eg67 => ?_)
          refine J_iinc (lt := fun i2 => [some (.ref 162), some (.int y0), some (.int i2)]) (v := 1) hS dX8_findHere_70 rfl (by decide) (fun _ => rfl) (fun i2 ei2 => ?_)
          refine J_goto (tgt := 7) hS dX8_findHere_73 (by decide) ?_
          refine ih (c + 1) i2 g67 (by omega) (by rw [ei2]; exact nI_1 c) (fun z z1 z2 => by rw [eg67, u2_ne z z1, eg59, u2_ne z z2]; exact k1 z z1 z2) (fun j hj => by rw [eg67]; unfold u2; rw [if_neg (fun z => hj z.2), eg59]; unfold u2; rw [if_neg (fun z => absurd z.1 (by decide))]; exact k2 j hj) (by rw [eg67, u2_self, e, List.length_append]; exact nI_1 _) (fun j hj => ?_)
          rw [e] at hj ⊢
          rw [eg67, u2_ne _ (by decide), eg59]
          rcases Nat.lt_or_ge j (here p c).length with z | z
          · unfold u2
            rw [if_neg (by omega), k4 j z, List.getD_eq_getElem?_getD, List.getD_eq_getElem?_getD, List.getElem?_append_left z]
          · have ej : j = (here p c).length := by simp only [List.length_append, List.length_cons, List.length_nil] at hj; omega
            subst ej
            rw [u2_self, List.getD_eq_getElem?_getD, List.getElem?_append_right (Nat.le_refl _), Nat.sub_self]; rfl
        ·
          refine J_goto (tgt := 70) hS dX8_findHere_47 (by decide) ?_
          exact no (fun z => c3 (hpc.mp z).2)
set_option maxRecDepth 10000 in
theorem m_heldIn {n o : Nat} {y0 lo : Int32} {p : Nat → Bool} {lw : Option (List Cls)} (hr1 : Rw r) (hw : g 162 3 = nI r) (hn : n ≤ 24) (em : g r 6 = nI n) (hp : ThM g r n y0 p) (hrow : RowM g r w bb) (ho : o < 6) (hlo : g 162 27 = lo) (hRl : RuleM g r lw) (q : ∀ g', (∀ z, z ≠ 162 → z ≠ 191 → z ≠ 205 → g' z = g z) → (∀ j, j ≠ 41 → (j < 21 ∨ 26 < j) → g' 162 j = g 162 j) → g' 162 41 = nI (here p n).length → Q (some (.int (nI (here (fun c => p c && hldB lw lo w c o) n).length))) g') : Ct l E lay NC 4 0 0 yX8_heldIn [.ref 162, .int y0, .int (nI o)] g Q X := by
  have hr2 : r = 164 ∨ r = 165 := hr1
  refine Ct_in k_yX8_heldIn (by decide) rfl (Nat.le_of_ble_eq_true rfl) rfl ?_
  intro S hS hZ hr ht hR
  show J S 0 0 (g) 0 [some (.ref 162), some (.int y0), some (.int (nI o)), none, none] []
  refine J_aload_n hS dX8_heldIn_0 rfl ?_
  refine J_iload_n hS dX8_heldIn_1 rfl ?_
  refine J_callV1 (X' := fun _ _ => False) hS dX8_heldIn_2 mvX8_344 ob162 rfl (by first | decide | omega) (by decide) (Nat.le_of_ble_eq_true rfl) ⟨Nat.le_trans (by decide) hR.1, Nat.le_trans (by decide) hR.2⟩ (fun _ _ q => q.elim) (m_findHere hr1 hw hn em hp (fun g1 b1 b2 b3 b4 => ?_))
  obtain ⟨L, hL⟩ : ∃ L, L = here p n := ⟨_, rfl⟩
  rw [← hL] at b3 b4
  have hLn : L.length ≤ n := by rw [hL]; exact here_len _ _
  have hLm : ∀ j, j < L.length → L.getD j 0 < 24 := by
    intro j hj
    have := (here_mem.mp (show L.getD j 0 ∈ here p n by rw [← hL]; exact getD_mem hj)).1
    omega
  have hcnt : (here (fun c => p c && hldB lw lo w c o) n).length = (L.filter (fun c => hldB lw lo w c o)).length := by
    rw [hL]; unfold here; rw [List.filter_filter]
    congr 1; congr 1; funext c; rw [Bool.and_comm]
  rw [hcnt, ← hL] at q
  refine J_iconst (v := 0) hS dX8_heldIn_5 (by decide) ?_
  refine J_istore_n (lt := fun x3 => [some (.ref 162), some (.int y0), some (.int (nI o)), some (.int x3), none]) hS dX8_heldIn_6 (Nat.le_of_ble_eq_true rfl) (fun _ => rfl) (fun x3 ex3 => ?_)
  refine J_iconst (v := 0) hS dX8_heldIn_7 (by decide) ?_
  refine J_istore (lt := fun x4 => [some (.ref 162), some (.int y0), some (.int (nI o)), some (.int x3), some (.int x4)]) hS dX8_heldIn_8 (Nat.le_of_ble_eq_true rfl) (fun _ => rfl) (fun x4 ex4 => ?_)
  suffices H : ∀ (t k : Nat) (v i : Int32) (g2 : Mm), k + t = L.length → i = nI k → v = nI ((L.take k).filter (fun c => hldB lw lo w c o)).length → (∀ z, z ≠ 162 → z ≠ 191 → g2 z = g1 z) → (∀ j, (j < 21 ∨ 26 < j) → g2 162 j = g1 162 j) → J S 0 0 g2 10 [some (.ref 162), some (.int y0), some (.int (nI o)), some (.int v), some (.int i)] [] by
    exact H L.length 0 x3 x4 g1 (by omega) ex4 (by rw [ex3]; rfl) (fun _ _ _ => rfl) (fun _ _ => rfl)
  intro t
  induction t with
  | zero =>
    intro k v i g2 hk hi hv k1 k2
    have ek : k = L.length := by omega
    subst hi
    refine J_iload hS dX8_heldIn_10 rfl ?_
    refine J_aload_n hS dX8_heldIn_12 rfl ?_
    refine J_getI hS dX8_heldIn_13 flX8_335 ob162 rfl ?_
    show J S 0 0 (g2) 16 [some (.ref 162), some (.int y0), some (.int (nI o)), some (.int v), some (.int (nI k))] [.int _, .int (nI k)]
    rw [k2 41 (by decide), b3]
    refine J_icmp_ge (tgt := 48) hS dX8_heldIn_16 (by decide) (fun c1 => ?_) (fun c1 => ?_)
    ·
      refine J_iload_n hS dX8_heldIn_48 rfl ?_
      refine J_iret hS hZ hr dX8_heldIn_49 (by omega) (by omega) ?_
      rw [hv, ek, List.take_length]
      exact q g2 (fun z z1 z2 z3 => by rw [k1 z z1 z2]; exact b1 z z1 z3) (fun j j1 j2 => by rw [k2 j j2]; exact b2 j j1) (by rw [k2 41 (by decide)]; exact b3)
    · exact absurd (nI_le (show L.length ≤ k by omega) (by omega)) c1
  | succ t ih =>
    intro k v i g2 hk hi hv k1 k2
    subst hi
    have hkL : k < L.length := by omega
    obtain ⟨c, hc⟩ : ∃ c, c = L.getD k 0 := ⟨_, rfl⟩
    have htk : L.take (k + 1) = L.take k ++ [c] := by
      rw [List.take_succ, List.getElem?_eq_getElem hkL, hc, List.getD_eq_getElem?_getD, List.getElem?_eq_getElem hkL]; rfl
    have hf : ((L.take (k + 1)).filter (fun c => hldB lw lo w c o)).length = ((L.take k).filter (fun c => hldB lw lo w c o)).length + (if hldB lw lo w c o = true then 1 else 0) := by
      rw [htk, List.filter_append, List.length_append]
      congr 1
      by_cases e : hldB lw lo w c o = true
      · simp [e]
      · simp [e]
    have w2 : g2 162 3 = nI r := by rw [k2 3 (by decide), b2 3 (by decide)]; exact hw
    have er : g2 r = g r := by rw [k1 r (by omega) (by omega)]; exact b1 r (by omega) (by omega)
    have nxt : ∀ (x : Int32) (g3 : Mm), (x = 0 ∨ x = 1) → (x = 1 ↔ hldB lw lo w c o = true) → (∀ z, z ≠ 162 → z ≠ 191 → g3 z = g1 z) → (∀ j, (j < 21 ∨ 26 < j) → g3 162 j = g1 162 j) → J S 0 0 g3 40 [some (.ref 162), some (.int y0), some (.int (nI o)), some (.int v), some (.int (nI k))] [.int x, .int v] := by
      intro x g3 hx1 hx2 f1 f2
      refine J_iadd hS dX8_heldIn_40 ?_
      refine J_istore_n (lt := fun v2 => [some (.ref 162), some (.int y0), some (.int (nI o)), some (.int v2), some (.int (nI k))]) hS dX8_heldIn_41 (Nat.le_of_ble_eq_true rfl) (fun _ => rfl) (fun v2 ev2 => ?_)
      refine J_iinc (lt := fun i2 => [some (.ref 162), some (.int y0), some (.int (nI o)), some (.int v2), some (.int i2)]) (v := 1) hS dX8_heldIn_42 rfl (by decide) (fun _ => rfl) (fun i2 ei2 => ?_)
      refine J_goto (tgt := 10) hS dX8_heldIn_45 (by decide) ?_
      refine ih (k + 1) v2 i2 g3 (by omega) (by rw [ei2]; exact nI_1 k) ?_ f1 f2
      rw [ev2, hv, hf]
      by_cases e : hldB lw lo w c o = true
      · rw [if_pos e, hx2.mpr e]; exact nI_1 _
      · rw [if_neg e, hx1.resolve_right (fun z => e (hx2.mp z)), show (0 : Int32) = nI 0 from rfl, nI_add]
    refine J_iload hS dX8_heldIn_10 rfl ?_
    refine J_aload_n hS dX8_heldIn_12 rfl ?_
    refine J_getI hS dX8_heldIn_13 flX8_335 ob162 rfl ?_
    show J S 0 0 (g2) 16 [some (.ref 162), some (.int y0), some (.int (nI o)), some (.int v), some (.int (nI k))] [.int _, .int (nI k)]
    rw [k2 41 (by decide), b3]
    refine J_icmp_ge (tgt := 48) hS dX8_heldIn_16 (by decide) (fun c1 => ?_) (fun c1 => ?_)
    · exact absurd c1 (nI_ge hkL (by omega))
    ·
      refine J_iload_n hS dX8_heldIn_19 rfl ?_
      refine J_aload_n hS dX8_heldIn_20 rfl ?_
      refine J_aload_n hS dX8_heldIn_21 rfl ?_
      refine J_getR (t := 205) hS dX8_heldIn_22 flX8_74 ob162 rfl ?_
      refine J_iload hS dX8_heldIn_25 rfl ?_
      refine J_ialdN hS (k) dX8_heldIn_27 (show Ar lay NC .int 205 24 from arM 42 24 (by decide) (by decide) rfl) (by first | rfl | (simp only [n0, n1, n2, n3, n4, n5, n6, n7, n8, n9, n10, n11, n12, n13, n14, n15, n16, n17, n18, n19, n20, n24, n32, n56, n60, n64, n72, n99, n100, n128, n136, n142, n144, n200, n300, n999, n1000, n1500, n3464, nI_add, pk_mul] <;> first | rfl | (congr 1; omega))) (by omega) (by decide) ?_
      show J S 0 0 (g2) 28 [some (.ref 162), some (.int y0), some (.int (nI o)), some (.int v), some (.int (nI k))] [.int _, .ref 162, .int v]
      rw [show g2 205 k = nI c by rw [k1 205 (by decide) (by decide), hc]; exact b4 k hkL]
      refine J_iload_n hS dX8_heldIn_28 rfl ?_
      refine J_callV2 (X' := fun _ _ => False) hS dX8_heldIn_29 mvX8_128 ob162 rfl (by first | decide | omega) (by decide) (Nat.le_of_ble_eq_true rfl) ⟨Nat.le_trans (by decide) hR.1, Nat.le_trans (by decide) hR.2⟩ (fun _ _ q => q.elim) (m_holdsNow hr1 w2 (hrow.fr er) (by rw [hc]; exact hLm k hkL) ho (show g2 162 27 = lo by rw [k2 27 (by decide), b2 27 (by decide)]; exact hlo) (hRl.fr (by rw [er]) (fun z z1 z2 => by rw [k1 z (by omega) (by omega)]; exact b1 z (by omega) (by omega))) (fun g3 x d1 d2 d3 d4 => ?_))
      have f1 : ∀ z, z ≠ 162 → z ≠ 191 → g3 z = g1 z := fun z z1 z2 => by rw [d1 z z1 z2]; exact k1 z z1 z2
      have f2 : ∀ j, (j < 21 ∨ 26 < j) → g3 162 j = g1 162 j := fun j hj => by rw [d2 j hj]; exact k2 j hj
      refine J_if_eq (tgt := 39) hS dX8_heldIn_32 (by decide) (fun c2 => ?_) (fun c2 => ?_)
      ·
        refine J_iconst (v := 0) hS dX8_heldIn_39 (by decide) ?_
        exact nxt 0 g3 (Or.inl rfl) (by rw [c2] at d4; exact d4) f1 f2
      ·
        refine J_iconst (v := 1) hS dX8_heldIn_35 (by decide) ?_
        refine J_goto (tgt := 40) hS dX8_heldIn_36 (by decide) ?_
        exact nxt 1 g3 (Or.inr rfl) (by rw [d3.resolve_left c2] at d4; exact d4) f1 f2
set_option maxRecDepth 10000 in
theorem m_draws {m : Nat} {cr : Nat → Nat} (hr1 : Rw r) (hw : g 162 3 = nI r) (hrow : RowM g r w bb) (h1 : 1 ≤ m) (hm : m < 24) (em : g 162 41 = nI (m + 1)) (hcr : ∀ j, j < m + 1 → g 205 j = nI (cr j)) (q : ∀ g', (∀ z, z ≠ r → z ≠ 162 → z ≠ 197 → g' z = g z) → (∀ j, j ≠ 43 → j ≠ 44 → g' 162 j = g 162 j) → RowM g' r (upd w 0 (adv5 (w 0))) bb → g' 162 43 = nI (cr (dI (w 0) (m + 1))) → g' 162 44 = nI (cr (dJ (w 0) (m + 1))) → (∀ k, k < 3 → g' 197 k = nI (dM (w 0) k)) → Q none g') : Ct l E lay NC 1 0 0 yX8_draws [.ref 162] g Q X := by
  have hr2 : r = 164 ∨ r = 165 := hr1
  have mk0 : Mk 0 := Mk_lo (by decide) (by decide)
  have e0 : g r 0 = w 0 := hrow.at (by decide) mk0
  obtain ⟨a1, ha1⟩ : ∃ a1, a1 = adv (w 0) := ⟨_, rfl⟩
  obtain ⟨a2, ha2⟩ : ∃ a2, a2 = adv a1 := ⟨_, rfl⟩
  obtain ⟨a3, ha3⟩ : ∃ a3, a3 = adv a2 := ⟨_, rfl⟩
  obtain ⟨a4, ha4⟩ : ∃ a4, a4 = adv a3 := ⟨_, rfl⟩
  obtain ⟨a5, ha5⟩ : ∃ a5, a5 = adv a4 := ⟨_, rfl⟩
  have eA : adv5 (w 0) = a5 := by rw [adv5_eq, ← ha1, ← ha2, ← ha3, ← ha4, ← ha5]
  have eI : dI (w 0) (m + 1) = dr a1 (m + 1) := by rw [dI_eq, ← ha1]
  have hI := dr_lt (x := a1) (n := m + 1) (by omega)
  have hJ := dr_lt (x := a2) (n := m) (by omega)
  have eJ : dJ (w 0) (m + 1) = if dr a2 m < dr a1 (m + 1) then dr a2 m else dr a2 m + 1 := by rw [dJ_eq, ← ha1, ← ha2]
  have eM0 : dM (w 0) 0 = dr a3 4 := by rw [dM_0, ← ha1, ← ha2, ← ha3]
  have eM1 : dM (w 0) 1 = dr a4 4 := by rw [dM_1, ← ha1, ← ha2, ← ha3, ← ha4]
  have eM2 : dM (w 0) 2 = dr a5 4 := by rw [dM_2, ← ha1, ← ha2, ← ha3, ← ha4, ← ha5]
  rw [eA, eI, eJ] at q
  refine Ct_in k_yX8_draws (by decide) rfl (Nat.le_of_ble_eq_true rfl) rfl ?_
  intro S hS hZ hr ht hR
  show J S 0 0 (g) 0 [some (.ref 162), none, none, none] []
  refine J_aload_n hS dX8_draws_0 rfl ?_
  refine J_iconst (v := 0) hS dX8_draws_1 (by decide) ?_
  refine J_aload_n hS dX8_draws_2 rfl ?_
  refine J_getI hS dX8_draws_3 flX8_335 ob162 rfl ?_
  show J S 0 0 (g) 6 [some (.ref 162), none, none, none] [.int _, .int 0, .ref 162]
  rw [em]
  refine J_callV2 (X' := fun _ _ => False) hS dX8_draws_6 mvX8_279 ob162 rfl (by first | decide | omega) (by decide) (Nat.le_of_ble_eq_true rfl) ⟨Nat.le_trans (by decide) hR.1, Nat.le_trans (by decide) hR.2⟩ (fun _ _ q => q.elim) (m_draw (i := 0) (m := m + 1) hr1 hw (by decide) (by omega) (by omega) (fun g1 e1 => ?_))
  rw [e0, ← ha1] at e1
  rw [e0, ← ha1]
  have o1 : ∀ z, z ≠ r → g1 z = g z := fun z hz => by rw [e1, u2_ne z hz]
  have r1 : g1 r 0 = a1 := by rw [e1, u2_self]
  have row1 : RowM g1 r (upd w 0 a1) bb := by rw [e1]; exact hrow.put mk0
  have w1 : g1 162 3 = nI r := by rw [o1 162 (by omega)]; exact hw
  refine J_istore_n (lt := fun x1 => [some (.ref 162), some (.int x1), none, none]) hS dX8_draws_9 (Nat.le_of_ble_eq_true rfl) (fun _ => rfl) (fun x1 ex1 => ?_)
  refine J_aload_n hS dX8_draws_10 rfl ?_
  refine J_iconst (v := 0) hS dX8_draws_11 (by decide) ?_
  refine J_aload_n hS dX8_draws_12 rfl ?_
  refine J_getI hS dX8_draws_13 flX8_335 ob162 rfl ?_
  rw [show x1 = nI (dr a1 (m + 1)) from ex1]
  show J S 0 0 (g1) 16 [some (.ref 162), some (.int (nI (dr a1 (m + 1)))), none, none] [.int _, .int 0, .ref 162]
  rw [show g1 162 41 = nI (m + 1) by rw [o1 162 (by omega)]; exact em]
  refine J_iconst (v := 1) hS dX8_draws_16 (by decide) ?_
  refine J_isub hS dX8_draws_17 ?_
  show J S 0 0 (g1) 18 [some (.ref 162), some (.int (nI (dr a1 (m + 1)))), none, none] [.int _, .int 0, .ref 162]
  rw [nI_pred m]
  refine J_callV2 (X' := fun _ _ => False) hS dX8_draws_18 mvX8_279 ob162 rfl (by first | decide | omega) (by decide) (Nat.le_of_ble_eq_true rfl) ⟨Nat.le_trans (by decide) hR.1, Nat.le_trans (by decide) hR.2⟩ (fun _ _ q => q.elim) (m_draw (i := 0) (m := m) hr1 w1 (by decide) (by omega) (by omega) (fun g2 e2 => ?_))
  rw [r1, ← ha2] at e2
  rw [r1, ← ha2]
  have o2 : ∀ z, z ≠ r → g2 z = g z := fun z hz => by rw [e2, u2_ne z hz]; exact o1 z hz
  have row2 : RowM g2 r (upd w 0 a2) bb := by rw [e2, ← upd_twice (x := a1)]; exact row1.put mk0
  have w2 : g2 162 3 = nI r := by rw [o2 162 (by omega)]; exact hw
  refine J_istore_n (lt := fun x2 => [some (.ref 162), some (.int (nI (dr a1 (m + 1)))), some (.int x2), none]) hS dX8_draws_21 (Nat.le_of_ble_eq_true rfl) (fun _ => rfl) (fun x2 ex2 => ?_)
  refine J_iload_n hS dX8_draws_22 rfl ?_
  refine J_iload_n hS dX8_draws_23 rfl ?_
  rw [show x2 = nI (dr a2 m) from ex2]
  obtain ⟨jj, hjj⟩ : ∃ jj, jj = if dr a2 m < dr a1 (m + 1) then dr a2 m else dr a2 m + 1 := ⟨_, rfl⟩
  have hj1 : jj < m + 1 := by rw [hjj]; split <;> omega
  rw [← hjj] at q
  have after : J S 0 0 g2 34 [some (.ref 162), some (.int (nI (dr a1 (m + 1)))), some (.int (nI (dr a2 m))), none] [.int (nI jj)] := by
    refine J_istore_n (lt := fun y2 => [some (.ref 162), some (.int (nI (dr a1 (m + 1)))), some (.int y2), none]) hS dX8_draws_34 (Nat.le_of_ble_eq_true rfl) (fun _ => rfl) (fun y2 ey2 => ?_)
    rw [show y2 = nI jj from ey2]
    refine J_aload_n hS dX8_draws_35 rfl ?_
    refine J_aload_n hS dX8_draws_36 rfl ?_
    refine J_getR (t := 205) hS dX8_draws_37 flX8_74 ob162 rfl ?_
    refine J_iload_n hS dX8_draws_40 rfl ?_
    refine J_ialdN hS (dr a1 (m + 1)) dX8_draws_41 (show Ar lay NC .int 205 24 from arM 42 24 (by decide) (by decide) rfl) (by first | rfl | (simp only [n0, n1, n2, n3, n4, n5, n6, n7, n8, n9, n10, n11, n12, n13, n14, n15, n16, n17, n18, n19, n20, n24, n32, n56, n60, n64, n72, n99, n100, n128, n136, n142, n144, n200, n300, n999, n1000, n1500, n3464, nI_add, pk_mul] <;> first | rfl | (congr 1; omega))) (by omega) (by decide) ?_
    show J S 0 0 (g2) 42 [some (.ref 162), some (.int (nI (dr a1 (m + 1)))), some (.int (nI jj)), none] [.int _, .ref 162]
    rw [show g2 205 (dr a1 (m + 1)) = nI (cr (dr a1 (m + 1))) by rw [o2 205 (by omega)]; exact hcr _ hI]
    refine J_putI hS dX8_draws_42 fpX8_338 ob162 rfl (fun g42 eg42 => ?_)
    refine J_aload_n hS dX8_draws_45 rfl ?_
    refine J_aload_n hS dX8_draws_46 rfl ?_
    refine J_getR (t := 205) hS dX8_draws_47 flX8_74 ob162 rfl ?_
    refine J_iload_n hS dX8_draws_50 rfl ?_
    refine J_ialdN hS (jj) dX8_draws_51 (show Ar lay NC .int 205 24 from arM 42 24 (by decide) (by decide) rfl) (by first | rfl | (simp only [n0, n1, n2, n3, n4, n5, n6, n7, n8, n9, n10, n11, n12, n13, n14, n15, n16, n17, n18, n19, n20, n24, n32, n56, n60, n64, n72, n99, n100, n128, n136, n142, n144, n200, n300, n999, n1000, n1500, n3464, nI_add, pk_mul] <;> first | rfl | (congr 1; omega))) (by omega) (by decide) ?_
    show J S 0 0 (g42) 52 [some (.ref 162), some (.int (nI (dr a1 (m + 1)))), some (.int (nI jj)), none] [.int _, .ref 162]
    rw [show g42 205 jj = nI (cr jj) by rw [eg42, u2_ne _ (by decide), o2 205 (by omega)]; exact hcr _ hj1]
    refine J_putI hS dX8_draws_52 fpX8_341 ob162 rfl (fun g52 eg52 => ?_)
    refine J_iconst (v := 0) hS dX8_draws_55 (by decide) ?_
    refine J_istore_n (lt := fun i1 => [some (.ref 162), some (.int (nI (dr a1 (m + 1)))), some (.int (nI jj)), some (.int i1)]) hS dX8_draws_56 (Nat.le_of_ble_eq_true rfl) (fun _ => rfl) (fun i1 ei1 => ?_)
    have o52 : ∀ z, z ≠ r → z ≠ 162 → g52 z = g z := fun z z1 z2 => by rw [eg52, u2_ne z z2, eg42, u2_ne z z2]; exact o2 z z1
    have j52 : ∀ j, j ≠ 43 → j ≠ 44 → g52 162 j = g 162 j := fun j n1 n2 => by rw [eg52]; unfold u2; rw [if_neg (fun z => n2 z.2), eg42]; unfold u2; rw [if_neg (fun z => n1 z.2), o2 162 (by omega)]
    have k43 : g52 162 43 = nI (cr (dr a1 (m + 1))) := by rw [eg52]; unfold u2; rw [if_neg (by decide), eg42]; unfold u2; rw [if_pos ⟨rfl, rfl⟩]
    have k44 : g52 162 44 = nI (cr jj) := by rw [eg52, u2_self]
    have row5 : RowM g52 r (upd w 0 a2) bb := row2.fr (by rw [eg52, u2_ne _ (by omega), eg42, u2_ne _ (by omega)])
    obtain ⟨A, hA⟩ : ∃ A : Nat → Int32, A = fun k => if k = 0 then a2 else if k = 1 then a3 else if k = 2 then a4 else a5 := ⟨_, rfl⟩
    have As : ∀ k, k < 3 → adv (A k) = A (k + 1) ∧ dr (A (k + 1)) 4 = dM (w 0) k := by
      intro k hk
      rcases (show k = 0 ∨ k = 1 ∨ k = 2 by omega) with e | e | e
      · subst e; rw [hA, eM0]; exact ⟨ha3.symm, rfl⟩
      · subst e; rw [hA, eM1]; exact ⟨ha4.symm, rfl⟩
      · subst e; rw [hA, eM2]; exact ⟨ha5.symm, rfl⟩
    suffices H : ∀ (t k : Nat) (i : Int32) (g3 : Mm), k + t = 3 → i = nI k → (∀ z, z ≠ r → z ≠ 162 → z ≠ 197 → g3 z = g z) → (∀ j, j ≠ 43 → j ≠ 44 → g3 162 j = g 162 j) → RowM g3 r (upd w 0 (A k)) bb → g3 162 43 = nI (cr (dr a1 (m + 1))) → g3 162 44 = nI (cr jj) → (∀ j, j < k → g3 197 j = nI (dM (w 0) j)) → J S 0 0 g3 57 [some (.ref 162), some (.int (nI (dr a1 (m + 1)))), some (.int (nI jj)), some (.int i)] [] by
      exact H 3 0 i1 g52 (by omega) ei1 (fun z z1 z2 _ => o52 z z1 z2) j52 (by rw [hA]; exact row5) k43 k44 (fun j hj => absurd hj (by omega))
    intro t
    induction t with
    | zero =>
      intro k i g3 hk hi n1 n2 n3' n4' n5' n6'
      have ek : k = 3 := by omega
      subst ek; subst hi
      refine J_iload_n hS dX8_draws_57 rfl ?_
      refine J_iconst (v := 3) hS dX8_draws_58 (by decide) ?_
      refine J_icmp_ge (tgt := 80) hS dX8_draws_59 (by decide) (fun c1 => ?_) (fun c1 => ?_)
      ·
        refine J_vret hS hZ hr dX8_draws_80 (by omega) (by omega) ?_
        exact q g3 n1 n2 (by rw [hA] at n3'; exact n3') n4' n5' n6'
      · exact absurd (Int32.le_refl _) c1
    | succ t ih =>
      intro k i g3 hk hi n1 n2 n3' n4' n5' n6'
      subst hi
      have hk3 : k < 3 := by omega
      have w3 : g3 162 3 = nI r := by rw [n2 3 (by decide) (by decide)]; exact hw
      have r3 : g3 r 0 = A k := by rw [n3'.at (by decide) mk0]; unfold upd; rw [if_pos rfl]
      refine J_iload_n hS dX8_draws_57 rfl ?_
      refine J_iconst (v := 3) hS dX8_draws_58 (by decide) ?_
      refine J_icmp_ge (tgt := 80) hS dX8_draws_59 (by decide) (fun c1 => ?_) (fun c1 => ?_)
      · exact absurd c1 (nI_ge hk3 (by decide))
      ·
        refine J_aload_n hS dX8_draws_62 rfl ?_
        refine J_getR (t := 197) hS dX8_draws_63 flX8_56 ob162 rfl ?_
        refine J_iload_n hS dX8_draws_66 rfl ?_
        refine J_aload_n hS dX8_draws_67 rfl ?_
        refine J_iconst (v := 0) hS dX8_draws_68 (by decide) ?_
        refine J_iconst (v := 4) hS dX8_draws_69 (by decide) ?_
        refine J_callV2 (X' := fun _ _ => False) hS dX8_draws_70 mvX8_279 ob162 rfl (by first | decide | omega) (by decide) (Nat.le_of_ble_eq_true rfl) ⟨Nat.le_trans (by decide) hR.1, Nat.le_trans (by decide) hR.2⟩ (fun _ _ q => q.elim) (m_draw (i := 0) (m := 4) hr1 w3 (by decide) (by decide) (by decide) (fun g4 e4 => ?_))
        rw [r3, (As k hk3).1] at e4
        rw [r3, (As k hk3).1, (As k hk3).2]
        refine J_iastN hS (k) dX8_draws_73 (show Ar lay NC .int 197 3 from arM 34 3 (by decide) (by decide) rfl) (by first | rfl | (simp only [n0, n1, n2, n3, n4, n5, n6, n7, n8, n9, n10, n11, n12, n13, n14, n15, n16, n17, n18, n19, n20, n24, n32, n56, n60, n64, n72, n99, n100, n128, n136, n142, n144, n200, n300, n999, n1000, n1500, n3464, nI_add, pk_mul] <;> first | rfl | (congr 1; omega))) (by omega) (by decide) (fun g73 eg73 => ?_)
        refine J_iinc (lt := fun i2 => [some (.ref 162), some (.int (nI (dr a1 (m + 1)))), some (.int (nI jj)), some (.int i2)]) (v := 1) hS dX8_draws_74 rfl (by decide) (fun _ => rfl) (fun i2 ei2 => ?_)
        refine J_goto (tgt := 57) hS dX8_draws_77 (by decide) ?_
        refine ih (k + 1) i2 g73 (by omega) (by rw [ei2]; exact nI_1 k) (fun z z1 z2 z3 => by rw [eg73, u2_ne z z3, e4, u2_ne z z1]; exact n1 z z1 z2 z3) (fun j j1 j2 => by rw [eg73, u2_ne _ (by decide), e4, u2_ne _ (by omega)]; exact n2 j j1 j2) ?_ (by rw [eg73, u2_ne _ (by decide), e4, u2_ne _ (by omega)]; exact n4') (by rw [eg73, u2_ne _ (by decide), e4, u2_ne _ (by omega)]; exact n5') (fun j hj => ?_)
        · refine RowM.fr (g := g4) ?_ (by rw [eg73, u2_ne _ (by omega)])
          rw [e4, ← upd_twice (x := A k)]; exact n3'.put mk0
        · rw [eg73]
          unfold u2
          by_cases e : j = k
          · subst e; rw [if_pos ⟨rfl, rfl⟩]
          · rw [if_neg (fun z => e z.2), e4, u2_ne _ (by omega)]; exact n6' j (by omega)
  refine J_icmp_lt (tgt := 33) hS dX8_draws_24 (by decide) (fun c1 => ?_) (fun c1 => ?_)
  · have : jj = dr a2 m := by
      rw [hjj, if_pos ?_]
      rcases Nat.lt_or_ge (dr a2 m) (dr a1 (m + 1)) with z | z
      · exact z
      · exact absurd c1 (nI_nlt z (by omega))
    refine J_iload_n hS dX8_draws_33 rfl ?_
    rw [this] at after; exact after
  · have : jj = dr a2 m + 1 := by
      rw [hjj, if_neg (fun z => c1 (nI_lt z (by omega)))]
    refine J_iload_n hS dX8_draws_27 rfl ?_
    refine J_iconst (v := 1) hS dX8_draws_28 (by decide) ?_
    refine J_iadd hS dX8_draws_29 ?_
    show J S 0 0 (g2) 30 [some (.ref 162), some (.int (nI (dr a1 (m + 1)))), some (.int (nI (dr a2 m))), none] [.int _]
    rw [nI_1]
    refine J_goto (tgt := 34) hS dX8_draws_30 (by decide) ?_
    rw [this] at after; exact after
end RefH


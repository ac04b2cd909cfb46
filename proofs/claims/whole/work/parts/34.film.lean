/-! THE CLASS: films begin; what is blurred -/
theorem Fm.img {h : Nat} (q : Fm h) : Wo (68 + 11 * ((h - 101) / 2)) := by obtain ⟨i, hi, e⟩ := q; exact ⟨6 + i, by omega, by omega⟩
def sgY (g : Mm) (h n : Nat) (y : Int32) (p : Nat) : Int32 := (hv0 (fun s => ssum (thr g h y) (fun c => g (h + 8) ((c * 8 + p) * 16 + s)) n) 16).1
def odY (g : Mm) (h n : Nat) (y : Int32) : Int32 := (hv0 (fun s => ssum (thr g h y) (fun c => g (h + 9) (c * 6 + s)) n) 6).1
section ClsS
variable {l : Launch} {E : Ey} {g : Mm} {Q : Option Value → Mm → Prop} {X : String → Mm → Prop} {h : Nat}
set_option maxRecDepth 10000 in
theorem c_filmBegin (hF : Fm h) {o : Nat} {x : Int32} (hWo : Wo o) (hno : o ≠ 68 + 11 * ((h - 101) / 2)) (q : ∀ g', wv g' (68 + 11 * ((h - 101) / 2)) = wv g o → (∀ a, (a < 68 + 11 * ((h - 101) / 2) ∨ 68 + 11 * ((h - 101) / 2) + 10 < a) → a ≠ h → g' a = g a) → g' h 2 = x → g' h 3 = 0 → (∀ j, j ≠ 2 → j ≠ 3 → g' h j = g h j) → Q none g') : Ct l E lay NC 2 0 0 yX0_begin [.ref h, .ref o, .int x] g Q X := by
  have hh : 101 ≤ h ∧ h < 107 := by obtain ⟨i, hi, e⟩ := hF; omega
  refine Ct_in k_yX0_begin (by decide) rfl (Nat.le_of_ble_eq_true rfl) rfl ?_
  intro S hS hZ hr ht hR
  show J S 0 0 g 0 [some (.ref h), some (.ref o), some (.int x)] []
  refine J_aload_n hS dX0_begin_0 rfl ?_
  refine J_getR (t := 68 + 11 * ((h - 101) / 2)) hS dX0_begin_1 flX0_12 hF.ob rfl ?_
  refine J_aload_n hS dX0_begin_4 rfl ?_
  refine J_callV1 (X' := fun _ _ => False) hS dX0_begin_5 mvX0_29 hF.img.ob rfl (by decide) (by decide) (Nat.le_of_ble_eq_true rfl) hR (fun _ _ q => q.elim) (c_become hF.img hWo hno (fun g1 b1 b2 => ?_))
  refine J_aload_n hS dX0_begin_8 rfl ?_
  refine J_iload_n hS dX0_begin_9 rfl ?_
  refine J_putI hS dX0_begin_10 fpX0_22 hF.ob rfl (fun g10 eg10 => ?_)
  refine J_aload_n hS dX0_begin_13 rfl ?_
  refine J_iconst (v := 0) hS dX0_begin_14 (by decide) ?_
  refine J_putI hS dX0_begin_15 fpX0_26 hF.ob rfl (fun g15 eg15 => ?_)
  refine J_vret hS hZ hr dX0_begin_18 (by omega) (by omega) ?_
  have e1 : g1 h = g h := b2 h (by omega)
  refine q g15 ?_ ?_ ?_ ?_ ?_
  · rw [← b1]; exact wv_fr (fun a h1 h2 => by rw [eg15, u2_ne a (by omega), eg10, u2_ne a (by omega)])
  · intro a h1 h2
    rw [eg15, u2_ne a h2, eg10, u2_ne a h2]; exact b2 a h1
  · rw [eg15, eg10]; simp [u2]
  · rw [eg15]; simp [u2]
  · intro j h2 h3
    rw [eg15, eg10]; simp [u2, h2, h3, e1]
set_option maxRecDepth 10000 in
theorem c_countUnlike {n : Nat} {y1 y2 : Int32} (hn : n ≤ 24) (hm : g 2 6 = nI n) (q : Q (some (.int (nI ((if odY g 2 n y1 = odY g 2 n y2 then 0 else 1) + (here (fun p => decide (sgY g 2 n y1 p ≠ sgY g 2 n y2 p)) 8).length)))) g) : Ct l E lay NC 2 0 0 yX7_countUnlike [.ref 1, .int y1, .int y2] g Q X := by
  refine Ct_in k_yX7_countUnlike (by decide) rfl (Nat.le_of_ble_eq_true rfl) rfl ?_
  intro S hS hZ hr ht hR
  show J S 0 0 g 0 [some (.ref 1), some (.int y1), some (.int y2), none, none] []
  refine J_aload_n hS dX7_countUnlike_0 rfl ?_
  refine J_getR (t := 2) hS dX7_countUnlike_1 flX7_10 ob1 rfl ?_
  refine J_iload_n hS dX7_countUnlike_4 rfl ?_
  refine J_callV1 (X' := fun _ _ => False) hS dX7_countUnlike_5 mvX7_427 wo_now.ob rfl (by decide) (by decide) (Nat.le_of_ble_eq_true rfl) hR (fun _ _ q => q.elim) (c_orderOfYard Wo2 hn hm ?_)
  refine J_aload_n hS dX7_countUnlike_8 rfl ?_
  refine J_getR (t := 2) hS dX7_countUnlike_9 flX7_10 ob1 rfl ?_
  refine J_iload_n hS dX7_countUnlike_12 rfl ?_
  refine J_callV1 (X' := fun _ _ => False) hS dX7_countUnlike_13 mvX7_427 wo_now.ob rfl (by decide) (by decide) (Nat.le_of_ble_eq_true rfl) hR (fun _ _ q => q.elim) (c_orderOfYard Wo2 hn hm ?_)
  obtain ⟨e0, he0⟩ : ∃ e0 : Nat, e0 = if odY g 2 n y1 = odY g 2 n y2 then 0 else 1 := ⟨_, rfl⟩
  obtain ⟨p, hp⟩ : ∃ p : Nat → Bool, p = fun p => decide (sgY g 2 n y1 p ≠ sgY g 2 n y2 p) := ⟨_, rfl⟩
  rw [← he0, ← hp] at q
  have H : ∀ (r k : Nat) (b i : Int32), k + r = 8 → i = nI k → b = nI (e0 + (here p k).length) → J S 0 0 g 28 [some (.ref 1), some (.int y1), some (.int y2), some (.int b), some (.int i)] [] := by
    intro r
    induction r with
    | zero =>
      intro k b i hk hi hb
      have hk8 : k = 8 := by omega
      subst hk8
      refine J_iload hS dX7_countUnlike_28 rfl ?_
      refine J_bipush (v := 8) hS dX7_countUnlike_30 (by decide) ?_
      refine J_icmp_ge (tgt := 67) hS dX7_countUnlike_32 (by decide) (fun c1 => ?_) (fun c1 => ?_)
      ·
        refine J_iload_n hS dX7_countUnlike_67 rfl ?_
        refine J_iret hS hZ hr dX7_countUnlike_68 (by omega) (by omega) ?_
        rw [hb]; exact q
      · exact absurd (by rw [hi]; decide) c1
    | succ r ih =>
      intro k b i hk hi hb
      subst hi
      have hs := here_succ p k
      refine J_iload hS dX7_countUnlike_28 rfl ?_
      refine J_bipush (v := 8) hS dX7_countUnlike_30 (by decide) ?_
      refine J_icmp_ge (tgt := 67) hS dX7_countUnlike_32 (by decide) (fun c1 => ?_) (fun c1 => ?_)
      · exact absurd c1 (nI_ge (show k < 8 by omega) (by decide))
      ·
        refine J_aload_n hS dX7_countUnlike_35 rfl ?_
        refine J_getR (t := 2) hS dX7_countUnlike_36 flX7_10 ob1 rfl ?_
        refine J_iload_n hS dX7_countUnlike_39 rfl ?_
        refine J_iload hS dX7_countUnlike_40 rfl ?_
        refine J_callV2 (X' := fun _ _ => False) hS dX7_countUnlike_42 mvX7_342 wo_now.ob rfl (by decide) (by decide) (Nat.le_of_ble_eq_true rfl) hR (fun _ _ q => q.elim) (c_signOfYard Wo2 hn (show k < 8 by omega) hm ?_)
        refine J_aload_n hS dX7_countUnlike_45 rfl ?_
        refine J_getR (t := 2) hS dX7_countUnlike_46 flX7_10 ob1 rfl ?_
        refine J_iload_n hS dX7_countUnlike_49 rfl ?_
        refine J_iload hS dX7_countUnlike_50 rfl ?_
        refine J_callV2 (X' := fun _ _ => False) hS dX7_countUnlike_52 mvX7_342 wo_now.ob rfl (by decide) (by decide) (Nat.le_of_ble_eq_true rfl) hR (fun _ _ q => q.elim) (c_signOfYard Wo2 hn (show k < 8 by omega) hm ?_)
        refine J_icmp_eq (tgt := 61) hS dX7_countUnlike_55 (by decide) (fun c2 => ?_) (fun c2 => ?_)
        · have hno : p k = false := by
            rw [hp]; exact decide_eq_false (fun z => z c2)
          refine J_iinc (lt := fun i2 => [some (.ref 1), some (.int y1), some (.int y2), some (.int b), some (.int i2)]) (v := 1) hS dX7_countUnlike_61 rfl (by decide) (fun _ => rfl) (fun i2 ei2 => ?_)
          refine J_goto (tgt := 28) hS dX7_countUnlike_64 (by decide) ?_
          exact ih (k + 1) b i2 (by omega) (by rw [ei2]; exact nI_1 k) (by rw [hb, hs]; simp [hno])
        · have hyes : p k = true := by
            rw [hp]; exact decide_eq_true c2
          refine J_iinc (lt := fun b4 => [some (.ref 1), some (.int y1), some (.int y2), some (.int b4), some (.int (nI k))]) (v := 1) hS dX7_countUnlike_58 rfl (by decide) (fun _ => rfl) (fun b4 eb4 => ?_)
          refine J_iinc (lt := fun i2 => [some (.ref 1), some (.int y1), some (.int y2), some (.int b4), some (.int i2)]) (v := 1) hS dX7_countUnlike_61 rfl (by decide) (fun _ => rfl) (fun i2 ei2 => ?_)
          refine J_goto (tgt := 28) hS dX7_countUnlike_64 (by decide) ?_
          exact ih (k + 1) b4 i2 (by omega) (by rw [ei2]; exact nI_1 k) (by rw [eb4, hb, hs, nI_1]; simp [hyes, Nat.add_assoc])
  refine J_icmp_ne (tgt := 23) hS dX7_countUnlike_16 (by decide) (fun c1 => ?_) (fun c1 => ?_)
  · have e1 : e0 = 1 := by rw [he0]; exact if_neg c1
    refine J_iconst (v := 1) hS dX7_countUnlike_23 (by decide) ?_
    refine J_istore_n (lt := fun b1 => [some (.ref 1), some (.int y1), some (.int y2), some (.int b1), none]) hS dX7_countUnlike_24 (Nat.le_of_ble_eq_true rfl) (fun _ => rfl) (fun b1 eb1 => ?_)
    refine J_iconst (v := 0) hS dX7_countUnlike_25 (by decide) ?_
    refine J_istore (lt := fun i1 => [some (.ref 1), some (.int y1), some (.int y2), some (.int b1), some (.int i1)]) hS dX7_countUnlike_26 (Nat.le_of_ble_eq_true rfl) (fun _ => rfl) (fun i1 ei1 => ?_)
    exact H 8 0 b1 i1 rfl ei1 (by rw [eb1, e1]; rfl)
  · have e1 : e0 = 0 := by rw [he0]; exact if_pos c1
    refine J_iconst (v := 0) hS dX7_countUnlike_19 (by decide) ?_
    refine J_goto (tgt := 24) hS dX7_countUnlike_20 (by decide) ?_
    refine J_istore_n (lt := fun b1 => [some (.ref 1), some (.int y1), some (.int y2), some (.int b1), none]) hS dX7_countUnlike_24 (Nat.le_of_ble_eq_true rfl) (fun _ => rfl) (fun b1 eb1 => ?_)
    refine J_iconst (v := 0) hS dX7_countUnlike_25 (by decide) ?_
    refine J_istore (lt := fun i1 => [some (.ref 1), some (.int y1), some (.int y2), some (.int b1), some (.int i1)]) hS dX7_countUnlike_26 (Nat.le_of_ble_eq_true rfl) (fun _ => rfl) (fun i1 ei1 => ?_)
    exact H 8 0 b1 i1 rfl ei1 (by rw [eb1, e1]; rfl)
end ClsS


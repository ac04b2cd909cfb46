/-! THE CLASS: the public method film -/
section ClsPa
variable {l : Launch} {E : Ey} {g : Mm} {Q : Option Value → Mm → Prop} {X : String → Mm → Prop} {h : Nat}
set_option maxRecDepth 10000 in
set_option maxHeartbeats 4000000 in
theorem c_film {fc : Nat} (hfc : fc ≤ 3) (efc : g 1 15 = nI fc) (q3 : fc = 3 → Q (some (.int (-1))) g) (qon : fc < 3 → ¬ g 1 16 = -1 → Q (some (.int (-2))) g) (q : fc < 3 → g 1 16 = -1 → ∀ g', wv g' (68 + 11 * fc) = wv g 2 → (∀ a, (a < 68 + 11 * fc ∨ 68 + 11 * fc + 10 < a) → a ≠ 101 + 2 * fc → a ≠ 1 → g' a = g a) → g' (101 + 2 * fc) 2 = g 143 0 → g' (101 + 2 * fc) 3 = 0 → (∀ j, j ≠ 2 → j ≠ 3 → g' (101 + 2 * fc) j = g (101 + 2 * fc) j) → g' 1 15 = nI (fc + 1) → g' 1 16 = nI fc → (∀ j, j ≠ 15 → j ≠ 16 → g' 1 j = g 1 j) → Q (some (.int (nI fc))) g') : Ct l E lay NC 3 0 0 yX7_film [.ref 1] g Q X := by
  refine Ct_in k_yX7_film (by decide) rfl (Nat.le_of_ble_eq_true rfl) rfl ?_
  intro S hS hZ hr ht hR
  show J S 0 0 g 0 [some (.ref 1)] []
  refine J_aload_n hS dX7_film_0 rfl ?_
  refine J_getI hS dX7_film_1 flX7_83 ob1 rfl ?_
  refine J_iconst (v := 3) hS dX7_film_4 (by decide) ?_
  show J S 0 0 g 5 [some (.ref 1)] [.int 3, .int _]
  rw [efc]
  refine J_icmp_lt (tgt := 10) hS dX7_film_5 (by decide) (fun c1 => ?_) (fun c1 => ?_)
  · have h3 : fc < 3 := by
      rcases Nat.lt_or_ge fc 3 with z | z
      · exact z
      · have z2 : fc = 3 := by omega
        subst z2; exact absurd c1 (by decide)
    have hF : Fm (101 + 2 * fc) := ⟨fc, h3, rfl⟩
    have ei : 68 + 11 * ((101 + 2 * fc - 101) / 2) = 68 + 11 * fc := by omega
    refine J_aload_n hS dX7_film_10 rfl ?_
    refine J_getI hS dX7_film_11 flX7_86 ob1 rfl ?_
    refine J_iconst (v := (-1)) hS dX7_film_14 (by decide) ?_
    refine J_icmp_eq (tgt := 21) hS dX7_film_15 (by decide) (fun c2 => ?_) (fun c2 => ?_)
    ·
      refine J_aload_n hS dX7_film_21 rfl ?_
      refine J_getR (t := 160) hS dX7_film_22 flX7_25 ob1 rfl ?_
      refine J_aload_n hS dX7_film_25 rfl ?_
      refine J_getI hS dX7_film_26 flX7_83 ob1 rfl ?_
      show J S 0 0 g 29 [some (.ref 1)] [.int _, .ref (160)]
      rw [efc]
      refine J_aaldN (t0 := 4) (t := 101 + 2 * fc) hS (fc) dX7_film_29 aq160 (fun _ => rfl) (by first | rfl | (simp only [n0, n1, n2, n3, n4, n5, n6, n7, n8, n9, n10, n11, n12, n13, n14, n15, n16, n17, n18, n19, n20, n24, n32, n56, n60, n64, n72, n99, n100, n128, n136, n142, n144, n200, n300, n999, n1000, n1500, n3464, nI_add, pk_mul] <;> first | rfl | (congr 1; omega))) (by omega) (by decide) rfl ?_
      refine J_aload_n hS dX7_film_30 rfl ?_
      refine J_getR (t := 2) hS dX7_film_31 flX7_10 ob1 rfl ?_
      refine J_aload_n hS dX7_film_34 rfl ?_
      refine J_getR (t := 143) hS dX7_film_35 flX7_38 ob1 rfl ?_
      refine J_getI hS dX7_film_38 flX7_214 ob143 rfl ?_
      refine J_callV2 (X' := fun _ _ => False) hS dX7_film_41 mvX7_275 hF.ob rfl (by decide) (by decide) (Nat.le_of_ble_eq_true rfl) hR (fun _ _ q => q.elim) (c_filmBegin hF wo_now (by omega) (fun g1 b1 b2 b3 b4 b5 => ?_))
      rw [ei] at b1 b2
      have e1 : g1 1 = g 1 := b2 1 (by omega) (by omega)
      refine J_aload_n hS dX7_film_44 rfl ?_
      refine J_aload_n hS dX7_film_45 rfl ?_
      refine J_getI hS dX7_film_46 flX7_83 ob1 rfl ?_
      show J S 0 0 g1 49 [some (.ref 1)] [.int _, .ref 1]
      rw [e1, efc]
      refine J_putI hS dX7_film_49 fpX7_86 ob1 rfl (fun g49 eg49 => ?_)
      refine J_aload_n hS dX7_film_52 rfl ?_
      refine J_dup hS dX7_film_53 rfl ?_
      refine J_getI hS dX7_film_54 flX7_83 ob1 rfl ?_
      show J S 0 0 g49 57 [some (.ref 1)] [.int _, .ref 1]
      rw [show g49 1 15 = nI fc by rw [eg49]; simp [u2, e1, efc]]
      refine J_iconst (v := 1) hS dX7_film_57 (by decide) ?_
      refine J_iadd hS dX7_film_58 ?_
      refine J_putI hS dX7_film_59 fpX7_83 ob1 rfl (fun g59 eg59 => ?_)
      refine J_aload_n hS dX7_film_62 rfl ?_
      refine J_getI hS dX7_film_63 flX7_86 ob1 rfl ?_
      show J S 0 0 g59 66 [some (.ref 1)] [.int _]
      rw [show g59 1 16 = nI fc by rw [eg59, eg49]; simp [u2]]
      refine J_iret hS hZ hr dX7_film_66 (by omega) (by omega) ?_
      refine q h3 c2 g59 ?_ ?_ ?_ ?_ ?_ ?_ ?_ ?_
      · rw [← b1]; exact wv_fr (fun a h1 h2 => by rw [eg59, u2_ne a (by omega), eg49, u2_ne a (by omega)])
      · intro a h1 h2 h3; rw [eg59, u2_ne a h3, eg49, u2_ne a h3]; exact b2 a h1 h2
      · rw [eg59, u2_ne _ (by omega), eg49, u2_ne _ (by omega)]; exact b3
      · rw [eg59, u2_ne _ (by omega), eg49, u2_ne _ (by omega)]; exact b4
      · intro j h1 h2; rw [eg59, u2_ne _ (by omega), eg49, u2_ne _ (by omega)]; exact b5 j h1 h2
      · rw [eg59, u2_self]; exact nI_1 fc
      · rw [eg59, eg49]; simp [u2]
      · intro j h1 h2; rw [eg59, eg49]; simp [u2, h1, h2, e1]
    ·
      refine J_bipush (v := (-2)) hS dX7_film_18 (by decide) ?_
      refine J_iret hS hZ hr dX7_film_20 (by omega) (by omega) ?_
      exact qon h3 c2
  · have h3 : fc = 3 := by
      rcases Nat.lt_or_ge fc 3 with z | z
      · exact absurd (nI_lt z (by decide)) c1
      · omega
    refine J_iconst (v := (-1)) hS dX7_film_8 (by decide) ?_
    refine J_iret hS hZ hr dX7_film_9 (by omega) (by omega) ?_
    exact q3 h3
end ClsPa


/-! THE CLASS: what is blurred -/
theorem sgY_is {g : Mm} {h n p : Nat} {y : Int32} : ∃ s, s < 16 ∧ sgY g h n y p = nI s := hv0_is (by decide) (bst_lt (by decide))
theorem nI_eq16 {a b : Nat} (ha : a < 16) (hb : b < 16) (e : nI a = nI b) : a = b := (nI_eq (by omega) (by omega)).mp e
/-- two concepts of a yard whose signs differ and are seen as one -/
def blr (g : Mm) (h n y p1 p2 : Nat) : Prop := ∃ s1 s2 : Nat, s1 < 16 ∧ s2 < 16 ∧ sgY g h n (nI y) p1 = nI s1 ∧ sgY g h n (nI y) p2 = nI s2 ∧ s1 ≠ s2 ∧ sna g h y s1 = sna g h y s2
section ClsT
variable {l : Launch} {E : Ey} {g : Mm} {Q : Option Value → Mm → Prop} {X : String → Mm → Prop} {h : Nat}
set_option maxRecDepth 10000 in
theorem c_areBlurred {n y p1 p2 : Nat} (hn : n ≤ 24) (hm : g 2 6 = nI n) (hy : y < 3) (h1 : p1 < 8) (h2 : p2 < 8) (q : ∀ r : Int32, (r = 0 ∨ r = 1) → (r = 1 ↔ blr g 2 n y p1 p2) → Q (some (.int r)) g) : Ct l E lay NC 2 0 0 yX7_areBlurred [.ref 1, .int (nI y), .int (nI p1), .int (nI p2)] g Q X := by
  obtain ⟨s1, hs1, e1⟩ := sgY_is (g := g) (h := 2) (n := n) (p := p1) (y := nI y)
  obtain ⟨s2, hs2, e2⟩ := sgY_is (g := g) (h := 2) (n := n) (p := p2) (y := nI y)
  have hb : blr g 2 n y p1 p2 ↔ s1 ≠ s2 ∧ sna g 2 y s1 = sna g 2 y s2 := by
    constructor
    · rintro ⟨t1, t2, a1, a2, a3, a4, a5, a6⟩
      have b1 : s1 = t1 := nI_eq16 hs1 a1 (e1.symm.trans a3)
      have b2 : s2 = t2 := nI_eq16 hs2 a2 (e2.symm.trans a4)
      rw [b1, b2]; exact ⟨a5, a6⟩
    · rintro ⟨a5, a6⟩
      exact ⟨s1, s2, hs1, hs2, e1, e2, a5, a6⟩
  refine Ct_in k_yX7_areBlurred (by decide) rfl (Nat.le_of_ble_eq_true rfl) rfl ?_
  intro S hS hZ hr ht hR
  show J S 0 0 g 0 [some (.ref 1), some (.int (nI y)), some (.int (nI p1)), some (.int (nI p2)), none, none] []
  refine J_aload_n hS dX7_areBlurred_0 rfl ?_
  refine J_getR (t := 2) hS dX7_areBlurred_1 flX7_10 ob1 rfl ?_
  refine J_iload_n hS dX7_areBlurred_4 rfl ?_
  refine J_iload_n hS dX7_areBlurred_5 rfl ?_
  refine J_callV2 (X' := fun _ _ => False) hS dX7_areBlurred_6 mvX7_342 wo_now.ob rfl (by decide) (by decide) (Nat.le_of_ble_eq_true rfl) hR (fun _ _ q => q.elim) (c_signOfYard wo_now hn h1 hm ?_)
  refine J_istore (lt := fun x1 => [some (.ref 1), some (.int (nI y)), some (.int (nI p1)), some (.int (nI p2)), some (.int x1), none]) hS dX7_areBlurred_9 (Nat.le_of_ble_eq_true rfl) (fun _ => rfl) (fun x1 ex1 => ?_)
  have ex1' : x1 = nI s1 := ex1.trans e1
  subst ex1'
  refine J_aload_n hS dX7_areBlurred_11 rfl ?_
  refine J_getR (t := 2) hS dX7_areBlurred_12 flX7_10 ob1 rfl ?_
  refine J_iload_n hS dX7_areBlurred_15 rfl ?_
  refine J_iload_n hS dX7_areBlurred_16 rfl ?_
  refine J_callV2 (X' := fun _ _ => False) hS dX7_areBlurred_17 mvX7_342 wo_now.ob rfl (by decide) (by decide) (Nat.le_of_ble_eq_true rfl) hR (fun _ _ q => q.elim) (c_signOfYard wo_now hn h2 hm ?_)
  refine J_istore (lt := fun x2 => [some (.ref 1), some (.int (nI y)), some (.int (nI p1)), some (.int (nI p2)), some (.int (nI s1)), some (.int x2)]) hS dX7_areBlurred_20 (Nat.le_of_ble_eq_true rfl) (fun _ => rfl) (fun x2 ex2 => ?_)
  have ex2' : x2 = nI s2 := ex2.trans e2
  subst ex2'
  refine J_iload hS dX7_areBlurred_22 rfl ?_
  refine J_iload hS dX7_areBlurred_24 rfl ?_
  refine J_icmp_eq (tgt := 56) hS dX7_areBlurred_26 (by decide) (fun c1 => ?_) (fun c1 => ?_)
  ·
    refine J_iconst (v := 0) hS dX7_areBlurred_56 (by decide) ?_
    refine J_zret hS hZ hr dX7_areBlurred_57 (by decide) (by omega) (by omega) ?_
    refine q 0 (Or.inl rfl) ?_
    rw [hb]
    exact ⟨fun z => absurd z (by decide), fun z => absurd (nI_eq16 hs1 hs2 c1) z.1⟩
  ·
    refine J_aload_n hS dX7_areBlurred_29 rfl ?_
    refine J_getR (t := 2) hS dX7_areBlurred_30 flX7_10 ob1 rfl ?_
    refine J_iload_n hS dX7_areBlurred_33 rfl ?_
    refine J_iload hS dX7_areBlurred_34 rfl ?_
    refine J_callV2 (X' := fun _ _ => False) hS dX7_areBlurred_36 mvX7_272 wo_now.ob rfl (by decide) (by decide) (Nat.le_of_ble_eq_true rfl) hR (fun _ _ q => q.elim) (c_seenAs wo_now hy hs1 ?_)
    refine J_aload_n hS dX7_areBlurred_39 rfl ?_
    refine J_getR (t := 2) hS dX7_areBlurred_40 flX7_10 ob1 rfl ?_
    refine J_iload_n hS dX7_areBlurred_43 rfl ?_
    refine J_iload hS dX7_areBlurred_44 rfl ?_
    refine J_callV2 (X' := fun _ _ => False) hS dX7_areBlurred_46 mvX7_272 wo_now.ob rfl (by decide) (by decide) (Nat.le_of_ble_eq_true rfl) hR (fun _ _ q => q.elim) (c_seenAs wo_now hy hs2 ?_)
    refine J_icmp_ne (tgt := 56) hS dX7_areBlurred_49 (by decide) (fun c2 => ?_) (fun c2 => ?_)
    ·
      refine J_iconst (v := 0) hS dX7_areBlurred_56 (by decide) ?_
      refine J_zret hS hZ hr dX7_areBlurred_57 (by decide) (by omega) (by omega) ?_
      refine q 0 (Or.inl rfl) ?_
      rw [hb]
      exact ⟨fun z => absurd z (by decide), fun z => absurd (by rw [z.2]) c2⟩
    ·
      refine J_iconst (v := 1) hS dX7_areBlurred_52 (by decide) ?_
      refine J_goto (tgt := 57) hS dX7_areBlurred_53 (by decide) ?_
      refine J_zret hS hZ hr dX7_areBlurred_57 (by decide) (by omega) (by omega) ?_
      refine q 1 (Or.inr rfl) ?_
      rw [hb]
      exact ⟨fun _ => ⟨fun z => c1 (by rw [z]), nI_eq16 (sna_lt hs1) (sna_lt hs2) c2⟩, fun _ => rfl⟩
end ClsT


/-! THE CLASS: a talk that is drawn; films begin; laws are written -/
/-- the words of a drawn talk: who says, who takes, what is meant; s is the number before -/
def dI (s : Int32) (n : Nat) : Nat := dr (adv s) n
def dJ (s : Int32) (n : Nat) : Nat := if dr (adv (adv s)) (n - 1) < dI s n then dr (adv (adv s)) (n - 1) else dr (adv (adv s)) (n - 1) + 1
def dM (s : Int32) (r : Nat) : Nat := if r = 0 then dr (adv (adv (adv s))) 4 else if r = 1 then dr (adv (adv (adv (adv s)))) 4 else dr (adv (adv (adv (adv (adv s))))) 4
def adv5 (s : Int32) : Int32 := adv (adv (adv (adv (adv s))))
theorem dM_0 {s : Int32} : dM s 0 = dr (adv (adv (adv s))) 4 := by unfold dM; rw [if_pos rfl]
theorem dM_1 {s : Int32} : dM s 1 = dr (adv (adv (adv (adv s)))) 4 := by unfold dM; rw [if_neg (by decide), if_pos rfl]
theorem dM_2 {s : Int32} : dM s 2 = dr (adv (adv (adv (adv (adv s))))) 4 := by unfold dM; rw [if_neg (by decide), if_neg (by decide)]
theorem dJ_t {s : Int32} {m : Nat} (h : dr (adv (adv s)) m < dI s (m + 1)) : dJ s (m + 1) = dr (adv (adv s)) m := by unfold dJ; rw [Nat.add_sub_cancel, if_pos h]
theorem dJ_f {s : Int32} {m : Nat} (h : ¬ dr (adv (adv s)) m < dI s (m + 1)) : dJ s (m + 1) = dr (adv (adv s)) m + 1 := by unfold dJ; rw [Nat.add_sub_cancel, if_neg h]
theorem u2_twice {g : Mm} {a i : Nat} {x y : Int32} : u2 (u2 g a i x) a i y = u2 g a i y := by
  funext b j
  simp only [u2]
  split <;> simp_all
theorem u2_self {g : Mm} {a i : Nat} {x : Int32} : u2 g a i x a i = x := by simp [u2]
section ClsQ
variable {l : Launch} {E : Ey} {g : Mm} {Q : Option Value → Mm → Prop} {X : String → Mm → Prop} {h : Nat}
set_option maxRecDepth 10000 in
set_option maxHeartbeats 4000000 in
theorem c_drawTalk (hW : Wo h) {m : Nat} {cr : Nat → Nat} (h1 : 1 ≤ m) (hm : m < 24) (hcr : ∀ j, j < m + 1 → cr j < 24 ∧ g 157 j = nI (cr j)) (q : ∀ g', (∀ z, z ≠ h → z ≠ 148 → z ≠ 149 → g' z = g z) → wv g' h = upd (wv g h) 0 (adv5 (wv g h 0)) → SpC g' (cr (dI (wv g h 0) (m + 1))) (cr (dJ (wv g h 0) (m + 1))) (dM (wv g h 0)) → Q none g') : Ct l E lay NC 2 0 0 yX7_drawTalk [.ref 1, .ref h, .int (nI (m + 1))] g Q X := by
  have hh : h + 10 < 107 := by obtain ⟨i, hi, e⟩ := hW; omega
  obtain ⟨s, hs⟩ : ∃ s : Int32, s = wv g h 0 := ⟨_, rfl⟩
  have hs0 : g h 0 = s := hs.symm
  rw [← hs] at q
  refine Ct_in k_yX7_drawTalk (by decide) rfl (Nat.le_of_ble_eq_true rfl) rfl ?_
  intro S hS hZ hr ht hR
  show J S 0 0 g 0 [some (.ref 1), some (.ref h), some (.int (nI (m + 1))), none, none, none, none, none] []
  refine J_aload_n hS dX7_drawTalk_0 rfl ?_
  refine J_iload_n hS dX7_drawTalk_1 rfl ?_
  refine J_callV1 (X' := fun _ _ => False) hS dX7_drawTalk_2 mvX7_396 hW.ob rfl (by decide) (by decide) (Nat.le_of_ble_eq_true rfl) hR (fun _ _ q => q.elim) (c_drawChoice hW (by omega) (by omega) ?_)
  rw [hs0]
  obtain ⟨g1, hg1⟩ : ∃ g1 : Mm, g1 = u2 g h 0 (adv s) := ⟨_, rfl⟩
  rw [← hg1]
  have e1 : g1 h 0 = adv s := by rw [hg1]; exact u2_self
  refine J_istore_n (lt := fun x1 => [some (.ref 1), some (.ref h), some (.int (nI (m + 1))), some (.int x1), none, none, none, none]) hS dX7_drawTalk_5 (Nat.le_of_ble_eq_true rfl) (fun _ => rfl) (fun x1 ex1 => ?_)
  refine J_aload_n hS dX7_drawTalk_6 rfl ?_
  refine J_iload_n hS dX7_drawTalk_7 rfl ?_
  refine J_iconst (v := 1) hS dX7_drawTalk_8 (by decide) ?_
  have ex1' : x1 = nI (dI s (m + 1)) := by rw [ex1]; unfold dI; rfl
  subst ex1'
  refine J_isub hS dX7_drawTalk_9 ?_
  refine J_top (nI_pred m) ?_
  refine J_callV1 (X' := fun _ _ => False) hS dX7_drawTalk_10 mvX7_396 hW.ob rfl (by decide) (by decide) (Nat.le_of_ble_eq_true rfl) hR (fun _ _ q => q.elim) (c_drawChoice hW (n := m) (by omega) (by omega) ?_)
  rw [e1]
  obtain ⟨g2, hg2⟩ : ∃ g2 : Mm, g2 = u2 g1 h 0 (adv (adv s)) := ⟨_, rfl⟩
  rw [← hg2]
  have e2 : g2 h 0 = adv (adv s) := by rw [hg2]; exact u2_self
  have hdi : dI s (m + 1) < m + 1 := dr_lt (by omega)
  have hdj : dr (adv (adv s)) m < m := dr_lt (by omega)
  refine J_istore (lt := fun x2 => [some (.ref 1), some (.ref h), some (.int (nI (m + 1))), some (.int (nI (dI s (m + 1)))), some (.int x2), none, none, none]) hS dX7_drawTalk_13 (Nat.le_of_ble_eq_true rfl) (fun _ => rfl) (fun x2 ex2 => ?_)
  refine J_iload hS dX7_drawTalk_15 rfl ?_
  refine J_iload_n hS dX7_drawTalk_17 rfl ?_
  have nxt : ∀ x : Int32, x = nI (dJ s (m + 1)) → dJ s (m + 1) < m + 1 → J S 0 0 g2 24 [some (.ref 1), some (.ref h), some (.int (nI (m + 1))), some (.int (nI (dI s (m + 1)))), some (.int x), none, none, none] [] := by
    intro x ex hlt
    subst ex
    refine J_aload_n hS dX7_drawTalk_24 rfl ?_
    refine J_iconst (v := 4) hS dX7_drawTalk_25 (by decide) ?_
    refine J_callV1 (X' := fun _ _ => False) hS dX7_drawTalk_26 mvX7_396 hW.ob rfl (by decide) (by decide) (Nat.le_of_ble_eq_true rfl) hR (fun _ _ q => q.elim) (c_drawChoice hW (n := 4) (by decide) (by decide) ?_)
    rw [e2]
    obtain ⟨g3, hg3⟩ : ∃ g3 : Mm, g3 = u2 g2 h 0 (adv (adv (adv s))) := ⟨_, rfl⟩
    rw [← hg3]
    have e3 : g3 h 0 = adv (adv (adv s)) := by rw [hg3]; exact u2_self
    refine J_istore (lt := fun y3 => [some (.ref 1), some (.ref h), some (.int (nI (m + 1))), some (.int (nI (dI s (m + 1)))), some (.int (nI (dJ s (m + 1)))), some (.int y3), none, none]) hS dX7_drawTalk_29 (Nat.le_of_ble_eq_true rfl) (fun _ => rfl) (fun y3 ey3 => ?_)
    refine J_aload_n hS dX7_drawTalk_31 rfl ?_
    refine J_iconst (v := 4) hS dX7_drawTalk_32 (by decide) ?_
    refine J_callV1 (X' := fun _ _ => False) hS dX7_drawTalk_33 mvX7_396 hW.ob rfl (by decide) (by decide) (Nat.le_of_ble_eq_true rfl) hR (fun _ _ q => q.elim) (c_drawChoice hW (n := 4) (by decide) (by decide) ?_)
    rw [e3]
    obtain ⟨g4, hg4⟩ : ∃ g4 : Mm, g4 = u2 g3 h 0 (adv (adv (adv (adv s)))) := ⟨_, rfl⟩
    rw [← hg4]
    have e4 : g4 h 0 = adv (adv (adv (adv s))) := by rw [hg4]; exact u2_self
    refine J_istore (lt := fun y4 => [some (.ref 1), some (.ref h), some (.int (nI (m + 1))), some (.int (nI (dI s (m + 1)))), some (.int (nI (dJ s (m + 1)))), some (.int y3), some (.int y4), none]) hS dX7_drawTalk_36 (Nat.le_of_ble_eq_true rfl) (fun _ => rfl) (fun y4 ey4 => ?_)
    refine J_aload_n hS dX7_drawTalk_38 rfl ?_
    refine J_iconst (v := 4) hS dX7_drawTalk_39 (by decide) ?_
    refine J_callV1 (X' := fun _ _ => False) hS dX7_drawTalk_40 mvX7_396 hW.ob rfl (by decide) (by decide) (Nat.le_of_ble_eq_true rfl) hR (fun _ _ q => q.elim) (c_drawChoice hW (n := 4) (by decide) (by decide) ?_)
    rw [e4]
    obtain ⟨g5, hg5⟩ : ∃ g5 : Mm, g5 = u2 g4 h 0 (adv5 s) := ⟨_, rfl⟩
    rw [show u2 g4 h 0 (adv (adv (adv (adv (adv s))))) = g5 by rw [hg5]; unfold adv5; rfl]
    have f5 : g5 = u2 g h 0 (adv5 s) := by rw [hg5, hg4, u2_twice, hg3, u2_twice, hg2, u2_twice, hg1, u2_twice]
    have c5 : ∀ j, g5 157 j = g 157 j := fun j => by rw [f5, u2_ne 157 (by omega)]
    refine J_istore (lt := fun y5 => [some (.ref 1), some (.ref h), some (.int (nI (m + 1))), some (.int (nI (dI s (m + 1)))), some (.int (nI (dJ s (m + 1)))), some (.int y3), some (.int y4), some (.int y5)]) hS dX7_drawTalk_43 (Nat.le_of_ble_eq_true rfl) (fun _ => rfl) (fun y5 ey5 => ?_)
    refine J_aload_n hS dX7_drawTalk_45 rfl ?_
    refine J_getR (t := 148) hS dX7_drawTalk_46 flX7_45 ob1 rfl ?_
    refine J_aload_n hS dX7_drawTalk_49 rfl ?_
    refine J_getR (t := 157) hS dX7_drawTalk_50 flX7_67 ob1 rfl ?_
    refine J_iload_n hS dX7_drawTalk_53 rfl ?_
    refine J_ialdN hS (dI s (m + 1)) dX7_drawTalk_54 ar157 (by first | rfl | (simp only [n0, n1, n2, n3, n4, n5, n6, n7, n8, n9, n10, n11, n12, n13, n14, n15, n16, n17, n18, n19, n20, n24, n32, n56, n60, n64, n72, n99, n100, n128, n136, n142, n144, n200, n300, n999, n1000, n1500, n3464, nI_add, pk_mul] <;> first | rfl | (congr 1; omega))) (by omega) (by decide) ?_
    refine J_aload_n hS dX7_drawTalk_55 rfl ?_
    refine J_getR (t := 157) hS dX7_drawTalk_56 flX7_67 ob1 rfl ?_
    refine J_iload hS dX7_drawTalk_59 rfl ?_
    refine J_ialdN hS (dJ s (m + 1)) dX7_drawTalk_61 ar157 (by first | rfl | (simp only [n0, n1, n2, n3, n4, n5, n6, n7, n8, n9, n10, n11, n12, n13, n14, n15, n16, n17, n18, n19, n20, n24, n32, n56, n60, n64, n72, n99, n100, n128, n136, n142, n144, n200, n300, n999, n1000, n1500, n3464, nI_add, pk_mul] <;> first | rfl | (congr 1; omega))) (by omega) (by decide) ?_
    refine J_iload hS dX7_drawTalk_62 rfl ?_
    refine J_iload hS dX7_drawTalk_64 rfl ?_
    refine J_iload hS dX7_drawTalk_66 rfl ?_
    show J S 0 0 g5 68 [some (.ref 1), some (.ref h), some (.int (nI (m + 1))), some (.int (nI (dI s (m + 1)))), some (.int (nI (dJ s (m + 1)))), some (.int y3), some (.int y4), some (.int y5)] [.int y5, .int y4, .int y3, .int _, .int _, .ref (148)]
    rw [c5, c5, (hcr _ hdi).2, (hcr _ hlt).2, ey3, ey4, ey5]
    refine J_callV5 (X' := fun _ _ => False) hS dX7_drawTalk_68 mvX7_221 ob148 rfl (by decide) (by decide) (Nat.le_of_ble_eq_true rfl) hR (fun _ _ q => q.elim) (c_begin (fun g6 b1 b2 b3 b4 b5 b6 b7 => ?_))
    refine J_vret hS hZ hr dX7_drawTalk_71 (by omega) (by omega) ?_
    refine q g6 (fun z h1 h2 h3 => by rw [b1 z h2 h3, f5, u2_ne z h1]) ?_ ?_
    · rw [wv_fr (g := g5) (fun z h1 h2 => b1 z (by omega) (by omega)), f5]
      exact wv_u2 (j0 := 0) (wx_i (by decide))
    · refine ⟨(hcr _ hdi).1, (hcr _ hlt).1, b2, b3, fun j hj => ?_⟩
      have hj3 : j = 0 ∨ j = 1 ∨ j = 2 := by omega
      rcases hj3 with e | e | e
      · subst e; rw [dM_0]; exact ⟨dr_lt (by decide), b5⟩
      · subst e; rw [dM_1]; exact ⟨dr_lt (by decide), b6⟩
      · subst e; rw [dM_2]; exact ⟨dr_lt (by decide), b7⟩
  refine J_icmp_lt (tgt := 24) hS dX7_drawTalk_18 (by decide) (fun c1 => ?_) (fun c1 => ?_)
  · have hlt : dr (adv (adv s)) m < dI s (m + 1) := by
      rcases Nat.lt_or_ge (dr (adv (adv s)) m) (dI s (m + 1)) with z | z
      · exact z
      · rw [ex2] at c1
        exact absurd c1 (nI_nlt z (by omega))
    exact nxt x2 (by rw [ex2, dJ_t hlt]) (by rw [dJ_t hlt]; omega)
  · have hlt : ¬ dr (adv (adv s)) m < dI s (m + 1) := by
      intro z
      rw [ex2] at c1
      exact c1 (nI_lt z (by omega))
    refine J_iinc (lt := fun x3 => [some (.ref 1), some (.ref h), some (.int (nI (m + 1))), some (.int (nI (dI s (m + 1)))), some (.int x3), none, none, none]) (v := 1) hS dX7_drawTalk_21 rfl (by decide) (fun _ => rfl) (fun x3 ex3 => ?_)
    exact nxt x3 (by rw [ex3, ex2, dJ_f hlt]; exact nI_1 _) (by rw [dJ_f hlt]; omega)
end ClsQ


/-! THE CLASS: concepts that are seen alone -/
/-- the concepts of the four from f on that are seen as concept f + k is -/
noncomputable def alR (g : Mm) (h y c f k : Nat) : Nat → Bool := fun j => decide (sfr g h y c (f + k) = sfr g h y c (f + j))
noncomputable def alP (g : Mm) (h y c f : Nat) : Nat → Bool := fun k => decide ((here (alR g h y c f k) 4).length = 1)
section ClsU
variable {l : Launch} {E : Ey} {g : Mm} {Q : Option Value → Mm → Prop} {X : String → Mm → Prop} {h : Nat}
set_option maxRecDepth 10000 in
set_option maxHeartbeats 4000000 in
theorem c_countSeenAlone {c f y : Nat} (hc : c < 24) (hf : f + 4 ≤ 8) (hy : y < 3) (hyd : g 3 c = nI y) (q : Q (some (.int (nI (here (alP g 2 y c f) 4).length))) g) : Ct l E lay NC 3 0 0 yX7_countSeenAlone [.ref 1, .int (nI c), .int (nI f)] g Q X := by
  refine Ct_in k_yX7_countSeenAlone (by decide) rfl (Nat.le_of_ble_eq_true rfl) rfl ?_
  intro S hS hZ hr ht hR
  show J S 0 0 g 0 [some (.ref 1), some (.int (nI c)), some (.int (nI f)), none, none, none, none] []
  refine J_iconst (v := 0) hS dX7_countSeenAlone_0 (by decide) ?_
  refine J_istore_n (lt := fun b1 => [some (.ref 1), some (.int (nI c)), some (.int (nI f)), some (.int b1), none, none, none]) hS dX7_countSeenAlone_1 (Nat.le_of_ble_eq_true rfl) (fun _ => rfl) (fun b1 eb1 => ?_)
  refine J_iload_n hS dX7_countSeenAlone_2 rfl ?_
  refine J_istore (lt := fun i1 => [some (.ref 1), some (.int (nI c)), some (.int (nI f)), some (.int b1), some (.int i1), none, none]) hS dX7_countSeenAlone_3 (Nat.le_of_ble_eq_true rfl) (fun _ => rfl) (fun i1 ei1 => ?_)
  suffices H : ∀ (r k : Nat) (b p : Int32), k + r = 4 → p = nI (f + k) → b = nI (here (alP g 2 y c f) k).length → J S 0 0 g 5 [some (.ref 1), some (.int (nI c)), some (.int (nI f)), some (.int b), some (.int p), none, none] [] by
    exact H 4 0 b1 i1 rfl ei1 eb1
  intro r
  induction r with
  | zero =>
    intro k b p hk hp hb
    have hk4 : k = 4 := by omega
    subst hk4
    refine J_iload hS dX7_countSeenAlone_5 rfl ?_
    refine J_iload_n hS dX7_countSeenAlone_7 rfl ?_
    refine J_iconst (v := 4) hS dX7_countSeenAlone_8 (by decide) ?_
    refine J_iadd hS dX7_countSeenAlone_9 ?_
    refine J_top (y := nI (f + 4)) (by simp only [n4, nI_add]) ?_
    refine J_icmp_ge (tgt := 74) hS dX7_countSeenAlone_10 (by decide) (fun c1 => ?_) (fun c1 => ?_)
    ·
      refine J_iload_n hS dX7_countSeenAlone_74 rfl ?_
      refine J_iret hS hZ hr dX7_countSeenAlone_75 (by omega) (by omega) ?_
      rw [hb]; exact q
    · exact absurd (by rw [hp]; exact Int32.le_refl _) c1
  | succ r ih =>
    intro k b p hk hp hb
    subst hp
    have hs := here_succ (alP g 2 y c f) k
    refine J_iload hS dX7_countSeenAlone_5 rfl ?_
    refine J_iload_n hS dX7_countSeenAlone_7 rfl ?_
    refine J_iconst (v := 4) hS dX7_countSeenAlone_8 (by decide) ?_
    refine J_iadd hS dX7_countSeenAlone_9 ?_
    refine J_top (y := nI (f + 4)) (by simp only [n4, nI_add]) ?_
    refine J_icmp_ge (tgt := 74) hS dX7_countSeenAlone_10 (by decide) (fun c1 => ?_) (fun c1 => ?_)
    · exact absurd c1 (nI_ge (show f + k < f + 4 by omega) (by omega))
    ·
      refine J_iconst (v := 0) hS dX7_countSeenAlone_13 (by decide) ?_
      refine J_istore (lt := fun n1' => [some (.ref 1), some (.int (nI c)), some (.int (nI f)), some (.int b), some (.int (nI (f + k))), some (.int n1'), none]) hS dX7_countSeenAlone_14 (Nat.le_of_ble_eq_true rfl) (fun _ => rfl) (fun n1' en1' => ?_)
      refine J_iload_n hS dX7_countSeenAlone_16 rfl ?_
      refine J_istore (lt := fun q1 => [some (.ref 1), some (.int (nI c)), some (.int (nI f)), some (.int b), some (.int (nI (f + k))), some (.int n1'), some (.int q1)]) hS dX7_countSeenAlone_17 (Nat.le_of_ble_eq_true rfl) (fun _ => rfl) (fun q1 eq1 => ?_)
      suffices I : ∀ (r j : Nat) (n p : Int32), j + r = 4 → p = nI (f + j) → n = nI (here (alR g 2 y c f k) j).length → J S 0 0 g 19 [some (.ref 1), some (.int (nI c)), some (.int (nI f)), some (.int b), some (.int (nI (f + k))), some (.int n), some (.int p)] [] by
        exact I 4 0 n1' q1 rfl eq1 en1'
      intro r
      induction r with
      | zero =>
        intro j n p hj hp hn
        have hj4 : j = 4 := by omega
        subst hj4
        have hl := here_len (alR g 2 y c f k) 4
        refine J_iload hS dX7_countSeenAlone_19 rfl ?_
        refine J_iload_n hS dX7_countSeenAlone_21 rfl ?_
        refine J_iconst (v := 4) hS dX7_countSeenAlone_22 (by decide) ?_
        refine J_iadd hS dX7_countSeenAlone_23 ?_
        refine J_top (y := nI (f + 4)) (by simp only [n4, nI_add]) ?_
        refine J_icmp_ge (tgt := 59) hS dX7_countSeenAlone_24 (by decide) (fun c2 => ?_) (fun c2 => ?_)
        ·
          refine J_iload hS dX7_countSeenAlone_59 rfl ?_
          refine J_iconst (v := 1) hS dX7_countSeenAlone_61 (by decide) ?_
          refine J_icmp_ne (tgt := 68) hS dX7_countSeenAlone_62 (by decide) (fun c3 => ?_) (fun c3 => ?_)
          · have hno : alP g 2 y c f k = false := decide_eq_false (fun z => c3 (by rw [hn, z]; rfl))
            refine J_iinc (lt := fun p2 => [some (.ref 1), some (.int (nI c)), some (.int (nI f)), some (.int b), some (.int p2), some (.int n), some (.int p)]) (v := 1) hS dX7_countSeenAlone_68 rfl (by decide) (fun _ => rfl) (fun p2 ep2 => ?_)
            refine J_goto (tgt := 5) hS dX7_countSeenAlone_71 (by decide) ?_
            refine J_weak (ls' := [some (.ref 1), some (.int (nI c)), some (.int (nI f)), some (.int b), some (.int p2), none, none]) ⟨Or.inr rfl, Or.inr rfl, Or.inr rfl, Or.inr rfl, Or.inr rfl, Or.inl rfl, Or.inl rfl, trivial⟩ ?_
            exact ih (k + 1) b p2 (by omega) (by rw [ep2]; exact nI_1 (f + k)) (by rw [hb, hs]; simp [hno])
          · have hyes : alP g 2 y c f k = true := decide_eq_true (nI_eq16 (by omega) (by decide) (hn.symm.trans c3))
            refine J_iinc (lt := fun b2 => [some (.ref 1), some (.int (nI c)), some (.int (nI f)), some (.int b2), some (.int (nI (f + k))), some (.int n), some (.int p)]) (v := 1) hS dX7_countSeenAlone_65 rfl (by decide) (fun _ => rfl) (fun b2 eb2 => ?_)
            refine J_iinc (lt := fun p2 => [some (.ref 1), some (.int (nI c)), some (.int (nI f)), some (.int b2), some (.int p2), some (.int n), some (.int p)]) (v := 1) hS dX7_countSeenAlone_68 rfl (by decide) (fun _ => rfl) (fun p2 ep2 => ?_)
            refine J_goto (tgt := 5) hS dX7_countSeenAlone_71 (by decide) ?_
            refine J_weak (ls' := [some (.ref 1), some (.int (nI c)), some (.int (nI f)), some (.int b2), some (.int p2), none, none]) ⟨Or.inr rfl, Or.inr rfl, Or.inr rfl, Or.inr rfl, Or.inr rfl, Or.inl rfl, Or.inl rfl, trivial⟩ ?_
            exact ih (k + 1) b2 p2 (by omega) (by rw [ep2]; exact nI_1 (f + k)) (by rw [eb2, hb, hs]; simp [hyes, nI_1])
        · exact absurd (by rw [hp]; exact Int32.le_refl _) c2
      | succ r ih2 =>
        intro j n p hj hp hn
        subst hp
        have hs2 := here_succ (alR g 2 y c f k) j
        refine J_iload hS dX7_countSeenAlone_19 rfl ?_
        refine J_iload_n hS dX7_countSeenAlone_21 rfl ?_
        refine J_iconst (v := 4) hS dX7_countSeenAlone_22 (by decide) ?_
        refine J_iadd hS dX7_countSeenAlone_23 ?_
        refine J_top (y := nI (f + 4)) (by simp only [n4, nI_add]) ?_
        refine J_icmp_ge (tgt := 59) hS dX7_countSeenAlone_24 (by decide) (fun c2 => ?_) (fun c2 => ?_)
        · exact absurd c2 (nI_ge (show f + j < f + 4 by omega) (by omega))
        ·
          refine J_aload_n hS dX7_countSeenAlone_27 rfl ?_
          refine J_getR (t := 2) hS dX7_countSeenAlone_28 flX7_10 ob1 rfl ?_
          refine J_iload_n hS dX7_countSeenAlone_31 rfl ?_
          refine J_iload hS dX7_countSeenAlone_32 rfl ?_
          refine J_callV2 (X' := fun _ _ => False) hS dX7_countSeenAlone_34 mvX7_430 wo_now.ob rfl (by decide) (by decide) (Nat.le_of_ble_eq_true rfl) hR (fun _ _ q => q.elim) (c_seenFor wo_now hc (show f + k < 8 by omega) hy hyd ?_)
          refine J_aload_n hS dX7_countSeenAlone_37 rfl ?_
          refine J_getR (t := 2) hS dX7_countSeenAlone_38 flX7_10 ob1 rfl ?_
          refine J_iload_n hS dX7_countSeenAlone_41 rfl ?_
          refine J_iload hS dX7_countSeenAlone_42 rfl ?_
          refine J_callV2 (X' := fun _ _ => False) hS dX7_countSeenAlone_44 mvX7_430 wo_now.ob rfl (by decide) (by decide) (Nat.le_of_ble_eq_true rfl) hR (fun _ _ q => q.elim) (c_seenFor wo_now hc (show f + j < 8 by omega) hy hyd ?_)
          refine J_icmp_ne (tgt := 53) hS dX7_countSeenAlone_47 (by decide) (fun c3 => ?_) (fun c3 => ?_)
          · have hno : alR g 2 y c f k j = false := decide_eq_false c3
            refine J_iinc (lt := fun p2 => [some (.ref 1), some (.int (nI c)), some (.int (nI f)), some (.int b), some (.int (nI (f + k))), some (.int n), some (.int p2)]) (v := 1) hS dX7_countSeenAlone_53 rfl (by decide) (fun _ => rfl) (fun p2 ep2 => ?_)
            refine J_goto (tgt := 19) hS dX7_countSeenAlone_56 (by decide) ?_
            exact ih2 (j + 1) n p2 (by omega) (by rw [ep2]; exact nI_1 (f + j)) (by rw [hn, hs2]; simp [hno])
          · have hyes : alR g 2 y c f k j = true := decide_eq_true c3
            refine J_iinc (lt := fun n2' => [some (.ref 1), some (.int (nI c)), some (.int (nI f)), some (.int b), some (.int (nI (f + k))), some (.int n2'), some (.int (nI (f + j)))]) (v := 1) hS dX7_countSeenAlone_50 rfl (by decide) (fun _ => rfl) (fun n2' en2' => ?_)
            refine J_iinc (lt := fun p2 => [some (.ref 1), some (.int (nI c)), some (.int (nI f)), some (.int b), some (.int (nI (f + k))), some (.int n2'), some (.int p2)]) (v := 1) hS dX7_countSeenAlone_53 rfl (by decide) (fun _ => rfl) (fun p2 ep2 => ?_)
            refine J_goto (tgt := 19) hS dX7_countSeenAlone_56 (by decide) ?_
            exact ih2 (j + 1) n2' p2 (by omega) (by rw [ep2]; exact nI_1 (f + j)) (by rw [en2', hn, hs2]; simp [hyes, nI_1])
end ClsU


/-! THE REFERENCE: trials -/
section RefR
variable {l : Launch} {E : Ey} {g : Mm} {Q : Option Value → Mm → Prop} {X : String → Mm → Prop} {r : Nat} {w bb : Wr}
set_option maxRecDepth 10000 in
theorem m_begins (q : ∀ g', (∀ z, z ≠ 162 → z ≠ 165 → g' z = g z) → (∀ j, j ≠ 3 → g' 162 j = g 162 j) → g' 162 3 = nI 165 → (∀ i, i < 3464 → g' 165 i = g 164 i) → Q none g') : Ct l E lay NC 0 0 0 yX8_begins [.ref 162] g Q X := by
  refine Ct_in k_yX8_begins (by decide) rfl (Nat.le_of_ble_eq_true rfl) rfl ?_
  intro S hS hZ hr ht hR
  show J S 0 0 (g) 0 [some (.ref 162), none] []
  refine J_iconst (v := 0) hS dX8_begins_0 (by decide) ?_
  refine J_istore_n (lt := fun x1 => [some (.ref 162), some (.int x1)]) hS dX8_begins_1 (Nat.le_of_ble_eq_true rfl) (fun _ => rfl) (fun x1 ex1 => ?_)
  suffices H : ∀ (t k : Nat) (i : Int32) (g1 : Mm), k + t = 3464 → i = nI k → (∀ z, z ≠ 165 → g1 z = g z) → (∀ j, j < k → g1 165 j = g 164 j) → J S 0 0 g1 2 [some (.ref 162), some (.int i)] [] by
    exact H 3464 0 x1 g (by omega) ex1 (fun _ _ => rfl) (fun j hj => absurd hj (by omega))
  intro t
  induction t with
  | zero =>
    intro k i g1 hk hi k1 k2
    have ek : k = 3464 := by omega
    subst ek; subst hi
    refine J_iload_n hS dX8_begins_2 rfl ?_
    refine J_sipush (v := 3464) hS dX8_begins_3 (by decide) ?_
    refine J_icmp_ge (tgt := 27) hS dX8_begins_6 (by decide) (fun c1 => ?_) (fun c1 => ?_)
    ·
      refine J_aload_n hS dX8_begins_27 rfl ?_
      refine J_aload_n hS dX8_begins_28 rfl ?_
      refine J_getR (t := 165) hS dX8_begins_29 flX8_17 ob162 rfl ?_
      refine J_putD hS dX8_begins_32 fpX8_20 (by first | exact Or.inl ⟨_, rfl⟩ | exact Or.inr ⟨_, rfl⟩) ob162 rfl (Rw.ab (Or.inr rfl)) (by first | exact Or.inl rfl | exact Or.inr ⟨_, rfl⟩) (fun g32 eg32 => ?_)
      refine J_vret hS hZ hr dX8_begins_35 (by omega) (by omega) ?_
      exact q g32 (fun z z1 z2 => by rw [eg32, u2_ne z z1]; exact k1 z z2) (fun j hj => by rw [eg32]; unfold u2; rw [if_neg (fun z => hj z.2), k1 162 (by decide)]) (by rw [eg32, u2_self]) (fun i hi => by rw [eg32, u2_ne _ (by decide)]; exact k2 i hi)
    · exact absurd (Int32.le_refl _) c1
  | succ t ih =>
    intro k i g1 hk hi k1 k2
    subst hi
    have hk3 : k < 3464 := by omega
    refine J_iload_n hS dX8_begins_2 rfl ?_
    refine J_sipush (v := 3464) hS dX8_begins_3 (by decide) ?_
    refine J_icmp_ge (tgt := 27) hS dX8_begins_6 (by decide) (fun c1 => ?_) (fun c1 => ?_)
    · exact absurd c1 (nI_ge hk3 (by decide))
    ·
      refine J_aload_n hS dX8_begins_9 rfl ?_
      refine J_getR (t := 165) hS dX8_begins_10 flX8_17 ob162 rfl ?_
      refine J_iload_n hS dX8_begins_13 rfl ?_
      refine J_aload_n hS dX8_begins_14 rfl ?_
      refine J_getR (t := 164) hS dX8_begins_15 flX8_13 ob162 rfl ?_
      refine J_iload_n hS dX8_begins_18 rfl ?_
      refine J_ialdN hS (k) dX8_begins_19 (show Ar lay NC .int 164 3464 from arM 1 3464 (by decide) (by decide) rfl) (by first | rfl | (simp only [n0, n1, n2, n3, n4, n5, n6, n7, n8, n9, n10, n11, n12, n13, n14, n15, n16, n17, n18, n19, n20, n24, n32, n56, n60, n64, n72, n99, n100, n128, n136, n142, n144, n200, n300, n999, n1000, n1500, n3464, nI_add, pk_mul] <;> first | rfl | (congr 1; omega))) hk3 (by decide) ?_
      show J S 0 0 (g1) 20 [some (.ref 162), some (.int (nI k))] [.int _, .int (nI k), .ref (165)]
      rw [k1 164 (by decide)]
      refine J_iastN hS (k) dX8_begins_20 (show Ar lay NC .int 165 3464 from arM 2 3464 (by decide) (by decide) rfl) (by first | rfl | (simp only [n0, n1, n2, n3, n4, n5, n6, n7, n8, n9, n10, n11, n12, n13, n14, n15, n16, n17, n18, n19, n20, n24, n32, n56, n60, n64, n72, n99, n100, n128, n136, n142, n144, n200, n300, n999, n1000, n1500, n3464, nI_add, pk_mul] <;> first | rfl | (congr 1; omega))) hk3 (by decide) (fun g20 eg20 => ?_)
      refine J_iinc (lt := fun i2 => [some (.ref 162), some (.int i2)]) (v := 1) hS dX8_begins_21 rfl (by decide) (fun _ => rfl) (fun i2 ei2 => ?_)
      refine J_goto (tgt := 2) hS dX8_begins_24 (by decide) ?_
      refine ih (k + 1) i2 g20 (by omega) (by rw [ei2]; exact nI_1 k) (fun z hz => by rw [eg20, u2_ne z hz]; exact k1 z hz) (fun j hj => ?_)
      rw [eg20]
      unfold u2
      by_cases e : j = k
      · subst e; rw [if_pos ⟨rfl, rfl⟩]
      · rw [if_neg (fun z => e z.2)]; exact k2 j (by omega)
/-- the cells that drawn talks of the reference leave alone -/
def FrX (r : Nat) (g g' : Mm) : Prop := (∀ z, z ≠ r → z ≠ 162 → z ≠ 191 → z ≠ 197 → z ≠ 198 → z ≠ 199 → z ≠ 205 → g' z = g z) ∧ ∀ j, (j < 21 ∨ j = 27 ∨ (33 < j ∧ j ≠ 41 ∧ j ≠ 43 ∧ j ≠ 44)) → g' 162 j = g 162 j
theorem FrX.trans {g g1 g2 : Mm} (a : FrX r g g1) (b : FrX r g1 g2) : FrX r g g2 := ⟨fun z z1 z2 z3 z4 z5 z6 z7 => (b.1 z z1 z2 z3 z4 z5 z6 z7).trans (a.1 z z1 z2 z3 z4 z5 z6 z7), fun j hj => (b.2 j hj).trans (a.2 j hj)⟩
set_option maxRecDepth 10000 in
set_option maxHeartbeats 4000000 in
theorem m_tries {n m y : Nat} {lo : Int32} {p : Nat → Bool} {lw : Option (List Cls)} (hr1 : Rw r) (hw : g 162 3 = nI r) (hrow : RowM g r w bb) (hn : n ≤ 24) (em : g r 6 = nI n) (hy : y < 3) (hp : ThM g r n (nI y) p) (hm2 : m < 2 ^ 31) (hwt : ∀ c, c < 24 → Wt w c) (hlo : g 162 27 = lo) (hRl : RuleM g r lw)
    (q : ∀ g', FrX r g g' → RowM g' r (if 2 ≤ (here p n).length then trK lw lo (fun j => (here p n).getD j 0) (here p n).length y w m else w) bb → Q none g') : Ct l E lay NC 5 0 0 yX8_tries [.ref 162, .int (nI y), .int (nI m)] g Q X := by
  have hr2 : r = 164 ∨ r = 165 := hr1
  have r5 : ¬ Mk 5 := fun z => z.1 rfl
  obtain ⟨L, hL⟩ : ∃ L, L = here p n := ⟨_, rfl⟩
  have hLn : L.length ≤ n := by rw [hL]; exact here_len _ _
  have hLm : ∀ j, j < L.length → L.getD j 0 < 24 ∧ w (56 + 142 * L.getD j 0) = nI y := by
    intro j hj
    obtain ⟨z1, z2⟩ := here_mem.mp (show L.getD j 0 ∈ here p n by rw [← hL]; exact getD_mem hj)
    refine ⟨by omega, ?_⟩
    rw [← hrow.at (i := 56 + 142 * L.getD j 0) (by omega) (Mk_blk (k := 0) (by decide) (by decide))]
    exact ((hp _ z1).mp z2).2
  rw [← hL] at q
  refine Ct_in k_yX8_tries (by decide) rfl (Nat.le_of_ble_eq_true rfl) rfl ?_
  intro S hS hZ hr ht hR
  show J S 0 0 (g) 0 [some (.ref 162), some (.int (nI y)), some (.int (nI m)), none] []
  refine J_aload_n hS dX8_tries_0 rfl ?_
  refine J_iload_n hS dX8_tries_1 rfl ?_
  refine J_callV1 (X' := fun _ _ => False) hS dX8_tries_2 mvX8_344 ob162 rfl (by first | decide | omega) (by decide) (Nat.le_of_ble_eq_true rfl) ⟨Nat.le_trans (by decide) hR.1, Nat.le_trans (by decide) hR.2⟩ (fun _ _ q => q.elim) (m_findHere hr1 hw hn em hp (fun g1 b1 b2 b3 b4 => ?_))
  refine J_iconst (v := 0) hS dX8_tries_5 (by decide) ?_
  refine J_istore_n (lt := fun x3 => [some (.ref 162), some (.int (nI y)), some (.int (nI m)), some (.int x3)]) hS dX8_tries_6 (Nat.le_of_ble_eq_true rfl) (fun _ => rfl) (fun x3 ex3 => ?_)
  rw [← hL] at b3 b4
  have fx1 : FrX r g g1 := ⟨fun z _ z2 _ _ _ _ z7 => b1 z z2 z7, fun j hj => b2 j (by omega)⟩
  suffices H : ∀ (t k : Nat) (i : Int32) (g2 : Mm), k + t = m → i = nI k → FrX r g g2 → g2 162 41 = nI L.length → (∀ j, j < L.length → g2 205 j = nI (L.getD j 0)) → RowM g2 r (if 2 ≤ L.length then trK lw lo (fun j => L.getD j 0) L.length y w k else w) bb → J S 0 0 g2 7 [some (.ref 162), some (.int (nI y)), some (.int (nI m)), some (.int i)] [] by
    exact H m 0 x3 g1 (by omega) ex3 fx1 b3 b4 (by
      have : (if 2 ≤ L.length then trK lw lo (fun j => L.getD j 0) L.length y w 0 else w) = w := by split <;> rfl
      rw [this]; exact hrow.fr (b1 r (by omega) (by omega)))
  intro t
  induction t with
  | zero =>
    intro k i g2 hk hi k1 k2 k3 k4
    have ek : k = m := by omega
    subst ek; subst hi
    refine J_iload_n hS dX8_tries_7 rfl ?_
    refine J_iload_n hS dX8_tries_8 rfl ?_
    refine J_icmp_ge (tgt := 42) hS dX8_tries_9 (by decide) (fun c1 => ?_) (fun c1 => ?_)
    ·
      refine J_vret hS hZ hr dX8_tries_42 (by omega) (by omega) ?_
      exact q g2 k1 k4
    · exact absurd (Int32.le_refl _) c1
  | succ t ih =>
    intro k i g2 hk hi k1 k2 k3 k4
    subst hi
    refine J_iload_n hS dX8_tries_7 rfl ?_
    refine J_iload_n hS dX8_tries_8 rfl ?_
    refine J_icmp_ge (tgt := 42) hS dX8_tries_9 (by decide) (fun c1 => ?_) (fun c1 => ?_)
    · exact absurd c1 (nI_ge (show k < m by omega) (by omega))
    ·
      refine J_aload_n hS dX8_tries_12 rfl ?_
      refine J_getI hS dX8_tries_13 flX8_335 ob162 rfl ?_
      show J S 0 0 (g2) 16 [some (.ref 162), some (.int (nI y)), some (.int (nI m)), some (.int (nI k))] [.int _]
      rw [k2]
      refine J_iconst (v := 2) hS dX8_tries_16 (by decide) ?_
      refine J_icmp_lt (tgt := 42) hS dX8_tries_17 (by decide) (fun c2 => ?_) (fun c2 => ?_)
      · have hl2 : ¬ 2 ≤ L.length := fun z => absurd c2 (nI_nlt z (by omega))
        refine J_vret hS hZ hr dX8_tries_42 (by omega) (by omega) ?_
        rw [if_neg hl2] at k4 q; exact q g2 k1 k4
      · have hl2 : 2 ≤ L.length := by
          rcases Nat.lt_or_ge L.length 2 with z | z
          · exact absurd (nI_lt z (by decide)) c2
          · exact z
        rw [if_pos hl2] at k4
        obtain ⟨u, hu⟩ : ∃ u : Nat, L.length = u + 1 := ⟨L.length - 1, by omega⟩
        obtain ⟨v, hv⟩ : ∃ v : Wr, v = trK lw lo (fun j => L.getD j 0) L.length y w k := ⟨_, rfl⟩
        rw [← hv] at k4
        have kq : Kq w v := by rw [hv]; exact Kq_trK hy k
        have w2 : g2 162 3 = nI r := by rw [k1.2 3 (by decide)]; exact hw
        have hdi : dI (v 0) L.length < L.length := by rw [hu, dI_eq]; exact dr_lt (by omega)
        have hdj : dJ (v 0) L.length < L.length := by
          rw [hu, dJ_eq]
          have := dr_lt (x := adv (adv (v 0))) (n := u) (by omega)
          have := dr_lt (x := adv (v 0)) (n := u + 1) (by omega)
          split <;> omega
        refine J_aload_n hS dX8_tries_20 rfl ?_
        refine J_callV0 (X' := fun _ _ => False) hS dX8_tries_21 mvX8_347 ob162 rfl (by first | decide | omega) (by decide) (Nat.le_of_ble_eq_true rfl) ⟨Nat.le_trans (by decide) hR.1, Nat.le_trans (by decide) hR.2⟩ (fun _ _ q => q.elim) (m_draws (m := u) (cr := fun j => L.getD j 0) hr1 w2 k4 (by omega) (by omega) (by rw [k2, hu]) (fun j hj => k3 j (by omega)) (fun g3 d1 d2 d3 d4 d5 d6 => ?_))
        rw [← hu] at d4 d5
        obtain ⟨ai, hai⟩ : ∃ ai, ai = L.getD (dI (v 0) L.length) 0 := ⟨_, rfl⟩
        obtain ⟨bj, hbj⟩ : ∃ bj, bj = L.getD (dJ (v 0) L.length) 0 := ⟨_, rfl⟩
        rw [← hai] at d4
        rw [← hbj] at d5
        have hA := hLm _ hdi
        have hBb := hLm _ hdj
        rw [← hai] at hA
        rw [← hbj] at hBb
        have w3 : g3 162 3 = nI r := by rw [d2 3 (by decide) (by decide)]; exact w2
        have hkv : Kq w (upd v 0 (adv5 (v 0))) := kq.tr Kq_upd0
        have rul : RuleM g3 r lw := hRl.fr (by rw [d3.no (by decide) r5, hrow.no (by decide) r5]) (fun z z1 z2 => by rw [d1 z (by omega) (by omega) (by omega)]; exact k1.1 z (by omega) (by omega) (by omega) (by omega) (by omega) (by omega) (by omega))
        refine J_aload_n hS dX8_tries_24 rfl ?_
        refine J_aload_n hS dX8_tries_25 rfl ?_
        refine J_getI hS dX8_tries_26 flX8_338 ob162 rfl ?_
        refine J_aload_n hS dX8_tries_29 rfl ?_
        refine J_getI hS dX8_tries_30 flX8_341 ob162 rfl ?_
        show J S 0 0 (g3) 33 [some (.ref 162), some (.int (nI y)), some (.int (nI m)), some (.int (nI k))] [.int _, .int _, .ref 162]
        rw [d4, d5]
        refine J_callV2 (X' := fun _ _ => False) hS dX8_tries_33 mvX8_326 ob162 rfl (by first | decide | omega) (by decide) (Nat.le_of_ble_eq_true rfl) ⟨Nat.le_trans (by decide) hR.1, Nat.le_trans (by decide) hR.2⟩ (fun _ _ q => q.elim) (m_talks (lo := lo) (lw := lw) (y := y) (mt := dM (v 0)) hr1 w3 d3 hA.1 hBb.1 hy ((hkv.hd (r := 0) (by decide)).trans hA.2) (fun _ => dM_lt) d6 (hkv.wt (hwt _ hA.1)) (hkv.wt (hwt _ hBb.1)) (by rw [d2 27 (by decide) (by decide), k1.2 27 (by decide)]; exact hlo) rul (fun g4 tk => ?_))
        obtain ⟨t1, t2, t3, -⟩ := tk
        refine J_iinc (lt := fun i2 => [some (.ref 162), some (.int (nI y)), some (.int (nI m)), some (.int i2)]) (v := 1) hS dX8_tries_36 rfl (by decide) (fun _ => rfl) (fun i2 ei2 => ?_)
        refine J_goto (tgt := 7) hS dX8_tries_39 (by decide) ?_
        refine ih (k + 1) i2 g4 (by omega) (by rw [ei2]; exact nI_1 k) ?_ ?_ (fun j hj => ?_) ?_
        · refine k1.trans ⟨fun z z1 z2 z3 z4 z5 z6 z7 => by rw [t1 z z1 z2 z3 z5 z6]; exact d1 z z1 z2 z4, fun j hj => by rw [t2 j (by omega)]; exact d2 j (by omega) (by omega)⟩
        · rw [t2 41 (by decide), d2 41 (by decide) (by decide)]; exact k2
        · rw [t1 205 (by omega) (by decide) (by decide) (by decide) (by decide), d1 205 (by omega) (by decide) (by decide)]; exact k3 j hj
        · rw [if_pos hl2]
          show RowM g4 r (trS lw lo (fun j => L.getD j 0) L.length y (trK lw lo (fun j => L.getD j 0) L.length y w k)) bb
          rw [← hv]
          unfold trS
          show RowM g4 r (tW6 lw lo (upd v 0 (adv5 (v 0))) (L.getD (dI (v 0) L.length) 0) (L.getD (dJ (v 0) L.length) 0) y (dM (v 0))) bb
          rw [← hai, ← hbj]; exact t3
end RefR


/-! THE CLASS: bytes of the tape -/
def byt (x s : Int32) : Int32 := (x.toUInt32 >>> (s.toUInt32 &&& Int32.toUInt32 31)).toInt32 &&& 255
def shf (k : Nat) : Int32 := if k = 0 then 24 else if k = 1 then 16 else if k = 2 then 8 else if k = 3 then 0 else -8
theorem shf_step {k : Nat} (hk : k < 4) : shf k + -8 = shf (k + 1) := by
  have h : k = 0 ∨ k = 1 ∨ k = 2 ∨ k = 3 := by omega
  rcases h with e | e | e | e <;> subst e <;> decide
theorem shf_lt {k : Nat} (hk : k < 4) : ¬ shf k < 0 := by
  have h : k = 0 ∨ k = 1 ∨ k = 2 ∨ k = 3 := by omega
  rcases h with e | e | e | e <;> subst e <;> decide
section ClsY
variable {l : Launch} {E : Ey} {g : Mm} {Q : Option Value → Mm → Prop} {X : String → Mm → Prop} {h : Nat}
set_option maxRecDepth 10000 in
set_option maxHeartbeats 4000000 in
theorem c_putBytes {n : Nat} {x : Int32} (hn : n + 4 ≤ 300) (en : g 1 12 = nI n) (q : ∀ g', (∀ z, z ≠ 1 → z ≠ 156 → g' z = g z) → (∀ j, j ≠ 12 → g' 1 j = g 1 j) → g' 1 12 = nI (n + 4) → (∀ k, k < 4 → g' 156 (n + k) = byt x (shf k)) → (∀ i, (i < n ∨ n + 4 ≤ i) → g' 156 i = g 156 i) → Q none g') : Ct l E lay NC 0 0 0 yX7_putBytes [.ref 1, .int x] g Q X := by
  refine Ct_in k_yX7_putBytes (by decide) rfl (Nat.le_of_ble_eq_true rfl) rfl ?_
  intro S hS hZ hr ht hR
  show J S 0 0 g 0 [some (.ref 1), some (.int x), none] []
  refine J_bipush (v := 24) hS dX7_putBytes_0 (by decide) ?_
  refine J_istore_n (lt := fun i1 => [some (.ref 1), some (.int x), some (.int i1)]) hS dX7_putBytes_2 (Nat.le_of_ble_eq_true rfl) (fun _ => rfl) (fun i1 ei1 => ?_)
  suffices H : ∀ (r k : Nat) (i : Int32) (g1 : Mm), k + r = 4 → i = shf k → (∀ z, z ≠ 1 → z ≠ 156 → g1 z = g z) → (∀ j, j ≠ 12 → g1 1 j = g 1 j) → g1 1 12 = nI (n + k) → (∀ j, j < k → g1 156 (n + j) = byt x (shf j)) → (∀ i, (i < n ∨ n + k ≤ i) → g1 156 i = g 156 i) → J S 0 0 g1 3 [some (.ref 1), some (.int x), some (.int i)] [] by
    exact H 4 0 i1 g rfl ei1 (fun _ _ _ => rfl) (fun _ _ => rfl) en (fun j hj => absurd hj (by omega)) (fun _ _ => rfl)
  intro r
  induction r with
  | zero =>
    intro k i g1 hk hi f1 j1 n1' t1 o1
    have hk4 : k = 4 := by omega
    subst hk4
    refine J_iload_n hS dX7_putBytes_3 rfl ?_
    refine J_if_lt (tgt := 39) hS dX7_putBytes_4 (by decide) (fun c1 => ?_) (fun c1 => ?_)
    ·
      refine J_vret hS hZ hr dX7_putBytes_39 (by omega) (by omega) ?_
      exact q g1 f1 j1 n1' t1 o1
    · exact absurd (by rw [hi]; decide) c1
  | succ r ih =>
    intro k i g1 hk hi f1 j1 n1' t1 o1
    subst hi
    refine J_iload_n hS dX7_putBytes_3 rfl ?_
    refine J_if_lt (tgt := 39) hS dX7_putBytes_4 (by decide) (fun c1 => ?_) (fun c1 => ?_)
    · exact absurd c1 (shf_lt (by omega))
    ·
      refine J_aload_n hS dX7_putBytes_7 rfl ?_
      refine J_getR (t := 156) hS dX7_putBytes_8 flX7_63 ob1 rfl ?_
      refine J_aload_n hS dX7_putBytes_11 rfl ?_
      refine J_getI hS dX7_putBytes_12 flX7_73 ob1 rfl ?_
      show J S 0 0 g1 15 [some (.ref 1), some (.int x), some (.int (shf k))] [.int _, .ref (156)]
      rw [n1']
      refine J_iload_n hS dX7_putBytes_15 rfl ?_
      refine J_iload_n hS dX7_putBytes_16 rfl ?_
      refine J_iushr hS dX7_putBytes_17 rfl ?_
      refine J_sipush (v := 255) hS dX7_putBytes_18 (by decide) ?_
      refine J_iand hS dX7_putBytes_21 ?_
      refine J_iastN hS (n + k) dX7_putBytes_22 ar156 (by first | rfl | (simp only [n0, n1, n2, n3, n4, n5, n6, n7, n8, n9, n10, n11, n12, n13, n14, n15, n16, n17, n18, n19, n20, n24, n32, n56, n60, n64, n72, n99, n100, n128, n136, n142, n144, n200, n300, n999, n1000, n1500, n3464, nI_add, pk_mul] <;> first | rfl | (congr 1; omega))) (by omega) (by decide) (fun g22 eg22 => ?_)
      refine J_aload_n hS dX7_putBytes_23 rfl ?_
      refine J_dup hS dX7_putBytes_24 rfl ?_
      refine J_getI hS dX7_putBytes_25 flX7_73 ob1 rfl ?_
      show J S 0 0 g22 28 [some (.ref 1), some (.int x), some (.int (shf k))] [.int _, .ref 1]
      rw [show g22 1 12 = nI (n + k) by rw [eg22, u2_ne 1 (by decide)]; exact n1']
      refine J_iconst (v := 1) hS dX7_putBytes_28 (by decide) ?_
      refine J_iadd hS dX7_putBytes_29 ?_
      refine J_putI hS dX7_putBytes_30 fpX7_73 ob1 rfl (fun g30 eg30 => ?_)
      refine J_iinc (lt := fun i2 => [some (.ref 1), some (.int x), some (.int i2)]) (v := (-8)) hS dX7_putBytes_33 rfl (by decide) (fun _ => rfl) (fun i2 ei2 => ?_)
      refine J_goto (tgt := 3) hS dX7_putBytes_36 (by decide) ?_
      refine ih (k + 1) i2 g30 (by omega) (by rw [ei2]; exact shf_step (by omega)) (fun z h1 h2 => by rw [eg30, u2_ne z h1, eg22, u2_ne z h2]; exact f1 z h1 h2) (fun j hj => ?_) ?_ (fun j hj => ?_) (fun i hi => ?_)
      · rw [eg30]; simp only [u2, hj, and_false, if_false]; rw [eg22, u2_ne 1 (by decide)]; exact j1 j hj
      · rw [eg30, u2_self]; exact nI_1 (n + k)
      · rw [eg30, u2_ne 156 (by decide), eg22]
        by_cases e : j = k
        · subst e; rw [u2_self]; rfl
        · simp only [u2, show ¬ (n + j = n + k) by omega, and_false, if_false]; exact t1 j (by omega)
      · rw [eg30, u2_ne 156 (by decide), eg22]
        simp only [u2, show ¬ (i = n + k) by omega, and_false, if_false]; exact o1 i (by omega)
end ClsY


/-! THE CLASS: of whom a child learnt -/
/-- the heaviest so far, and how much; none: -1 -/
def ftB (f : Nat → Int32) : Nat → Int32 × Int32
  | 0 => (-1, 0)
  | k + 1 => if (ftB f k).2 < f k then (nI k, f k) else ftB f k
/-- how often the child b learnt x of the child j, in the first m notes -/
def ftN (g : Mm) (sy : Nat → Nat) (b x : Int32) (j m : Nat) : Nat := (here (fun t => decide ((g 144 (t * 19 + 2) = b ∧ g 144 (t * 19 + 16) = x) ∧ sy t = j)) m).length
theorem ftN_le {g : Mm} {sy : Nat → Nat} {b x : Int32} {j m : Nat} : ftN g sy b x j m ≤ m := here_len _ _
theorem ftN_t {g : Mm} {sy : Nat → Nat} {b x : Int32} {j m : Nat} (h : (g 144 (m * 19 + 2) = b ∧ g 144 (m * 19 + 16) = x) ∧ sy m = j) : ftN g sy b x j (m + 1) = ftN g sy b x j m + 1 := by
  unfold ftN; rw [here_succ, decide_eq_true h]; simp
theorem ftN_f {g : Mm} {sy : Nat → Nat} {b x : Int32} {j m : Nat} (h : ¬ ((g 144 (m * 19 + 2) = b ∧ g 144 (m * 19 + 16) = x) ∧ sy m = j)) : ftN g sy b x j (m + 1) = ftN g sy b x j m := by
  unfold ftN; rw [here_succ, decide_eq_false h]; simp
section ClsV
variable {l : Launch} {E : Ey} {g : Mm} {Q : Option Value → Mm → Prop} {X : String → Mm → Prop} {h : Nat}
set_option maxRecDepth 10000 in
set_option maxHeartbeats 4000000 in
theorem c_findTeacher {m : Nat} {sy : Nat → Nat} {b x : Int32} (hm : m ≤ 1500) (em : g 143 0 = nI m) (hsy : ∀ t, t < m → sy t < 24 ∧ g 144 (t * 19 + 1) = nI (sy t)) (q : ∀ g', (∀ z, z ≠ 158 → g' z = g z) → Q (some (.int (ftB (fun j => nI (ftN g sy b x j m)) 24).1)) g') : Ct l E lay NC 2 0 0 yX7_findTeacher [.ref 1, .int b, .int x] g Q X := by
  refine Ct_in k_yX7_findTeacher (by decide) rfl (Nat.le_of_ble_eq_true rfl) rfl ?_
  intro S hS hZ hr ht hR
  show J S 0 0 g 0 [some (.ref 1), some (.int b), some (.int x), none, none, none] []
  refine J_iconst (v := 0) hS dX7_findTeacher_0 (by decide) ?_
  refine J_istore_n (lt := fun i1 => [some (.ref 1), some (.int b), some (.int x), some (.int i1), none, none]) hS dX7_findTeacher_1 (Nat.le_of_ble_eq_true rfl) (fun _ => rfl) (fun i1 ei1 => ?_)
  have last : ∀ g2 : Mm, (∀ z, z ≠ 158 → g2 z = g z) → (∀ j, j < 24 → g2 158 j = nI (ftN g sy b x j m)) → ∀ (r k : Nat) (a v i : Int32), k + r = 24 → i = nI k → (a, v) = ftB (fun j => nI (ftN g sy b x j m)) k → J S 0 0 g2 79 [some (.ref 1), some (.int b), some (.int x), some (.int a), some (.int v), some (.int i)] [] := by
    intro g2 f2 t2 r
    induction r with
    | zero =>
      intro k a v i hk hi hb
      have hk4 : k = 24 := by omega
      subst hk4
      refine J_iload hS dX7_findTeacher_79 rfl ?_
      refine J_bipush (v := 24) hS dX7_findTeacher_81 (by decide) ?_
      refine J_icmp_ge (tgt := 116) hS dX7_findTeacher_83 (by decide) (fun c1 => ?_) (fun c1 => ?_)
      ·
        refine J_iload_n hS dX7_findTeacher_116 rfl ?_
        refine J_iret hS hZ hr dX7_findTeacher_117 (by omega) (by omega) ?_
        rw [show a = (ftB (fun j => nI (ftN g sy b x j m)) 24).1 by rw [← hb]]; exact q g2 f2
      · exact absurd (by rw [hi]; decide) c1
    | succ r ih =>
      intro k a v i hk hi hb
      subst hi
      have hk24 : k < 24 := by omega
      have hst : ftB (fun j => nI (ftN g sy b x j m)) (k + 1) = if v < nI (ftN g sy b x k m) then (nI k, nI (ftN g sy b x k m)) else (a, v) := by
        rw [hb]
        show (if (ftB (fun j => nI (ftN g sy b x j m)) k).2 < nI (ftN g sy b x k m) then (nI k, nI (ftN g sy b x k m)) else ftB (fun j => nI (ftN g sy b x j m)) k) = _
        rw [← hb]
      refine J_iload hS dX7_findTeacher_79 rfl ?_
      refine J_bipush (v := 24) hS dX7_findTeacher_81 (by decide) ?_
      refine J_icmp_ge (tgt := 116) hS dX7_findTeacher_83 (by decide) (fun c1 => ?_) (fun c1 => ?_)
      · exact absurd c1 (nI_ge hk24 (by decide))
      ·
        refine J_aload_n hS dX7_findTeacher_86 rfl ?_
        refine J_getR (t := 158) hS dX7_findTeacher_87 flX7_70 ob1 rfl ?_
        refine J_iload hS dX7_findTeacher_90 rfl ?_
        refine J_ialdN hS (k) dX7_findTeacher_92 ar158 (by first | rfl | (simp only [n0, n1, n2, n3, n4, n5, n6, n7, n8, n9, n10, n11, n12, n13, n14, n15, n16, n17, n18, n19, n20, n24, n32, n56, n60, n64, n72, n99, n100, n128, n136, n142, n144, n200, n300, n999, n1000, n1500, n3464, nI_add, pk_mul] <;> first | rfl | (congr 1; omega))) hk24 (by decide) ?_
        show J S 0 0 g2 93 [some (.ref 1), some (.int b), some (.int x), some (.int a), some (.int v), some (.int (nI k))] [.int _]
        rw [t2 k hk24]
        refine J_iload hS dX7_findTeacher_93 rfl ?_
        refine J_icmp_le (tgt := 110) hS dX7_findTeacher_95 (by decide) (fun c2 => ?_) (fun c2 => ?_)
        ·
          refine J_iinc (lt := fun i2 => [some (.ref 1), some (.int b), some (.int x), some (.int a), some (.int v), some (.int i2)]) (v := 1) hS dX7_findTeacher_110 rfl (by decide) (fun _ => rfl) (fun i2 ei2 => ?_)
          refine J_goto (tgt := 79) hS dX7_findTeacher_113 (by decide) ?_
          refine ih (k + 1) a v i2 (by omega) (by rw [ei2]; exact nI_1 k) ?_
          rw [hst, if_neg (Int32.not_lt.mpr c2)]
        ·
          refine J_aload_n hS dX7_findTeacher_98 rfl ?_
          refine J_getR (t := 158) hS dX7_findTeacher_99 flX7_70 ob1 rfl ?_
          refine J_iload hS dX7_findTeacher_102 rfl ?_
          refine J_ialdN hS (k) dX7_findTeacher_104 ar158 (by first | rfl | (simp only [n0, n1, n2, n3, n4, n5, n6, n7, n8, n9, n10, n11, n12, n13, n14, n15, n16, n17, n18, n19, n20, n24, n32, n56, n60, n64, n72, n99, n100, n128, n136, n142, n144, n200, n300, n999, n1000, n1500, n3464, nI_add, pk_mul] <;> first | rfl | (congr 1; omega))) hk24 (by decide) ?_
          show J S 0 0 g2 105 [some (.ref 1), some (.int b), some (.int x), some (.int a), some (.int v), some (.int (nI k))] [.int _]
          rw [t2 k hk24]
          refine J_istore (lt := fun v2 => [some (.ref 1), some (.int b), some (.int x), some (.int a), some (.int v2), some (.int (nI k))]) hS dX7_findTeacher_105 (Nat.le_of_ble_eq_true rfl) (fun _ => rfl) (fun v2 ev2 => ?_)
          refine J_iload hS dX7_findTeacher_107 rfl ?_
          refine J_istore_n (lt := fun a2 => [some (.ref 1), some (.int b), some (.int x), some (.int a2), some (.int v2), some (.int (nI k))]) hS dX7_findTeacher_109 (Nat.le_of_ble_eq_true rfl) (fun _ => rfl) (fun a2 ea2 => ?_)
          refine J_iinc (lt := fun i2 => [some (.ref 1), some (.int b), some (.int x), some (.int a2), some (.int v2), some (.int i2)]) (v := 1) hS dX7_findTeacher_110 rfl (by decide) (fun _ => rfl) (fun i2 ei2 => ?_)
          refine J_goto (tgt := 79) hS dX7_findTeacher_113 (by decide) ?_
          refine ih (k + 1) a2 v2 i2 (by omega) (by rw [ei2]; exact nI_1 k) ?_
          rw [hst, if_pos (Int32.not_le.mp c2), ev2, ea2]
  have mid : ∀ (r t : Nat) (i : Int32) (g1 : Mm), t + r = m → i = nI t → (∀ z, z ≠ 158 → g1 z = g z) → (∀ j, j < 24 → g1 158 j = nI (ftN g sy b x j t)) → J S 0 0 g1 23 [some (.ref 1), some (.int b), some (.int x), some (.int i), none, none] [] := by
    intro r
    induction r with
    | zero =>
      intro t i g1 ht1 hi f1 t1
      have htm : t = m := by omega
      subst htm
      refine J_iload_n hS dX7_findTeacher_23 rfl ?_
      refine J_aload_n hS dX7_findTeacher_24 rfl ?_
      refine J_getR (t := 143) hS dX7_findTeacher_25 flX7_38 ob1 rfl ?_
      refine J_getI hS dX7_findTeacher_28 flX7_214 ob143 rfl ?_
      show J S 0 0 g1 31 [some (.ref 1), some (.int b), some (.int x), some (.int i), none, none] [.int _, .int i]
      rw [f1 143 (by decide), em]
      refine J_icmp_ge (tgt := 71) hS dX7_findTeacher_31 (by decide) (fun c1 => ?_) (fun c1 => ?_)
      ·
        refine J_iconst (v := (-1)) hS dX7_findTeacher_71 (by decide) ?_
        refine J_istore_n (lt := fun a1 => [some (.ref 1), some (.int b), some (.int x), some (.int a1), none, none]) hS dX7_findTeacher_72 (Nat.le_of_ble_eq_true rfl) (fun _ => rfl) (fun a1 ea1 => ?_)
        refine J_iconst (v := 0) hS dX7_findTeacher_73 (by decide) ?_
        refine J_istore (lt := fun v1 => [some (.ref 1), some (.int b), some (.int x), some (.int a1), some (.int v1), none]) hS dX7_findTeacher_74 (Nat.le_of_ble_eq_true rfl) (fun _ => rfl) (fun v1 ev1 => ?_)
        refine J_iconst (v := 0) hS dX7_findTeacher_76 (by decide) ?_
        refine J_istore (lt := fun k1 => [some (.ref 1), some (.int b), some (.int x), some (.int a1), some (.int v1), some (.int k1)]) hS dX7_findTeacher_77 (Nat.le_of_ble_eq_true rfl) (fun _ => rfl) (fun k1 ek1 => ?_)
        exact last g1 f1 t1 24 0 a1 v1 k1 rfl ek1 (by rw [ea1, ev1]; rfl)
      · exact absurd (by rw [hi]; exact Int32.le_refl _) c1
    | succ r ih =>
      intro t i g1 ht1 hi f1 t1
      subst hi
      have htm : t < m := by omega
      obtain ⟨hs1, hs2⟩ := hsy t htm
      refine J_iload_n hS dX7_findTeacher_23 rfl ?_
      refine J_aload_n hS dX7_findTeacher_24 rfl ?_
      refine J_getR (t := 143) hS dX7_findTeacher_25 flX7_38 ob1 rfl ?_
      refine J_getI hS dX7_findTeacher_28 flX7_214 ob143 rfl ?_
      show J S 0 0 g1 31 [some (.ref 1), some (.int b), some (.int x), some (.int (nI t)), none, none] [.int _, .int (nI t)]
      rw [f1 143 (by decide), em]
      refine J_icmp_ge (tgt := 71) hS dX7_findTeacher_31 (by decide) (fun c1 => ?_) (fun c1 => ?_)
      · exact absurd c1 (nI_ge htm (by omega))
      ·
        refine J_aload_n hS dX7_findTeacher_34 rfl ?_
        refine J_getR (t := 143) hS dX7_findTeacher_35 flX7_38 ob1 rfl ?_
        refine J_iload_n hS dX7_findTeacher_38 rfl ?_
        refine J_iload_n hS dX7_findTeacher_39 rfl ?_
        refine J_iload_n hS dX7_findTeacher_40 rfl ?_
        refine J_callV3 (X' := fun _ _ => False) hS dX7_findTeacher_41 mvX7_265 ob143 rfl (by decide) (by decide) (Nat.le_of_ble_eq_true rfl) hR (fun _ _ q => q.elim) (c_isLearnt (show t < 1500 by omega) ?_)
        show J S 0 0 g1 44 [some (.ref 1), some (.int b), some (.int x), some (.int (nI t)), none, none] [.int _]
        rw [f1 144 (by decide)]
        refine J_if_eq (tgt := 65) hS dX7_findTeacher_44 (by decide) (fun c2 => ?_) (fun c2 => ?_)
        · have hno : ¬ (g 144 (t * 19 + 2) = b ∧ g 144 (t * 19 + 16) = x) := fun z => by rw [b01_t z] at c2; exact absurd c2 (by decide)
          refine J_iinc (lt := fun i2 => [some (.ref 1), some (.int b), some (.int x), some (.int i2), none, none]) (v := 1) hS dX7_findTeacher_65 rfl (by decide) (fun _ => rfl) (fun i2 ei2 => ?_)
          refine J_goto (tgt := 23) hS dX7_findTeacher_68 (by decide) ?_
          exact ih (t + 1) i2 g1 (by omega) (by rw [ei2]; exact nI_1 t) f1 (fun j hj => by rw [ftN_f (fun z => hno z.1)]; exact t1 j hj)
        · have hyes : g 144 (t * 19 + 2) = b ∧ g 144 (t * 19 + 16) = x := Classical.byContradiction (fun z => c2 (b01_f z))
          refine J_aload_n hS dX7_findTeacher_47 rfl ?_
          refine J_getR (t := 158) hS dX7_findTeacher_48 flX7_70 ob1 rfl ?_
          refine J_aload_n hS dX7_findTeacher_51 rfl ?_
          refine J_getR (t := 143) hS dX7_findTeacher_52 flX7_38 ob1 rfl ?_
          refine J_iload_n hS dX7_findTeacher_55 rfl ?_
          refine J_iconst (v := 1) hS dX7_findTeacher_56 (by decide) ?_
          refine J_callV2 (X' := fun _ _ => False) hS dX7_findTeacher_57 mvX7_248 ob143 rfl (by decide) (by decide) (Nat.le_of_ble_eq_true rfl) hR (fun _ _ q => q.elim) (c_at (c := 1) (show t < 1500 by omega) (by decide) ?_)
          show J S 0 0 g1 60 [some (.ref 1), some (.int b), some (.int x), some (.int (nI t)), none, none] [.int _, .ref (158)]
          rw [f1 144 (by decide), hs2]
          refine J_dup2 hS dX7_findTeacher_60 rfl rfl ?_
          refine J_ialdN hS (sy t) dX7_findTeacher_61 ar158 (by first | rfl | (simp only [n0, n1, n2, n3, n4, n5, n6, n7, n8, n9, n10, n11, n12, n13, n14, n15, n16, n17, n18, n19, n20, n24, n32, n56, n60, n64, n72, n99, n100, n128, n136, n142, n144, n200, n300, n999, n1000, n1500, n3464, nI_add, pk_mul] <;> first | rfl | (congr 1; omega))) hs1 (by decide) ?_
          show J S 0 0 g1 62 [some (.ref 1), some (.int b), some (.int x), some (.int (nI t)), none, none] [.int _, .int _, .ref (158)]
          rw [t1 _ hs1]
          refine J_iconst (v := 1) hS dX7_findTeacher_62 (by decide) ?_
          refine J_iadd hS dX7_findTeacher_63 ?_
          refine J_iastN hS (sy t) dX7_findTeacher_64 ar158 (by first | rfl | (simp only [n0, n1, n2, n3, n4, n5, n6, n7, n8, n9, n10, n11, n12, n13, n14, n15, n16, n17, n18, n19, n20, n24, n32, n56, n60, n64, n72, n99, n100, n128, n136, n142, n144, n200, n300, n999, n1000, n1500, n3464, nI_add, pk_mul] <;> first | rfl | (congr 1; omega))) hs1 (by decide) (fun g64 eg64 => ?_)
          refine J_iinc (lt := fun i2 => [some (.ref 1), some (.int b), some (.int x), some (.int i2), none, none]) (v := 1) hS dX7_findTeacher_65 rfl (by decide) (fun _ => rfl) (fun i2 ei2 => ?_)
          refine J_goto (tgt := 23) hS dX7_findTeacher_68 (by decide) ?_
          refine ih (t + 1) i2 g64 (by omega) (by rw [ei2]; exact nI_1 t) (fun z hz => by rw [eg64, u2_ne z hz]; exact f1 z hz) (fun j hj => ?_)
          by_cases e : j = sy t
          · subst e
            rw [eg64, u2_self, ftN_t ⟨hyes, rfl⟩]; exact nI_1 _
          · rw [eg64, ftN_f (fun z => e z.2.symm)]; simp only [u2, e, and_false, if_false]; exact t1 j hj
  have fst : ∀ (r k : Nat) (i : Int32) (g1 : Mm), k + r = 24 → i = nI k → (∀ z, z ≠ 158 → g1 z = g z) → (∀ j, j < k → g1 158 j = 0) → J S 0 0 g1 2 [some (.ref 1), some (.int b), some (.int x), some (.int i), none, none] [] := by
    intro r
    induction r with
    | zero =>
      intro k i g1 hk hi f1 t1
      have hk4 : k = 24 := by omega
      subst hk4
      refine J_iload_n hS dX7_findTeacher_2 rfl ?_
      refine J_bipush (v := 24) hS dX7_findTeacher_3 (by decide) ?_
      refine J_icmp_ge (tgt := 21) hS dX7_findTeacher_5 (by decide) (fun c1 => ?_) (fun c1 => ?_)
      ·
        refine J_iconst (v := 0) hS dX7_findTeacher_21 (by decide) ?_
        refine J_istore_n (lt := fun i2 => [some (.ref 1), some (.int b), some (.int x), some (.int i2), none, none]) hS dX7_findTeacher_22 (Nat.le_of_ble_eq_true rfl) (fun _ => rfl) (fun i2 ei2 => ?_)
        exact mid m 0 i2 g1 (by omega) ei2 f1 (fun j hj => by rw [t1 j hj]; rfl)
      · exact absurd (by rw [hi]; decide) c1
    | succ r ih =>
      intro k i g1 hk hi f1 t1
      subst hi
      have hk24 : k < 24 := by omega
      refine J_iload_n hS dX7_findTeacher_2 rfl ?_
      refine J_bipush (v := 24) hS dX7_findTeacher_3 (by decide) ?_
      refine J_icmp_ge (tgt := 21) hS dX7_findTeacher_5 (by decide) (fun c1 => ?_) (fun c1 => ?_)
      · exact absurd c1 (nI_ge hk24 (by decide))
      ·
        refine J_aload_n hS dX7_findTeacher_8 rfl ?_
        refine J_getR (t := 158) hS dX7_findTeacher_9 flX7_70 ob1 rfl ?_
        refine J_iload_n hS dX7_findTeacher_12 rfl ?_
        refine J_iconst (v := 0) hS dX7_findTeacher_13 (by decide) ?_
        refine J_iastN hS (k) dX7_findTeacher_14 ar158 (by first | rfl | (simp only [n0, n1, n2, n3, n4, n5, n6, n7, n8, n9, n10, n11, n12, n13, n14, n15, n16, n17, n18, n19, n20, n24, n32, n56, n60, n64, n72, n99, n100, n128, n136, n142, n144, n200, n300, n999, n1000, n1500, n3464, nI_add, pk_mul] <;> first | rfl | (congr 1; omega))) hk24 (by decide) (fun g14 eg14 => ?_)
        refine J_iinc (lt := fun i2 => [some (.ref 1), some (.int b), some (.int x), some (.int i2), none, none]) (v := 1) hS dX7_findTeacher_15 rfl (by decide) (fun _ => rfl) (fun i2 ei2 => ?_)
        refine J_goto (tgt := 2) hS dX7_findTeacher_18 (by decide) ?_
        refine ih (k + 1) i2 g14 (by omega) (by rw [ei2]; exact nI_1 k) (fun z hz => by rw [eg14, u2_ne z hz]; exact f1 z hz) (fun j hj => ?_)
        rw [eg14]
        by_cases e : j = k
        · subst e; exact u2_self
        · simp only [u2, e, and_false, if_false]; exact t1 j (by omega)
  exact fst 24 0 i1 g rfl ei1 (fun _ _ => rfl) (fun j hj => absurd hj (by omega))
end ClsV


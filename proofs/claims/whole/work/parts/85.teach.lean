/-! THE REFERENCE: who taught -/
def ftW (nn : Wr) (sy : Nat → Nat) (b x : Int32) (j m : Nat) : Nat := (here (fun t => decide ((nn (t * 19 + 2) = b ∧ nn (t * 19 + 16) = x) ∧ sy t = j)) m).length
theorem ftW_le {nn : Wr} {sy : Nat → Nat} {b x : Int32} {j m : Nat} : ftW nn sy b x j m ≤ m := here_len _ _
theorem ftW_t {nn : Wr} {sy : Nat → Nat} {b x : Int32} {j m : Nat} (h : (nn (m * 19 + 2) = b ∧ nn (m * 19 + 16) = x) ∧ sy m = j) : ftW nn sy b x j (m + 1) = ftW nn sy b x j m + 1 := by
  unfold ftW; rw [here_succ, decide_eq_true h, if_pos rfl, List.length_append]; rfl
theorem ftW_f {nn : Wr} {sy : Nat → Nat} {b x : Int32} {j m : Nat} (h : ¬ ((nn (m * 19 + 2) = b ∧ nn (m * 19 + 16) = x) ∧ sy m = j)) : ftW nn sy b x j (m + 1) = ftW nn sy b x j m := by
  unfold ftW; rw [here_succ, decide_eq_false h, if_neg (by decide), List.append_nil]
theorem ftB_hvs {f : Nat → Int32} : ∀ k, ftB f k = hvs f k
  | 0 => rfl
  | k + 1 => by rw [hvs_step, ← ftB_hvs k]; rfl
theorem ftB_bst {f : Nat → Int32} {n : Nat} (h : 0 < n) (h0 : 0 ≤ f (bst f n)) : (ftB f n).1 = if f (bst f n) = 0 then -1 else nI (bst f n) := by
  rw [ftB_hvs, hvs_end h]; unfold hvy
  by_cases c : f (bst f n) = 0
  · rw [if_pos c, c, if_neg (by decide)]
  · rw [if_neg c, if_pos ?_]
    rcases Int32.lt_or_eq_of_le h0 with z | z
    · exact z
    · exact absurd z.symm c
/-- the bits that are 0, below 24 -/
def cb (a : Int32) (k : Nat) : Bool := a.toBitVec.getLsbD k
theorem cb_sh (a : Int32) : ∀ k, k < 24 → ((a >>> (nI k &&& 31)) &&& 1 = if cb a k = true then 1 else 0) := by
  intro k hk
  have e1 : (a >>> (nI k &&& 31)).toBitVec = a.toBitVec.sshiftRight k := by
    show a.toBitVec.sshiftRight' ((nI k &&& 31).toBitVec.smod 32) = _
    show a.toBitVec.sshiftRight ((nI k &&& 31).toBitVec.smod 32).toNat = _
    have z : ∀ k, k < 24 → ((nI k &&& 31).toBitVec.smod 32).toNat = k := by decide
    rw [z k hk]
  apply Int32.toBitVec_inj.mp
  simp only [Int32.toBitVec_and]
  rw [e1]
  apply BitVec.eq_of_getLsbD_eq
  intro i hi
  rw [BitVec.getLsbD_and, BitVec.getLsbD_sshiftRight]
  have o : ∀ i, i < 32 → (1 : Int32).toBitVec.getLsbD i = decide (i = 0) := by decide
  have o0 : ∀ i, i < 32 → (0 : Int32).toBitVec.getLsbD i = false := by decide
  rw [o i hi]
  unfold cb
  by_cases c : i = 0
  · subst c
    rw [if_pos (show k + 0 < 32 by omega), Nat.add_zero, show (!decide (32 ≤ 0)) = true from rfl, Bool.true_and, show decide ((0 : Nat) = 0) = true from rfl, Bool.and_true]
    cases h : a.toBitVec.getLsbD k
    · rfl
    · rfl
  · have : decide (i = 0) = false := decide_eq_false c
    rw [this, Bool.and_false]
    split
    · rw [o i hi, this]
    · rw [o0 i hi]
theorem cb_or (a : Int32) {k : Nat} (hk : k < 24) : ∀ j, j < 24 → cb (a ||| (1 <<< (nI k &&& 31))) j = (cb a j || decide (j = k)) := by
  intro j hj
  unfold cb
  rw [Int32.toBitVec_or, BitVec.getLsbD_or]
  congr 1
  have z : ∀ k, k < 24 → ∀ j, j < 24 → ((1 : Int32) <<< (nI k &&& 31)).toBitVec.getLsbD j = decide (j = k) := by decide +kernel
  exact z k hk j hj
theorem here_rem {p : Nat → Bool} {k : Nat} (hp : p k = true) : ∀ n, (here (fun j => p j && !decide (j = k)) n).length + (if k < n then 1 else 0) = (here p n).length
  | 0 => by simp [here]
  | n + 1 => by
    have ih := here_rem hp n
    rw [here_succ, here_succ]
    by_cases c : n = k
    · subst c
      rw [if_neg (by omega)] at ih
      rw [hp, if_pos (show n < n + 1 by omega)]
      simp only [decide_true, Bool.not_true, Bool.and_false, Bool.false_eq_true, if_false, List.append_nil, if_true, List.length_append, List.length_cons, List.length_nil]
      omega
    · have e : (p n && !decide (n = k)) = p n := by simp [c]
      rw [e]
      rcases Nat.lt_or_ge k n with z | z
      · rw [if_pos z] at ih
        rw [if_pos (show k < n + 1 by omega)]
        simp only [List.length_append]; omega
      · rw [if_neg (by omega)] at ih
        rw [if_neg (show ¬ k < n + 1 by omega)]
        simp only [List.length_append]; omega
def zr (a : Int32) : Nat := (here (fun j => !cb a j) 24).length
theorem zr_or {a : Int32} {k : Nat} (hk : k < 24) (h : cb a k = false) : zr (a ||| (1 <<< (nI k &&& 31))) + 1 = zr a := by
  have e := here_rem (p := fun j => !cb a j) (k := k) (by simp [h]) 24
  rw [if_pos hk] at e
  unfold zr
  rw [← e]
  congr 2
  refine here_congr (fun j hj => ?_)
  rw [cb_or a hk j hj]; simp
section RefU
variable {l : Launch} {E : Ey} {g : Mm} {Q : Option Value → Mm → Prop} {X : String → Mm → Prop} {w : Wr} {n : Nat}
set_option maxRecDepth 10000 in
set_option maxHeartbeats 4000000 in
theorem m_teacherOf {m : Nat} {nn : Wr} {sy : Nat → Nat} {b x : Int32} (hm : m ≤ 1500) (em : g 162 37 = nI m) (hN : NtM g nn m) (hsy : ∀ t, t < m → sy t < 24 ∧ nn (t * 19 + 1) = nI (sy t)) (q : ∀ g', (∀ z, z ≠ 216 → g' z = g z) → Q (some (.int (ftB (fun j => nI (ftW nn sy b x j m)) 24).1)) g') : Ct l E lay NC 0 0 0 yX8_teacherOf [.ref 162, .int b, .int x] g Q X := by
  refine Ct_in k_yX8_teacherOf (by decide) rfl (Nat.le_of_ble_eq_true rfl) rfl ?_
  intro S hS hZ hr ht hR
  show J S 0 0 (g) 0 [some (.ref 162), some (.int b), some (.int x), none, none] []
  obtain ⟨F, hF⟩ : ∃ F : Nat → Int32, F = fun j => nI (ftW nn sy b x j m) := ⟨_, rfl⟩
  have F0 : ∀ j, 0 ≤ F j := fun j => by rw [hF]; have := ftW_le (nn := nn) (sy := sy) (b := b) (x := x) (j := j) (m := m); exact Int32.not_lt.mp (nI_npos (by omega))
  have last : ∀ g2 : Mm, (∀ z, z ≠ 216 → g2 z = g z) → (∀ j, j < 24 → g2 216 j = F j) → ∀ (r k : Nat) (a i : Int32), k + r = 24 → 1 ≤ k → i = nI k → a = nI (bst F k) → J S 0 0 g2 93 [some (.ref 162), some (.int b), some (.int x), some (.int a), some (.int i)] [] := by
    intro g2 f2 t2 r
    induction r with
    | zero =>
      intro k a i hk h1 hi ha
      have hk4 : k = 24 := by omega
      subst hk4; subst hi; subst ha
      have hb := bst_lt (f := F) (n := 24) (by decide)
      rw [← hF, ftB_bst (by decide) (F0 _)] at q
      refine J_iload hS dX8_teacherOf_93 rfl ?_
      refine J_bipush (v := 24) hS dX8_teacherOf_95 (by decide) ?_
      refine J_icmp_ge (tgt := 125) hS dX8_teacherOf_97 (by decide) (fun c1 => ?_) (fun c1 => ?_)
      ·
        refine J_aload_n hS dX8_teacherOf_125 rfl ?_
        refine J_getR (t := 216) hS dX8_teacherOf_126 flX8_99 ob162 rfl ?_
        refine J_iload_n hS dX8_teacherOf_129 rfl ?_
        refine J_ialdN hS (bst F 24) dX8_teacherOf_130 (show Ar lay NC .int 216 24 from arM 53 24 (by decide) (by decide) rfl) (by first | rfl | (simp only [n0, n1, n2, n3, n4, n5, n6, n7, n8, n9, n10, n11, n12, n13, n14, n15, n16, n17, n18, n19, n20, n24, n32, n56, n60, n64, n72, n99, n100, n128, n136, n142, n144, n200, n300, n999, n1000, n1500, n3464, nI_add, pk_mul] <;> first | rfl | (congr 1; omega))) hb (by decide) ?_
        show J S 0 0 (g2) 131 [some (.ref 162), some (.int b), some (.int x), some (.int (nI (bst F 24))), some (.int (nI 24))] [.int _]
        rw [t2 _ hb]
        refine J_if_ne (tgt := 138) hS dX8_teacherOf_131 (by decide) (fun c2 => ?_) (fun c2 => ?_)
        ·
          refine J_iload_n hS dX8_teacherOf_138 rfl ?_
          refine J_iret hS hZ hr dX8_teacherOf_139 (by omega) (by omega) ?_
          rw [if_neg c2] at q; exact q g2 f2
        ·
          refine J_iconst (v := (-1)) hS dX8_teacherOf_134 (by decide) ?_
          refine J_goto (tgt := 139) hS dX8_teacherOf_135 (by decide) ?_
          refine J_iret hS hZ hr dX8_teacherOf_139 (by omega) (by omega) ?_
          rw [if_pos c2] at q; exact q g2 f2
      · exact absurd (Int32.le_refl _) c1
    | succ r ih =>
      intro k a i hk h1 hi ha
      subst hi; subst ha
      have hk24 : k < 24 := by omega
      have hb := bst_lt (f := F) (n := k) h1
      have hst : bst F (k + 1) = if F (bst F k) < F k then k else bst F k := rfl
      refine J_iload hS dX8_teacherOf_93 rfl ?_
      refine J_bipush (v := 24) hS dX8_teacherOf_95 (by decide) ?_
      refine J_icmp_ge (tgt := 125) hS dX8_teacherOf_97 (by decide) (fun c1 => ?_) (fun c1 => ?_)
      · exact absurd c1 (nI_ge hk24 (by decide))
      ·
        refine J_aload_n hS dX8_teacherOf_100 rfl ?_
        refine J_getR (t := 216) hS dX8_teacherOf_101 flX8_99 ob162 rfl ?_
        refine J_iload hS dX8_teacherOf_104 rfl ?_
        refine J_ialdN hS (k) dX8_teacherOf_106 (show Ar lay NC .int 216 24 from arM 53 24 (by decide) (by decide) rfl) (by first | rfl | (simp only [n0, n1, n2, n3, n4, n5, n6, n7, n8, n9, n10, n11, n12, n13, n14, n15, n16, n17, n18, n19, n20, n24, n32, n56, n60, n64, n72, n99, n100, n128, n136, n142, n144, n200, n300, n999, n1000, n1500, n3464, nI_add, pk_mul] <;> first | rfl | (congr 1; omega))) hk24 (by decide) ?_
        refine J_aload_n hS dX8_teacherOf_107 rfl ?_
        refine J_getR (t := 216) hS dX8_teacherOf_108 flX8_99 ob162 rfl ?_
        refine J_iload_n hS dX8_teacherOf_111 rfl ?_
        refine J_ialdN hS (bst F k) dX8_teacherOf_112 (show Ar lay NC .int 216 24 from arM 53 24 (by decide) (by decide) rfl) (by first | rfl | (simp only [n0, n1, n2, n3, n4, n5, n6, n7, n8, n9, n10, n11, n12, n13, n14, n15, n16, n17, n18, n19, n20, n24, n32, n56, n60, n64, n72, n99, n100, n128, n136, n142, n144, n200, n300, n999, n1000, n1500, n3464, nI_add, pk_mul] <;> first | rfl | (congr 1; omega))) (by omega) (by decide) ?_
        show J S 0 0 (g2) 113 [some (.ref 162), some (.int b), some (.int x), some (.int (nI (bst F k))), some (.int (nI k))] [.int _, .int _]
        rw [t2 k hk24, t2 _ (by omega)]
        refine J_icmp_le (tgt := 119) hS dX8_teacherOf_113 (by decide) (fun c2 => ?_) (fun c2 => ?_)
        ·
          refine J_iinc (lt := fun i2 => [some (.ref 162), some (.int b), some (.int x), some (.int (nI (bst F k))), some (.int i2)]) (v := 1) hS dX8_teacherOf_119 rfl (by decide) (fun _ => rfl) (fun i2 ei2 => ?_)
          refine J_goto (tgt := 93) hS dX8_teacherOf_122 (by decide) ?_
          exact ih (k + 1) _ i2 (by omega) (by omega) (by rw [ei2]; exact nI_1 k) (by rw [hst, if_neg (Int32.not_lt.mpr c2)])
        ·
          refine J_iload hS dX8_teacherOf_116 rfl ?_
          refine J_istore_n (lt := fun a2 => [some (.ref 162), some (.int b), some (.int x), some (.int a2), some (.int (nI k))]) hS dX8_teacherOf_118 (Nat.le_of_ble_eq_true rfl) (fun _ => rfl) (fun a2 ea2 => ?_)
          refine J_iinc (lt := fun i2 => [some (.ref 162), some (.int b), some (.int x), some (.int a2), some (.int i2)]) (v := 1) hS dX8_teacherOf_119 rfl (by decide) (fun _ => rfl) (fun i2 ei2 => ?_)
          refine J_goto (tgt := 93) hS dX8_teacherOf_122 (by decide) ?_
          exact ih (k + 1) a2 i2 (by omega) (by omega) (by rw [ei2]; exact nI_1 k) (by rw [hst, if_pos (Int32.not_le.mp c2)]; exact ea2)
  have mid : ∀ (r t : Nat) (i : Int32) (g1 : Mm), t + r = m → i = nI t → (∀ z, z ≠ 216 → g1 z = g z) → (∀ j, j < 24 → g1 216 j = nI (ftW nn sy b x j t)) → J S 0 0 g1 23 [some (.ref 162), some (.int b), some (.int x), some (.int i), none] [] := by
    intro r
    induction r with
    | zero =>
      intro t i g1 ht1 hi f1 t1
      have htm : t = m := by omega
      subst htm
      refine J_iload_n hS dX8_teacherOf_23 rfl ?_
      refine J_aload_n hS dX8_teacherOf_24 rfl ?_
      refine J_getI hS dX8_teacherOf_25 flX8_329 ob162 rfl ?_
      show J S 0 0 (g1) 28 [some (.ref 162), some (.int b), some (.int x), some (.int i), none] [.int _, .int i]
      rw [f1 162 (by decide), em]
      refine J_icmp_ge (tgt := 88) hS dX8_teacherOf_28 (by decide) (fun c1 => ?_) (fun c1 => ?_)
      ·
        refine J_iconst (v := 0) hS dX8_teacherOf_88 (by decide) ?_
        refine J_istore_n (lt := fun a1 => [some (.ref 162), some (.int b), some (.int x), some (.int a1), none]) hS dX8_teacherOf_89 (Nat.le_of_ble_eq_true rfl) (fun _ => rfl) (fun a1 ea1 => ?_)
        refine J_iconst (v := 1) hS dX8_teacherOf_90 (by decide) ?_
        refine J_istore (lt := fun k1 => [some (.ref 162), some (.int b), some (.int x), some (.int a1), some (.int k1)]) hS dX8_teacherOf_91 (Nat.le_of_ble_eq_true rfl) (fun _ => rfl) (fun k1 ek1 => ?_)
        exact last g1 f1 (fun j hj => by rw [t1 j hj, hF]) 23 1 a1 k1 rfl (by omega) ek1 (by rw [ea1]; rw [show bst F 1 = 0 from Nat.lt_one_iff.mp (bst_lt (by decide))]; rfl)
      · exact absurd (by rw [hi]; exact Int32.le_refl _) c1
    | succ r ih =>
      intro t i g1 ht1 hi f1 t1
      subst hi
      have htm : t < m := by omega
      obtain ⟨hs1, hs2⟩ := hsy t htm
      have N1 : NtM g1 nn m := hN.fr (f1 201 (by decide))
      have no : ¬ (nn (t * 19 + 2) = b ∧ nn (t * 19 + 16) = x) → J S 0 0 g1 82 [some (.ref 162), some (.int b), some (.int x), some (.int (nI t)), none] [] := by
        intro hno
        refine J_iinc (lt := fun i2 => [some (.ref 162), some (.int b), some (.int x), some (.int i2), none]) (v := 1) hS dX8_teacherOf_82 rfl (by decide) (fun _ => rfl) (fun i2 ei2 => ?_)
        refine J_goto (tgt := 23) hS dX8_teacherOf_85 (by decide) ?_
        exact ih (t + 1) i2 g1 (by omega) (by rw [ei2]; exact nI_1 t) f1 (fun j hj => by rw [ftW_f (fun z => hno z.1)]; exact t1 j hj)
      refine J_iload_n hS dX8_teacherOf_23 rfl ?_
      refine J_aload_n hS dX8_teacherOf_24 rfl ?_
      refine J_getI hS dX8_teacherOf_25 flX8_329 ob162 rfl ?_
      show J S 0 0 (g1) 28 [some (.ref 162), some (.int b), some (.int x), some (.int (nI t)), none] [.int _, .int (nI t)]
      rw [f1 162 (by decide), em]
      refine J_icmp_ge (tgt := 88) hS dX8_teacherOf_28 (by decide) (fun c1 => ?_) (fun c1 => ?_)
      · exact absurd c1 (nI_ge htm (by omega))
      ·
        refine J_aload_n hS dX8_teacherOf_31 rfl ?_
        refine J_getR (t := 201) hS dX8_teacherOf_32 flX8_65 ob162 rfl ?_
        refine J_bipush (v := 20) hS dX8_teacherOf_35 (by decide) ?_
        refine J_iload_n hS dX8_teacherOf_37 rfl ?_
        refine J_imul hS dX8_teacherOf_38 ?_
        refine J_iconst (v := 2) hS dX8_teacherOf_39 (by decide) ?_
        refine J_iadd hS dX8_teacherOf_40 ?_
        refine J_ialdN hS (20 * t + 2) dX8_teacherOf_41 (show Ar lay NC .int 201 30000 from arM 38 30000 (by decide) (by decide) rfl) (by rw [n20, pk_mul, n2, nI_add]) (by omega) (by decide) ?_
        refine J_iload_n hS dX8_teacherOf_42 rfl ?_
        show J S 0 0 (g1) 43 [some (.ref 162), some (.int b), some (.int x), some (.int (nI t)), none] [.int b, .int _]
        rw [N1 t 2 htm (by decide)]
        refine J_icmp_ne (tgt := 82) hS dX8_teacherOf_43 (by decide) (fun c2 => ?_) (fun c2 => ?_)
        · exact no (fun z => c2 z.1)
        ·
          refine J_aload_n hS dX8_teacherOf_46 rfl ?_
          refine J_getR (t := 201) hS dX8_teacherOf_47 flX8_65 ob162 rfl ?_
          refine J_bipush (v := 20) hS dX8_teacherOf_50 (by decide) ?_
          refine J_iload_n hS dX8_teacherOf_52 rfl ?_
          refine J_imul hS dX8_teacherOf_53 ?_
          refine J_bipush (v := 16) hS dX8_teacherOf_54 (by decide) ?_
          refine J_iadd hS dX8_teacherOf_56 ?_
          refine J_ialdN hS (20 * t + 16) dX8_teacherOf_57 (show Ar lay NC .int 201 30000 from arM 38 30000 (by decide) (by decide) rfl) (by rw [n20, pk_mul, n16, nI_add]) (by omega) (by decide) ?_
          refine J_iload_n hS dX8_teacherOf_58 rfl ?_
          show J S 0 0 (g1) 59 [some (.ref 162), some (.int b), some (.int x), some (.int (nI t)), none] [.int x, .int _]
          rw [N1 t 16 htm (by decide)]
          refine J_icmp_ne (tgt := 82) hS dX8_teacherOf_59 (by decide) (fun c3 => ?_) (fun c3 => ?_)
          · exact no (fun z => c3 z.2)
          ·
            refine J_aload_n hS dX8_teacherOf_62 rfl ?_
            refine J_getR (t := 216) hS dX8_teacherOf_63 flX8_99 ob162 rfl ?_
            refine J_aload_n hS dX8_teacherOf_66 rfl ?_
            refine J_getR (t := 201) hS dX8_teacherOf_67 flX8_65 ob162 rfl ?_
            refine J_bipush (v := 20) hS dX8_teacherOf_70 (by decide) ?_
            refine J_iload_n hS dX8_teacherOf_72 rfl ?_
            refine J_imul hS dX8_teacherOf_73 ?_
            refine J_iconst (v := 1) hS dX8_teacherOf_74 (by decide) ?_
            refine J_iadd hS dX8_teacherOf_75 ?_
            refine J_ialdN hS (20 * t + 1) dX8_teacherOf_76 (show Ar lay NC .int 201 30000 from arM 38 30000 (by decide) (by decide) rfl) (by rw [n20, pk_mul, n1, nI_add]) (by omega) (by decide) ?_
            show J S 0 0 (g1) 77 [some (.ref 162), some (.int b), some (.int x), some (.int (nI t)), none] [.int _, .ref (216)]
            rw [N1 t 1 htm (by decide), hs2]
            refine J_dup2 hS dX8_teacherOf_77 rfl rfl ?_
            refine J_ialdN hS (sy t) dX8_teacherOf_78 (show Ar lay NC .int 216 24 from arM 53 24 (by decide) (by decide) rfl) (by first | rfl | (simp only [n0, n1, n2, n3, n4, n5, n6, n7, n8, n9, n10, n11, n12, n13, n14, n15, n16, n17, n18, n19, n20, n24, n32, n56, n60, n64, n72, n99, n100, n128, n136, n142, n144, n200, n300, n999, n1000, n1500, n3464, nI_add, pk_mul] <;> first | rfl | (congr 1; omega))) hs1 (by decide) ?_
            show J S 0 0 (g1) 79 [some (.ref 162), some (.int b), some (.int x), some (.int (nI t)), none] [.int _, .int (nI (sy t)), .ref 216]
            rw [t1 _ hs1]
            refine J_iconst (v := 1) hS dX8_teacherOf_79 (by decide) ?_
            refine J_iadd hS dX8_teacherOf_80 ?_
            refine J_iastN hS (sy t) dX8_teacherOf_81 (show Ar lay NC .int 216 24 from arM 53 24 (by decide) (by decide) rfl) (by first | rfl | (simp only [n0, n1, n2, n3, n4, n5, n6, n7, n8, n9, n10, n11, n12, n13, n14, n15, n16, n17, n18, n19, n20, n24, n32, n56, n60, n64, n72, n99, n100, n128, n136, n142, n144, n200, n300, n999, n1000, n1500, n3464, nI_add, pk_mul] <;> first | rfl | (congr 1; omega))) hs1 (by decide) (fun g81 eg81 => ?_)
            refine J_iinc (lt := fun i2 => [some (.ref 162), some (.int b), some (.int x), some (.int i2), none]) (v := 1) hS dX8_teacherOf_82 rfl (by decide) (fun _ => rfl) (fun i2 ei2 => ?_)
            refine J_goto (tgt := 23) hS dX8_teacherOf_85 (by decide) ?_
            refine ih (t + 1) i2 g81 (by omega) (by rw [ei2]; exact nI_1 t) (fun z hz => by rw [eg81, u2_ne z hz]; exact f1 z hz) (fun j hj => ?_)
            rw [eg81, u2_at]
            by_cases e : j = sy t
            · subst e
              rw [if_pos rfl, ftW_t ⟨⟨c2, c3⟩, rfl⟩]; exact nI_1 _
            · rw [if_neg e, ftW_f (fun z => e z.2.symm)]; exact t1 j hj
  have fst : ∀ (r k : Nat) (i : Int32) (g1 : Mm), k + r = 24 → i = nI k → (∀ z, z ≠ 216 → g1 z = g z) → (∀ j, j < k → g1 216 j = 0) → J S 0 0 g1 2 [some (.ref 162), some (.int b), some (.int x), some (.int i), none] [] := by
    intro r
    induction r with
    | zero =>
      intro k i g1 hk hi f1 t1
      have hk4 : k = 24 := by omega
      subst hk4; subst hi
      refine J_iload_n hS dX8_teacherOf_2 rfl ?_
      refine J_bipush (v := 24) hS dX8_teacherOf_3 (by decide) ?_
      refine J_icmp_ge (tgt := 21) hS dX8_teacherOf_5 (by decide) (fun c1 => ?_) (fun c1 => ?_)
      ·
        refine J_iconst (v := 0) hS dX8_teacherOf_21 (by decide) ?_
        refine J_istore_n (lt := fun i2 => [some (.ref 162), some (.int b), some (.int x), some (.int i2), none]) hS dX8_teacherOf_22 (Nat.le_of_ble_eq_true rfl) (fun _ => rfl) (fun i2 ei2 => ?_)
        exact mid m 0 i2 g1 (by omega) ei2 f1 (fun j hj => by rw [t1 j hj]; rfl)
      · exact absurd (Int32.le_refl _) c1
    | succ r ih =>
      intro k i g1 hk hi f1 t1
      subst hi
      have hk24 : k < 24 := by omega
      refine J_iload_n hS dX8_teacherOf_2 rfl ?_
      refine J_bipush (v := 24) hS dX8_teacherOf_3 (by decide) ?_
      refine J_icmp_ge (tgt := 21) hS dX8_teacherOf_5 (by decide) (fun c1 => ?_) (fun c1 => ?_)
      · exact absurd c1 (nI_ge hk24 (by decide))
      ·
        refine J_aload_n hS dX8_teacherOf_8 rfl ?_
        refine J_getR (t := 216) hS dX8_teacherOf_9 flX8_99 ob162 rfl ?_
        refine J_iload_n hS dX8_teacherOf_12 rfl ?_
        refine J_iconst (v := 0) hS dX8_teacherOf_13 (by decide) ?_
        refine J_iastN hS (k) dX8_teacherOf_14 (show Ar lay NC .int 216 24 from arM 53 24 (by decide) (by decide) rfl) (by first | rfl | (simp only [n0, n1, n2, n3, n4, n5, n6, n7, n8, n9, n10, n11, n12, n13, n14, n15, n16, n17, n18, n19, n20, n24, n32, n56, n60, n64, n72, n99, n100, n128, n136, n142, n144, n200, n300, n999, n1000, n1500, n3464, nI_add, pk_mul] <;> first | rfl | (congr 1; omega))) hk24 (by decide) (fun g14 eg14 => ?_)
        refine J_iinc (lt := fun i2 => [some (.ref 162), some (.int b), some (.int x), some (.int i2), none]) (v := 1) hS dX8_teacherOf_15 rfl (by decide) (fun _ => rfl) (fun i2 ei2 => ?_)
        refine J_goto (tgt := 2) hS dX8_teacherOf_18 (by decide) ?_
        refine ih (k + 1) i2 g14 (by omega) (by rw [ei2]; exact nI_1 k) (fun z hz => by rw [eg14, u2_ne z hz]; exact f1 z hz) (fun j hj => ?_)
        rw [eg14, u2_at]
        by_cases e : j = k
        · rw [if_pos e]
        · rw [if_neg e]; exact t1 j (by omega)
  refine J_iconst (v := 0) hS dX8_teacherOf_0 (by decide) ?_
  refine J_istore_n (lt := fun i1 => [some (.ref 162), some (.int b), some (.int x), some (.int i1), none]) hS dX8_teacherOf_1 (Nat.le_of_ble_eq_true rfl) (fun _ => rfl) (fun i1 ei1 => ?_)
  exact fst 24 0 i1 g rfl ei1 (fun _ _ => rfl) (fun j hj => absurd hj (by omega))
theorem FrZ_216 {g g' : Mm} (h : ∀ z, z ≠ 216 → g' z = g z) : FrZ g g' := ⟨fun z _ _ _ _ _ _ _ _ _ za => h z za, fun j _ => by rw [h 162 (by decide)]⟩
theorem m_taught {m : Nat} {nn : Wr} {sy : Nat → Nat} {c o : Int32} (hI : RI g w n) (hm : m ≤ 1500) (em : g 162 37 = nI m) (hN : NtM g nn m) (hsy : ∀ t, t < m → sy t < 24 ∧ nn (t * 19 + 1) = nI (sy t)) (x : ou n c → ∀ g', FrZ g g' → g' 162 0 = 1 → Q (some (.int 0)) g') (x2 : ¬ ou n c → ou 6 o → ∀ g', FrZ g g' → g' 162 0 = 2 → Q (some (.int 0)) g') (q : ∀ i j, i < n → c = nI i → j < 6 → o = nI j → ∀ g', FrZ g g' → g' 162 0 = 0 → Q (some (.int (ftB (fun z => nI (ftW nn sy (nI i) (nI j) z m)) 24).1)) g') : Ct l E lay NC 2 0 0 yX8_taught [.ref 162, .int c, .int o] g Q X := by
  have hn := hI.hn
  refine Ct_in k_yX8_taught (by decide) rfl (Nat.le_of_ble_eq_true rfl) rfl ?_
  intro S hS hZ hr ht hR
  show J S 0 0 (g) 0 [some (.ref 162), some (.int c), some (.int o)] []
  refine J_aload_n hS dX8_taught_0 rfl ?_
  refine J_iconst (v := 0) hS dX8_taught_1 (by decide) ?_
  refine J_putI hS dX8_taught_2 fpX8_1 ob162 rfl (fun g2 eg2 => ?_)
  have z2 : FrZ g g2 := by rw [eg2]; exact FrZ_thr
  have t2 : g2 162 0 = 0 := by rw [eg2, u2_self]
  have i2 := hI.fr z2
  rcases in_or (y := c) (b := n) (by first | decide | omega) with ⟨k, hk, ek⟩ | hbk
  ·
    subst ek
    have nk := nou hk (show n < 2 ^ 31 by omega)
    refine J_aload_n hS dX8_taught_5 rfl ?_
    refine J_iload_n hS dX8_taught_6 rfl ?_
    refine J_callV1 (X' := fun _ _ => False) hS dX8_taught_7 mvX8_125 ob162 rfl (by first | decide | omega) (by decide) (Nat.le_of_ble_eq_true rfl) ⟨Nat.le_trans (by decide) hR.1, Nat.le_trans (by decide) hR.2⟩ (fun _ _ q => q.elim) (m_childY i2 t2 hk ?_)
    refine J_if_eq (tgt := 25) hS dX8_taught_10 (by decide) (fun c1 => ?_) (fun c1 => ?_)
    · exact absurd c1 (by decide)
    ·
      rcases in_or (y := o) (b := 6) (by first | decide | omega) with ⟨j, hj, ej⟩ | hbj
      ·
        subst ej
        refine J_aload_n hS dX8_taught_13 rfl ?_
        refine J_iload_n hS dX8_taught_14 rfl ?_
        refine J_callS1 (X' := fun _ _ => False) hS dX8_taught_15 msX8_132 rfl (by first | decide | omega) (by decide) (Nat.le_of_ble_eq_true rfl) ⟨Nat.le_trans (by decide) hR.1, Nat.le_trans (by decide) hR.2⟩ (fun _ _ q => q.elim) (m_ordY hj ?_)
        refine J_iconst (v := 2) hS dX8_taught_18 (by decide) ?_
        refine J_callV2 (X' := fun _ _ => False) hS dX8_taught_19 mvX8_110 ob162 rfl (by first | decide | omega) (by decide) (Nat.le_of_ble_eq_true rfl) ⟨Nat.le_trans (by decide) hR.1, Nat.le_trans (by decide) hR.2⟩ (fun _ _ q => q.elim) (m_mayY t2 (by decide) ?_)
        refine J_if_ne (tgt := 27) hS dX8_taught_22 (by decide) (fun c2 => ?_) (fun c2 => ?_)
        ·
          refine J_aload_n hS dX8_taught_27 rfl ?_
          refine J_iload_n hS dX8_taught_28 rfl ?_
          refine J_iload_n hS dX8_taught_29 rfl ?_
          refine J_callV2 (X' := fun _ _ => False) hS dX8_taught_30 mvX8_386 ob162 rfl (by first | decide | omega) (by decide) (Nat.le_of_ble_eq_true rfl) ⟨Nat.le_trans (by decide) hR.1, Nat.le_trans (by decide) hR.2⟩ (fun _ _ q => q.elim) (m_teacherOf hm (by rw [z2.2 37 (by decide)]; exact em) (hN.z z2) hsy (fun g3 b1 => ?_))
          refine J_iret hS hZ hr dX8_taught_33 (by omega) (by omega) ?_
          exact q k j hk rfl hj rfl g3 (z2.trans (FrZ_216 b1)) (by rw [b1 162 (by decide)]; exact t2)
        · exact absurd c2 (by decide)
      ·
        refine J_aload_n hS dX8_taught_13 rfl ?_
        refine J_iload_n hS dX8_taught_14 rfl ?_
        refine J_callS1 (X' := fun _ _ => False) hS dX8_taught_15 msX8_132 rfl (by first | decide | omega) (by decide) (Nat.le_of_ble_eq_true rfl) ⟨Nat.le_trans (by decide) hR.1, Nat.le_trans (by decide) hR.2⟩ (fun _ _ q => q.elim) (m_ordN hbj ?_)
        refine J_iconst (v := 2) hS dX8_taught_18 (by decide) ?_
        refine J_callV2 (X' := fun _ _ => False) hS dX8_taught_19 mvX8_110 ob162 rfl (by first | decide | omega) (by decide) (Nat.le_of_ble_eq_true rfl) ⟨Nat.le_trans (by decide) hR.1, Nat.le_trans (by decide) hR.2⟩ (fun _ _ q => q.elim) (m_mayN t2 (by decide) ?_)
        refine J_if_ne (tgt := 27) hS dX8_taught_22 (by decide) (fun c2 => ?_) (fun c2 => ?_)
        · exact absurd rfl c2
        ·
          refine J_iconst (v := 0) hS dX8_taught_25 (by decide) ?_
          refine J_iret hS hZ hr dX8_taught_26 (by omega) (by omega) ?_
          exact x2 nk hbj _ (z2.trans FrZ_thr) (u2_self ..)
  ·
    refine J_aload_n hS dX8_taught_5 rfl ?_
    refine J_iload_n hS dX8_taught_6 rfl ?_
    refine J_callV1 (X' := fun _ _ => False) hS dX8_taught_7 mvX8_125 ob162 rfl (by first | decide | omega) (by decide) (Nat.le_of_ble_eq_true rfl) ⟨Nat.le_trans (by decide) hR.1, Nat.le_trans (by decide) hR.2⟩ (fun _ _ q => q.elim) (m_childN i2 t2 hbk ?_)
    refine J_if_eq (tgt := 25) hS dX8_taught_10 (by decide) (fun c1 => ?_) (fun c1 => ?_)
    ·
      refine J_iconst (v := 0) hS dX8_taught_25 (by decide) ?_
      refine J_iret hS hZ hr dX8_taught_26 (by omega) (by omega) ?_
      exact x hbk _ (z2.trans FrZ_thr) (u2_self ..)
    · exact absurd rfl c1
set_option maxRecDepth 10000 in
theorem m_root {m : Nat} {nn : Wr} {sy : Nat → Nat} {c o : Int32} (hI : RI g w n) (hm : m ≤ 1500) (em : g 162 37 = nI m) (hN : NtM g nn m) (hsy : ∀ t, t < m → sy t < 24 ∧ nn (t * 19 + 1) = nI (sy t)) (x : ou n c → ∀ g', FrZ g g' → g' 162 0 = 1 → Q (some (.int 0)) g') (x2 : ¬ ou n c → ou 6 o → ∀ g', FrZ g g' → g' 162 0 = 2 → Q (some (.int 0)) g') (q : ¬ ou n c → ¬ ou 6 o → ∀ g', FrZ g g' → g' 162 0 = 0 → Q (some (.int (rtA (fun b => (ftB (fun j => nI (ftW nn sy b o j m)) 24).1) 24 (1 <<< (c &&& 31)) c))) g') : Ct l E lay NC 2 0 0 yX8_root [.ref 162, .int c, .int o] g Q X := by
  have hn := hI.hn
  refine Ct_in k_yX8_root (by decide) rfl (Nat.le_of_ble_eq_true rfl) rfl ?_
  intro S hS hZ hr ht hR
  show J S 0 0 (g) 0 [some (.ref 162), some (.int c), some (.int o), none, none, none] []
  refine J_aload_n hS dX8_root_0 rfl ?_
  refine J_iconst (v := 0) hS dX8_root_1 (by decide) ?_
  refine J_putI hS dX8_root_2 fpX8_1 ob162 rfl (fun g2 eg2 => ?_)
  have z2 : FrZ g g2 := by rw [eg2]; exact FrZ_thr
  have t2 : g2 162 0 = 0 := by rw [eg2, u2_self]
  have i2 := hI.fr z2
  have m2 : g2 162 37 = nI m := by rw [z2.2 37 (by decide)]; exact em
  have N2 := hN.z z2
  rcases in_or (y := c) (b := n) (by first | decide | omega) with ⟨c1, hc1, ec1⟩ | hbc1
  ·
    subst ec1
    have nk := nou hc1 (show n < 2 ^ 31 by omega)
    refine J_aload_n hS dX8_root_5 rfl ?_
    refine J_iload_n hS dX8_root_6 rfl ?_
    refine J_callV1 (X' := fun _ _ => False) hS dX8_root_7 mvX8_125 ob162 rfl (by first | decide | omega) (by decide) (Nat.le_of_ble_eq_true rfl) ⟨Nat.le_trans (by decide) hR.1, Nat.le_trans (by decide) hR.2⟩ (fun _ _ q => q.elim) (m_childY i2 t2 hc1 ?_)
    refine J_if_eq (tgt := 25) hS dX8_root_10 (by decide) (fun d1 => ?_) (fun d1 => ?_)
    · exact absurd d1 (by decide)
    ·
      rcases in_or (y := o) (b := 6) (by first | decide | omega) with ⟨o1, ho1, eo1⟩ | hbo1
      ·
        subst eo1
        refine J_aload_n hS dX8_root_13 rfl ?_
        refine J_iload_n hS dX8_root_14 rfl ?_
        refine J_callS1 (X' := fun _ _ => False) hS dX8_root_15 msX8_132 rfl (by first | decide | omega) (by decide) (Nat.le_of_ble_eq_true rfl) ⟨Nat.le_trans (by decide) hR.1, Nat.le_trans (by decide) hR.2⟩ (fun _ _ q => q.elim) (m_ordY ho1 ?_)
        refine J_iconst (v := 2) hS dX8_root_18 (by decide) ?_
        refine J_callV2 (X' := fun _ _ => False) hS dX8_root_19 mvX8_110 ob162 rfl (by first | decide | omega) (by decide) (Nat.le_of_ble_eq_true rfl) ⟨Nat.le_trans (by decide) hR.1, Nat.le_trans (by decide) hR.2⟩ (fun _ _ q => q.elim) (m_mayY t2 (by decide) ?_)
        refine J_if_ne (tgt := 27) hS dX8_root_22 (by decide) (fun d2 => ?_) (fun d2 => ?_)
        · have qq := q nk (nou ho1 (by decide))
          obtain ⟨F, hF⟩ : ∃ F : Int32 → Int32, F = fun b => (ftB (fun j => nI (ftW nn sy b (nI o1) j m)) 24).1 := ⟨_, rfl⟩
          have Fr : ∀ b, F b = -1 ∨ ∃ k, k < 24 ∧ F b = nI k := by
            intro b
            rw [hF]; dsimp only
            rw [ftB_hvs, hvs_end (by decide)]; unfold hvy
            split
            · exact Or.inr ⟨_, bst_lt (by decide), rfl⟩
            · exact Or.inl rfl
          rw [← hF] at qq
          refine J_iconst (v := 1) hS dX8_root_27 (by decide) ?_
          refine J_iload_n hS dX8_root_28 rfl ?_
          refine J_ishl hS dX8_root_29 ?_
          refine J_istore_n (lt := fun a1 => [some (.ref 162), some (.int (nI c1)), some (.int (nI o1)), some (.int a1), none, none]) hS dX8_root_30 (Nat.le_of_ble_eq_true rfl) (fun _ => rfl) (fun a1 ea1 => ?_)
          rw [show a1 = 1 <<< (nI c1 &&& 31) from ea1]
          refine J_iload_n hS dX8_root_31 rfl ?_
          refine J_istore (lt := fun l1 => [some (.ref 162), some (.int (nI c1)), some (.int (nI o1)), some (.int (1 <<< (nI c1 &&& 31))), some (.int l1), none]) hS dX8_root_32 (Nat.le_of_ble_eq_true rfl) (fun _ => rfl) (fun l1 el1 => ?_)
          rw [show l1 = nI c1 from el1]
          refine J_aload_n hS dX8_root_34 rfl ?_
          refine J_iload hS dX8_root_35 rfl ?_
          refine J_iload_n hS dX8_root_37 rfl ?_
          refine J_callV2 (X' := fun _ _ => False) hS dX8_root_38 mvX8_386 ob162 rfl (by first | decide | omega) (by decide) (Nat.le_of_ble_eq_true rfl) ⟨Nat.le_trans (by decide) hR.1, Nat.le_trans (by decide) hR.2⟩ (fun _ _ q => q.elim) (m_teacherOf hm m2 N2 hsy (fun g3 b1 => ?_))
          refine J_istore (lt := fun n5' => [some (.ref 162), some (.int (nI c1)), some (.int (nI o1)), some (.int (1 <<< (nI c1 &&& 31))), some (.int (nI c1)), some (.int n5')]) hS dX8_root_41 (Nat.le_of_ble_eq_true rfl) (fun _ => rfl) (fun n5' en5' => ?_)
          rw [show n5' = F (nI c1) by rw [en5', hF]]
          suffices H : ∀ (r : Nat) (a v y : Int32) (g1 : Mm), (∀ z, z ≠ 216 → g1 z = g2 z) → y = F v → zr a + 1 ≤ r → rtA F 24 (1 <<< (nI c1 &&& 31)) (nI c1) = rtA F r a v → J S 0 0 g1 43 [some (.ref 162), some (.int (nI c1)), some (.int (nI o1)), some (.int a), some (.int v), some (.int y)] [] by
            refine H 24 _ _ _ g3 b1 rfl ?_ rfl
            have z0 : ∀ k, k < 24 → zr ((1 : Int32) <<< (nI k &&& 31)) = 23 := by
              intro k hk
              have e := zr_or (a := 0) (k := k) hk (by unfold cb; have o0 : ∀ i, i < 24 → (0 : Int32).toBitVec.getLsbD i = false := by decide
                                                       exact o0 k hk)
              have e0 : zr 0 = 24 := by decide
              have e1 : (0 : Int32) ||| (1 <<< (nI k &&& 31)) = 1 <<< (nI k &&& 31) := Int32.zero_or
              rw [e1, e0] at e; omega
            rw [z0 c1 (by omega)]; decide
          intro r
          induction r with
          | zero => intro a v y g1 _ _ hz _; omega
          | succ r ih =>
            intro a v y g1 f1 hy hz hb
            subst hy
            have hu : rtA F (r + 1) a v = if F v = -1 ∨ (a >>> (F v &&& 31)) &&& 1 = 1 then v else rtA F r (a ||| (1 <<< (F v &&& 31))) (F v) := rfl
            rw [hu] at hb
            have fin : (F v = -1 ∨ (a >>> (F v &&& 31)) &&& 1 = 1) → J S 0 0 g1 81 [some (.ref 162), some (.int (nI c1)), some (.int (nI o1)), some (.int a), some (.int v), some (.int (F v))] [] := by
              intro z
              refine J_iload hS dX8_root_81 rfl ?_
              refine J_iret hS hZ hr dX8_root_83 (by omega) (by omega) ?_
              rw [hb, if_pos z] at qq
              exact qq g1 (z2.trans (FrZ_216 f1)) (by rw [f1 162 (by decide)]; exact t2)
            refine J_iload hS dX8_root_43 rfl ?_
            refine J_iconst (v := (-1)) hS dX8_root_45 (by decide) ?_
            refine J_icmp_eq (tgt := 81) hS dX8_root_46 (by decide) (fun e1 => ?_) (fun e1 => ?_)
            · exact fin (Or.inl e1)
            · obtain ⟨k, hk, ek⟩ := (Fr v).resolve_left e1
              have hcb := cb_sh a k hk
              rw [← ek] at hcb
              refine J_iload_n hS dX8_root_49 rfl ?_
              refine J_iload hS dX8_root_50 rfl ?_
              refine J_ishr hS dX8_root_52 ?_
              refine J_iconst (v := 1) hS dX8_root_53 (by decide) ?_
              refine J_iand hS dX8_root_54 ?_
              refine J_if_ne (tgt := 81) hS dX8_root_55 (by decide) (fun e2 => ?_) (fun e2 => ?_)
              · refine fin (Or.inr ?_)
                rw [hcb] at e2 ⊢
                by_cases z : cb a k = true
                · rw [if_pos z]
                · rw [if_neg z] at e2; exact absurd rfl e2
              · have hno : cb a k = false := by
                  rw [hcb] at e2
                  by_cases z : cb a k = true
                  · rw [if_pos z] at e2; exact absurd e2 (by decide)
                  · simpa using z
                have hz2 := zr_or hk hno
                rw [← ek] at hz2
                rw [if_neg (by rintro (z | z); exact e1 z; rw [e2] at z; exact absurd z (by decide))] at hb
                refine J_iload_n hS dX8_root_58 rfl ?_
                refine J_iconst (v := 1) hS dX8_root_59 (by decide) ?_
                refine J_iload hS dX8_root_60 rfl ?_
                refine J_ishl hS dX8_root_62 ?_
                refine J_ior hS dX8_root_63 ?_
                refine J_istore_n (lt := fun a2 => [some (.ref 162), some (.int (nI c1)), some (.int (nI o1)), some (.int a2), some (.int v), some (.int (F v))]) hS dX8_root_64 (Nat.le_of_ble_eq_true rfl) (fun _ => rfl) (fun a2 ea2 => ?_)
                rw [show a2 = a ||| (1 <<< (F v &&& 31)) from ea2]
                refine J_iload hS dX8_root_65 rfl ?_
                refine J_istore (lt := fun v2 => [some (.ref 162), some (.int (nI c1)), some (.int (nI o1)), some (.int (a ||| (1 <<< (F v &&& 31)))), some (.int v2), some (.int (F v))]) hS dX8_root_67 (Nat.le_of_ble_eq_true rfl) (fun _ => rfl) (fun v2 ev2 => ?_)
                rw [show v2 = F v from ev2]
                refine J_aload_n hS dX8_root_69 rfl ?_
                refine J_iload hS dX8_root_70 rfl ?_
                refine J_iload_n hS dX8_root_72 rfl ?_
                refine J_callV2 (X' := fun _ _ => False) hS dX8_root_73 mvX8_386 ob162 rfl (by first | decide | omega) (by decide) (Nat.le_of_ble_eq_true rfl) ⟨Nat.le_trans (by decide) hR.1, Nat.le_trans (by decide) hR.2⟩ (fun _ _ q => q.elim) (m_teacherOf hm (by rw [f1 162 (by decide)]; exact m2) (N2.fr (f1 201 (by decide))) hsy (fun g4 b4 => ?_))
                refine J_istore (lt := fun y5 => [some (.ref 162), some (.int (nI c1)), some (.int (nI o1)), some (.int (a ||| (1 <<< (F v &&& 31)))), some (.int (F v)), some (.int y5)]) hS dX8_root_76 (Nat.le_of_ble_eq_true rfl) (fun _ => rfl) (fun y5 ey5 => ?_)
                refine J_goto (tgt := 43) hS dX8_root_78 (by decide) ?_
                exact ih _ _ y5 g4 (fun z hz => by rw [b4 z hz]; exact f1 z hz) (by rw [ey5, hF]) (by omega) hb
        · exact absurd d2 (by decide)
      ·
        refine J_aload_n hS dX8_root_13 rfl ?_
        refine J_iload_n hS dX8_root_14 rfl ?_
        refine J_callS1 (X' := fun _ _ => False) hS dX8_root_15 msX8_132 rfl (by first | decide | omega) (by decide) (Nat.le_of_ble_eq_true rfl) ⟨Nat.le_trans (by decide) hR.1, Nat.le_trans (by decide) hR.2⟩ (fun _ _ q => q.elim) (m_ordN hbo1 ?_)
        refine J_iconst (v := 2) hS dX8_root_18 (by decide) ?_
        refine J_callV2 (X' := fun _ _ => False) hS dX8_root_19 mvX8_110 ob162 rfl (by first | decide | omega) (by decide) (Nat.le_of_ble_eq_true rfl) ⟨Nat.le_trans (by decide) hR.1, Nat.le_trans (by decide) hR.2⟩ (fun _ _ q => q.elim) (m_mayN t2 (by decide) ?_)
        refine J_if_ne (tgt := 27) hS dX8_root_22 (by decide) (fun d2 => ?_) (fun d2 => ?_)
        · exact absurd rfl d2
        ·
          refine J_iconst (v := 0) hS dX8_root_25 (by decide) ?_
          refine J_iret hS hZ hr dX8_root_26 (by omega) (by omega) ?_
          exact x2 nk hbo1 _ (z2.trans FrZ_thr) (u2_self ..)
  ·
    refine J_aload_n hS dX8_root_5 rfl ?_
    refine J_iload_n hS dX8_root_6 rfl ?_
    refine J_callV1 (X' := fun _ _ => False) hS dX8_root_7 mvX8_125 ob162 rfl (by first | decide | omega) (by decide) (Nat.le_of_ble_eq_true rfl) ⟨Nat.le_trans (by decide) hR.1, Nat.le_trans (by decide) hR.2⟩ (fun _ _ q => q.elim) (m_childN i2 t2 hbc1 ?_)
    refine J_if_eq (tgt := 25) hS dX8_root_10 (by decide) (fun d1 => ?_) (fun d1 => ?_)
    ·
      refine J_iconst (v := 0) hS dX8_root_25 (by decide) ?_
      refine J_iret hS hZ hr dX8_root_26 (by omega) (by omega) ?_
      exact x hbc1 _ (z2.trans FrZ_thr) (u2_self ..)
    · exact absurd rfl d1
end RefU


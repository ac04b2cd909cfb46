/-! THE CLASS: laws that are worked -/
section ClsE
variable {l : Launch} {E : Ey} {g : Mm} {Q : Option Value → Mm → Prop} {X : String → Mm → Prop} {h : Nat}
set_option maxRecDepth 10000 in
theorem c_act {c : Nat} {a b : Int32} {v : Int32} (h7 : 7 ≤ c) (h17 : c ≤ 17) (q : Q (some (.int (op2 c a b))) g) : Ct l E lay NC 0 0 0 yX1_act [.int (encC (c, v)), .int a, .int b] g Q X := by
  refine Ct_in k_yX1_act (by decide) rfl (Nat.le_of_ble_eq_true rfl) rfl ?_
  intro S hS hZ hr ht hR
  show J S 0 0 g 0 [some (.int (encC (c, v))), some (.int a), some (.int b)] []
  have hcs : c = 7 ∨ c = 8 ∨ c = 9 ∨ c = 10 ∨ c = 11 ∨ c = 12 ∨ c = 13 ∨ c = 14 ∨ c = 15 ∨ c = 16 ∨ c = 17 := by omega
  rcases hcs with rfl | rfl | rfl | rfl | rfl | rfl | rfl | rfl | rfl | rfl | rfl
  ·
    show J S 0 0 g 0 [some (.int 2000), some (.int a), some (.int b)] []
    refine J_iload_n hS dX1_act_0 rfl ?_
    refine J_tableIn (tgt := 56) hS dX1_act_1 (by decide) (by decide) rfl (by decide) ?_
    refine J_iload_n hS dX1_act_56 rfl ?_
    refine J_iload_n hS dX1_act_57 rfl ?_
    refine J_iadd hS dX1_act_58 ?_
    refine J_iret hS hZ hr dX1_act_59 (by omega) (by omega) ?_
    exact q
  ·
    show J S 0 0 g 0 [some (.int 2001), some (.int a), some (.int b)] []
    refine J_iload_n hS dX1_act_0 rfl ?_
    refine J_tableIn (tgt := 60) hS dX1_act_1 (by decide) (by decide) rfl (by decide) ?_
    refine J_iload_n hS dX1_act_60 rfl ?_
    refine J_iload_n hS dX1_act_61 rfl ?_
    refine J_isub hS dX1_act_62 ?_
    refine J_iret hS hZ hr dX1_act_63 (by omega) (by omega) ?_
    exact q
  ·
    show J S 0 0 g 0 [some (.int 2002), some (.int a), some (.int b)] []
    refine J_iload_n hS dX1_act_0 rfl ?_
    refine J_tableIn (tgt := 64) hS dX1_act_1 (by decide) (by decide) rfl (by decide) ?_
    refine J_iload_n hS dX1_act_64 rfl ?_
    refine J_iload_n hS dX1_act_65 rfl ?_
    refine J_imul hS dX1_act_66 ?_
    refine J_iret hS hZ hr dX1_act_67 (by omega) (by omega) ?_
    exact q
  ·
    show J S 0 0 g 0 [some (.int 2003), some (.int a), some (.int b)] []
    refine J_iload_n hS dX1_act_0 rfl ?_
    refine J_tableIn (tgt := 68) hS dX1_act_1 (by decide) (by decide) rfl (by decide) ?_
    refine J_iload_n hS dX1_act_68 rfl ?_
    refine J_if_ne (tgt := 76) hS dX1_act_69 (by decide) (fun c1 => ?_) (fun c1 => ?_)
    ·
      refine J_iload_n hS dX1_act_76 rfl ?_
      refine J_iload_n hS dX1_act_77 rfl ?_
      refine J_idiv hS dX1_act_78 c1 ?_
      refine J_iret hS hZ hr dX1_act_79 (by omega) (by omega) ?_
      have e : op2 10 a b = a / b := by simp [op2, c1]
      rw [e] at q; exact q
    ·
      refine J_iconst (v := 0) hS dX1_act_72 (by decide) ?_
      refine J_goto (tgt := 79) hS dX1_act_73 (by decide) ?_
      refine J_iret hS hZ hr dX1_act_79 (by omega) (by omega) ?_
      have e : op2 10 a b = 0 := by simp [op2, c1]
      rw [e] at q; exact q
  ·
    show J S 0 0 g 0 [some (.int 2004), some (.int a), some (.int b)] []
    refine J_iload_n hS dX1_act_0 rfl ?_
    refine J_tableIn (tgt := 80) hS dX1_act_1 (by decide) (by decide) rfl (by decide) ?_
    refine J_iload_n hS dX1_act_80 rfl ?_
    refine J_iload_n hS dX1_act_81 rfl ?_
    refine J_icmp_ge (tgt := 89) hS dX1_act_82 (by decide) (fun c1 => ?_) (fun c1 => ?_)
    ·
      refine J_iload_n hS dX1_act_89 rfl ?_
      refine J_iret hS hZ hr dX1_act_90 (by omega) (by omega) ?_
      have e : op2 11 a b = b := by simp [op2]; intro z; exact absurd c1 (Int32.not_le.mpr z)
      rw [e] at q; exact q
    ·
      refine J_iload_n hS dX1_act_85 rfl ?_
      refine J_goto (tgt := 90) hS dX1_act_86 (by decide) ?_
      refine J_iret hS hZ hr dX1_act_90 (by omega) (by omega) ?_
      have e : op2 11 a b = a := by simp [op2]; intro z; exact absurd z c1
      rw [e] at q; exact q
  ·
    show J S 0 0 g 0 [some (.int 2005), some (.int a), some (.int b)] []
    refine J_iload_n hS dX1_act_0 rfl ?_
    refine J_tableIn (tgt := 91) hS dX1_act_1 (by decide) (by decide) rfl (by decide) ?_
    refine J_iload_n hS dX1_act_91 rfl ?_
    refine J_iload_n hS dX1_act_92 rfl ?_
    refine J_icmp_le (tgt := 100) hS dX1_act_93 (by decide) (fun c1 => ?_) (fun c1 => ?_)
    ·
      refine J_iload_n hS dX1_act_100 rfl ?_
      refine J_iret hS hZ hr dX1_act_101 (by omega) (by omega) ?_
      have e : op2 12 a b = b := by simp [op2]; intro z; exact absurd c1 (Int32.not_le.mpr z)
      rw [e] at q; exact q
    ·
      refine J_iload_n hS dX1_act_96 rfl ?_
      refine J_goto (tgt := 101) hS dX1_act_97 (by decide) ?_
      refine J_iret hS hZ hr dX1_act_101 (by omega) (by omega) ?_
      have e : op2 12 a b = a := by simp [op2]; intro z; exact absurd z c1
      rw [e] at q; exact q
  ·
    show J S 0 0 g 0 [some (.int 2006), some (.int a), some (.int b)] []
    refine J_iload_n hS dX1_act_0 rfl ?_
    refine J_tableIn (tgt := 102) hS dX1_act_1 (by decide) (by decide) rfl (by decide) ?_
    refine J_iload_n hS dX1_act_102 rfl ?_
    refine J_iload_n hS dX1_act_103 rfl ?_
    refine J_icmp_ge (tgt := 111) hS dX1_act_104 (by decide) (fun c1 => ?_) (fun c1 => ?_)
    ·
      refine J_iconst (v := 0) hS dX1_act_111 (by decide) ?_
      refine J_iret hS hZ hr dX1_act_112 (by omega) (by omega) ?_
      have e : op2 13 a b = 0 := by simp [op2]; exact c1
      rw [e] at q; exact q
    ·
      refine J_iconst (v := 1) hS dX1_act_107 (by decide) ?_
      refine J_goto (tgt := 112) hS dX1_act_108 (by decide) ?_
      refine J_iret hS hZ hr dX1_act_112 (by omega) (by omega) ?_
      have e : op2 13 a b = 1 := by simp [op2]; exact Int32.not_le.mp c1
      rw [e] at q; exact q
  ·
    show J S 0 0 g 0 [some (.int 2007), some (.int a), some (.int b)] []
    refine J_iload_n hS dX1_act_0 rfl ?_
    refine J_tableIn (tgt := 113) hS dX1_act_1 (by decide) (by decide) rfl (by decide) ?_
    refine J_iload_n hS dX1_act_113 rfl ?_
    refine J_iload_n hS dX1_act_114 rfl ?_
    refine J_icmp_le (tgt := 122) hS dX1_act_115 (by decide) (fun c1 => ?_) (fun c1 => ?_)
    ·
      refine J_iconst (v := 0) hS dX1_act_122 (by decide) ?_
      refine J_iret hS hZ hr dX1_act_123 (by omega) (by omega) ?_
      have e : op2 14 a b = 0 := by simp [op2]; exact c1
      rw [e] at q; exact q
    ·
      refine J_iconst (v := 1) hS dX1_act_118 (by decide) ?_
      refine J_goto (tgt := 123) hS dX1_act_119 (by decide) ?_
      refine J_iret hS hZ hr dX1_act_123 (by omega) (by omega) ?_
      have e : op2 14 a b = 1 := by simp [op2]; exact Int32.not_le.mp c1
      rw [e] at q; exact q
  ·
    show J S 0 0 g 0 [some (.int 2008), some (.int a), some (.int b)] []
    refine J_iload_n hS dX1_act_0 rfl ?_
    refine J_tableIn (tgt := 124) hS dX1_act_1 (by decide) (by decide) rfl (by decide) ?_
    refine J_iload_n hS dX1_act_124 rfl ?_
    refine J_iload_n hS dX1_act_125 rfl ?_
    refine J_icmp_ne (tgt := 133) hS dX1_act_126 (by decide) (fun c1 => ?_) (fun c1 => ?_)
    ·
      refine J_iconst (v := 0) hS dX1_act_133 (by decide) ?_
      refine J_iret hS hZ hr dX1_act_134 (by omega) (by omega) ?_
      have e : op2 15 a b = 0 := by simp [op2, c1]
      rw [e] at q; exact q
    ·
      refine J_iconst (v := 1) hS dX1_act_129 (by decide) ?_
      refine J_goto (tgt := 134) hS dX1_act_130 (by decide) ?_
      refine J_iret hS hZ hr dX1_act_134 (by omega) (by omega) ?_
      have e : op2 15 a b = 1 := by simp [op2, c1]
      rw [e] at q; exact q
  ·
    show J S 0 0 g 0 [some (.int 2010), some (.int a), some (.int b)] []
    refine J_iload_n hS dX1_act_0 rfl ?_
    refine J_tableOut (tgt := 139) hS dX1_act_1 (by decide) (by decide) ?_
    refine J_iload_n hS dX1_act_139 rfl ?_
    refine J_iload_n hS dX1_act_140 rfl ?_
    refine J_ior hS dX1_act_141 ?_
    refine J_iret hS hZ hr dX1_act_142 (by omega) (by omega) ?_
    exact q
  ·
    show J S 0 0 g 0 [some (.int 2009), some (.int a), some (.int b)] []
    refine J_iload_n hS dX1_act_0 rfl ?_
    refine J_tableIn (tgt := 135) hS dX1_act_1 (by decide) (by decide) rfl (by decide) ?_
    refine J_iload_n hS dX1_act_135 rfl ?_
    refine J_iload_n hS dX1_act_136 rfl ?_
    refine J_iand hS dX1_act_137 ?_
    refine J_iret hS hZ hr dX1_act_138 (by omega) (by omega) ?_
    exact q
/-- the law at h has these tokens from the place i on -/
def Cod (g : Mm) (h i : Nat) (l : List Tok) : Prop := ∀ (j : Nat) (t : Tok), l[j]? = some t → g (h + 5) (i + j) = encC t
/-- the row holds the stack, its bottom first -/
def Stk (g : Mm) (st : List Int32) : Prop := ∀ (j : Nat) (v : Int32), st[j]? = some v → g 154 (st.length - 1 - j) = v
theorem Stk_push {g : Mm} {st : List Int32} {v : Int32} (hs : Stk g st) : Stk (u2 g 154 st.length v) (v :: st) := by
  intro j x hj
  cases j with
  | zero => simp at hj; subst hj; simp [u2]
  | succ j =>
    have hj' : st[j]? = some x := by simpa using hj
    have hlt : j < st.length := (List.getElem?_eq_some_iff.mp hj').1
    rw [show (v :: st).length - 1 - (j + 1) = st.length - 1 - j by simp; omega]
    unfold u2
    rw [if_neg (by omega)]
    exact hs j x hj'
theorem Stk_tail {g : Mm} {st : List Int32} {v : Int32} (hs : Stk g (v :: st)) : Stk g st := by
  intro j x hj
  have hlt : j < st.length := (List.getElem?_eq_some_iff.mp hj).1
  have := hs (j + 1) x (by simpa using hj)
  rw [show (v :: st).length - 1 - (j + 1) = st.length - 1 - j by simp; omega] at this
  exact this
theorem Stk_top {g : Mm} {st : List Int32} {v : Int32} (hs : Stk g (v :: st)) : g 154 st.length = v := by
  have := hs 0 v rfl
  simpa using this
theorem encC_num {t : Tok} (h : t.1 = 0) : encC t = t.2 := by simp [encC, h]
theorem encC_fact {t : Tok} (h : 1 ≤ t.1) (h6 : t.1 ≤ 6) : encC t = nI (999 + t.1) := by unfold encC; rw [if_neg (by omega), if_pos h6]
theorem encC_op {t : Tok} (h : 7 ≤ t.1) (h6 : t.1 ≤ 17) : ∃ k : Nat, 2000 ≤ k ∧ k ≤ 2010 ∧ encC t = nI k := by
  unfold encC
  rw [if_neg (by omega), if_neg (by omega)]
  by_cases c1 : t.1 ≤ 15
  · rw [if_pos c1]; exact ⟨1993 + t.1, by omega, by omega, rfl⟩
  · rw [if_neg c1]
    by_cases c2 : t.1 = 16
    · rw [if_pos c2]; exact ⟨2010, by omega, by omega, rfl⟩
    · rw [if_neg c2, if_pos (by omega)]; exact ⟨2009, by omega, by omega, rfl⟩
theorem encC_not {t : Tok} (h : t.1 = 18) : encC t = 2011 := by unfold encC; rw [if_neg (by omega), if_neg (by omega), if_neg (by omega), if_neg (by omega), if_neg (by omega)]
set_option maxRecDepth 10000 in
set_option maxHeartbeats 4000000 in
theorem c_work (hL : Lw h) {a : Nat} {toks : List Tok} {b : Bool} (hab : a + toks.length ≤ 300) (hok : ∀ t ∈ toks, tokOk t) (hcd : Cod g h a toks) (hty : tck toks [] = some [b]) (q : ∀ g', (∀ z, z ≠ 154 → g' z = g z) → Q (some (.int ((ev (g 153) toks []).getD 0 0))) g') : Ct l E lay NC 1 0 0 yX1_work [.ref h, .int (nI a), .int (nI (a + toks.length)), .ref 153, .ref 154] g Q X := by
  have hh : h + 5 < 153 := by obtain ⟨i, hi, e⟩ := hL; omega
  refine Ct_in k_yX1_work (by decide) rfl (Nat.le_of_ble_eq_true rfl) rfl ?_
  intro S hS hZ hr ht hR
  show J S 0 0 g 0 [some (.ref h), some (.int (nI a)), some (.int (nI (a + toks.length))), some (.ref 153), some (.ref 154), none, none, none] []
  refine J_iconst (v := 0) hS dX1_work_0 (by decide) ?_
  refine J_istore (lt := fun t1 => [some (.ref h), some (.int (nI a)), some (.int (nI (a + toks.length))), some (.ref 153), some (.ref 154), some (.int t1), none, none]) hS dX1_work_1 (Nat.le_of_ble_eq_true rfl) (fun _ => rfl) (fun t1 et1 => ?_)
  refine J_iload_n hS dX1_work_3 rfl ?_
  refine J_istore (lt := fun i1 => [some (.ref h), some (.int (nI a)), some (.int (nI (a + toks.length))), some (.ref 153), some (.ref 154), some (.int t1), some (.int i1), none]) hS dX1_work_4 (Nat.le_of_ble_eq_true rfl) (fun _ => rfl) (fun i1 ei1 => ?_)
  suffices H : ∀ (rest done : List Tok) (st : List Int32) (ts : List Bool) (t i : Int32) (g1 : Mm), toks = done ++ rest → tck rest ts = some [b] → tys2 ts st → st.length ≤ done.length → ev (g 153) rest st = ev (g 153) toks [] → t = nI st.length → i = nI (a + done.length) → (∀ z, z ≠ 154 → g1 z = g z) → Stk g1 st → J S 0 0 g1 6 [some (.ref h), some (.int (nI a)), some (.int (nI (a + toks.length))), some (.ref 153), some (.ref 154), some (.int t), some (.int i), none] [] by
    exact H toks [] [] [] t1 i1 g rfl hty trivial (Nat.le_refl _) rfl et1 ei1 (fun _ _ => rfl) (fun j v hj => by simp at hj)
  intro rest
  induction rest with
  | nil =>
    intro done st ts t i g1 hd hty1 hst hlen hev ht hi h1 hs
    rw [List.append_nil] at hd
    subst hd
    refine J_iload hS dX1_work_6 rfl ?_
    refine J_iload_n hS dX1_work_8 rfl ?_
    refine J_icmp_ge (tgt := 141) hS dX1_work_9 (by decide) (fun c1 => ?_) (fun c1 => ?_)
    · have htl : ts = [b] := by unfold tck at hty1; exact Option.some.inj hty1
      subst htl
      have hl1 := tys2_len hst
      match st, hst, hl1, hs, hev, ht with
      | [v], hst, hl1, hs, hev, ht =>
        refine J_iload hS dX1_work_141 rfl ?_
        refine J_if_le (tgt := 153) hS dX1_work_143 (by decide) (fun c2 => ?_) (fun c2 => ?_)
        · rw [ht] at c2; exact absurd c2 (show ¬ nI 1 ≤ 0 by decide)
        ·
          refine J_aload hS dX1_work_146 rfl ?_
          refine J_iconst (v := 0) hS dX1_work_148 (by decide) ?_
          refine J_ialdN hS (0) dX1_work_149 ar154 (by first | rfl | (simp only [n0, n1, n2, n3, n4, n5, n6, n7, n8, n9, n10, n11, n12, n13, n14, n15, n16, n17, n18, n19, n20, n24, n32, n56, n60, n64, n72, n99, n100, n128, n136, n142, n144, n200, n300, n999, n1000, n1500, n3464, nI_add, pk_mul] <;> first | rfl | (congr 1; omega))) (by omega) (by decide) ?_
          refine J_goto (tgt := 154) hS dX1_work_150 (by decide) ?_
          refine J_iret hS hZ hr dX1_work_154 (by omega) (by omega) ?_
          have e1 : g1 154 0 = v := Stk_top hs
          rw [e1]
          have e2 := q g1 h1
          rw [← hev] at e2
          exact e2
    · exact absurd (by rw [hi]; exact Int32.le_refl _) c1
  | cons tk rest ih =>
    intro done st ts t i g1 hd hty1 hst hlen hev ht hi h1 hs
    have hlt : done.length < toks.length := by rw [hd]; simp
    have htk : toks[done.length]? = some tk := by rw [hd]; simp
    have hok1 := hok tk (List.mem_of_getElem? htk)
    have hcd1 : g1 (h + 5) (a + done.length) = encC tk := by rw [h1 (h + 5) (by omega)]; exact hcd _ _ htk
    have hd' : toks = (done ++ [tk]) ++ rest := by rw [hd]; simp
    have hdl : (done ++ [tk]).length = done.length + 1 := by simp
    obtain ⟨ts', hts', hty2⟩ : ∃ ts', tst tk ts = some ts' ∧ tck rest ts' = some [b] := by
      unfold tck at hty1
      cases e : tst tk ts with
      | none => rw [e] at hty1; cases hty1
      | some x => rw [e] at hty1; exact ⟨x, rfl, hty1⟩
    have hst' := stp_ty (f := g 153) hts' hst
    have hev' : ev (g 153) rest (stp (g 153) tk st) = ev (g 153) toks [] := hev
    have nxt : ∀ (t' i' x : Int32) (g2 : Mm), (stp (g 153) tk st).length ≤ done.length + 1 → t' = nI (stp (g 153) tk st).length → i' = i + 1 → (∀ z, z ≠ 154 → g2 z = g z) → Stk g2 (stp (g 153) tk st) → J S 0 0 g2 6 [some (.ref h), some (.int (nI a)), some (.int (nI (a + toks.length))), some (.ref 153), some (.ref 154), some (.int t'), some (.int i'), some (.int x)] [] := by
      intro t' i' x g2 hl2 ht' hi' h2 hs2
      refine J_weak (ls' := [some (.ref h), some (.int (nI a)), some (.int (nI (a + toks.length))), some (.ref 153), some (.ref 154), some (.int t'), some (.int i'), none]) ⟨Or.inr rfl, Or.inr rfl, Or.inr rfl, Or.inr rfl, Or.inr rfl, Or.inr rfl, Or.inr rfl, Or.inl rfl, trivial⟩ ?_
      exact ih (done ++ [tk]) _ ts' t' i' g2 hd' hty2 hst' (by rw [hdl]; exact hl2) hev' ht' (by rw [hi', hi, hdl, nI_1]; rfl) h2 hs2
    refine J_iload hS dX1_work_6 rfl ?_
    refine J_iload_n hS dX1_work_8 rfl ?_
    refine J_icmp_ge (tgt := 141) hS dX1_work_9 (by decide) (fun c1 => ?_) (fun c1 => ?_)
    · exact absurd (by rw [hi] at c1; exact c1) (nI_ge (show a + done.length < a + toks.length by omega) (by omega))
    · subst hi
      refine J_aload_n hS dX1_work_12 rfl ?_
      refine J_getR (t := h + 5) hS dX1_work_13 flX1_28 hL.ob rfl ?_
      refine J_iload hS dX1_work_16 rfl ?_
      refine J_ialdN hS (a + done.length) dX1_work_18 (show Ar lay NC .int (h + 5) 300 from hL.ar 5 (by decide) (by decide)) (by first | rfl | (simp only [n0, n1, n2, n3, n4, n5, n6, n7, n8, n9, n10, n11, n12, n13, n14, n15, n16, n17, n18, n19, n20, n24, n32, n56, n60, n64, n72, n99, n100, n128, n136, n142, n144, n200, n300, n999, n1000, n1500, n3464, nI_add, pk_mul] <;> first | rfl | (congr 1; omega))) (by omega) (by decide) ?_
      refine J_istore (lt := fun x => [some (.ref h), some (.int (nI a)), some (.int (nI (a + toks.length))), some (.ref 153), some (.ref 154), some (.int t), some (.int (nI (a + done.length))), some (.int x)]) hS dX1_work_19 (Nat.le_of_ble_eq_true rfl) (fun _ => rfl) (fun x ex => ?_)
      refine J_iload hS dX1_work_21 rfl ?_
      refine J_sipush (v := 2000) hS dX1_work_23 (by decide) ?_
      rw [hcd1] at ex
      refine J_icmp_ge (tgt := 69) hS dX1_work_26 (by decide) (fun c2 => ?_) (fun c2 => ?_)
      · by_cases k18 : tk.1 = 18
        · have ex2 : x = 2011 := by rw [ex, encC_not k18]
          refine J_iload hS dX1_work_69 rfl ?_
          refine J_sipush (v := 2011) hS dX1_work_71 (by decide) ?_
          refine J_icmp_ne (tgt := 102) hS dX1_work_74 (by decide) (fun c3 => ?_) (fun c3 => ?_)
          · exact absurd ex2 c3
          · have : ∃ v r, st = v :: r := by
              match st, ts, hst, hts' with
              | v :: r, _, _, _ => exact ⟨v, r, rfl⟩
              | [], [], _, hts' => simp [tst, k18] at hts'
              | [], _ :: _, hst, _ => exact hst.elim
            obtain ⟨v, r, rfl⟩ := this
            have e5 : stp (g 153) tk (v :: r) = (1 - v) :: r := by simp [stp, k18]
            rw [e5] at nxt
            refine J_iload hS dX1_work_77 rfl ?_
            refine J_iconst (v := 1) hS dX1_work_79 (by decide) ?_
            refine J_icmp_lt (tgt := 135) hS dX1_work_80 (by decide) (fun c4 => ?_) (fun c4 => ?_)
            · rw [ht] at c4; exact absurd c4 (nI_nlt (by simp) (by simp at hlen ⊢; omega))
            · subst ht
              refine J_aload hS dX1_work_83 rfl ?_
              refine J_iload hS dX1_work_85 rfl ?_
              refine J_iconst (v := 1) hS dX1_work_87 (by decide) ?_
              refine J_isub hS dX1_work_88 ?_
              refine J_iconst (v := 1) hS dX1_work_89 (by decide) ?_
              refine J_aload hS dX1_work_90 rfl ?_
              refine J_iload hS dX1_work_92 rfl ?_
              refine J_iconst (v := 1) hS dX1_work_94 (by decide) ?_
              refine J_isub hS dX1_work_95 ?_
              refine J_ialdN hS (r.length) dX1_work_96 ar154 (nI_pred r.length) (by simp at hlen; omega) (by decide) ?_
              refine J_isub hS dX1_work_97 ?_
              refine J_iastN hS (r.length) dX1_work_98 ar154 (nI_pred r.length) (by simp at hlen; omega) (by decide) (fun g98 eg98 => ?_)
              refine J_goto (tgt := 135) hS dX1_work_99 (by decide) ?_
              refine J_iinc (lt := fun i2 => [some (.ref h), some (.int (nI a)), some (.int (nI (a + toks.length))), some (.ref 153), some (.ref 154), some (.int (nI (v :: r).length)), some (.int i2), some (.int x)]) (v := 1) hS dX1_work_135 rfl (by decide) (fun _ => rfl) (fun i2 ei2 => ?_)
              refine J_goto (tgt := 6) hS dX1_work_138 (by decide) ?_
              have e6 : g1 154 r.length = v := Stk_top hs
              rw [eg98, e6]
              exact nxt _ i2 x _ (by simp at hlen ⊢; omega) rfl ei2 (fun z hz => by rw [u2_ne z hz]; exact h1 z hz) (Stk_push (Stk_tail hs))
        · have k7 : 7 ≤ tk.1 ∧ tk.1 ≤ 17 := by
            rcases hok1 with ⟨z1, k, z2, z3⟩ | ⟨z1, z2⟩
            · rw [ex, encC_num z1, z3] at c2
              exact absurd c2 (nI_ge (show k < 2000 by omega) (by decide))
            · rcases Nat.lt_or_ge tk.1 7 with z | z
              · rw [ex, encC_fact z1 (by omega)] at c2
                exact absurd c2 (nI_ge (show 999 + tk.1 < 2000 by omega) (by decide))
              · omega
          have : ∃ w v r, st = w :: v :: r := by
            have hl1 := tys2_len hst
            have : 2 ≤ ts.length := by
              match ts, hts' with
              | _ :: _ :: _, _ => simp
              | [], hts' =>
                unfold tst at hts'
                rw [if_neg (by omega), if_neg k18] at hts'
                repeat' split at hts'
                all_goals simp_all
              | [_], hts' =>
                unfold tst at hts'
                rw [if_neg (by omega), if_neg k18] at hts'
                repeat' split at hts'
                all_goals simp_all
            match st, hl1 with
            | w :: v :: r, _ => exact ⟨w, v, r, rfl⟩
            | [], hl1 => simp at hl1; omega
            | [_], hl1 => simp at hl1; omega
          obtain ⟨w, v, r, rfl⟩ := this
          have e5 : stp (g 153) tk (w :: v :: r) = op2 tk.1 v w :: r := by unfold stp; rw [if_neg (by omega), if_neg (by omega), if_neg k18]
          rw [e5] at nxt
          refine J_iload hS dX1_work_69 rfl ?_
          refine J_sipush (v := 2011) hS dX1_work_71 (by decide) ?_
          refine J_icmp_ne (tgt := 102) hS dX1_work_74 (by decide) (fun c3 => ?_) (fun c3 => ?_)
          ·
            refine J_iload hS dX1_work_102 rfl ?_
            refine J_iconst (v := 2) hS dX1_work_104 (by decide) ?_
            refine J_icmp_lt (tgt := 135) hS dX1_work_105 (by decide) (fun c4 => ?_) (fun c4 => ?_)
            · rw [ht] at c4; exact absurd c4 (nI_nlt (by simp) (by simp at hlen ⊢; omega))
            · subst ht
              subst ex
              refine J_iinc (lt := fun t2 => [some (.ref h), some (.int (nI a)), some (.int (nI (a + toks.length))), some (.ref 153), some (.ref 154), some (.int t2), some (.int (nI (a + done.length))), some (.int (encC tk))]) (v := (-1)) hS dX1_work_108 rfl (by decide) (fun _ => rfl) (fun t2 et2 => ?_)
              have et2' : t2 = nI (r.length + 1) := by rw [et2]; exact pk_m1 (r.length + 1)
              subst et2'
              refine J_aload hS dX1_work_111 rfl ?_
              refine J_iload hS dX1_work_113 rfl ?_
              refine J_iconst (v := 1) hS dX1_work_115 (by decide) ?_
              refine J_isub hS dX1_work_116 ?_
              refine J_iload hS dX1_work_117 rfl ?_
              refine J_aload hS dX1_work_119 rfl ?_
              refine J_iload hS dX1_work_121 rfl ?_
              refine J_iconst (v := 1) hS dX1_work_123 (by decide) ?_
              refine J_isub hS dX1_work_124 ?_
              refine J_ialdN hS (r.length) dX1_work_125 ar154 (nI_pred r.length) (by simp at hlen; omega) (by decide) ?_
              refine J_aload hS dX1_work_126 rfl ?_
              refine J_iload hS dX1_work_128 rfl ?_
              refine J_ialdN hS (r.length + 1) dX1_work_130 ar154 (by first | rfl | (simp only [n0, n1, n2, n3, n4, n5, n6, n7, n8, n9, n10, n11, n12, n13, n14, n15, n16, n17, n18, n19, n20, n24, n32, n56, n60, n64, n72, n99, n100, n128, n136, n142, n144, n200, n300, n999, n1000, n1500, n3464, nI_add, pk_mul] <;> first | rfl | (congr 1; omega))) (by simp at hlen; omega) (by decide) ?_
              have e6 : g1 154 (r.length + 1) = w := Stk_top hs
              have e7 : g1 154 r.length = v := Stk_top (Stk_tail hs)
              rw [e6, e7]
              refine J_callS3 (X' := fun _ _ => False) hS dX1_work_131 msX1_34 rfl (by decide) (by decide) (Nat.le_of_ble_eq_true rfl) hR (fun _ _ q => q.elim) (c_act (c := tk.1) (v := tk.2) k7.1 k7.2 ?_)
              refine J_iastN hS (r.length) dX1_work_134 ar154 (nI_pred r.length) (by simp at hlen; omega) (by decide) (fun g134 eg134 => ?_)
              refine J_iinc (lt := fun i2 => [some (.ref h), some (.int (nI a)), some (.int (nI (a + toks.length))), some (.ref 153), some (.ref 154), some (.int (nI (r.length + 1))), some (.int i2), some (.int (encC tk))]) (v := 1) hS dX1_work_135 rfl (by decide) (fun _ => rfl) (fun i2 ei2 => ?_)
              refine J_goto (tgt := 6) hS dX1_work_138 (by decide) ?_
              rw [eg134]
              exact nxt _ i2 _ _ (by simp at hlen ⊢; omega) rfl ei2 (fun z hz => by rw [u2_ne z hz]; exact h1 z hz) (Stk_push (Stk_tail (Stk_tail hs)))
          · obtain ⟨k, z1, z2, z3⟩ := encC_op k7.1 k7.2
            rw [ex, z3] at c3
            exact absurd ((nI_eq (b := 2011) (by omega) (by decide)).mp c3) (by omega)
      · have k6 : tk.1 ≤ 6 := by
          rcases hok1 with ⟨z1, _⟩ | ⟨z1, z2⟩
          · omega
          · rcases Nat.lt_or_ge tk.1 7 with z | z
            · omega
            · rcases Nat.lt_or_ge tk.1 18 with y | y
              · obtain ⟨k, y1, y2, y3⟩ := encC_op z (by omega)
                exact absurd (by rw [ex, y3]; exact nI_le (show 2000 ≤ k by omega) (by omega)) c2
              · exact absurd (by rw [ex, encC_not (by omega)]; decide) c2
        subst ht
        refine J_iload hS dX1_work_29 rfl ?_
        refine J_aload hS dX1_work_31 rfl ?_
        refine J_alen (v := 300) hS dX1_work_33 ar154 (by decide) ?_
        refine J_icmp_ge (tgt := 135) hS dX1_work_34 (by decide) (fun c3 => ?_) (fun c3 => ?_)
        · exact absurd c3 (nI_ge (show st.length < 300 by omega) (by decide))
        ·
          refine J_aload hS dX1_work_37 rfl ?_
          refine J_iload hS dX1_work_39 rfl ?_
          refine J_iload hS dX1_work_41 rfl ?_
          refine J_sipush (v := 1000) hS dX1_work_43 (by decide) ?_
          refine J_icmp_ge (tgt := 54) hS dX1_work_46 (by decide) (fun c4 => ?_) (fun c4 => ?_)
          · rcases hok1 with ⟨z1, k, z2, z3⟩ | ⟨z1, z2⟩
            · rw [ex, encC_num z1, z3] at c4
              exact absurd c4 (nI_ge (show k < 1000 by omega) (by decide))
            · have e5 : stp (g 153) tk st = g 153 (tk.1 - 1) :: st := by unfold stp; rw [if_neg (by omega), if_pos k6]
              rw [e5] at nxt
              have ex2 : x - 1000 = nI (tk.1 - 1) := by
                rw [ex, encC_fact z1 k6, n1000, pk_sub (by omega)]; congr 1; omega
              refine J_aload_n hS dX1_work_54 rfl ?_
              refine J_iload hS dX1_work_55 rfl ?_
              refine J_sipush (v := 1000) hS dX1_work_57 (by decide) ?_
              refine J_isub hS dX1_work_60 ?_
              refine J_ialdN hS (tk.1 - 1) dX1_work_61 ar153 ex2 (by omega) (by decide) ?_
              refine J_iastN hS (st.length) dX1_work_62 ar154 (by first | rfl | (simp only [n0, n1, n2, n3, n4, n5, n6, n7, n8, n9, n10, n11, n12, n13, n14, n15, n16, n17, n18, n19, n20, n24, n32, n56, n60, n64, n72, n99, n100, n128, n136, n142, n144, n200, n300, n999, n1000, n1500, n3464, nI_add, pk_mul] <;> first | rfl | (congr 1; omega))) (by omega) (by decide) (fun g62 eg62 => ?_)
              refine J_iinc (lt := fun t2 => [some (.ref h), some (.int (nI a)), some (.int (nI (a + toks.length))), some (.ref 153), some (.ref 154), some (.int t2), some (.int (nI (a + done.length))), some (.int x)]) (v := 1) hS dX1_work_63 rfl (by decide) (fun _ => rfl) (fun t2 et2 => ?_)
              refine J_goto (tgt := 135) hS dX1_work_66 (by decide) ?_
              refine J_iinc (lt := fun i2 => [some (.ref h), some (.int (nI a)), some (.int (nI (a + toks.length))), some (.ref 153), some (.ref 154), some (.int t2), some (.int i2), some (.int x)]) (v := 1) hS dX1_work_135 rfl (by decide) (fun _ => rfl) (fun i2 ei2 => ?_)
              refine J_goto (tgt := 6) hS dX1_work_138 (by decide) ?_
              rw [eg62, h1 153 (by decide)]
              exact nxt t2 i2 x _ (by simp; omega) (by rw [et2, nI_1]; rfl) ei2 (fun z hz => by rw [u2_ne z hz]; exact h1 z hz) (Stk_push hs)
          · rcases hok1 with ⟨z1, k, z2, z3⟩ | ⟨z1, z2⟩
            · have e5 : stp (g 153) tk st = x :: st := by unfold stp; rw [if_pos z1, ex, encC_num z1]
              rw [e5] at nxt
              refine J_iload hS dX1_work_49 rfl ?_
              refine J_goto (tgt := 62) hS dX1_work_51 (by decide) ?_
              refine J_iastN hS (st.length) dX1_work_62 ar154 (by first | rfl | (simp only [n0, n1, n2, n3, n4, n5, n6, n7, n8, n9, n10, n11, n12, n13, n14, n15, n16, n17, n18, n19, n20, n24, n32, n56, n60, n64, n72, n99, n100, n128, n136, n142, n144, n200, n300, n999, n1000, n1500, n3464, nI_add, pk_mul] <;> first | rfl | (congr 1; omega))) (by omega) (by decide) (fun g62 eg62 => ?_)
              refine J_iinc (lt := fun t2 => [some (.ref h), some (.int (nI a)), some (.int (nI (a + toks.length))), some (.ref 153), some (.ref 154), some (.int t2), some (.int (nI (a + done.length))), some (.int x)]) (v := 1) hS dX1_work_63 rfl (by decide) (fun _ => rfl) (fun t2 et2 => ?_)
              refine J_goto (tgt := 135) hS dX1_work_66 (by decide) ?_
              refine J_iinc (lt := fun i2 => [some (.ref h), some (.int (nI a)), some (.int (nI (a + toks.length))), some (.ref 153), some (.ref 154), some (.int t2), some (.int i2), some (.int x)]) (v := 1) hS dX1_work_135 rfl (by decide) (fun _ => rfl) (fun i2 ei2 => ?_)
              refine J_goto (tgt := 6) hS dX1_work_138 (by decide) ?_
              rw [eg62]
              exact nxt t2 i2 x _ (by simp; omega) (by rw [et2, nI_1]; rfl) ei2 (fun z hz => by rw [u2_ne z hz]; exact h1 z hz) (Stk_push hs)
            · exact absurd (by rw [ex, encC_fact z1 k6]; exact nI_le (show 1000 ≤ 999 + tk.1 by omega) (by omega)) c4
end ClsE


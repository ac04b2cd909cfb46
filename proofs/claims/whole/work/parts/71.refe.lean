/-! THE REFERENCE: what a law's codes come to -/
theorem div_m1 (x : Int32) : x / (-1) = -x := by
  apply Int32.toInt_inj.mp
  have e : (-1 : Int32).toInt = -1 := by decide
  rw [Int32.toInt_div, e, Int32.toInt_neg x]
  simp
theorem op_01 : ∀ a b : Int32, (a = 0 ∨ a = 1) → (b = 0 ∨ b = 1) → (if 0 < a + b then (1 : Int32) else 0) = a ||| b ∧ a * b = a &&& b := by
  intro a b ha hb
  rcases ha with e | e <;> rcases hb with f | f <;> subst e <;> subst f <;> decide
def op2M (c : Nat) (a b : Int32) : Int32 := if c = 16 then (if 0 < a + b then 1 else 0) else if c = 17 then a * b else op2 c a b
theorem op2M_n {c : Nat} {a b : Int32} (h : c ≤ 15) : op2M c a b = op2 c a b := by unfold op2M; rw [if_neg (by omega), if_neg (by omega)]
theorem op2M_b {c : Nat} {a b : Int32} (h1 : 16 ≤ c) (h2 : c ≤ 17) (ha : a = 0 ∨ a = 1) (hb : b = 0 ∨ b = 1) : op2M c a b = op2 c a b := by
  obtain ⟨z1, z2⟩ := op_01 a b ha hb
  rcases (show c = 16 ∨ c = 17 by omega) with e | e
  · subst e; exact z1
  · subst e; exact z2
def AskM (g : Mm) (f : Nat → Int32) : Prop := ∀ j, j < 6 → g 162 (21 + j) = f j
/-- the codes l stand from i on -/
def CodM (g : Mm) (i : Nat) (l : List Tok) : Prop := ∀ (j : Nat) (t : Tok), l[j]? = some t → g 182 (i + j) = nI t.1 ∧ (t.1 = 0 → g 183 (i + j) = t.2)
def StkM (g : Mm) (st : List Int32) : Prop := ∀ (j : Nat) (v : Int32), st[j]? = some v → g 191 (st.length - 1 - j) = v
theorem StkM_push {g : Mm} {st : List Int32} {v : Int32} (hs : StkM g st) : StkM (u2 g 191 st.length v) (v :: st) := by
  intro j x hj
  cases j with
  | zero => simp at hj; subst hj; simp [u2]
  | succ j =>
    have hj' : st[j]? = some x := by simpa using hj
    have hlt : j < st.length := (List.getElem?_eq_some_iff.mp hj').1
    rw [show (v :: st).length - 1 - (j + 1) = st.length - 1 - j by simp; omega]
    unfold u2
    rw [if_neg (by omega)]
    exact hs j x hj'
theorem StkM_tail {g : Mm} {st : List Int32} {v : Int32} (hs : StkM g (v :: st)) : StkM g st := by
  intro j x hj
  have hlt : j < st.length := (List.getElem?_eq_some_iff.mp hj).1
  have := hs (j + 1) x (by simpa using hj)
  rw [show (v :: st).length - 1 - (j + 1) = st.length - 1 - j by simp; omega] at this
  exact this
theorem StkM_top {g : Mm} {st : List Int32} {v : Int32} (hs : StkM g (v :: st)) : g 191 st.length = v := by
  have := hs 0 v rfl
  simpa using this
theorem tst_len {t : Tok} {ts ts' : List Bool} (h : tst t ts = some ts') : ts'.length ≤ ts.length + 1 ∧ ts.length ≤ ts'.length + 1 := by
  unfold tst at h
  repeat' split at h
  all_goals first | (cases h; done) | (cases h; simp; try omega)
theorem tck_len : ∀ {l : List Tok} {ts ts' : List Bool}, tck l ts = some ts' → ts.length ≤ ts'.length + l.length
  | [], ts, ts', h => by cases h; simp
  | t :: l, ts, ts', h => by
    unfold tck at h
    cases e : tst t ts with
    | none => rw [e] at h; cases h
    | some x =>
      rw [e] at h
      have a := tst_len e
      have b := tck_len (l := l) h
      simp only [List.length_cons]; omega
theorem nI_dec (n : Nat) : nI (n + 1) + (-1) = nI n := by
  have := nI_pred n
  rw [Int32.sub_eq_add_neg] at this; exact this
section RefE
variable {l : Launch} {E : Ey} {g : Mm} {Q : Option Value → Mm → Prop} {X : String → Mm → Prop}
theorem m_bounded {x : Int32} (q : Q (some (.int (kb x))) g) : Ct l E lay NC 0 0 0 yX8_bounded [.int x] g Q X := by
  refine Ct_in k_yX8_bounded (by decide) rfl (Nat.le_of_ble_eq_true rfl) rfl ?_
  intro S hS hZ hr ht hR
  show J S 0 0 (g) 0 [some (.int x)] []
  have hkb : kb x = if x < 0 then 0 else if 999 < x then 999 else x := by
    unfold kb
    by_cases a : x < 0
    · rw [if_pos a, if_pos (Int32.lt_trans a (by decide)), if_neg (Int32.not_lt.mpr (Int32.le_of_lt a))]
    · rw [if_neg a]
      by_cases b : x < 999
      · rw [if_pos b, if_neg (Int32.not_lt.mpr (Int32.le_of_lt b))]
        by_cases c : 0 < x
        · rw [if_pos c]
        · rw [if_neg c]; exact (Int32.le_antisymm (Int32.not_lt.mp c) (Int32.not_lt.mp a)).symm
      · rw [if_neg b, if_pos (by decide)]
        by_cases c : 999 < x
        · rw [if_pos c]
        · rw [if_neg c]; exact (Int32.le_antisymm (Int32.not_lt.mp c) (Int32.not_lt.mp b)).symm
  rw [hkb] at q
  refine J_iload_n hS dX8_bounded_0 rfl ?_
  refine J_if_ge (tgt := 8) hS dX8_bounded_1 (by decide) (fun c1 => ?_) (fun c1 => ?_)
  · rw [if_neg (Int32.not_lt.mpr c1)] at q
    refine J_iload_n hS dX8_bounded_8 rfl ?_
    refine J_sipush (v := 999) hS dX8_bounded_9 (by decide) ?_
    refine J_icmp_le (tgt := 21) hS dX8_bounded_12 (by decide) (fun c2 => ?_) (fun c2 => ?_)
    ·
      refine J_iload_n hS dX8_bounded_21 rfl ?_
      refine J_iret hS hZ hr dX8_bounded_22 (by omega) (by omega) ?_
      rw [if_neg (Int32.not_lt.mpr c2)] at q; exact q
    ·
      refine J_sipush (v := 999) hS dX8_bounded_15 (by decide) ?_
      refine J_goto (tgt := 22) hS dX8_bounded_18 (by decide) ?_
      refine J_iret hS hZ hr dX8_bounded_22 (by omega) (by omega) ?_
      rw [if_pos (Int32.not_le.mp c2)] at q; exact q
  ·
    refine J_iconst (v := 0) hS dX8_bounded_4 (by decide) ?_
    refine J_goto (tgt := 22) hS dX8_bounded_5 (by decide) ?_
    refine J_iret hS hZ hr dX8_bounded_22 (by omega) (by omega) ?_
    rw [if_pos (Int32.not_le.mp c1)] at q; exact q
theorem m_asked {k : Nat} {f : Nat → Int32} (hf : AskM g f) (h1 : 1 ≤ k) (h6 : k ≤ 6) (q : Q (some (.int (f (k - 1)))) g) : Ct l E lay NC 0 0 0 yX8_asked [.ref 162, .int (nI k)] g Q X := by
  refine Ct_in k_yX8_asked (by decide) rfl (Nat.le_of_ble_eq_true rfl) rfl ?_
  intro S hS hZ hr ht hR
  show J S 0 0 (g) 0 [some (.ref 162), some (.int (nI k))] []
  refine J_iload_n hS dX8_asked_0 rfl ?_
  rcases (show k = 1 ∨ k = 2 ∨ k = 3 ∨ k = 4 ∨ k = 5 ∨ k = 6 by omega) with e | e | e | e | e | e
  · subst e
    refine J_tableIn (off := 35) (tgt := 36) hS dX8_asked_1 (by decide) (by decide) rfl (by decide) ?_
    refine J_aload_n hS dX8_asked_36 rfl ?_
    refine J_getI hS dX8_asked_37 flX8_240 ob162 rfl ?_
    refine J_iret hS hZ hr dX8_asked_40 (by omega) (by omega) ?_
    rw [hf 0 (by decide)]; exact q
  · subst e
    refine J_tableIn (off := 40) (tgt := 41) hS dX8_asked_1 (by decide) (by decide) rfl (by decide) ?_
    refine J_aload_n hS dX8_asked_41 rfl ?_
    refine J_getI hS dX8_asked_42 flX8_243 ob162 rfl ?_
    refine J_iret hS hZ hr dX8_asked_45 (by omega) (by omega) ?_
    rw [hf 1 (by decide)]; exact q
  · subst e
    refine J_tableIn (off := 45) (tgt := 46) hS dX8_asked_1 (by decide) (by decide) rfl (by decide) ?_
    refine J_aload_n hS dX8_asked_46 rfl ?_
    refine J_getI hS dX8_asked_47 flX8_246 ob162 rfl ?_
    refine J_iret hS hZ hr dX8_asked_50 (by omega) (by omega) ?_
    rw [hf 2 (by decide)]; exact q
  · subst e
    refine J_tableIn (off := 50) (tgt := 51) hS dX8_asked_1 (by decide) (by decide) rfl (by decide) ?_
    refine J_aload_n hS dX8_asked_51 rfl ?_
    refine J_getI hS dX8_asked_52 flX8_249 ob162 rfl ?_
    refine J_iret hS hZ hr dX8_asked_55 (by omega) (by omega) ?_
    rw [hf 3 (by decide)]; exact q
  · subst e
    refine J_tableIn (off := 55) (tgt := 56) hS dX8_asked_1 (by decide) (by decide) rfl (by decide) ?_
    refine J_aload_n hS dX8_asked_56 rfl ?_
    refine J_getI hS dX8_asked_57 flX8_252 ob162 rfl ?_
    refine J_iret hS hZ hr dX8_asked_60 (by omega) (by omega) ?_
    rw [hf 4 (by decide)]; exact q
  · subst e
    refine J_tableOut (tgt := 61) hS dX8_asked_1 (by decide) (by decide) ?_
    refine J_aload_n hS dX8_asked_61 rfl ?_
    refine J_getI hS dX8_asked_62 flX8_255 ob162 rfl ?_
    refine J_iret hS hZ hr dX8_asked_65 (by omega) (by omega) ?_
    rw [hf 5 (by decide)]; exact q
theorem m_two {c : Nat} {a b : Int32} (h7 : 7 ≤ c) (h17 : c ≤ 17) (q : Q (some (.int (op2M c a b))) g) : Ct l E lay NC 0 0 0 yX8_two [.int (nI c), .int a, .int b] g Q X := by
  refine Ct_in k_yX8_two (by decide) rfl (Nat.le_of_ble_eq_true rfl) rfl ?_
  intro S hS hZ hr ht hR
  show J S 0 0 (g) 0 [some (.int (nI c)), some (.int a), some (.int b)] []
  refine J_iload_n hS dX8_two_0 rfl ?_
  rcases (show c = 7 ∨ c = 8 ∨ c = 9 ∨ c = 10 ∨ c = 11 ∨ c = 12 ∨ c = 13 ∨ c = 14 ∨ c = 15 ∨ c = 16 ∨ c = 17 by omega) with e | e | e | e | e | e | e | e | e | e | e
  · subst e
    refine J_tableIn (off := 55) (tgt := 56) hS dX8_two_1 (by decide) (by decide) rfl (by decide) ?_
    refine J_iload_n hS dX8_two_56 rfl ?_
    refine J_iload_n hS dX8_two_57 rfl ?_
    refine J_iadd hS dX8_two_58 ?_
    refine J_iret hS hZ hr dX8_two_59 (by omega) (by omega) ?_
    exact q
  · subst e
    refine J_tableIn (off := 59) (tgt := 60) hS dX8_two_1 (by decide) (by decide) rfl (by decide) ?_
    refine J_iload_n hS dX8_two_60 rfl ?_
    refine J_iload_n hS dX8_two_61 rfl ?_
    refine J_isub hS dX8_two_62 ?_
    refine J_iret hS hZ hr dX8_two_63 (by omega) (by omega) ?_
    exact q
  · subst e
    refine J_tableIn (off := 63) (tgt := 64) hS dX8_two_1 (by decide) (by decide) rfl (by decide) ?_
    refine J_iload_n hS dX8_two_64 rfl ?_
    refine J_iload_n hS dX8_two_65 rfl ?_
    refine J_imul hS dX8_two_66 ?_
    refine J_iret hS hZ hr dX8_two_67 (by omega) (by omega) ?_
    exact q
  · subst e
    have q' : Q (some (.int (if b = 0 then 0 else a / b))) g := q
    refine J_tableIn (off := 67) (tgt := 68) hS dX8_two_1 (by decide) (by decide) rfl (by decide) ?_
    refine J_iload_n hS dX8_two_68 rfl ?_
    refine J_if_ne (tgt := 76) hS dX8_two_69 (by decide) (fun c1 => ?_) (fun c1 => ?_)
    · rw [if_neg c1] at q'
      refine J_iload_n hS dX8_two_76 rfl ?_
      refine J_iconst (v := (-1)) hS dX8_two_77 (by decide) ?_
      refine J_icmp_ne (tgt := 86) hS dX8_two_78 (by decide) (fun c2 => ?_) (fun c2 => ?_)
      ·
        refine J_iload_n hS dX8_two_86 rfl ?_
        refine J_iload_n hS dX8_two_87 rfl ?_
        refine J_idiv hS dX8_two_88 c1 ?_
        refine J_iret hS hZ hr dX8_two_89 (by omega) (by omega) ?_
        exact q'
      ·
        refine J_iload_n hS dX8_two_81 rfl ?_
        refine J_ineg hS dX8_two_82 ?_
        refine J_goto (tgt := 89) hS dX8_two_83 (by decide) ?_
        refine J_iret hS hZ hr dX8_two_89 (by omega) (by omega) ?_
        rw [c2, div_m1] at q'; exact q'
    · rw [if_pos c1] at q'
      refine J_iconst (v := 0) hS dX8_two_72 (by decide) ?_
      refine J_goto (tgt := 89) hS dX8_two_73 (by decide) ?_
      refine J_iret hS hZ hr dX8_two_89 (by omega) (by omega) ?_
      exact q'
  · subst e
    have q' : Q (some (.int (if a < b then a else b))) g := q
    refine J_tableIn (off := 89) (tgt := 90) hS dX8_two_1 (by decide) (by decide) rfl (by decide) ?_
    refine J_iload_n hS dX8_two_90 rfl ?_
    refine J_iload_n hS dX8_two_91 rfl ?_
    refine J_icmp_ge (tgt := 99) hS dX8_two_92 (by decide) (fun c1 => ?_) (fun c1 => ?_)
    ·
      refine J_iload_n hS dX8_two_99 rfl ?_
      refine J_iret hS hZ hr dX8_two_100 (by omega) (by omega) ?_
      rw [if_neg (Int32.not_lt.mpr c1)] at q'; exact q'
    ·
      refine J_iload_n hS dX8_two_95 rfl ?_
      refine J_goto (tgt := 100) hS dX8_two_96 (by decide) ?_
      refine J_iret hS hZ hr dX8_two_100 (by omega) (by omega) ?_
      rw [if_pos (Int32.not_le.mp c1)] at q'; exact q'
  · subst e
    have q' : Q (some (.int (if b < a then a else b))) g := q
    refine J_tableIn (off := 100) (tgt := 101) hS dX8_two_1 (by decide) (by decide) rfl (by decide) ?_
    refine J_iload_n hS dX8_two_101 rfl ?_
    refine J_iload_n hS dX8_two_102 rfl ?_
    refine J_icmp_le (tgt := 110) hS dX8_two_103 (by decide) (fun c1 => ?_) (fun c1 => ?_)
    ·
      refine J_iload_n hS dX8_two_110 rfl ?_
      refine J_iret hS hZ hr dX8_two_111 (by omega) (by omega) ?_
      rw [if_neg (Int32.not_lt.mpr c1)] at q'; exact q'
    ·
      refine J_iload_n hS dX8_two_106 rfl ?_
      refine J_goto (tgt := 111) hS dX8_two_107 (by decide) ?_
      refine J_iret hS hZ hr dX8_two_111 (by omega) (by omega) ?_
      rw [if_pos (Int32.not_le.mp c1)] at q'; exact q'
  · subst e
    have q' : Q (some (.int (if a < b then 1 else 0))) g := q
    refine J_tableIn (off := 111) (tgt := 112) hS dX8_two_1 (by decide) (by decide) rfl (by decide) ?_
    refine J_iload_n hS dX8_two_112 rfl ?_
    refine J_iload_n hS dX8_two_113 rfl ?_
    refine J_icmp_ge (tgt := 121) hS dX8_two_114 (by decide) (fun c1 => ?_) (fun c1 => ?_)
    ·
      refine J_iconst (v := 0) hS dX8_two_121 (by decide) ?_
      refine J_iret hS hZ hr dX8_two_122 (by omega) (by omega) ?_
      rw [if_neg (Int32.not_lt.mpr c1)] at q'; exact q'
    ·
      refine J_iconst (v := 1) hS dX8_two_117 (by decide) ?_
      refine J_goto (tgt := 122) hS dX8_two_118 (by decide) ?_
      refine J_iret hS hZ hr dX8_two_122 (by omega) (by omega) ?_
      rw [if_pos (Int32.not_le.mp c1)] at q'; exact q'
  · subst e
    have q' : Q (some (.int (if b < a then 1 else 0))) g := q
    refine J_tableIn (off := 122) (tgt := 123) hS dX8_two_1 (by decide) (by decide) rfl (by decide) ?_
    refine J_iload_n hS dX8_two_123 rfl ?_
    refine J_iload_n hS dX8_two_124 rfl ?_
    refine J_icmp_le (tgt := 132) hS dX8_two_125 (by decide) (fun c1 => ?_) (fun c1 => ?_)
    ·
      refine J_iconst (v := 0) hS dX8_two_132 (by decide) ?_
      refine J_iret hS hZ hr dX8_two_133 (by omega) (by omega) ?_
      rw [if_neg (Int32.not_lt.mpr c1)] at q'; exact q'
    ·
      refine J_iconst (v := 1) hS dX8_two_128 (by decide) ?_
      refine J_goto (tgt := 133) hS dX8_two_129 (by decide) ?_
      refine J_iret hS hZ hr dX8_two_133 (by omega) (by omega) ?_
      rw [if_pos (Int32.not_le.mp c1)] at q'; exact q'
  · subst e
    have q' : Q (some (.int (if a = b then 1 else 0))) g := q
    refine J_tableIn (off := 133) (tgt := 134) hS dX8_two_1 (by decide) (by decide) rfl (by decide) ?_
    refine J_iload_n hS dX8_two_134 rfl ?_
    refine J_iload_n hS dX8_two_135 rfl ?_
    refine J_icmp_ne (tgt := 143) hS dX8_two_136 (by decide) (fun c1 => ?_) (fun c1 => ?_)
    ·
      refine J_iconst (v := 0) hS dX8_two_143 (by decide) ?_
      refine J_iret hS hZ hr dX8_two_144 (by omega) (by omega) ?_
      rw [if_neg c1] at q'; exact q'
    ·
      refine J_iconst (v := 1) hS dX8_two_139 (by decide) ?_
      refine J_goto (tgt := 144) hS dX8_two_140 (by decide) ?_
      refine J_iret hS hZ hr dX8_two_144 (by omega) (by omega) ?_
      rw [if_pos c1] at q'; exact q'
  · subst e
    have q' : Q (some (.int (if 0 < a + b then 1 else 0))) g := q
    refine J_tableIn (off := 144) (tgt := 145) hS dX8_two_1 (by decide) (by decide) rfl (by decide) ?_
    refine J_iload_n hS dX8_two_145 rfl ?_
    refine J_iload_n hS dX8_two_146 rfl ?_
    refine J_iadd hS dX8_two_147 ?_
    refine J_if_le (tgt := 155) hS dX8_two_148 (by decide) (fun c1 => ?_) (fun c1 => ?_)
    ·
      refine J_iconst (v := 0) hS dX8_two_155 (by decide) ?_
      refine J_iret hS hZ hr dX8_two_156 (by omega) (by omega) ?_
      rw [if_neg (Int32.not_lt.mpr c1)] at q'; exact q'
    ·
      refine J_iconst (v := 1) hS dX8_two_151 (by decide) ?_
      refine J_goto (tgt := 156) hS dX8_two_152 (by decide) ?_
      refine J_iret hS hZ hr dX8_two_156 (by omega) (by omega) ?_
      rw [if_pos (Int32.not_le.mp c1)] at q'; exact q'
  · subst e
    refine J_tableOut (tgt := 157) hS dX8_two_1 (by decide) (by decide) ?_
    refine J_iload_n hS dX8_two_157 rfl ?_
    refine J_iload_n hS dX8_two_158 rfl ?_
    refine J_imul hS dX8_two_159 ?_
    refine J_iret hS hZ hr dX8_two_160 (by omega) (by omega) ?_
    exact q
set_option maxRecDepth 10000 in
set_option maxHeartbeats 4000000 in
theorem m_valueOf {a : Nat} {toks : List Tok} {b : Bool} {f : Nat → Int32} (hab : a + toks.length ≤ 1800) (h300 : toks.length ≤ 300) (hok : ∀ t ∈ toks, tokOk t) (hcd : CodM g a toks) (hty : tck toks [] = some [b]) (hf : AskM g f) (q : ∀ g', (∀ z, z ≠ 191 → g' z = g z) → Q (some (.int ((ev f toks []).getD 0 0))) g') : Ct l E lay NC 1 0 0 yX8_valueOf [.ref 162, .int (nI a), .int (nI (a + toks.length))] g Q X := by
  refine Ct_in k_yX8_valueOf (by decide) rfl (Nat.le_of_ble_eq_true rfl) rfl ?_
  intro S hS hZ hr ht hR
  show J S 0 0 (g) 0 [some (.ref 162), some (.int (nI a)), some (.int (nI (a + toks.length))), none, none, none] []
  refine J_iconst (v := 0) hS dX8_valueOf_0 (by decide) ?_
  refine J_istore_n (lt := fun t1 => [some (.ref 162), some (.int (nI a)), some (.int (nI (a + toks.length))), some (.int t1), none, none]) hS dX8_valueOf_1 (Nat.le_of_ble_eq_true rfl) (fun _ => rfl) (fun t1 et1 => ?_)
  refine J_iload_n hS dX8_valueOf_2 rfl ?_
  refine J_istore (lt := fun i1 => [some (.ref 162), some (.int (nI a)), some (.int (nI (a + toks.length))), some (.int t1), some (.int i1), none]) hS dX8_valueOf_3 (Nat.le_of_ble_eq_true rfl) (fun _ => rfl) (fun i1 ei1 => ?_)
  suffices H : ∀ (rest done : List Tok) (st : List Int32) (ts : List Bool) (t i : Int32) (x : Option Value) (g1 : Mm), toks = done ++ rest → tck rest ts = some [b] → tys2 ts st → st.length ≤ done.length → ev f rest st = ev f toks [] → t = nI st.length → i = nI (a + done.length) → (∀ z, z ≠ 191 → g1 z = g z) → StkM g1 st → J S 0 0 g1 5 [some (.ref 162), some (.int (nI a)), some (.int (nI (a + toks.length))), some (.int t), some (.int i), x] [] by
    exact H toks [] [] [] t1 i1 none g rfl hty trivial (Nat.le_refl _) rfl et1 ei1 (fun _ _ => rfl) (fun j v hj => by simp at hj)
  intro rest
  induction rest with
  | nil =>
    intro done st ts t i x g1 hd hty1 hst hlen hev ht9 hi h1 hs
    refine J_weak (ls' := [some (.ref 162), some (.int (nI a)), some (.int (nI (a + toks.length))), some (.int t), some (.int i), none]) ⟨Or.inr rfl, Or.inr rfl, Or.inr rfl, Or.inr rfl, Or.inr rfl, Or.inl rfl, trivial⟩ ?_
    rw [List.append_nil] at hd
    subst hd
    refine J_iload hS dX8_valueOf_5 rfl ?_
    refine J_iload_n hS dX8_valueOf_7 rfl ?_
    refine J_icmp_ge (tgt := 124) hS dX8_valueOf_8 (by decide) (fun c1 => ?_) (fun c1 => ?_)
    · have htl : ts = [b] := by unfold tck at hty1; exact Option.some.inj hty1
      subst htl
      have hl1 := tys2_len hst
      match st, hst, hl1, hs, hev, ht9 with
      | [v], hst, hl1, hs, hev, ht9 =>
        refine J_aload_n hS dX8_valueOf_124 rfl ?_
        refine J_getR (t := 191) hS dX8_valueOf_125 flX8_53 ob162 rfl ?_
        refine J_iconst (v := 0) hS dX8_valueOf_128 (by decide) ?_
        refine J_ialdN hS (0) dX8_valueOf_129 (show Ar lay NC .int 191 160 from arM 28 160 (by decide) (by decide) rfl) (by first | rfl | (simp only [n0, n1, n2, n3, n4, n5, n6, n7, n8, n9, n10, n11, n12, n13, n14, n15, n16, n17, n18, n19, n20, n24, n32, n56, n60, n64, n72, n99, n100, n128, n136, n142, n144, n200, n300, n999, n1000, n1500, n3464, nI_add, pk_mul] <;> first | rfl | (congr 1; omega))) (by decide) (by decide) ?_
        refine J_iret hS hZ hr dX8_valueOf_130 (by omega) (by omega) ?_
        have e1 : g1 191 0 = v := StkM_top hs
        rw [e1]
        have e2 := q g1 h1
        rw [← hev] at e2
        exact e2
    · exact absurd (by rw [hi]; exact Int32.le_refl _) c1
  | cons tk rest ih =>
    intro done st ts t i x g1 hd hty1 hst hlen hev ht9 hi h1 hs
    refine J_weak (ls' := [some (.ref 162), some (.int (nI a)), some (.int (nI (a + toks.length))), some (.int t), some (.int i), none]) ⟨Or.inr rfl, Or.inr rfl, Or.inr rfl, Or.inr rfl, Or.inr rfl, Or.inl rfl, trivial⟩ ?_
    have hlt : done.length < toks.length := by rw [hd]; simp
    have hall : toks.length = done.length + (rest.length + 1) := by rw [hd]; simp
    have htk : toks[done.length]? = some tk := by rw [hd]; simp
    have hok1 := hok tk (List.mem_of_getElem? htk)
    have hcd1 : g1 182 (a + done.length) = nI tk.1 ∧ (tk.1 = 0 → g1 183 (a + done.length) = tk.2) := by rw [h1 182 (by decide), h1 183 (by decide)]; exact hcd _ _ htk
    have hd' : toks = (done ++ [tk]) ++ rest := by rw [hd]; simp
    have hdl : (done ++ [tk]).length = done.length + 1 := by simp
    have hl1 := tys2_len hst
    have hk1 := tck_len hty1
    have h150 : st.length ≤ 150 := by simp only [List.length_cons, List.length_nil] at hk1; omega
    have hf1 : AskM g1 f := fun j hj => by rw [h1 162 (by decide)]; exact hf j hj
    have ht18 : tk.1 ≤ 18 := by rcases hok1 with z | z <;> omega
    obtain ⟨ts', hts', hty2⟩ : ∃ ts', tst tk ts = some ts' ∧ tck rest ts' = some [b] := by
      unfold tck at hty1
      cases e : tst tk ts with
      | none => rw [e] at hty1; cases hty1
      | some x => rw [e] at hty1; exact ⟨x, rfl, hty1⟩
    have hst' := stp_ty (f := f) hts' hst
    have hev' : ev f rest (stp f tk st) = ev f toks [] := hev
    subst hi
    subst ht9
    have nxt : ∀ (t' i' : Int32) (x : Option Value) (g2 : Mm), (stp f tk st).length ≤ done.length + 1 → t' = nI (stp f tk st).length → i' = nI (a + done.length) + 1 → (∀ z, z ≠ 191 → g2 z = g z) → StkM g2 (stp f tk st) → J S 0 0 g2 5 [some (.ref 162), some (.int (nI a)), some (.int (nI (a + toks.length))), some (.int t'), some (.int i'), x] [] := by
      intro t' i' x g2 hl2 ht' hi' h2 hs2
      exact ih (done ++ [tk]) _ ts' t' i' x g2 hd' hty2 hst' (by rw [hdl]; exact hl2) hev' ht' (by rw [hi', hdl, nI_1]; rfl) h2 hs2
    refine J_iload hS dX8_valueOf_5 rfl ?_
    refine J_iload_n hS dX8_valueOf_7 rfl ?_
    refine J_icmp_ge (tgt := 124) hS dX8_valueOf_8 (by decide) (fun c1 => ?_) (fun c1 => ?_)
    · exact absurd c1 (nI_ge (show a + done.length < a + toks.length by omega) (by omega))
    ·
      refine J_aload_n hS dX8_valueOf_11 rfl ?_
      refine J_getR (t := 182) hS dX8_valueOf_12 flX8_44 ob162 rfl ?_
      refine J_iload hS dX8_valueOf_15 rfl ?_
      refine J_ialdN hS (a + done.length) dX8_valueOf_17 (show Ar lay NC .int 182 1800 from arM 19 1800 (by decide) (by decide) rfl) (by first | rfl | (simp only [n0, n1, n2, n3, n4, n5, n6, n7, n8, n9, n10, n11, n12, n13, n14, n15, n16, n17, n18, n19, n20, n24, n32, n56, n60, n64, n72, n99, n100, n128, n136, n142, n144, n200, n300, n999, n1000, n1500, n3464, nI_add, pk_mul] <;> first | rfl | (congr 1; omega))) (by omega) (by decide) ?_
      refine J_istore (lt := fun x5 => [some (.ref 162), some (.int (nI a)), some (.int (nI (a + toks.length))), some (.int (nI st.length)), some (.int (nI (a + done.length))), some (.int x5)]) hS dX8_valueOf_18 (Nat.le_of_ble_eq_true rfl) (fun _ => rfl) (fun x5 ex5 => ?_)
      rw [show x5 = nI tk.1 from ex5.trans hcd1.1]
      refine J_iload hS dX8_valueOf_20 rfl ?_
      refine J_bipush (v := 6) hS dX8_valueOf_22 (by decide) ?_
      refine J_icmp_gt (tgt := 60) hS dX8_valueOf_24 (by decide) (fun c2 => ?_) (fun c2 => ?_)
      · have k7 : 7 ≤ tk.1 := by
          rcases Nat.lt_or_ge tk.1 7 with z | z
          · exact absurd c2 (nI_nlt (show tk.1 ≤ 6 by omega) (by decide))
          · exact z
        refine J_iload hS dX8_valueOf_60 rfl ?_
        refine J_bipush (v := 18) hS dX8_valueOf_62 (by decide) ?_
        refine J_icmp_ne (tgt := 88) hS dX8_valueOf_64 (by decide) (fun c3 => ?_) (fun c3 => ?_)
        · have k18 : ¬ tk.1 = 18 := fun z => c3 (by rw [z]; rfl)
          have : ∃ w v r, st = w :: v :: r := by
            have : 2 ≤ ts.length := by
              match ts, hts' with
              | _ :: _ :: _, _ => simp
              | [], hts' =>
                unfold tst at hts'
                rw [if_neg (by omega), if_neg k18] at hts'
                repeat' split at hts'
                all_goals simp_all
              | [_], hts' =>
                unfold tst at hts'
                rw [if_neg (by omega), if_neg k18] at hts'
                repeat' split at hts'
                all_goals simp_all
            match st, hl1 with
            | w :: v :: r, _ => exact ⟨w, v, r, rfl⟩
            | [], hl1 => simp at hl1; omega
            | [_], hl1 => simp at hl1; omega
          obtain ⟨w, v, r, rfl⟩ := this
          have e5 : stp f tk (w :: v :: r) = op2 tk.1 v w :: r := by
            unfold stp; rw [if_neg (by omega), if_neg (by omega), if_neg k18]
          have eop : op2M tk.1 v w = op2 tk.1 v w := by
            rcases Nat.lt_or_ge tk.1 16 with z | z
            · exact op2M_n (by omega)
            · unfold tst at hts'
              rw [if_neg (by omega), if_neg k18, if_neg (by omega), if_neg (by omega), if_pos (by omega)] at hts'
              match ts, hst, hts' with
              | true :: true :: _, hst, _ => exact op2M_b z (by omega) (hst.2.1 rfl) (hst.1 rfl)
              | false :: _, _, h => exact absurd h (by simp)
              | true :: false :: _, _, h => exact absurd h (by simp)
              | [true], _, h => exact absurd h (by simp)
              | [], _, h => exact absurd h (by simp)
          rw [e5] at nxt
          have e6 : g1 191 (r.length + 1) = w := StkM_top hs
          have e7 : g1 191 r.length = v := StkM_top (StkM_tail hs)
          simp only [List.length_cons] at h150 hlen
          refine J_iinc (lt := fun x3 => [some (.ref 162), some (.int (nI a)), some (.int (nI (a + toks.length))), some (.int x3), some (.int (nI (a + done.length))), some (.int (nI tk.1))]) (v := (-1)) hS dX8_valueOf_88 rfl (by decide) (fun _ => rfl) (fun x3 ex3 => ?_)
          rw [show x3 = nI (r.length + 1) from ex3.trans (nI_dec (r.length + 1))]
          refine J_aload_n hS dX8_valueOf_91 rfl ?_
          refine J_getR (t := 191) hS dX8_valueOf_92 flX8_53 ob162 rfl ?_
          refine J_iload_n hS dX8_valueOf_95 rfl ?_
          refine J_iconst (v := 1) hS dX8_valueOf_96 (by decide) ?_
          refine J_isub hS dX8_valueOf_97 ?_
          refine J_iload hS dX8_valueOf_98 rfl ?_
          refine J_aload_n hS dX8_valueOf_100 rfl ?_
          refine J_getR (t := 191) hS dX8_valueOf_101 flX8_53 ob162 rfl ?_
          refine J_iload_n hS dX8_valueOf_104 rfl ?_
          refine J_iconst (v := 1) hS dX8_valueOf_105 (by decide) ?_
          refine J_isub hS dX8_valueOf_106 ?_
          refine J_ialdN hS (r.length) dX8_valueOf_107 (show Ar lay NC .int 191 160 from arM 28 160 (by decide) (by decide) rfl) (nI_pred r.length) (by omega) (by decide) ?_
          refine J_aload_n hS dX8_valueOf_108 rfl ?_
          refine J_getR (t := 191) hS dX8_valueOf_109 flX8_53 ob162 rfl ?_
          refine J_iload_n hS dX8_valueOf_112 rfl ?_
          refine J_ialdN hS (r.length + 1) dX8_valueOf_113 (show Ar lay NC .int 191 160 from arM 28 160 (by decide) (by decide) rfl) (by first | rfl | (simp only [n0, n1, n2, n3, n4, n5, n6, n7, n8, n9, n10, n11, n12, n13, n14, n15, n16, n17, n18, n19, n20, n24, n32, n56, n60, n64, n72, n99, n100, n128, n136, n142, n144, n200, n300, n999, n1000, n1500, n3464, nI_add, pk_mul] <;> first | rfl | (congr 1; omega))) (by omega) (by decide) ?_
          refine J_callS3 (X' := fun _ _ => False) hS dX8_valueOf_114 msX8_261 rfl (by first | decide | omega) (by decide) (Nat.le_of_ble_eq_true rfl) ⟨Nat.le_trans (by decide) hR.1, Nat.le_trans (by decide) hR.2⟩ (fun _ _ q => q.elim) (m_two k7 (by omega) ?_)
          rw [e6, e7, eop]
          refine J_iastN hS (r.length) dX8_valueOf_117 (show Ar lay NC .int 191 160 from arM 28 160 (by decide) (by decide) rfl) (nI_pred r.length) (by omega) (by decide) (fun g117 eg117 => ?_)
          refine J_iinc (lt := fun i2 => [some (.ref 162), some (.int (nI a)), some (.int (nI (a + toks.length))), some (.int (nI (r.length + 1))), some (.int i2), some (.int (nI tk.1))]) (v := 1) hS dX8_valueOf_118 rfl (by decide) (fun _ => rfl) (fun i2 ei2 => ?_)
          refine J_goto (tgt := 5) hS dX8_valueOf_121 (by decide) ?_
          rw [eg117]
          refine nxt _ i2 _ _ (by simp only [List.length_cons]; omega) rfl ei2 (fun z hz => by rw [u2_ne z hz]; exact h1 z hz) (StkM_push (StkM_tail (StkM_tail hs)))
        · have k18 : tk.1 = 18 := (nI_eq (by omega) (by decide)).mp c3
          have : ∃ v r, st = v :: r := by
            match st, ts, hst, hts' with
            | v :: r, _, _, _ => exact ⟨v, r, rfl⟩
            | [], [], _, hts' => simp [tst, k18] at hts'
            | [], _ :: _, hst, _ => exact hst.elim
          obtain ⟨v, r, rfl⟩ := this
          have e5 : stp f tk (v :: r) = (1 - v) :: r := by simp [stp, k18]
          rw [e5] at nxt
          have e6 : g1 191 r.length = v := StkM_top hs
          simp only [List.length_cons] at h150 hlen
          refine J_aload_n hS dX8_valueOf_67 rfl ?_
          refine J_getR (t := 191) hS dX8_valueOf_68 flX8_53 ob162 rfl ?_
          refine J_iload_n hS dX8_valueOf_71 rfl ?_
          refine J_iconst (v := 1) hS dX8_valueOf_72 (by decide) ?_
          refine J_isub hS dX8_valueOf_73 ?_
          refine J_iconst (v := 1) hS dX8_valueOf_74 (by decide) ?_
          refine J_aload_n hS dX8_valueOf_75 rfl ?_
          refine J_getR (t := 191) hS dX8_valueOf_76 flX8_53 ob162 rfl ?_
          refine J_iload_n hS dX8_valueOf_79 rfl ?_
          refine J_iconst (v := 1) hS dX8_valueOf_80 (by decide) ?_
          refine J_isub hS dX8_valueOf_81 ?_
          refine J_ialdN hS (r.length) dX8_valueOf_82 (show Ar lay NC .int 191 160 from arM 28 160 (by decide) (by decide) rfl) (nI_pred r.length) (by omega) (by decide) ?_
          refine J_isub hS dX8_valueOf_83 ?_
          refine J_iastN hS (r.length) dX8_valueOf_84 (show Ar lay NC .int 191 160 from arM 28 160 (by decide) (by decide) rfl) (nI_pred r.length) (by omega) (by decide) (fun g84 eg84 => ?_)
          refine J_goto (tgt := 118) hS dX8_valueOf_85 (by decide) ?_
          refine J_iinc (lt := fun i2 => [some (.ref 162), some (.int (nI a)), some (.int (nI (a + toks.length))), some (.int (nI (r.length + 1))), some (.int i2), some (.int (nI tk.1))]) (v := 1) hS dX8_valueOf_118 rfl (by decide) (fun _ => rfl) (fun i2 ei2 => ?_)
          refine J_goto (tgt := 5) hS dX8_valueOf_121 (by decide) ?_
          rw [eg84, e6]
          refine nxt _ i2 _ _ (by simp only [List.length_cons]; omega) rfl ei2 (fun z hz => by rw [u2_ne z hz]; exact h1 z hz) (StkM_push (StkM_tail hs))
      · have k6 : tk.1 ≤ 6 := by
          rcases Nat.lt_or_ge 6 tk.1 with z | z
          · exact absurd (nI_lt z (by omega)) c2
          · exact z
        have push : ∀ v : Int32, stp f tk st = v :: st → J S 0 0 g1 53 [some (.ref 162), some (.int (nI a)), some (.int (nI (a + toks.length))), some (.int (nI st.length)), some (.int (nI (a + done.length))), some (.int (nI tk.1))] [.int v, .int (nI st.length), .ref 191] := by
          intro v e5
          rw [e5] at nxt
          refine J_iastN hS (st.length) dX8_valueOf_53 (show Ar lay NC .int 191 160 from arM 28 160 (by decide) (by decide) rfl) (by first | rfl | (simp only [n0, n1, n2, n3, n4, n5, n6, n7, n8, n9, n10, n11, n12, n13, n14, n15, n16, n17, n18, n19, n20, n24, n32, n56, n60, n64, n72, n99, n100, n128, n136, n142, n144, n200, n300, n999, n1000, n1500, n3464, nI_add, pk_mul] <;> first | rfl | (congr 1; omega))) (by omega) (by decide) (fun g53 eg53 => ?_)
          refine J_iinc (lt := fun t2 => [some (.ref 162), some (.int (nI a)), some (.int (nI (a + toks.length))), some (.int t2), some (.int (nI (a + done.length))), some (.int (nI tk.1))]) (v := 1) hS dX8_valueOf_54 rfl (by decide) (fun _ => rfl) (fun t2 et2 => ?_)
          refine J_goto (tgt := 118) hS dX8_valueOf_57 (by decide) ?_
          refine J_iinc (lt := fun i2 => [some (.ref 162), some (.int (nI a)), some (.int (nI (a + toks.length))), some (.int t2), some (.int i2), some (.int (nI tk.1))]) (v := 1) hS dX8_valueOf_118 rfl (by decide) (fun _ => rfl) (fun i2 ei2 => ?_)
          refine J_goto (tgt := 5) hS dX8_valueOf_121 (by decide) ?_
          rw [eg53]
          refine nxt t2 i2 _ _ (by simp only [List.length_cons]; omega) (by rw [et2]; exact nI_1 _) ei2 (fun z hz => by rw [u2_ne z hz]; exact h1 z hz) (StkM_push hs)
        refine J_aload_n hS dX8_valueOf_27 rfl ?_
        refine J_getR (t := 191) hS dX8_valueOf_28 flX8_53 ob162 rfl ?_
        refine J_iload_n hS dX8_valueOf_31 rfl ?_
        refine J_iload hS dX8_valueOf_32 rfl ?_
        refine J_if_ne (tgt := 47) hS dX8_valueOf_34 (by decide) (fun c3 => ?_) (fun c3 => ?_)
        · have k0 : ¬ tk.1 = 0 := fun z => c3 (by rw [z]; rfl)
          refine J_aload_n hS dX8_valueOf_47 rfl ?_
          refine J_iload hS dX8_valueOf_48 rfl ?_
          refine J_callV1 (X' := fun _ _ => False) hS dX8_valueOf_50 mvX8_258 ob162 rfl (by first | decide | omega) (by decide) (Nat.le_of_ble_eq_true rfl) ⟨Nat.le_trans (by decide) hR.1, Nat.le_trans (by decide) hR.2⟩ (fun _ _ q => q.elim) (m_asked hf1 (show 1 ≤ tk.1 by omega) k6 ?_)
          exact push _ (by unfold stp; rw [if_neg k0, if_pos k6])
        · have k0 : tk.1 = 0 := (nI_eq (by omega) (by decide)).mp c3
          refine J_aload_n hS dX8_valueOf_37 rfl ?_
          refine J_getR (t := 183) hS dX8_valueOf_38 flX8_47 ob162 rfl ?_
          refine J_iload hS dX8_valueOf_41 rfl ?_
          refine J_ialdN hS (a + done.length) dX8_valueOf_43 (show Ar lay NC .int 183 1800 from arM 20 1800 (by decide) (by decide) rfl) (by first | rfl | (simp only [n0, n1, n2, n3, n4, n5, n6, n7, n8, n9, n10, n11, n12, n13, n14, n15, n16, n17, n18, n19, n20, n24, n32, n56, n60, n64, n72, n99, n100, n128, n136, n142, n144, n200, n300, n999, n1000, n1500, n3464, nI_add, pk_mul] <;> first | rfl | (congr 1; omega))) (by omega) (by decide) ?_
          show J S 0 0 (g1) 44 [some (.ref 162), some (.int (nI a)), some (.int (nI (a + toks.length))), some (.int (nI st.length)), some (.int (nI (a + done.length))), some (.int (nI tk.1))] [.int _, .int (nI st.length), .ref (191)]
          rw [hcd1.2 k0]
          refine J_goto (tgt := 53) hS dX8_valueOf_44 (by decide) ?_
          exact push _ (by unfold stp; rw [if_pos k0])
end RefE


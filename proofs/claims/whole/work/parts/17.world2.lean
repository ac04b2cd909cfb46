/-! THE CLASS: worlds that are copied, children that come and go -/
def rln (j : Nat) : Nat := if j = 0 then 7 else if j = 8 then 3072 else if j = 9 then 144 else if j = 10 then 48 else 24
theorem wx_rng {i : Nat} {q : Nat × Nat} (e : wx i = some q) : q.1 ≤ 10 ∧ q.2 < rln q.1 := by
  unfold wx at e
  repeat' split at e
  all_goals first | (cases e; done) | (cases e; unfold rln; dsimp only; (repeat' split) <;> omega)
theorem wv_cpy {g g' : Mm} {h o : Nat} (hc : ∀ j, j ≤ 10 → ∀ k, k < rln j → g' (h + j) k = g (o + j) k) : wv g' h = wv g o := by
  funext i
  cases e : wx i with
  | none => simp [wv, e]
  | some q => obtain ⟨h1, h2⟩ := wx_rng e; simp only [wv, e]; exact hc q.1 h1 q.2 h2
def PI (g g1 : Mm) (h o m : Nat) : Prop := (∀ k, k < m → g1 h k = g o k) ∧ ∀ a, a ≠ h → g1 a = g a
theorem PI_s {g g1 g2 : Mm} {h o m : Nat} (hn : o ≠ h) (p : PI g g1 h o m) (e : g2 = u2 g1 h m (g1 o m)) : PI g g2 h o (m + 1) := by
  subst e
  refine ⟨fun k hk => ?_, fun a ha => by rw [u2_ne a ha]; exact p.2 a ha⟩
  by_cases e : k = m
  · subst e; simp [u2, p.2 o hn]
  · simp only [u2, e, and_false, if_false]; exact p.1 k (by omega)
/-- the ints and the first m rows are copied -/
def PA (g g1 : Mm) (h o m : Nat) : Prop := (∀ j, j ≤ m → ∀ k, k < rln j → g1 (h + j) k = g (o + j) k) ∧ ∀ a, (a < h ∨ h + m < a) → g1 a = g a
theorem PA_0 {g g1 : Mm} {h o : Nat} (p : PI g g1 h o 7) : PA g g1 h o 0 :=
  ⟨fun j hj k hk => by have : j = 0 := by omega
                       subst this; exact p.1 k hk, fun a ha => p.2 a (by omega)⟩
theorem PA_s {g g1 g2 : Mm} {h o m n : Nat} (hn : o + 10 < h ∨ h + 10 < o) (hm : m < 10) (hl : rln (m + 1) = n) (p : PA g g1 h o m) (e : g2 = uc g1 (o + (m + 1)) (h + (m + 1)) 0 0 n) : PA g g2 h o (m + 1) := by
  subst e
  refine ⟨fun j hj k hk => ?_, fun a ha => ?_⟩
  · by_cases e : j = m + 1
    · subst e
      rw [hl] at hk
      simp only [uc, if_true, va_cpy]
      rw [if_pos (by omega), p.2 (o + (m + 1)) (by omega)]
      congr 1; omega
    · simp only [uc]
      rw [if_neg (by omega)]; exact p.1 j (by omega) k hk
  · simp only [uc]
    rw [if_neg (by omega)]; exact p.2 a (by omega)
section ClsD
variable {l : Launch} {E : Ey} {g : Mm} {Q : Option Value → Mm → Prop} {X : String → Mm → Prop} {h o : Nat}
theorem Wo.apart (hW : Wo h) (hO : Wo o) (hn : o ≠ h) : o + 10 < h ∨ h + 10 < o := by
  obtain ⟨i, hi, e⟩ := hW
  obtain ⟨j, hj, e'⟩ := hO
  omega
set_option maxRecDepth 10000 in
theorem c_become (hW : Wo h) (hWo : Wo o) (hn : o ≠ h) (q : ∀ g', wv g' h = wv g o → (∀ a, (a < h ∨ h + 10 < a) → g' a = g a) → Q none g') : Ct l E lay NC 1 0 0 yX6_become [.ref h, .ref o] g Q X := by
  have hp := hW.apart hWo hn
  refine Ct_in k_yX6_become (by decide) rfl (Nat.le_of_ble_eq_true rfl) rfl ?_
  intro S hS hZ hr ht hR
  show J S 0 0 g 0 [some (.ref h), some (.ref o)] []
  refine J_aload_n hS dX6_become_0 rfl ?_
  refine J_aload_n hS dX6_become_1 rfl ?_
  refine J_getI hS dX6_become_2 flX6_9 hWo.ob rfl ?_
  refine J_putI hS dX6_become_5 fpX6_9 hW.ob rfl (fun g5 eg5 => ?_)
  refine J_aload_n hS dX6_become_8 rfl ?_
  refine J_aload_n hS dX6_become_9 rfl ?_
  refine J_getI hS dX6_become_10 flX6_15 hWo.ob rfl ?_
  refine J_putI hS dX6_become_13 fpX6_15 hW.ob rfl (fun g13 eg13 => ?_)
  refine J_aload_n hS dX6_become_16 rfl ?_
  refine J_aload_n hS dX6_become_17 rfl ?_
  refine J_getI hS dX6_become_18 flX6_18 hWo.ob rfl ?_
  refine J_putI hS dX6_become_21 fpX6_18 hW.ob rfl (fun g21 eg21 => ?_)
  refine J_aload_n hS dX6_become_24 rfl ?_
  refine J_aload_n hS dX6_become_25 rfl ?_
  refine J_getI hS dX6_become_26 flX6_21 hWo.ob rfl ?_
  refine J_putI hS dX6_become_29 fpX6_21 hW.ob rfl (fun g29 eg29 => ?_)
  refine J_aload_n hS dX6_become_32 rfl ?_
  refine J_aload_n hS dX6_become_33 rfl ?_
  refine J_getI hS dX6_become_34 flX6_24 hWo.ob rfl ?_
  refine J_putI hS dX6_become_37 fpX6_24 hW.ob rfl (fun g37 eg37 => ?_)
  refine J_aload_n hS dX6_become_40 rfl ?_
  refine J_aload_n hS dX6_become_41 rfl ?_
  refine J_getI hS dX6_become_42 flX6_27 hWo.ob rfl ?_
  refine J_putI hS dX6_become_45 fpX6_27 hW.ob rfl (fun g45 eg45 => ?_)
  refine J_aload_n hS dX6_become_48 rfl ?_
  refine J_aload_n hS dX6_become_49 rfl ?_
  refine J_getI hS dX6_become_50 flX6_30 hWo.ob rfl ?_
  refine J_putI hS dX6_become_53 fpX6_30 hW.ob rfl (fun g53 eg53 => ?_)
  refine J_aload_n hS dX6_become_56 rfl ?_
  refine J_getR (t := o + 1) hS dX6_become_57 flX6_33 hWo.ob rfl ?_
  refine J_iconst (v := 0) hS dX6_become_60 (by decide) ?_
  refine J_aload_n hS dX6_become_61 rfl ?_
  refine J_getR (t := h + 1) hS dX6_become_62 flX6_33 hW.ob rfl ?_
  refine J_iconst (v := 0) hS dX6_become_65 (by decide) ?_
  refine J_bipush (v := 24) hS dX6_become_66 (by decide) ?_
  refine J_copy hS dX6_become_68 mlX6_64 ac_nat ac_st in_java_lang_System (show Ar lay NC .int (o + 1) 24 from hWo.ar 1 (by decide) (by decide)) (show Ar lay NC .int (h + 1) 24 from hW.ar 1 (by decide) (by decide)) (by decide) (by decide) (by decide) (by decide) (by decide) rfl (by decide) (Nat.le_of_ble_eq_true rfl) (fun g68 eg68 => ?_)
  refine J_aload_n hS dX6_become_71 rfl ?_
  refine J_getR (t := o + 2) hS dX6_become_72 flX6_37 hWo.ob rfl ?_
  refine J_iconst (v := 0) hS dX6_become_75 (by decide) ?_
  refine J_aload_n hS dX6_become_76 rfl ?_
  refine J_getR (t := h + 2) hS dX6_become_77 flX6_37 hW.ob rfl ?_
  refine J_iconst (v := 0) hS dX6_become_80 (by decide) ?_
  refine J_bipush (v := 24) hS dX6_become_81 (by decide) ?_
  refine J_copy hS dX6_become_83 mlX6_64 ac_nat ac_st in_java_lang_System (show Ar lay NC .int (o + 2) 24 from hWo.ar 2 (by decide) (by decide)) (show Ar lay NC .int (h + 2) 24 from hW.ar 2 (by decide) (by decide)) (by decide) (by decide) (by decide) (by decide) (by decide) rfl (by decide) (Nat.le_of_ble_eq_true rfl) (fun g83 eg83 => ?_)
  refine J_aload_n hS dX6_become_86 rfl ?_
  refine J_getR (t := o + 3) hS dX6_become_87 flX6_40 hWo.ob rfl ?_
  refine J_iconst (v := 0) hS dX6_become_90 (by decide) ?_
  refine J_aload_n hS dX6_become_91 rfl ?_
  refine J_getR (t := h + 3) hS dX6_become_92 flX6_40 hW.ob rfl ?_
  refine J_iconst (v := 0) hS dX6_become_95 (by decide) ?_
  refine J_bipush (v := 24) hS dX6_become_96 (by decide) ?_
  refine J_copy hS dX6_become_98 mlX6_64 ac_nat ac_st in_java_lang_System (show Ar lay NC .int (o + 3) 24 from hWo.ar 3 (by decide) (by decide)) (show Ar lay NC .int (h + 3) 24 from hW.ar 3 (by decide) (by decide)) (by decide) (by decide) (by decide) (by decide) (by decide) rfl (by decide) (Nat.le_of_ble_eq_true rfl) (fun g98 eg98 => ?_)
  refine J_aload_n hS dX6_become_101 rfl ?_
  refine J_getR (t := o + 4) hS dX6_become_102 flX6_43 hWo.ob rfl ?_
  refine J_iconst (v := 0) hS dX6_become_105 (by decide) ?_
  refine J_aload_n hS dX6_become_106 rfl ?_
  refine J_getR (t := h + 4) hS dX6_become_107 flX6_43 hW.ob rfl ?_
  refine J_iconst (v := 0) hS dX6_become_110 (by decide) ?_
  refine J_bipush (v := 24) hS dX6_become_111 (by decide) ?_
  refine J_copy hS dX6_become_113 mlX6_64 ac_nat ac_st in_java_lang_System (show Ar lay NC .int (o + 4) 24 from hWo.ar 4 (by decide) (by decide)) (show Ar lay NC .int (h + 4) 24 from hW.ar 4 (by decide) (by decide)) (by decide) (by decide) (by decide) (by decide) (by decide) rfl (by decide) (Nat.le_of_ble_eq_true rfl) (fun g113 eg113 => ?_)
  refine J_aload_n hS dX6_become_116 rfl ?_
  refine J_getR (t := o + 5) hS dX6_become_117 flX6_46 hWo.ob rfl ?_
  refine J_iconst (v := 0) hS dX6_become_120 (by decide) ?_
  refine J_aload_n hS dX6_become_121 rfl ?_
  refine J_getR (t := h + 5) hS dX6_become_122 flX6_46 hW.ob rfl ?_
  refine J_iconst (v := 0) hS dX6_become_125 (by decide) ?_
  refine J_bipush (v := 24) hS dX6_become_126 (by decide) ?_
  refine J_copy hS dX6_become_128 mlX6_64 ac_nat ac_st in_java_lang_System (show Ar lay NC .int (o + 5) 24 from hWo.ar 5 (by decide) (by decide)) (show Ar lay NC .int (h + 5) 24 from hW.ar 5 (by decide) (by decide)) (by decide) (by decide) (by decide) (by decide) (by decide) rfl (by decide) (Nat.le_of_ble_eq_true rfl) (fun g128 eg128 => ?_)
  refine J_aload_n hS dX6_become_131 rfl ?_
  refine J_getR (t := o + 6) hS dX6_become_132 flX6_49 hWo.ob rfl ?_
  refine J_iconst (v := 0) hS dX6_become_135 (by decide) ?_
  refine J_aload_n hS dX6_become_136 rfl ?_
  refine J_getR (t := h + 6) hS dX6_become_137 flX6_49 hW.ob rfl ?_
  refine J_iconst (v := 0) hS dX6_become_140 (by decide) ?_
  refine J_bipush (v := 24) hS dX6_become_141 (by decide) ?_
  refine J_copy hS dX6_become_143 mlX6_64 ac_nat ac_st in_java_lang_System (show Ar lay NC .int (o + 6) 24 from hWo.ar 6 (by decide) (by decide)) (show Ar lay NC .int (h + 6) 24 from hW.ar 6 (by decide) (by decide)) (by decide) (by decide) (by decide) (by decide) (by decide) rfl (by decide) (Nat.le_of_ble_eq_true rfl) (fun g143 eg143 => ?_)
  refine J_aload_n hS dX6_become_146 rfl ?_
  refine J_getR (t := o + 7) hS dX6_become_147 flX6_52 hWo.ob rfl ?_
  refine J_iconst (v := 0) hS dX6_become_150 (by decide) ?_
  refine J_aload_n hS dX6_become_151 rfl ?_
  refine J_getR (t := h + 7) hS dX6_become_152 flX6_52 hW.ob rfl ?_
  refine J_iconst (v := 0) hS dX6_become_155 (by decide) ?_
  refine J_bipush (v := 24) hS dX6_become_156 (by decide) ?_
  refine J_copy hS dX6_become_158 mlX6_64 ac_nat ac_st in_java_lang_System (show Ar lay NC .int (o + 7) 24 from hWo.ar 7 (by decide) (by decide)) (show Ar lay NC .int (h + 7) 24 from hW.ar 7 (by decide) (by decide)) (by decide) (by decide) (by decide) (by decide) (by decide) rfl (by decide) (Nat.le_of_ble_eq_true rfl) (fun g158 eg158 => ?_)
  refine J_aload_n hS dX6_become_161 rfl ?_
  refine J_getR (t := o + 8) hS dX6_become_162 flX6_55 hWo.ob rfl ?_
  refine J_iconst (v := 0) hS dX6_become_165 (by decide) ?_
  refine J_aload_n hS dX6_become_166 rfl ?_
  refine J_getR (t := h + 8) hS dX6_become_167 flX6_55 hW.ob rfl ?_
  refine J_iconst (v := 0) hS dX6_become_170 (by decide) ?_
  refine J_sipush (v := 3072) hS dX6_become_171 (by decide) ?_
  refine J_copy hS dX6_become_174 mlX6_64 ac_nat ac_st in_java_lang_System (show Ar lay NC .int (o + 8) 3072 from hWo.ar 8 (by decide) (by decide)) (show Ar lay NC .int (h + 8) 3072 from hW.ar 8 (by decide) (by decide)) (by decide) (by decide) (by decide) (by decide) (by decide) rfl (by decide) (Nat.le_of_ble_eq_true rfl) (fun g174 eg174 => ?_)
  refine J_aload_n hS dX6_become_177 rfl ?_
  refine J_getR (t := o + 9) hS dX6_become_178 flX6_58 hWo.ob rfl ?_
  refine J_iconst (v := 0) hS dX6_become_181 (by decide) ?_
  refine J_aload_n hS dX6_become_182 rfl ?_
  refine J_getR (t := h + 9) hS dX6_become_183 flX6_58 hW.ob rfl ?_
  refine J_iconst (v := 0) hS dX6_become_186 (by decide) ?_
  refine J_sipush (v := 144) hS dX6_become_187 (by decide) ?_
  refine J_copy hS dX6_become_190 mlX6_64 ac_nat ac_st in_java_lang_System (show Ar lay NC .int (o + 9) 144 from hWo.ar 9 (by decide) (by decide)) (show Ar lay NC .int (h + 9) 144 from hW.ar 9 (by decide) (by decide)) (by decide) (by decide) (by decide) (by decide) (by decide) rfl (by decide) (Nat.le_of_ble_eq_true rfl) (fun g190 eg190 => ?_)
  refine J_aload_n hS dX6_become_193 rfl ?_
  refine J_getR (t := o + 10) hS dX6_become_194 flX6_61 hWo.ob rfl ?_
  refine J_iconst (v := 0) hS dX6_become_197 (by decide) ?_
  refine J_aload_n hS dX6_become_198 rfl ?_
  refine J_getR (t := h + 10) hS dX6_become_199 flX6_61 hW.ob rfl ?_
  refine J_iconst (v := 0) hS dX6_become_202 (by decide) ?_
  refine J_bipush (v := 48) hS dX6_become_203 (by decide) ?_
  refine J_copy hS dX6_become_205 mlX6_64 ac_nat ac_st in_java_lang_System (show Ar lay NC .int (o + 10) 48 from hWo.ar 10 (by decide) (by decide)) (show Ar lay NC .int (h + 10) 48 from hW.ar 10 (by decide) (by decide)) (by decide) (by decide) (by decide) (by decide) (by decide) rfl (by decide) (Nat.le_of_ble_eq_true rfl) (fun g205 eg205 => ?_)
  refine J_vret hS hZ hr dX6_become_208 (by omega) (by omega) ?_
  have p0 : PI g g h o 0 := ⟨fun k hk => absurd hk (by omega), fun _ _ => rfl⟩
  have p1 := PI_s hn p0 eg5
  have p2 := PI_s hn p1 eg13
  have p3 := PI_s hn p2 eg21
  have p4 := PI_s hn p3 eg29
  have p5 := PI_s hn p4 eg37
  have p6 := PI_s hn p5 eg45
  have p7 := PI_s hn p6 eg53
  have r0 := PA_0 p7
  have r1 := PA_s (n := 24) hp (by decide) rfl r0 eg68
  have r2 := PA_s (n := 24) hp (by decide) rfl r1 eg83
  have r3 := PA_s (n := 24) hp (by decide) rfl r2 eg98
  have r4 := PA_s (n := 24) hp (by decide) rfl r3 eg113
  have r5 := PA_s (n := 24) hp (by decide) rfl r4 eg128
  have r6 := PA_s (n := 24) hp (by decide) rfl r5 eg143
  have r7 := PA_s (n := 24) hp (by decide) rfl r6 eg158
  have r8 := PA_s (n := 3072) hp (by decide) rfl r7 eg174
  have r9 := PA_s (n := 144) hp (by decide) rfl r8 eg190
  have r10 := PA_s (n := 48) hp (by decide) rfl r9 eg205
  exact q _ (wv_cpy r10.1) r10.2
set_option maxRecDepth 10000 in
theorem c_takeBackSaying (hW : Wo h) (hWo : Wo o) (hn : o ≠ h) (q : ∀ g', wv g' h = (fun i => if i = 1 then wv g o 1 else if 8 ≤ i ∧ i < 56 then wv g o i else wv g h i) → (∀ a, (a < h ∨ h + 10 < a) → g' a = g a) → Q none g') : Ct l E lay NC 1 0 0 yX6_takeBackSaying [.ref h, .ref o] g Q X := by
  have hp := hW.apart hWo hn
  refine Ct_in k_yX6_takeBackSaying (by decide) rfl (Nat.le_of_ble_eq_true rfl) rfl ?_
  intro S hS hZ hr ht hR
  show J S 0 0 g 0 [some (.ref h), some (.ref o)] []
  refine J_aload_n hS dX6_takeBackSaying_0 rfl ?_
  refine J_aload_n hS dX6_takeBackSaying_1 rfl ?_
  refine J_getI hS dX6_takeBackSaying_2 flX6_15 hWo.ob rfl ?_
  refine J_putI hS dX6_takeBackSaying_5 fpX6_15 hW.ob rfl (fun g5 eg5 => ?_)
  refine J_aload_n hS dX6_takeBackSaying_8 rfl ?_
  refine J_getR (t := o + 10) hS dX6_takeBackSaying_9 flX6_61 hWo.ob rfl ?_
  refine J_iconst (v := 0) hS dX6_takeBackSaying_12 (by decide) ?_
  refine J_aload_n hS dX6_takeBackSaying_13 rfl ?_
  refine J_getR (t := h + 10) hS dX6_takeBackSaying_14 flX6_61 hW.ob rfl ?_
  refine J_iconst (v := 0) hS dX6_takeBackSaying_17 (by decide) ?_
  refine J_bipush (v := 48) hS dX6_takeBackSaying_18 (by decide) ?_
  refine J_copy hS dX6_takeBackSaying_20 mlX6_64 ac_nat ac_st in_java_lang_System (show Ar lay NC .int (o + 10) 48 from hWo.ar 10 (by decide) (by decide)) (show Ar lay NC .int (h + 10) 48 from hW.ar 10 (by decide) (by decide)) (by decide) (by decide) (by decide) (by decide) (by decide) rfl (by decide) (Nat.le_of_ble_eq_true rfl) (fun g20 eg20 => ?_)
  refine J_vret hS hZ hr dX6_takeBackSaying_23 (by omega) (by omega) ?_
  refine q _ ?_ ?_
  · funext i
    subst eg20; subst eg5
    cases e : wx i with
    | none =>
      have h1 : i ≠ 1 := by intro z; rw [z] at e; simp [wx] at e
      have h2 : ¬ (8 ≤ i ∧ i < 56) := by
        intro z
        have := wx_use (i := i - 8) (by omega)
        rw [show 8 + (i - 8) = i by omega, e] at this
        cases this
      simp only [wv, e, h1, h2, if_false]
    | some z =>
      obtain ⟨j, k⟩ := z
      obtain ⟨h1, h2⟩ := wx_rng e
      have ei := wi_wx e
      dsimp only at h1 h2
      by_cases c1 : i = 1
      · subst c1
        have : (j, k) = (0, 1) := by simp [wx] at e; rw [Prod.mk.injEq]; exact ⟨e.1.symm, e.2.symm⟩
        cases this
        simp only [wv, e, if_true]
        simp [uc, u2]
      · rw [if_neg c1]
        by_cases c2 : 8 ≤ i ∧ i < 56
        · rw [if_pos c2]
          have := wx_use (i := i - 8) (by omega)
          rw [show 8 + (i - 8) = i by omega, e] at this
          cases this
          simp only [wv, e, uc, if_true, va_cpy]
          rw [if_pos (by show _ ∧ _ < _ + (48 : Int32).toNatClampNeg; rw [show (48 : Int32).toNatClampNeg = 48 by decide, show (0 : Int32).toNatClampNeg = 0 by decide]; omega), u2_ne _ (by omega)]
          congr 1
          rw [show (0 : Int32).toNatClampNeg = 0 by decide]; omega
        · rw [if_neg c2]
          have h3 : j ≠ 10 := by
            intro z; subst z
            unfold rln at h2
            simp at h2
            simp [wi] at ei; omega
          have h4 : ¬ (j = 0 ∧ k = 1) := by
            intro z; obtain ⟨z1, z2⟩ := z; subst z1; subst z2
            simp [wi] at ei; omega
          simp only [wv, e, uc]
          rw [if_neg (by omega)]
          unfold u2
          rw [if_neg (by intro z; exact h4 ⟨by omega, z.2⟩)]
  · intro a ha
    subst eg20; subst eg5
    simp only [uc]
    rw [if_neg (by omega), u2_ne _ (by omega)]
set_option maxRecDepth 10000 in
theorem c_keepFirst (hW : Wo h) {n m : Nat} {y : Int32} (hn : n ≤ 24) (hm2 : m < 2 ^ 31) (hm : g h 6 = nI n) (q : ∀ g', (∀ a, a ≠ h + 5 → g' a = g a) → (∀ c, g' (h + 5) c = if c < n ∧ ¬ (thr g h y c = true ∧ (here (thr g h y) c).length < m) then 0 else g (h + 5) c) → Q none g') : Ct l E lay NC 1 0 0 yX6_keepFirst [.ref h, .int y, .int (nI m)] g Q X := by
  refine Ct_in k_yX6_keepFirst (by decide) rfl (Nat.le_of_ble_eq_true rfl) rfl ?_
  intro S hS hZ hr ht hR
  show J S 0 0 g 0 [some (.ref h), some (.int y), some (.int (nI m)), none, none] []
  refine J_iconst (v := 0) hS dX6_keepFirst_0 (by decide) ?_
  refine J_istore_n (lt := fun b1 => [some (.ref h), some (.int y), some (.int (nI m)), some (.int b1), none]) hS dX6_keepFirst_1 (Nat.le_of_ble_eq_true rfl) (fun _ => rfl) (fun b1 eb1 => ?_)
  refine J_iconst (v := 0) hS dX6_keepFirst_2 (by decide) ?_
  refine J_istore (lt := fun i1 => [some (.ref h), some (.int y), some (.int (nI m)), some (.int b1), some (.int i1)]) hS dX6_keepFirst_3 (Nat.le_of_ble_eq_true rfl) (fun _ => rfl) (fun i1 ei1 => ?_)
  suffices H : ∀ (r k : Nat) (b i : Int32) (g1 : Mm), k + r = n → i = nI k → b = nI (min m (here (thr g h y) k).length) → (∀ a, a ≠ h + 5 → g1 a = g a) → (∀ c, g1 (h + 5) c = if c < k ∧ ¬ (thr g h y c = true ∧ (here (thr g h y) c).length < m) then 0 else g (h + 5) c) → J S 0 0 g1 5 [some (.ref h), some (.int y), some (.int (nI m)), some (.int b), some (.int i)] [] by
    exact H n 0 b1 i1 g (by omega) ei1 (by rw [eb1]; simp [here]; rfl) (fun _ _ => rfl) (fun c => by simp)
  intro r
  induction r with
  | zero =>
    intro k b i g1 hk hi hb h1 h2
    have hm1 : g1 h 6 = nI n := by rw [h1 h (by omega)]; exact hm
    refine J_iload hS dX6_keepFirst_5 rfl ?_
    refine J_aload_n hS dX6_keepFirst_7 rfl ?_
    refine J_getI hS dX6_keepFirst_8 flX6_30 hW.ob rfl ?_
    refine J_icmp_ge (tgt := 49) hS dX6_keepFirst_11 (by decide) (fun c1 => ?_) (fun c1 => ?_)
    ·
      refine J_vret hS hZ hr dX6_keepFirst_49 (by omega) (by omega) ?_
      have : k = n := by omega
      subst this
      exact q g1 h1 h2
    · exact absurd (by rw [hi, hm1, show k = n by omega]; exact Int32.le_refl _) c1
  | succ r ih =>
    intro k b i g1 hk hi hb h1 h2
    have hm1 : g1 h 6 = nI n := by rw [h1 h (by omega)]; exact hm
    refine J_iload hS dX6_keepFirst_5 rfl ?_
    refine J_aload_n hS dX6_keepFirst_7 rfl ?_
    refine J_getI hS dX6_keepFirst_8 flX6_30 hW.ob rfl ?_
    refine J_icmp_ge (tgt := 49) hS dX6_keepFirst_11 (by decide) (fun c1 => ?_) (fun c1 => ?_)
    · exact absurd (by rw [hi, hm1] at c1; exact c1) (nI_ge (show k < n by omega) (by omega))
    · subst hi
      have hlen := here_len (thr g h y) k
      have hs := here_succ (thr g h y) k
      have ht1 : thr g1 h y k = thr g h y k := by
        have e1 : g1 (h + 5) k = g (h + 5) k := by rw [h2 k]; simp
        simp [thr, e1, h1 (h + 1) (by omega)]
      have drop : (b' i' : Int32) → i' = nI k + 1 → b' = nI (min m (here (thr g h y) (k + 1)).length) → ¬ (thr g h y k = true ∧ (here (thr g h y) k).length < m) → J S 0 0 (u2 g1 (h + 5) k 0) 5 [some (.ref h), some (.int y), some (.int (nI m)), some (.int b'), some (.int i')] [] := by
        intro b' i' hi' hb' hno
        refine ih (k + 1) b' i' _ (by omega) (by rw [hi']; exact nI_1 k) hb' (fun a ha => by rw [u2_ne a ha]; exact h1 a ha) (fun c => ?_)
        unfold u2
        by_cases e : c = k
        · subst e; simp [hno]
        · rw [if_neg (by simp [e]), h2 c]
          by_cases e2 : c < k
          · simp [e2, show c < k + 1 by omega]
          · have : ¬ c < k + 1 := by omega
            simp [e2, this]
      refine J_aload_n hS dX6_keepFirst_14 rfl ?_
      refine J_iload hS dX6_keepFirst_15 rfl ?_
      refine J_iload_n hS dX6_keepFirst_17 rfl ?_
      refine J_callV2 (X' := fun _ _ => False) hS dX6_keepFirst_18 mvX6_90 hW.ob rfl (by decide) (by decide) (Nat.le_of_ble_eq_true rfl) hR (fun _ _ q => q.elim) (c_isThere hW (show k < 24 by omega) ?_)
      show J S 0 0 g1 21 [some (.ref h), some (.int y), some (.int (nI m)), some (.int b), some (.int (nI k))] [.int _]
      rw [thr_b01, ht1]
      refine J_if_eq (tgt := 35) hS dX6_keepFirst_21 (by decide) (fun c2 => ?_) (fun c2 => ?_)
      · have ht : thr g h y k = false := by cases e : thr g h y k with
          | false => rfl
          | true => simp [e] at c2
        refine J_aload_n hS dX6_keepFirst_35 rfl ?_
        refine J_getR (t := h + 5) hS dX6_keepFirst_36 flX6_46 hW.ob rfl ?_
        refine J_iload hS dX6_keepFirst_39 rfl ?_
        refine J_iconst (v := 0) hS dX6_keepFirst_41 (by decide) ?_
        refine J_iastN hS (k) dX6_keepFirst_42 (show Ar lay NC .int (h + 5) 24 from hW.ar 5 (by decide) (by decide)) (by first | rfl | (simp only [n0, n1, n2, n3, n4, n5, n6, n7, n8, n9, n10, n11, n12, n13, n14, n15, n16, n17, n18, n19, n20, n24, n32, n56, n60, n64, n72, n99, n100, n128, n136, n142, n144, n200, n300, n999, n1000, n1500, n3464, nI_add, pk_mul] <;> first | rfl | (congr 1; omega))) (by omega) (by decide) (fun g42 eg42 => ?_)
        refine J_iinc (lt := fun i2 => [some (.ref h), some (.int y), some (.int (nI m)), some (.int b), some (.int i2)]) (v := 1) hS dX6_keepFirst_43 rfl (by decide) (fun _ => rfl) (fun i2 ei2 => ?_)
        refine J_goto (tgt := 5) hS dX6_keepFirst_46 (by decide) ?_
        subst eg42
        exact drop b i2 ei2 (by rw [hb, hs, ht]; simp) (by simp [ht])
      · have ht : thr g h y k = true := by cases e : thr g h y k with
          | true => rfl
          | false => simp [e] at c2
        refine J_iload_n hS dX6_keepFirst_24 rfl ?_
        refine J_iload_n hS dX6_keepFirst_25 rfl ?_
        refine J_icmp_ge (tgt := 35) hS dX6_keepFirst_26 (by decide) (fun c3 => ?_) (fun c3 => ?_)
        · have hle : m ≤ (here (thr g h y) k).length := by
            rcases Nat.lt_or_ge (here (thr g h y) k).length m with z | z
            · rw [hb, Nat.min_eq_right (by omega)] at c3
              exact absurd c3 (nI_ge z hm2)
            · exact z
          refine J_aload_n hS dX6_keepFirst_35 rfl ?_
          refine J_getR (t := h + 5) hS dX6_keepFirst_36 flX6_46 hW.ob rfl ?_
          refine J_iload hS dX6_keepFirst_39 rfl ?_
          refine J_iconst (v := 0) hS dX6_keepFirst_41 (by decide) ?_
          refine J_iastN hS (k) dX6_keepFirst_42 (show Ar lay NC .int (h + 5) 24 from hW.ar 5 (by decide) (by decide)) (by first | rfl | (simp only [n0, n1, n2, n3, n4, n5, n6, n7, n8, n9, n10, n11, n12, n13, n14, n15, n16, n17, n18, n19, n20, n24, n32, n56, n60, n64, n72, n99, n100, n128, n136, n142, n144, n200, n300, n999, n1000, n1500, n3464, nI_add, pk_mul] <;> first | rfl | (congr 1; omega))) (by omega) (by decide) (fun g42 eg42 => ?_)
          refine J_iinc (lt := fun i2 => [some (.ref h), some (.int y), some (.int (nI m)), some (.int b), some (.int i2)]) (v := 1) hS dX6_keepFirst_43 rfl (by decide) (fun _ => rfl) (fun i2 ei2 => ?_)
          refine J_goto (tgt := 5) hS dX6_keepFirst_46 (by decide) ?_
          subst eg42
          exact drop b i2 ei2 (by rw [hb, hs, ht]; simp; congr 1; omega) (by intro z; omega)
        · have hlt : (here (thr g h y) k).length < m := by
            rcases Nat.lt_or_ge (here (thr g h y) k).length m with z | z
            · exact z
            · exact absurd (by rw [hb, Nat.min_eq_left z]; exact Int32.le_refl _) c3
          refine J_iinc (lt := fun b2 => [some (.ref h), some (.int y), some (.int (nI m)), some (.int b2), some (.int (nI k))]) (v := 1) hS dX6_keepFirst_29 rfl (by decide) (fun _ => rfl) (fun b2 eb2 => ?_)
          refine J_goto (tgt := 43) hS dX6_keepFirst_32 (by decide) ?_
          refine J_iinc (lt := fun i2 => [some (.ref h), some (.int y), some (.int (nI m)), some (.int b2), some (.int i2)]) (v := 1) hS dX6_keepFirst_43 rfl (by decide) (fun _ => rfl) (fun i2 ei2 => ?_)
          refine J_goto (tgt := 5) hS dX6_keepFirst_46 (by decide) ?_
          refine ih (k + 1) b2 i2 g1 (by omega) (by rw [ei2]; exact nI_1 k) (by rw [eb2, hb, hs, ht, nI_1]; simp; congr 1; omega) h1 (fun c => ?_)
          rw [h2 c]
          by_cases e : c = k
          · subst e; simp [ht, hlt]
          · by_cases e2 : c < k
            · simp [e2, show c < k + 1 by omega]
            · have : ¬ c < k + 1 := by omega
              simp [e2, this]
set_option maxRecDepth 10000 in
theorem c_sendTeachersAway (hW : Wo h) {n : Nat} {y : Int32} (hn : n ≤ 24) (hm : g h 6 = nI n) (q : ∀ g', (∀ a, a ≠ h + 5 → g' a = g a) → (∀ c, g' (h + 5) c = if c < n ∧ thr g h y c = true ∧ g (h + 4) c = 3 then 0 else g (h + 5) c) → Q none g') : Ct l E lay NC 1 0 0 yX6_sendTeachersAway [.ref h, .int y] g Q X := by
  refine Ct_in k_yX6_sendTeachersAway (by decide) rfl (Nat.le_of_ble_eq_true rfl) rfl ?_
  intro S hS hZ hr ht hR
  show J S 0 0 g 0 [some (.ref h), some (.int y), none] []
  refine J_iconst (v := 0) hS dX6_sendTeachersAway_0 (by decide) ?_
  refine J_istore_n (lt := fun i1 => [some (.ref h), some (.int y), some (.int i1)]) hS dX6_sendTeachersAway_1 (Nat.le_of_ble_eq_true rfl) (fun _ => rfl) (fun i1 ei1 => ?_)
  suffices H : ∀ (r k : Nat) (i : Int32) (g1 : Mm), k + r = n → i = nI k → (∀ a, a ≠ h + 5 → g1 a = g a) → (∀ c, g1 (h + 5) c = if c < k ∧ thr g h y c = true ∧ g (h + 4) c = 3 then 0 else g (h + 5) c) → J S 0 0 g1 2 [some (.ref h), some (.int y), some (.int i)] [] by
    exact H n 0 i1 g (by omega) ei1 (fun _ _ => rfl) (fun c => by simp)
  intro r
  induction r with
  | zero =>
    intro k i g1 hk hi h1 h2
    have hm1 : g1 h 6 = nI n := by rw [h1 h (by omega)]; exact hm
    refine J_iload_n hS dX6_sendTeachersAway_2 rfl ?_
    refine J_aload_n hS dX6_sendTeachersAway_3 rfl ?_
    refine J_getI hS dX6_sendTeachersAway_4 flX6_30 hW.ob rfl ?_
    refine J_icmp_ge (tgt := 42) hS dX6_sendTeachersAway_7 (by decide) (fun c1 => ?_) (fun c1 => ?_)
    ·
      refine J_vret hS hZ hr dX6_sendTeachersAway_42 (by omega) (by omega) ?_
      have : k = n := by omega
      subst this
      exact q g1 h1 h2
    · exact absurd (by rw [hi, hm1, show k = n by omega]; exact Int32.le_refl _) c1
  | succ r ih =>
    intro k i g1 hk hi h1 h2
    have hm1 : g1 h 6 = nI n := by rw [h1 h (by omega)]; exact hm
    refine J_iload_n hS dX6_sendTeachersAway_2 rfl ?_
    refine J_aload_n hS dX6_sendTeachersAway_3 rfl ?_
    refine J_getI hS dX6_sendTeachersAway_4 flX6_30 hW.ob rfl ?_
    refine J_icmp_ge (tgt := 42) hS dX6_sendTeachersAway_7 (by decide) (fun c1 => ?_) (fun c1 => ?_)
    · exact absurd (by rw [hi, hm1] at c1; exact c1) (nI_ge (show k < n by omega) (by omega))
    · subst hi
      have ht1 : thr g1 h y k = thr g h y k := by
        have e1 : g1 (h + 5) k = g (h + 5) k := by rw [h2 k]; simp
        simp [thr, e1, h1 (h + 1) (by omega)]
      have stay : ¬ (thr g h y k = true ∧ g (h + 4) k = 3) → ∀ i', i' = nI k + 1 → J S 0 0 g1 2 [some (.ref h), some (.int y), some (.int i')] [] := by
        intro hno i' hi'
        refine ih (k + 1) i' g1 (by omega) (by rw [hi']; exact nI_1 k) h1 (fun c => ?_)
        rw [h2 c]
        by_cases e : c = k
        · subst e; simp [hno]
        · by_cases e2 : c < k
          · simp [e2, show c < k + 1 by omega]
          · have : ¬ c < k + 1 := by omega
            simp [e2, this]
      refine J_aload_n hS dX6_sendTeachersAway_10 rfl ?_
      refine J_iload_n hS dX6_sendTeachersAway_11 rfl ?_
      refine J_iload_n hS dX6_sendTeachersAway_12 rfl ?_
      refine J_callV2 (X' := fun _ _ => False) hS dX6_sendTeachersAway_13 mvX6_90 hW.ob rfl (by decide) (by decide) (Nat.le_of_ble_eq_true rfl) hR (fun _ _ q => q.elim) (c_isThere hW (show k < 24 by omega) ?_)
      show J S 0 0 g1 16 [some (.ref h), some (.int y), some (.int (nI k))] [.int _]
      rw [thr_b01, ht1]
      refine J_if_eq (tgt := 36) hS dX6_sendTeachersAway_16 (by decide) (fun c2 => ?_) (fun c2 => ?_)
      ·
        refine J_iinc (lt := fun i2 => [some (.ref h), some (.int y), some (.int i2)]) (v := 1) hS dX6_sendTeachersAway_36 rfl (by decide) (fun _ => rfl) (fun i2 ei2 => ?_)
        refine J_goto (tgt := 2) hS dX6_sendTeachersAway_39 (by decide) ?_
        exact stay (by intro z; simp [z.1] at c2) i2 ei2
      · have ht : thr g h y k = true := by cases e : thr g h y k with
          | true => rfl
          | false => simp [e] at c2
        refine J_aload_n hS dX6_sendTeachersAway_19 rfl ?_
        refine J_getR (t := h + 4) hS dX6_sendTeachersAway_20 flX6_43 hW.ob rfl ?_
        refine J_iload_n hS dX6_sendTeachersAway_23 rfl ?_
        refine J_ialdN hS (k) dX6_sendTeachersAway_24 (show Ar lay NC .int (h + 4) 24 from hW.ar 4 (by decide) (by decide)) (by first | rfl | (simp only [n0, n1, n2, n3, n4, n5, n6, n7, n8, n9, n10, n11, n12, n13, n14, n15, n16, n17, n18, n19, n20, n24, n32, n56, n60, n64, n72, n99, n100, n128, n136, n142, n144, n200, n300, n999, n1000, n1500, n3464, nI_add, pk_mul] <;> first | rfl | (congr 1; omega))) (by omega) (by decide) ?_
        refine J_iconst (v := 3) hS dX6_sendTeachersAway_25 (by decide) ?_
        refine J_icmp_ne (tgt := 36) hS dX6_sendTeachersAway_26 (by decide) (fun c3 => ?_) (fun c3 => ?_)
        ·
          refine J_iinc (lt := fun i2 => [some (.ref h), some (.int y), some (.int i2)]) (v := 1) hS dX6_sendTeachersAway_36 rfl (by decide) (fun _ => rfl) (fun i2 ei2 => ?_)
          refine J_goto (tgt := 2) hS dX6_sendTeachersAway_39 (by decide) ?_
          exact stay (by intro z; exact c3 (by rw [h1 (h + 4) (by omega)]; exact z.2)) i2 ei2
        ·
          refine J_aload_n hS dX6_sendTeachersAway_29 rfl ?_
          refine J_getR (t := h + 5) hS dX6_sendTeachersAway_30 flX6_46 hW.ob rfl ?_
          refine J_iload_n hS dX6_sendTeachersAway_33 rfl ?_
          refine J_iconst (v := 0) hS dX6_sendTeachersAway_34 (by decide) ?_
          refine J_iastN hS (k) dX6_sendTeachersAway_35 (show Ar lay NC .int (h + 5) 24 from hW.ar 5 (by decide) (by decide)) (by first | rfl | (simp only [n0, n1, n2, n3, n4, n5, n6, n7, n8, n9, n10, n11, n12, n13, n14, n15, n16, n17, n18, n19, n20, n24, n32, n56, n60, n64, n72, n99, n100, n128, n136, n142, n144, n200, n300, n999, n1000, n1500, n3464, nI_add, pk_mul] <;> first | rfl | (congr 1; omega))) (by omega) (by decide) (fun g35 eg35 => ?_)
          refine J_iinc (lt := fun i2 => [some (.ref h), some (.int y), some (.int i2)]) (v := 1) hS dX6_sendTeachersAway_36 rfl (by decide) (fun _ => rfl) (fun i2 ei2 => ?_)
          refine J_goto (tgt := 2) hS dX6_sendTeachersAway_39 (by decide) ?_
          refine ih (k + 1) i2 g35 (by omega) (by rw [ei2]; exact nI_1 k) (fun a ha => by rw [eg35, u2_ne a ha]; exact h1 a ha) (fun c => ?_)
          rw [eg35]
          unfold u2
          have c3' : g (h + 4) k = 3 := by rw [← h1 (h + 4) (by omega)]; exact c3
          by_cases e : c = k
          · subst e; simp [ht, c3']
          · rw [if_neg (by simp [e]), h2 c]
            by_cases e2 : c < k
            · simp [e2, show c < k + 1 by omega]
            · have : ¬ c < k + 1 := by omega
              simp [e2, this]
/-- the first weights: the sign of a concept, and its weight -/
def fwT (tc : Bool) (c p : Nat) : Nat := if tc then p else (5 * c + 3 * p) % 16
theorem fwT_lt {tc : Bool} {c p : Nat} (hp : p < 8) : fwT tc c p < 16 := by unfold fwT; split <;> omega
set_option maxRecDepth 10000 in
theorem c_giveFirstWeights (hW : Wo h) {c : Nat} (hc : c < 24) {tc : Bool} (hkd : g (h + 4) c = 3 ↔ tc = true) (q : ∀ g', (∀ a, a ≠ h + 8 → a ≠ h + 9 → g' a = g a) → (∀ i, g' (h + 8) i = if i / 128 = c ∧ i % 16 = fwT tc c (i % 128 / 16) then (if tc then 500 else 10) else g (h + 8) i) → (∀ i, g' (h + 9) i = if i = c * 6 ∧ tc = true then 500 else g (h + 9) i) → Q none g') : Ct l E lay NC 1 0 0 yX6_giveFirstWeights [.ref h, .int (nI c)] g Q X := by
  refine Ct_in k_yX6_giveFirstWeights (by decide) rfl (Nat.le_of_ble_eq_true rfl) rfl ?_
  intro S hS hZ hr ht hR
  show J S 0 0 g 0 [some (.ref h), some (.int (nI c)), none] []
  refine J_iconst (v := 0) hS dX6_giveFirstWeights_0 (by decide) ?_
  refine J_istore_n (lt := fun i1 => [some (.ref h), some (.int (nI c)), some (.int i1)]) hS dX6_giveFirstWeights_1 (Nat.le_of_ble_eq_true rfl) (fun _ => rfl) (fun i1 ei1 => ?_)
  suffices H : ∀ (r k : Nat) (i : Int32) (g1 : Mm), k + r = 8 → i = nI k → (∀ a, a ≠ h + 8 → g1 a = g a) → (∀ i, g1 (h + 8) i = if i / 128 = c ∧ i % 128 / 16 < k ∧ i % 16 = fwT tc c (i % 128 / 16) then (if tc then 500 else 10) else g (h + 8) i) → J S 0 0 g1 2 [some (.ref h), some (.int (nI c)), some (.int i)] [] by
    exact H 8 0 i1 g rfl ei1 (fun _ _ => rfl) (fun i => by simp)
  intro r
  induction r with
  | zero =>
    intro k i g1 hk hi h1 h2
    have hk4 : g1 (h + 4) c = g (h + 4) c := by rw [h1 (h + 4) (by omega)]
    have h2' : ∀ i, g1 (h + 8) i = if i / 128 = c ∧ i % 16 = fwT tc c (i % 128 / 16) then (if tc then 500 else 10) else g (h + 8) i := by
      intro i
      rw [h2 i, show k = 8 by omega]
      have : i % 128 / 16 < 8 := by omega
      simp [this]
    refine J_iload_n hS dX6_giveFirstWeights_2 rfl ?_
    refine J_bipush (v := 8) hS dX6_giveFirstWeights_3 (by decide) ?_
    refine J_icmp_ge (tgt := 63) hS dX6_giveFirstWeights_5 (by decide) (fun c1 => ?_) (fun c1 => ?_)
    ·
      refine J_aload_n hS dX6_giveFirstWeights_63 rfl ?_
      refine J_getR (t := h + 4) hS dX6_giveFirstWeights_64 flX6_43 hW.ob rfl ?_
      refine J_iload_n hS dX6_giveFirstWeights_67 rfl ?_
      refine J_ialdN hS (c) dX6_giveFirstWeights_68 (show Ar lay NC .int (h + 4) 24 from hW.ar 4 (by decide) (by decide)) (by first | rfl | (simp only [n0, n1, n2, n3, n4, n5, n6, n7, n8, n9, n10, n11, n12, n13, n14, n15, n16, n17, n18, n19, n20, n24, n32, n56, n60, n64, n72, n99, n100, n128, n136, n142, n144, n200, n300, n999, n1000, n1500, n3464, nI_add, pk_mul] <;> first | rfl | (congr 1; omega))) hc (by decide) ?_
      refine J_iconst (v := 3) hS dX6_giveFirstWeights_69 (by decide) ?_
      refine J_icmp_ne (tgt := 85) hS dX6_giveFirstWeights_70 (by decide) (fun c2 => ?_) (fun c2 => ?_)
      ·
        refine J_vret hS hZ hr dX6_giveFirstWeights_85 (by omega) (by omega) ?_
        have htf : tc = false := by cases e : tc with
          | false => rfl
          | true => exact absurd (by rw [hk4]; exact hkd.mpr e) c2
        refine q g1 (fun a ha _ => h1 a ha) h2' (fun i => ?_)
        rw [h1 (h + 9) (by omega), htf]; simp
      · have htt : tc = true := hkd.mp (by rw [← hk4]; exact c2)
        refine J_aload_n hS dX6_giveFirstWeights_73 rfl ?_
        refine J_getR (t := h + 9) hS dX6_giveFirstWeights_74 flX6_58 hW.ob rfl ?_
        refine J_iload_n hS dX6_giveFirstWeights_77 rfl ?_
        refine J_bipush (v := 6) hS dX6_giveFirstWeights_78 (by decide) ?_
        refine J_imul hS dX6_giveFirstWeights_80 ?_
        refine J_sipush (v := 500) hS dX6_giveFirstWeights_81 (by decide) ?_
        refine J_iastN hS (c * 6) dX6_giveFirstWeights_84 (show Ar lay NC .int (h + 9) 144 from hW.ar 9 (by decide) (by decide)) (by first | rfl | (simp only [n0, n1, n2, n3, n4, n5, n6, n7, n8, n9, n10, n11, n12, n13, n14, n15, n16, n17, n18, n19, n20, n24, n32, n56, n60, n64, n72, n99, n100, n128, n136, n142, n144, n200, n300, n999, n1000, n1500, n3464, nI_add, pk_mul] <;> first | rfl | (congr 1; omega))) (by omega) (by decide) (fun g84 eg84 => ?_)
        refine J_vret hS hZ hr dX6_giveFirstWeights_85 (by omega) (by omega) ?_
        refine q g84 (fun a ha hb => by rw [eg84, u2_ne a hb]; exact h1 a ha) (fun i => by rw [eg84, u2_ne _ (by omega)]; exact h2' i) (fun i => ?_)
        rw [eg84]
        unfold u2
        by_cases e : i = c * 6
        · simp [e, htt]
        · simp [e, h1 (h + 9) (by omega)]
    · exact absurd (by rw [hi, show k = 8 by omega]; decide) c1
  | succ r ih =>
    intro k i g1 hk hi h1 h2
    have hk4 : g1 (h + 4) c = g (h + 4) c := by rw [h1 (h + 4) (by omega)]
    have nxt : ∀ (i' : Int32), i' = nI k + 1 → J S 0 0 (u2 g1 (h + 8) ((c * 8 + k) * 16 + fwT tc c k) (if tc then 500 else 10)) 2 [some (.ref h), some (.int (nI c)), some (.int i')] [] := by
      intro i' hi'
      have hw := @fwT_lt tc c k (by omega)
      refine ih (k + 1) i' _ (by omega) (by rw [hi']; exact nI_1 k) (fun a ha => by rw [u2_ne a ha]; exact h1 a ha) (fun i => ?_)
      unfold u2
      by_cases e : i = (c * 8 + k) * 16 + fwT tc c k
      · have e1 : i / 128 = c := by omega
        have e2 : i % 128 / 16 = k := by omega
        have e3 : i % 16 = fwT tc c k := by omega
        simp only [e1, e2, e3]
        simp [e]
      · simp only [e, and_false, if_false]
        rw [h2 i]
        by_cases e1 : i / 128 = c ∧ i % 128 / 16 < k ∧ i % 16 = fwT tc c (i % 128 / 16)
        · rw [if_pos e1, if_pos (show i / 128 = c ∧ i % 128 / 16 < k + 1 ∧ i % 16 = fwT tc c (i % 128 / 16) from ⟨e1.1, by omega, e1.2.2⟩)]
        · rw [if_neg e1, if_neg]
          intro z
          apply e1
          refine ⟨z.1, ?_, z.2.2⟩
          rcases Nat.lt_or_ge (i % 128 / 16) k with y | y
          · exact y
          · exfalso
            have e4 : i % 128 / 16 = k := by omega
            rw [e4] at z
            apply e; omega
    refine J_iload_n hS dX6_giveFirstWeights_2 rfl ?_
    refine J_bipush (v := 8) hS dX6_giveFirstWeights_3 (by decide) ?_
    refine J_icmp_ge (tgt := 63) hS dX6_giveFirstWeights_5 (by decide) (fun c1 => ?_) (fun c1 => ?_)
    · exact absurd (by rw [hi] at c1; exact c1) (nI_ge (show k < 8 by omega) (by decide))
    · subst hi
      refine J_aload_n hS dX6_giveFirstWeights_8 rfl ?_
      refine J_getR (t := h + 4) hS dX6_giveFirstWeights_9 flX6_43 hW.ob rfl ?_
      refine J_iload_n hS dX6_giveFirstWeights_12 rfl ?_
      refine J_ialdN hS (c) dX6_giveFirstWeights_13 (show Ar lay NC .int (h + 4) 24 from hW.ar 4 (by decide) (by decide)) (by first | rfl | (simp only [n0, n1, n2, n3, n4, n5, n6, n7, n8, n9, n10, n11, n12, n13, n14, n15, n16, n17, n18, n19, n20, n24, n32, n56, n60, n64, n72, n99, n100, n128, n136, n142, n144, n200, n300, n999, n1000, n1500, n3464, nI_add, pk_mul] <;> first | rfl | (congr 1; omega))) hc (by decide) ?_
      refine J_iconst (v := 3) hS dX6_giveFirstWeights_14 (by decide) ?_
      refine J_icmp_ne (tgt := 35) hS dX6_giveFirstWeights_15 (by decide) (fun c2 => ?_) (fun c2 => ?_)
      · have htf : tc = false := by cases e : tc with
          | false => rfl
          | true => exact absurd (by rw [hk4]; exact hkd.mpr e) c2
        subst htf
        refine J_aload_n hS dX6_giveFirstWeights_35 rfl ?_
        refine J_getR (t := h + 8) hS dX6_giveFirstWeights_36 flX6_55 hW.ob rfl ?_
        refine J_iload_n hS dX6_giveFirstWeights_39 rfl ?_
        refine J_iload_n hS dX6_giveFirstWeights_40 rfl ?_
        refine J_iconst (v := 5) hS dX6_giveFirstWeights_41 (by decide) ?_
        refine J_iload_n hS dX6_giveFirstWeights_42 rfl ?_
        refine J_imul hS dX6_giveFirstWeights_43 ?_
        refine J_iconst (v := 3) hS dX6_giveFirstWeights_44 (by decide) ?_
        refine J_iload_n hS dX6_giveFirstWeights_45 rfl ?_
        refine J_imul hS dX6_giveFirstWeights_46 ?_
        refine J_iadd hS dX6_giveFirstWeights_47 ?_
        refine J_bipush (v := 16) hS dX6_giveFirstWeights_48 (by decide) ?_
        refine J_irem hS dX6_giveFirstWeights_50 (by decide) ?_
        refine J_top (y := nI ((5 * c + 3 * k) % 16)) ?_ ?_
        · rw [show (5 : Int32) * nI c + 3 * nI k = nI (5 * c + 3 * k) by simp only [n5, n3, pk_mul, nI_add]]
          exact pk_rem (d := 16) (by omega) (by decide) (by decide)
        refine J_callN3 hS dX6_giveFirstWeights_51 mnX6_83 rfl (by decide) (by decide) (Nat.le_of_ble_eq_true rfl) hR (c_signIndex ?_)
        refine J_bipush (v := 10) hS dX6_giveFirstWeights_54 (by decide) ?_
        refine J_iastN hS ((c * 8 + k) * 16 + (5 * c + 3 * k) % 16) dX6_giveFirstWeights_56 (show Ar lay NC .int (h + 8) 3072 from hW.ar 8 (by decide) (by decide)) (by first | rfl | (simp only [n0, n1, n2, n3, n4, n5, n6, n7, n8, n9, n10, n11, n12, n13, n14, n15, n16, n17, n18, n19, n20, n24, n32, n56, n60, n64, n72, n99, n100, n128, n136, n142, n144, n200, n300, n999, n1000, n1500, n3464, nI_add, pk_mul] <;> first | rfl | (congr 1; omega))) (by omega) (by decide) (fun g56 eg56 => ?_)
        refine J_iinc (lt := fun i2 => [some (.ref h), some (.int (nI c)), some (.int i2)]) (v := 1) hS dX6_giveFirstWeights_57 rfl (by decide) (fun _ => rfl) (fun i2 ei2 => ?_)
        refine J_goto (tgt := 2) hS dX6_giveFirstWeights_60 (by decide) ?_
        rw [eg56]
        exact nxt i2 ei2
      · have htt : tc = true := hkd.mp (by rw [← hk4]; exact c2)
        subst htt
        refine J_aload_n hS dX6_giveFirstWeights_18 rfl ?_
        refine J_getR (t := h + 8) hS dX6_giveFirstWeights_19 flX6_55 hW.ob rfl ?_
        refine J_iload_n hS dX6_giveFirstWeights_22 rfl ?_
        refine J_iload_n hS dX6_giveFirstWeights_23 rfl ?_
        refine J_iload_n hS dX6_giveFirstWeights_24 rfl ?_
        refine J_callN3 hS dX6_giveFirstWeights_25 mnX6_83 rfl (by decide) (by decide) (Nat.le_of_ble_eq_true rfl) hR (c_signIndex ?_)
        refine J_sipush (v := 500) hS dX6_giveFirstWeights_28 (by decide) ?_
        refine J_iastN hS ((c * 8 + k) * 16 + k) dX6_giveFirstWeights_31 (show Ar lay NC .int (h + 8) 3072 from hW.ar 8 (by decide) (by decide)) (by first | rfl | (simp only [n0, n1, n2, n3, n4, n5, n6, n7, n8, n9, n10, n11, n12, n13, n14, n15, n16, n17, n18, n19, n20, n24, n32, n56, n60, n64, n72, n99, n100, n128, n136, n142, n144, n200, n300, n999, n1000, n1500, n3464, nI_add, pk_mul] <;> first | rfl | (congr 1; omega))) (by omega) (by decide) (fun g31 eg31 => ?_)
        refine J_goto (tgt := 57) hS dX6_giveFirstWeights_32 (by decide) ?_
        refine J_iinc (lt := fun i2 => [some (.ref h), some (.int (nI c)), some (.int i2)]) (v := 1) hS dX6_giveFirstWeights_57 rfl (by decide) (fun _ => rfl) (fun i2 ei2 => ?_)
        refine J_goto (tgt := 2) hS dX6_giveFirstWeights_60 (by decide) ?_
        rw [eg31]
        exact nxt i2 ei2
end ClsD


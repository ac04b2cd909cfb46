/-! THE CLASS: a film that is played again under another law -/
def alK (lw : Option (List Cls)) (lo : Int32) (na nb ny : Nat → Nat) (nm : Nat → Nat → Nat) (w : Wr) : Nat → Wr
  | 0 => w
  | i + 1 => tW6 lw lo (alK lw lo na nb ny nm w i) (na i) (nb i) (ny i) (nm i)
theorem Kp_alK {lw : Option (List Cls)} {lo : Int32} {na nb ny : Nat → Nat} {nm : Nat → Nat → Nat} {w : Wr} (hy : ∀ i, ny i < 3) (hm : ∀ i r, nm i r < 4) : ∀ k, Kp w (alK lw lo na nb ny nm w k)
  | 0 => Kp.refl w
  | k + 1 => (Kp_alK hy hm k).trans (Kp_tW6 (hy k) (hm k))
/-- the talk i of the film comes out as it is noted, or is a gap -/
def alOk (g : Mm) (h fr : Nat) (lw : Option (List Cls)) (lo : Int32) (na nb ny : Nat → Nat) (nm : Nat → Nat → Nat) (w : Wr) (i : Nat) : Prop :=
  ¬ g (h + 1) i = 0 ∨ ∀ k, k < 3 → g 144 ((fr + i) * 19 + 7 + k) = nI (sayS (alK lw lo na nb ny nm w i) (na i) (nm i) k)
section ClsZ
variable {l : Launch} {E : Ey} {g : Mm} {Q : Option Value → Mm → Prop} {X : String → Mm → Prop} {h : Nat}
set_option maxRecDepth 10000 in
set_option maxHeartbeats 4000000 in
theorem c_countAlike (hF : Fm h) {fr mn : Nat} {v : Int32} {Ls : List (List Cls)} {na nb ny : Nat → Nat} {nm : Nat → Nat → Nat} (hl : LawsC g Ls) (hv : isLw Ls.length v) (efr : g h 2 = nI fr) (emn : g h 3 = nI mn) (hmn : mn ≤ 100) (hfr : fr + mn ≤ 1500)
    (hy : ∀ i, ny i < 3) (hm : ∀ i r, nm i r < 4) (hN : ∀ i, i < mn → na i < 24 ∧ nb i < 24 ∧ g 144 ((fr + i) * 19 + 1) = nI (na i) ∧ g 144 ((fr + i) * 19 + 2) = nI (nb i) ∧ g 144 ((fr + i) * 19 + 3) = nI (nm i 0) ∧ g 144 ((fr + i) * 19 + 4) = nI (nm i 1) ∧ g 144 ((fr + i) * 19 + 5) = nI (nm i 2))
    (hY : ∀ i, i < mn → wv g (68 + 11 * ((h - 101) / 2)) (56 + 142 * na i) = nI (ny i) ∧ wv g (68 + 11 * ((h - 101) / 2)) (56 + 142 * nb i) = nI (ny i)) (hwt : ∀ c, c < 24 → Wt (wv g (68 + 11 * ((h - 101) / 2))) c)
    (q : ∀ (g' : Mm) (r : Nat), (∀ z, (z < 13 ∨ 23 < z) → z ≠ 148 → z ≠ 149 → z ≠ 150 → z ≠ 151 → z ≠ 152 → z ≠ 153 → z ≠ 154 → g' z = g z) → r ≤ mn → (∀ j, j < r → alOk g h fr (lwOf Ls v) (-1) na nb ny nm (wv g (68 + 11 * ((h - 101) / 2))) j) → (r < mn → ¬ alOk g h fr (lwOf Ls v) (-1) na nb ny nm (wv g (68 + 11 * ((h - 101) / 2))) r) → Q (some (.int (nI r))) g') : Ct l E lay NC 6 0 0 yX7_countAlike [.ref 1, .ref h, .int v] g Q X := by
  have hh : 101 ≤ h ∧ h < 107 := by obtain ⟨i, hi, e⟩ := hF; omega
  obtain ⟨w, hw⟩ : ∃ w : Wr, w = wv g (68 + 11 * ((h - 101) / 2)) := ⟨_, rfl⟩
  rw [← hw] at q hwt hY
  refine Ct_in k_yX7_countAlike (by decide) rfl (Nat.le_of_ble_eq_true rfl) rfl ?_
  intro S hS hZ hr ht hR
  show J S 0 0 g 0 [some (.ref 1), some (.ref h), some (.int v), none, none] []
  refine J_aload_n hS dX7_countAlike_0 rfl ?_
  refine J_getR (t := 13) hS dX7_countAlike_1 flX7_16 ob1 rfl ?_
  refine J_aload_n hS dX7_countAlike_4 rfl ?_
  refine J_getR (t := 68 + 11 * ((h - 101) / 2)) hS dX7_countAlike_5 flX7_417 hF.ob rfl ?_
  refine J_callV1 (X' := fun _ _ => False) hS dX7_countAlike_8 mvX7_295 wo_copy.ob rfl (by decide) (by decide) (Nat.le_of_ble_eq_true rfl) hR (fun _ _ q => q.elim) (c_become wo_copy hF.img (by omega) (fun g0 w0 f0 => ?_))
  refine J_aload_n hS dX7_countAlike_11 rfl ?_
  refine J_getR (t := 152) hS dX7_countAlike_12 flX7_52 ob1 rfl ?_
  refine J_aload_n hS dX7_countAlike_15 rfl ?_
  refine J_iload_n hS dX7_countAlike_16 rfl ?_
  rw [← hw] at w0
  have hl0 : LawsC g0 Ls := hl.fr (by rw [f0 1 (by decide)]) (fun a h1 h2 => f0 a (by omega))
  refine J_callV1 (X' := fun _ _ => False) hS dX7_countAlike_17 mvX7_299 ob1 rfl (by decide) (by decide) (Nat.le_of_ble_eq_true rfl) hR (fun _ _ q => q.elim) (c_lawOf hl0 hv (fun r x h1 h2 h3 => ?_))
  refine J_iconst (v := (-1)) hS dX7_countAlike_20 (by decide) ?_
  refine J_callV2 (X' := fun _ _ => False) hS dX7_countAlike_21 mvX7_303 ob152 rfl (by decide) (by decide) (Nat.le_of_ble_eq_true rfl) hR (fun _ _ q => q.elim) (c_use h1 h2 ?_)
  have hR0 : RuleC (u2 (u2 g0 152 2 x) 152 3 (-1)) (lwOf Ls v) := use_rule hl0 h3
  obtain ⟨gu, hgu⟩ : ∃ gu : Mm, gu = u2 (u2 g0 152 2 x) 152 3 (-1) := ⟨_, rfl⟩
  rw [← hgu] at hR0 ⊢
  have elo : gu 152 3 = -1 := by rw [hgu]; simp [u2]
  have fu : ∀ z, (z < 13 ∨ 23 < z) → z ≠ 152 → gu z = g z := fun z h1 h2 => by rw [hgu, u2_ne z h2, u2_ne z h2]; exact f0 z (by omega)
  have wu : wv gu 13 = w := by rw [← w0]; exact wv_fr (fun z h1 h2 => by rw [hgu, u2_ne z (by omega), u2_ne z (by omega)])
  refine J_iconst (v := 0) hS dX7_countAlike_24 (by decide) ?_
  refine J_istore_n (lt := fun i1 => [some (.ref 1), some (.ref h), some (.int v), some (.int i1), none]) hS dX7_countAlike_25 (Nat.le_of_ble_eq_true rfl) (fun _ => rfl) (fun i1 ei1 => ?_)
  suffices H : ∀ (r k : Nat) (i : Int32) (g1 : Mm), k + r = mn → i = nI k → (∀ z, (z < 13 ∨ 23 < z) → z ≠ 148 → z ≠ 149 → z ≠ 150 → z ≠ 151 → z ≠ 153 → z ≠ 154 → g1 z = gu z) → wv g1 13 = alK (lwOf Ls v) (-1) na nb ny nm w k → (∀ j, j < k → alOk g h fr (lwOf Ls v) (-1) na nb ny nm w j) → J S 0 0 g1 26 [some (.ref 1), some (.ref h), some (.int v), some (.int i), none] [] by
    exact H mn 0 i1 gu (by omega) ei1 (fun _ _ _ _ _ _ _ _ => rfl) wu (fun j hj => absurd hj (by omega))
  intro r
  induction r with
  | zero =>
    intro k i g1 hk hi f1 w1 o1
    have hkm : k = mn := by omega
    subst hkm
    have e1 : g1 h = g h := by rw [f1 h (by omega) (by omega) (by omega) (by omega) (by omega) (by omega) (by omega)]; exact fu h (by omega) (by omega)
    refine J_iload_n hS dX7_countAlike_26 rfl ?_
    refine J_aload_n hS dX7_countAlike_27 rfl ?_
    refine J_getI hS dX7_countAlike_28 flX7_277 hF.ob rfl ?_
    show J S 0 0 g1 31 [some (.ref 1), some (.ref h), some (.int v), some (.int i), none] [.int _, .int i]
    rw [e1, emn]
    refine J_icmp_ge (tgt := 147) hS dX7_countAlike_31 (by decide) (fun c1 => ?_) (fun c1 => ?_)
    ·
      refine J_aload_n hS dX7_countAlike_147 rfl ?_
      refine J_getI hS dX7_countAlike_148 flX7_277 hF.ob rfl ?_
      show J S 0 0 g1 151 [some (.ref 1), some (.ref h), some (.int v), some (.int i), none] [.int _]
      rw [e1, emn]
      refine J_iret hS hZ hr dX7_countAlike_151 (by omega) (by omega) ?_
      exact q g1 k (fun z h1 h2 h3 h4 h5 h6 h7 h8 => by rw [f1 z h1 h2 h3 h4 h5 h7 h8]; exact fu z h1 h6) (by omega) o1 (fun z => absurd z (by omega))
    · exact absurd (by rw [hi]; exact Int32.le_refl _) c1
  | succ r ih =>
    intro k i g1 hk hi f1 w1 o1
    subst hi
    have hkm : k < mn := by omega
    obtain ⟨ha, hb, e1a, e1b, e10, e11, e12⟩ := hN k hkm
    have e1 : g1 h = g h := by rw [f1 h (by omega) (by omega) (by omega) (by omega) (by omega) (by omega) (by omega)]; exact fu h (by omega) (by omega)
    have e144 : g1 144 = g 144 := by rw [f1 144 (by decide) (by decide) (by decide) (by decide) (by decide) (by decide) (by decide)]; exact fu 144 (by decide) (by decide)
    have kp : Kp w (alK (lwOf Ls v) (-1) na nb ny nm w k) := Kp_alK hy hm k
    refine J_iload_n hS dX7_countAlike_26 rfl ?_
    refine J_aload_n hS dX7_countAlike_27 rfl ?_
    refine J_getI hS dX7_countAlike_28 flX7_277 hF.ob rfl ?_
    show J S 0 0 g1 31 [some (.ref 1), some (.ref h), some (.int v), some (.int (nI k)), none] [.int _, .int (nI k)]
    rw [e1, emn]
    refine J_icmp_ge (tgt := 147) hS dX7_countAlike_31 (by decide) (fun c1 => ?_) (fun c1 => ?_)
    · exact absurd c1 (nI_ge hkm (by omega))
    ·
      refine J_aload_n hS dX7_countAlike_34 rfl ?_
      refine J_getI hS dX7_countAlike_35 flX7_420 hF.ob rfl ?_
      show J S 0 0 g1 38 [some (.ref 1), some (.ref h), some (.int v), some (.int (nI k)), none] [.int _]
      rw [e1, efr]
      refine J_iload_n hS dX7_countAlike_38 rfl ?_
      refine J_iadd hS dX7_countAlike_39 ?_
      refine J_istore (lt := fun x4 => [some (.ref 1), some (.ref h), some (.int v), some (.int (nI k)), some (.int x4)]) hS dX7_countAlike_40 (Nat.le_of_ble_eq_true rfl) (fun _ => rfl) (fun x4 ex4 => ?_)
      have ex4' : x4 = nI (fr + k) := ex4.trans (nI_add fr k)
      subst ex4'
      refine J_aload_n hS dX7_countAlike_42 rfl ?_
      refine J_getR (t := 148) hS dX7_countAlike_43 flX7_45 ob1 rfl ?_
      refine J_aload_n hS dX7_countAlike_46 rfl ?_
      refine J_getR (t := 143) hS dX7_countAlike_47 flX7_38 ob1 rfl ?_
      refine J_iload hS dX7_countAlike_50 rfl ?_
      refine J_iconst (v := 1) hS dX7_countAlike_52 (by decide) ?_
      refine J_callV2 (X' := fun _ _ => False) hS dX7_countAlike_53 mvX7_248 ob143 rfl (by decide) (by decide) (Nat.le_of_ble_eq_true rfl) hR (fun _ _ q => q.elim) (c_at (t := fr + k) (c := 1) (by omega) (by decide) ?_)
      refine J_aload_n hS dX7_countAlike_56 rfl ?_
      refine J_getR (t := 143) hS dX7_countAlike_57 flX7_38 ob1 rfl ?_
      refine J_iload hS dX7_countAlike_60 rfl ?_
      refine J_iconst (v := 2) hS dX7_countAlike_62 (by decide) ?_
      refine J_callV2 (X' := fun _ _ => False) hS dX7_countAlike_63 mvX7_248 ob143 rfl (by decide) (by decide) (Nat.le_of_ble_eq_true rfl) hR (fun _ _ q => q.elim) (c_at (t := fr + k) (c := 2) (by omega) (by decide) ?_)
      refine J_aload_n hS dX7_countAlike_66 rfl ?_
      refine J_getR (t := 143) hS dX7_countAlike_67 flX7_38 ob1 rfl ?_
      refine J_iload hS dX7_countAlike_70 rfl ?_
      refine J_iconst (v := 3) hS dX7_countAlike_72 (by decide) ?_
      refine J_callV2 (X' := fun _ _ => False) hS dX7_countAlike_73 mvX7_248 ob143 rfl (by decide) (by decide) (Nat.le_of_ble_eq_true rfl) hR (fun _ _ q => q.elim) (c_at (t := fr + k) (c := 3) (by omega) (by decide) ?_)
      refine J_aload_n hS dX7_countAlike_76 rfl ?_
      refine J_getR (t := 143) hS dX7_countAlike_77 flX7_38 ob1 rfl ?_
      refine J_iload hS dX7_countAlike_80 rfl ?_
      refine J_iconst (v := 4) hS dX7_countAlike_82 (by decide) ?_
      refine J_callV2 (X' := fun _ _ => False) hS dX7_countAlike_83 mvX7_248 ob143 rfl (by decide) (by decide) (Nat.le_of_ble_eq_true rfl) hR (fun _ _ q => q.elim) (c_at (t := fr + k) (c := 4) (by omega) (by decide) ?_)
      refine J_aload_n hS dX7_countAlike_86 rfl ?_
      refine J_getR (t := 143) hS dX7_countAlike_87 flX7_38 ob1 rfl ?_
      refine J_iload hS dX7_countAlike_90 rfl ?_
      refine J_iconst (v := 5) hS dX7_countAlike_92 (by decide) ?_
      refine J_callV2 (X' := fun _ _ => False) hS dX7_countAlike_93 mvX7_248 ob143 rfl (by decide) (by decide) (Nat.le_of_ble_eq_true rfl) hR (fun _ _ q => q.elim) (c_at (t := fr + k) (c := 5) (by omega) (by decide) ?_)
      show J S 0 0 g1 96 [some (.ref 1), some (.ref h), some (.int v), some (.int (nI k)), some (.int (nI (fr + k)))] [.int _, .int _, .int _, .int _, .int _, .ref (148)]
      rw [e144, e1a, e1b, e10, e11, e12]
      refine J_callV5 (X' := fun _ _ => False) hS dX7_countAlike_96 mvX7_221 ob148 rfl (by decide) (by decide) (Nat.le_of_ble_eq_true rfl) hR (fun _ _ q => q.elim) (c_begin (fun g2 b1 b2 b3 b4 b5 b6 b7 => ?_))
      have hsp : SpC g2 (na k) (nb k) (nm k) := ⟨ha, hb, b2, b3, fun j hj => ⟨hm k j, by
        have hj3 : j = 0 ∨ j = 1 ∨ j = 2 := by omega
        rcases hj3 with e | e | e
        · subst e; exact b5
        · subst e; exact b6
        · subst e; exact b7⟩⟩
      have w2 : wv g2 13 = alK (lwOf Ls v) (-1) na nb ny nm w k := by rw [← w1]; exact wv_fr (fun z h1 h2 => b1 z (by omega) (by omega))
      have f2 : ∀ z, (z < 13 ∨ 23 < z) → z ≠ 148 → z ≠ 149 → z ≠ 150 → z ≠ 151 → z ≠ 153 → z ≠ 154 → g2 z = gu z := fun z h1 h2 h3 h4 h5 h6 h7 => by rw [b1 z h2 h3]; exact f1 z h1 h2 h3 h4 h5 h6 h7
      have lo2 : g2 152 3 = -1 := by rw [f2 152 (by decide) (by decide) (by decide) (by decide) (by decide) (by decide) (by decide)]; exact elo
      refine J_aload_n hS dX7_countAlike_99 rfl ?_
      refine J_getR (t := 148) hS dX7_countAlike_100 flX7_45 ob1 rfl ?_
      refine J_aload_n hS dX7_countAlike_103 rfl ?_
      refine J_getR (t := 13) hS dX7_countAlike_104 flX7_16 ob1 rfl ?_
      refine J_aload_n hS dX7_countAlike_107 rfl ?_
      refine J_getR (t := 152) hS dX7_countAlike_108 flX7_52 ob1 rfl ?_
      refine J_callV2 (X' := fun _ _ => False) hS dX7_countAlike_111 mvX7_399 ob148 rfl (by decide) (by decide) (Nat.le_of_ble_eq_true rfl) hR (fun _ _ q => q.elim) (c_makeIn wo_copy hsp (hm k) (hy k) (by rw [w2]; exact (kp.hd (r := 0) (by decide)).trans (hY k hkm).1) (by rw [w2]; exact (kp.hd (r := 0) (by decide)).trans (hY k hkm).2) (by rw [w2]; exact kp.wt (hwt _ hb)) (hR0.fr (fun a ha => f2 a (by omega) (by omega) (by omega) (by omega) (by omega) (by omega) (by omega))) (fun g3 d1 d2 _ _ d5 _ _ _ _ _ => ?_))
      rw [w2] at d2 d5
      rw [lo2] at d2
      have f3 : ∀ z, (z < 13 ∨ 23 < z) → z ≠ 148 → z ≠ 149 → z ≠ 150 → z ≠ 151 → z ≠ 153 → z ≠ 154 → g3 z = gu z := fun z h1 h2 h3 h4 h5 h6 h7 => by rw [d1 z (by omega) h2 h4 h5 h6 h7]; exact f2 z h1 h2 h3 h4 h5 h6 h7
      have eg1 : g3 (h + 1) = g (h + 1) := by rw [f3 (h + 1) (by omega) (by omega) (by omega) (by omega) (by omega) (by omega) (by omega)]; exact fu (h + 1) (by omega) (by omega)
      have e144' : g3 144 = g 144 := by rw [f3 144 (by decide) (by decide) (by decide) (by decide) (by decide) (by decide) (by decide)]; exact fu 144 (by decide) (by decide)
      have nxt : ∀ i2 : Int32, i2 = nI k + 1 → alOk g h fr (lwOf Ls v) (-1) na nb ny nm w k → J S 0 0 g3 26 [some (.ref 1), some (.ref h), some (.int v), some (.int i2), some (.int (nI (fr + k)))] [] := by
        intro i2 ei2 ok
        refine J_weak (ls' := [some (.ref 1), some (.ref h), some (.int v), some (.int i2), none]) ⟨Or.inr rfl, Or.inr rfl, Or.inr rfl, Or.inr rfl, Or.inl rfl, trivial⟩ ?_
        refine ih (k + 1) i2 g3 (by omega) (by rw [ei2]; exact nI_1 k) f3 d2 (fun j hj => ?_)
        by_cases e : j = k
        · subst e; exact ok
        · exact o1 j (by omega)
      refine J_aload_n hS dX7_countAlike_114 rfl ?_
      refine J_getR (t := h + 1) hS dX7_countAlike_115 flX7_283 hF.ob rfl ?_
      refine J_iload_n hS dX7_countAlike_118 rfl ?_
      refine J_zaldN hS (k) dX7_countAlike_119 hF.ar (by first | rfl | (simp only [n0, n1, n2, n3, n4, n5, n6, n7, n8, n9, n10, n11, n12, n13, n14, n15, n16, n17, n18, n19, n20, n24, n32, n56, n60, n64, n72, n99, n100, n128, n136, n142, n144, n200, n300, n999, n1000, n1500, n3464, nI_add, pk_mul] <;> first | rfl | (congr 1; omega))) (by omega) (by decide) ?_
      show J S 0 0 g3 120 [some (.ref 1), some (.ref h), some (.int v), some (.int (nI k)), some (.int (nI (fr + k)))] [.int _]
      rw [eg1]
      refine J_if_ne (tgt := 141) hS dX7_countAlike_120 (by decide) (fun c2 => ?_) (fun c2 => ?_)
      ·
        refine J_iinc (lt := fun i2 => [some (.ref 1), some (.ref h), some (.int v), some (.int i2), some (.int (nI (fr + k)))]) (v := 1) hS dX7_countAlike_141 rfl (by decide) (fun _ => rfl) (fun i2 ei2 => ?_)
        refine J_goto (tgt := 26) hS dX7_countAlike_144 (by decide) ?_
        exact nxt i2 ei2 (Or.inl c2)
      ·
        refine J_aload_n hS dX7_countAlike_123 rfl ?_
        refine J_getR (t := 143) hS dX7_countAlike_124 flX7_38 ob1 rfl ?_
        refine J_iload hS dX7_countAlike_127 rfl ?_
        refine J_aload_n hS dX7_countAlike_129 rfl ?_
        refine J_getR (t := 148) hS dX7_countAlike_130 flX7_45 ob1 rfl ?_
        refine J_callV2 (X' := fun _ _ => False) hS dX7_countAlike_133 mvX7_423 ob143 rfl (by decide) (by decide) (Nat.le_of_ble_eq_true rfl) hR (fun _ _ q => q.elim) (c_hasSigns (t := fr + k) (by omega) ?_)
        show J S 0 0 g3 136 [some (.ref 1), some (.ref h), some (.int v), some (.int (nI k)), some (.int (nI (fr + k)))] [.int _]
        rw [e144', (d5 0 (by decide)).2, (d5 1 (by decide)).2, (d5 2 (by decide)).2]
        refine J_if_ne (tgt := 141) hS dX7_countAlike_136 (by decide) (fun c3 => ?_) (fun c3 => ?_)
        ·
          refine J_iinc (lt := fun i2 => [some (.ref 1), some (.ref h), some (.int v), some (.int i2), some (.int (nI (fr + k)))]) (v := 1) hS dX7_countAlike_141 rfl (by decide) (fun _ => rfl) (fun i2 ei2 => ?_)
          refine J_goto (tgt := 26) hS dX7_countAlike_144 (by decide) ?_
          refine nxt i2 ei2 (Or.inr (fun j hj => ?_))
          have hz := Classical.byContradiction (fun z => c3 (b01_f z))
          have hj3 : j = 0 ∨ j = 1 ∨ j = 2 := by omega
          rcases hj3 with e | e | e
          · subst e; exact hz.1
          · subst e; exact hz.2.1
          · subst e; exact hz.2.2
        ·
          refine J_iload_n hS dX7_countAlike_139 rfl ?_
          refine J_iret hS hZ hr dX7_countAlike_140 (by omega) (by omega) ?_
          refine q g3 k (fun z h1 h2 h3 h4 h5 h6 h7 h8 => by rw [f3 z h1 h2 h3 h4 h5 h7 h8]; exact fu z h1 h6) (by omega) o1 (fun _ z => ?_)
          rcases z with z | z
          · exact z (Classical.byContradiction (fun y => absurd c2 y))
          · rw [b01_t ⟨z 0 (by decide), z 1 (by decide), z 2 (by decide)⟩] at c3
            exact absurd c3 (by decide)
end ClsZ


/-! THE REFERENCE: fits and read -/
def alOkM (g : Mm) (f fr : Nat) (lw : Option (List Cls)) (lo : Int32) (na nb ny : Nat → Nat) (nm : Nat → Nat → Nat) (w : Wr) (i : Nat) : Prop :=
  ¬ g 213 (100 * f + i) = 0 ∨ ∀ k, k < 3 → g 201 (20 * (fr + i) + 7 + k) = nI (sayS (alK lw lo na nb ny nm w i) (na i) (nm i) k)
/-- a film as the reference holds it; w: its image -/
def FmM (g : Mm) (f fr mn : Nat) (na nb ny : Nat → Nat) (nm : Nat → Nat → Nat) (w : Wr) : Prop :=
  (∀ i, i < 3464 → g 212 (3464 * f + i) = w i) ∧ g 210 f = nI fr ∧ g 211 f = nI mn ∧ mn ≤ 100 ∧ fr + mn ≤ 1500 ∧ (∀ i, ny i < 3) ∧ (∀ i r, nm i r < 4) ∧
  (∀ i, i < mn → na i < 24 ∧ nb i < 24 ∧ g 201 (20 * (fr + i) + 1) = nI (na i) ∧ g 201 (20 * (fr + i) + 2) = nI (nb i) ∧ ∀ k, k < 3 → g 201 (20 * (fr + i) + 3 + k) = nI (nm i k)) ∧
  (∀ i, i < mn → w (56 + 142 * na i) = nI (ny i)) ∧ ∀ c, c < 24 → Wt w c
def FrQ (g g' : Mm) : Prop := ∀ z, z = 201 ∨ z = 210 ∨ z = 211 ∨ z = 212 ∨ z = 213 → g' z = g z
theorem FrB.q {g g' : Mm} (e : FrB g g') : FrQ g g' := fun z hz => e.1 z (by omega) (by omega) (by omega) (by omega) (by omega) (by omega) (by omega)
theorem FrZ.q {g g' : Mm} (e : FrZ g g') : FrQ g g' := fun z hz => e.1 z (by omega) (by omega) (by omega) (by omega) (by omega) (by omega) (by omega) (by omega) (by omega) (by omega)
theorem FmM.fq {g g' : Mm} {f fr mn : Nat} {na nb ny : Nat → Nat} {nm : Nat → Nat → Nat} {w : Wr} (h : FmM g f fr mn na nb ny nm w) (e2 : FrQ g g') : FmM g' f fr mn na nb ny nm w := by
  unfold FmM
  rw [e2 201 (by decide), e2 210 (by decide), e2 211 (by decide), e2 212 (by decide)]
  exact h
theorem FmM.fr {g g' : Mm} {f fr mn : Nat} {na nb ny : Nat → Nat} {nm : Nat → Nat → Nat} {w : Wr} (h : FmM g f fr mn na nb ny nm w) (e : FrB g g') : FmM g' f fr mn na nb ny nm w := h.fq e.q
theorem alOkM_fr {g g' : Mm} {f fr : Nat} {lw : Option (List Cls)} {lo : Int32} {na nb ny : Nat → Nat} {nm : Nat → Nat → Nat} {w : Wr} {j : Nat} (e : FrQ g g') : alOkM g' f fr lw lo na nb ny nm w j ↔ alOkM g f fr lw lo na nb ny nm w j := by
  unfold alOkM
  rw [e 213 (by decide), e 201 (by decide)]
section RefF
variable {l : Launch} {E : Ey} {g : Mm} {Q : Option Value → Mm → Prop} {X : String → Mm → Prop} {w : Wr} {n : Nat}
set_option maxRecDepth 10000 in
theorem m_fitting {f fr mn : Nat} {v : Int32} {Ls : List (List Cls)} {na nb ny : Nat → Nat} {nm : Nat → Nat → Nat} (hf : f < 3) (hF : FmM g f fr mn na nb ny nm w) (hL : LawsM g Ls) (hv : isLw Ls.length v) (hlo : g 162 27 = -1) (q : ∀ (g' : Mm) (r : Nat), FrB g g' → g' 162 3 = nI 164 → r ≤ mn → (∀ j, j < r → alOkM g f fr (lwOf Ls v) (-1) na nb ny nm w j) → (r < mn → ¬ alOkM g f fr (lwOf Ls v) (-1) na nb ny nm w r) → Q (some (.int (nI r))) g') : Ct l E lay NC 5 0 0 yX8_fitting [.ref 162, .int (nI f), .int v] g Q X := by
  have hF0 := hF
  obtain ⟨h1, h2, h3, h4, h5, h6, h7, h8, h9, h10⟩ := hF
  obtain ⟨lw, hlw⟩ : ∃ lw, lw = lwOf Ls v := ⟨_, rfl⟩
  obtain ⟨ok, hok⟩ : ∃ ok : Nat → Prop, ok = alOkM g f fr lw (-1) na nb ny nm w := ⟨_, rfl⟩
  rw [← hlw, ← hok] at q
  refine Ct_in k_yX8_fitting (by decide) rfl (Nat.le_of_ble_eq_true rfl) rfl ?_
  intro S hS hZ hr ht hR
  show J S 0 0 (g) 0 [some (.ref 162), some (.int (nI f)), some (.int v), none, none, none, none] []
  refine J_iconst (v := 0) hS dX8_fitting_0 (by decide) ?_
  refine J_istore_n (lt := fun x3 => [some (.ref 162), some (.int (nI f)), some (.int v), some (.int x3), none, none, none]) hS dX8_fitting_1 (Nat.le_of_ble_eq_true rfl) (fun _ => rfl) (fun x3 ex3 => ?_)
  suffices HC : ∀ (t k : Nat) (i : Int32) (g1 : Mm), k + t = 3464 → i = nI k → (∀ z, z ≠ 165 → g1 z = g z) → (∀ j, j < k → g1 165 j = w j) → J S 0 0 g1 2 [some (.ref 162), some (.int (nI f)), some (.int v), some (.int i), none, none, none] [] by
    exact HC 3464 0 x3 g (by omega) ex3 (fun _ _ => rfl) (fun j hj => absurd hj (by omega))
  intro t
  induction t with
  | succ t ih =>
    intro k i g1 hk hi k1 k2
    subst hi
    have hk3 : k < 3464 := by omega
    refine J_iload_n hS dX8_fitting_2 rfl ?_
    refine J_sipush (v := 3464) hS dX8_fitting_3 (by decide) ?_
    refine J_icmp_ge (tgt := 33) hS dX8_fitting_6 (by decide) (fun c1 => ?_) (fun c1 => ?_)
    · exact absurd c1 (nI_ge hk3 (by decide))
    ·
      refine J_aload_n hS dX8_fitting_9 rfl ?_
      refine J_getR (t := 165) hS dX8_fitting_10 flX8_17 ob162 rfl ?_
      refine J_iload_n hS dX8_fitting_13 rfl ?_
      refine J_aload_n hS dX8_fitting_14 rfl ?_
      refine J_getR (t := 212) hS dX8_fitting_15 flX8_86 ob162 rfl ?_
      refine J_sipush (v := 3464) hS dX8_fitting_18 (by decide) ?_
      refine J_iload_n hS dX8_fitting_21 rfl ?_
      refine J_imul hS dX8_fitting_22 ?_
      refine J_iload_n hS dX8_fitting_23 rfl ?_
      refine J_iadd hS dX8_fitting_24 ?_
      refine J_ialdN hS (3464 * f + k) dX8_fitting_25 (show Ar lay NC .int 212 10392 from arM 49 10392 (by decide) (by decide) rfl) (by rw [n3464, pk_mul, nI_add]) (by omega) (by decide) ?_
      show J S 0 0 (g1) 26 [some (.ref 162), some (.int (nI f)), some (.int v), some (.int (nI k)), none, none, none] [.int _, .int (nI k), .ref (165)]
      rw [k1 212 (by decide), h1 k hk3]
      refine J_iastN hS (k) dX8_fitting_26 Rw5.ar (by first | rfl | (simp only [n0, n1, n2, n3, n4, n5, n6, n7, n8, n9, n10, n11, n12, n13, n14, n15, n16, n17, n18, n19, n20, n24, n32, n56, n60, n64, n72, n99, n100, n128, n136, n142, n144, n200, n300, n999, n1000, n1500, n3464, nI_add, pk_mul] <;> first | rfl | (congr 1; omega))) hk3 (by decide) (fun g26 eg26 => ?_)
      refine J_iinc (lt := fun i2 => [some (.ref 162), some (.int (nI f)), some (.int v), some (.int i2), none, none, none]) (v := 1) hS dX8_fitting_27 rfl (by decide) (fun _ => rfl) (fun i2 ei2 => ?_)
      refine J_goto (tgt := 2) hS dX8_fitting_30 (by decide) ?_
      refine ih (k + 1) i2 g26 (by omega) (by rw [ei2]; exact nI_1 k) (fun z hz => by rw [eg26, u2_ne z hz]; exact k1 z hz) (fun j hj => ?_)
      rw [eg26, u2_at]
      split
      · rename_i e; rw [e]
      · exact k2 j (by omega)
  | zero =>
    intro k i g1 hk hi k1 k2
    have ek : k = 3464 := by omega
    subst ek; subst hi
    refine J_iload_n hS dX8_fitting_2 rfl ?_
    refine J_sipush (v := 3464) hS dX8_fitting_3 (by decide) ?_
    refine J_icmp_ge (tgt := 33) hS dX8_fitting_6 (by decide) (fun c1 => ?_) (fun c1 => ?_)
    ·
      refine J_aload_n hS dX8_fitting_33 rfl ?_
      refine J_getR (t := 165) hS dX8_fitting_34 flX8_17 ob162 rfl ?_
      refine J_iconst (v := 5) hS dX8_fitting_37 (by decide) ?_
      refine J_iload_n hS dX8_fitting_38 rfl ?_
      refine J_iastN hS (5) dX8_fitting_39 Rw5.ar (by first | rfl | (simp only [n0, n1, n2, n3, n4, n5, n6, n7, n8, n9, n10, n11, n12, n13, n14, n15, n16, n17, n18, n19, n20, n24, n32, n56, n60, n64, n72, n99, n100, n128, n136, n142, n144, n200, n300, n999, n1000, n1500, n3464, nI_add, pk_mul] <;> first | rfl | (congr 1; omega))) (by decide) (by decide) (fun g39 eg39 => ?_)
      refine J_aload_n hS dX8_fitting_40 rfl ?_
      refine J_aload_n hS dX8_fitting_41 rfl ?_
      refine J_getR (t := 165) hS dX8_fitting_42 flX8_17 ob162 rfl ?_
      refine J_putD hS dX8_fitting_45 fpX8_20 (by first | exact Or.inl ⟨_, rfl⟩ | exact Or.inr ⟨_, rfl⟩) ob162 rfl Rw5.ab (by first | exact Or.inl rfl | exact Or.inr ⟨_, rfl⟩) (fun g45 eg45 => ?_)
      have fB : FrB g g45 := by
        rw [eg45, eg39]
        exact FrB.w (FrB.put ⟨fun z z1 z2 _ _ _ _ _ => k1 z z2, fun j _ => by rw [k1 162 (by decide)]⟩)
      have wB : g45 162 3 = nI 165 := by rw [eg45, u2_self]
      have rB : RowM g45 165 w (upd w 5 v) := by
        intro i hi
        rw [eg45, u2_ne 165 (by decide), eg39, u2_at]
        refine ⟨fun z => ?_, fun z => ?_⟩
        · rw [if_neg z.1]; exact k2 i hi
        · unfold upd; split
          · rfl
          · exact k2 i hi
      obtain ⟨bb, hbb⟩ : ∃ bb, bb = upd w 5 v := ⟨_, rfl⟩
      have b5 : bb 5 = v := by rw [hbb]; rfl
      rw [← hbb] at rB
      clear k1 k2
      refine J_iconst (v := 0) hS dX8_fitting_48 (by decide) ?_
      refine J_istore_n (lt := fun k3v => [some (.ref 162), some (.int (nI f)), some (.int v), some (.int k3v), none, none, none]) hS dX8_fitting_49 (Nat.le_of_ble_eq_true rfl) (fun _ => rfl) (fun k3v ek3v => ?_)
      refine J_iconst (v := 1) hS dX8_fitting_50 (by decide) ?_
      refine J_istore (lt := fun a4 => [some (.ref 162), some (.int (nI f)), some (.int v), some (.int k3v), some (.int a4), none, none]) hS dX8_fitting_51 (Nat.le_of_ble_eq_true rfl) (fun _ => rfl) (fun a4 ea4 => ?_)
      suffices H : ∀ (t k : Nat) (a vn : Int32) (v5 v6 : Option Value) (g2 : Mm), k + t = mn → vn = nI k → (a = 0 ∨ a = 1) → (a = 0 → k < mn ∧ ¬ ok k) → (∀ j, j < k → ok j) → FrB g g2 → g2 162 3 = nI 165 → (a = 1 → RowM g2 165 (alK lw (-1) na nb ny nm w k) bb) → J S 0 0 g2 53 [some (.ref 162), some (.int (nI f)), some (.int v), some (.int vn), some (.int a), v5, v6] [] by
        exact H mn 0 a4 k3v none none g45 (by omega) ek3v (Or.inr ea4) (fun z => absurd z (by rw [ea4]; decide)) (fun j hj => absurd hj (by omega)) fB wB (fun _ => rB)
      have fin : ∀ (k : Nat) (a : Int32) (g2 : Mm), k ≤ mn → (k < mn → ¬ ok k) → (∀ j, j < k → ok j) → FrB g g2 → J S 0 0 g2 217 [some (.ref 162), some (.int (nI f)), some (.int v), some (.int (nI k)), some (.int a), none, none] [] := by
        intro k a g2 hk hno hyes f2
        refine J_aload_n hS dX8_fitting_217 rfl ?_
        refine J_aload_n hS dX8_fitting_218 rfl ?_
        refine J_getR (t := 164) hS dX8_fitting_219 flX8_13 ob162 rfl ?_
        refine J_putD hS dX8_fitting_222 fpX8_20 (by first | exact Or.inl ⟨_, rfl⟩ | exact Or.inr ⟨_, rfl⟩) ob162 rfl Rw4.ab (by first | exact Or.inl rfl | exact Or.inr ⟨_, rfl⟩) (fun g222 eg222 => ?_)
        refine J_iload_n hS dX8_fitting_225 rfl ?_
        refine J_iret hS hZ hr dX8_fitting_226 (by omega) (by omega) ?_
        exact q g222 k (by rw [eg222]; exact f2.w) (by rw [eg222, u2_self]) hk hyes hno
      intro t
      induction t with
      | zero =>
        intro k a vn v5 v6 g2 hk hvn ha1 ha0 hyes f2 w2 r2
        have e : k = mn := by omega
        subst hvn
        refine J_weak (ls' := [some (.ref 162), some (.int (nI f)), some (.int v), some (.int (nI k)), some (.int a), none, none]) ⟨Or.inr rfl, Or.inr rfl, Or.inr rfl, Or.inr rfl, Or.inr rfl, Or.inl rfl, Or.inl rfl, trivial⟩ ?_
        refine J_iload hS dX8_fitting_53 rfl ?_
        refine J_if_eq (tgt := 217) hS dX8_fitting_55 (by decide) (fun c2 => ?_) (fun c2 => ?_)
        · exact absurd (ha0 c2).1 (by omega)
        ·
          refine J_iload_n hS dX8_fitting_58 rfl ?_
          refine J_aload_n hS dX8_fitting_59 rfl ?_
          refine J_getR (t := 211) hS dX8_fitting_60 flX8_83 ob162 rfl ?_
          refine J_iload_n hS dX8_fitting_63 rfl ?_
          refine J_ialdN hS (f) dX8_fitting_64 (show Ar lay NC .int 211 3 from arM 48 3 (by decide) (by decide) rfl) (by first | rfl | (simp only [n0, n1, n2, n3, n4, n5, n6, n7, n8, n9, n10, n11, n12, n13, n14, n15, n16, n17, n18, n19, n20, n24, n32, n56, n60, n64, n72, n99, n100, n128, n136, n142, n144, n200, n300, n999, n1000, n1500, n3464, nI_add, pk_mul] <;> first | rfl | (congr 1; omega))) (by omega) (by decide) ?_
          show J S 0 0 (g2) 65 [some (.ref 162), some (.int (nI f)), some (.int v), some (.int (nI k)), some (.int a), none, none] [.int _, .int (nI k)]
          rw [f2.1 211 (by decide) (by decide) (by decide) (by decide) (by decide) (by decide) (by decide), h3]
          refine J_icmp_ge (tgt := 217) hS dX8_fitting_65 (by decide) (fun c3 => ?_) (fun c3 => ?_)
          · exact fin k a g2 (by omega) (fun z => absurd z (by omega)) hyes f2
          · exact absurd (by rw [e]; exact Int32.le_refl _) c3
      | succ t ih =>
        intro k a vn v5 v6 g2 hk hvn ha1 ha0 hyes f2 w2 r2
        subst hvn
        have hkm : k < mn := by omega
        refine J_weak (ls' := [some (.ref 162), some (.int (nI f)), some (.int v), some (.int (nI k)), some (.int a), none, none]) ⟨Or.inr rfl, Or.inr rfl, Or.inr rfl, Or.inr rfl, Or.inr rfl, Or.inl rfl, Or.inl rfl, trivial⟩ ?_
        refine J_iload hS dX8_fitting_53 rfl ?_
        refine J_if_eq (tgt := 217) hS dX8_fitting_55 (by decide) (fun c2 => ?_) (fun c2 => ?_)
        · exact fin k a g2 (by omega) (fun _ => (ha0 c2).2) hyes f2
        · have a1 : a = 1 := ha1.resolve_left c2
          have r2' := r2 a1
          have hF2 := hF0.fr f2
          obtain ⟨o1, o2, o3, o4, o5⟩ := hF2.2.2.2.2.2.2.2.1 k hkm
          have e210 := hF2.2.1
          have e211 := hF2.2.2.1
          refine J_iload_n hS dX8_fitting_58 rfl ?_
          refine J_aload_n hS dX8_fitting_59 rfl ?_
          refine J_getR (t := 211) hS dX8_fitting_60 flX8_83 ob162 rfl ?_
          refine J_iload_n hS dX8_fitting_63 rfl ?_
          refine J_ialdN hS (f) dX8_fitting_64 (show Ar lay NC .int 211 3 from arM 48 3 (by decide) (by decide) rfl) (by first | rfl | (simp only [n0, n1, n2, n3, n4, n5, n6, n7, n8, n9, n10, n11, n12, n13, n14, n15, n16, n17, n18, n19, n20, n24, n32, n56, n60, n64, n72, n99, n100, n128, n136, n142, n144, n200, n300, n999, n1000, n1500, n3464, nI_add, pk_mul] <;> first | rfl | (congr 1; omega))) (by omega) (by decide) ?_
          show J S 0 0 (g2) 65 [some (.ref 162), some (.int (nI f)), some (.int v), some (.int (nI k)), some (.int a), none, none] [.int _, .int (nI k)]
          rw [e211]
          refine J_icmp_ge (tgt := 217) hS dX8_fitting_65 (by decide) (fun c3 => ?_) (fun c3 => ?_)
          · exact absurd c3 (nI_ge hkm (by omega))
          ·
            refine J_bipush (v := 20) hS dX8_fitting_68 (by decide) ?_
            refine J_aload_n hS dX8_fitting_70 rfl ?_
            refine J_getR (t := 210) hS dX8_fitting_71 flX8_80 ob162 rfl ?_
            refine J_iload_n hS dX8_fitting_74 rfl ?_
            refine J_ialdN hS (f) dX8_fitting_75 (show Ar lay NC .int 210 3 from arM 47 3 (by decide) (by decide) rfl) (by first | rfl | (simp only [n0, n1, n2, n3, n4, n5, n6, n7, n8, n9, n10, n11, n12, n13, n14, n15, n16, n17, n18, n19, n20, n24, n32, n56, n60, n64, n72, n99, n100, n128, n136, n142, n144, n200, n300, n999, n1000, n1500, n3464, nI_add, pk_mul] <;> first | rfl | (congr 1; omega))) (by omega) (by decide) ?_
            show J S 0 0 (g2) 76 [some (.ref 162), some (.int (nI f)), some (.int v), some (.int (nI k)), some (.int a), none, none] [.int _, .int 20]
            rw [e210]
            refine J_iload_n hS dX8_fitting_76 rfl ?_
            refine J_iadd hS dX8_fitting_77 ?_
            refine J_imul hS dX8_fitting_78 ?_
            show J S 0 0 (g2) 79 [some (.ref 162), some (.int (nI f)), some (.int v), some (.int (nI k)), some (.int a), none, none] [.int _]
            rw [n20, nI_add, pk_mul]
            refine J_istore (lt := fun x5 => [some (.ref 162), some (.int (nI f)), some (.int v), some (.int (nI k)), some (.int a), some (.int x5), none]) hS dX8_fitting_79 (Nat.le_of_ble_eq_true rfl) (fun _ => rfl) (fun x5 ex5 => ?_)
            refine J_iconst (v := 0) hS dX8_fitting_81 (by decide) ?_
            refine J_istore (lt := fun x6 => [some (.ref 162), some (.int (nI f)), some (.int v), some (.int (nI k)), some (.int a), some (.int x5), some (.int x6)]) hS dX8_fitting_82 (Nat.le_of_ble_eq_true rfl) (fun _ => rfl) (fun x6 ex6 => ?_)
            rw [show x5 = nI (20 * (fr + k)) from ex5]
            suffices H2 : ∀ (u r : Nat) (vr : Int32) (g3 : Mm), r + u = 3 → vr = nI r → (∀ z, z ≠ 197 → g3 z = g2 z) → (∀ r', r' < r → g3 197 r' = nI (nm k r')) → J S 0 0 g3 84 [some (.ref 162), some (.int (nI f)), some (.int v), some (.int (nI k)), some (.int a), some (.int (nI (20 * (fr + k)))), some (.int vr)] [] by
              exact H2 3 0 x6 g2 (by omega) ex6 (fun _ _ => rfl) (fun r' h => absurd h (by omega))
            intro u
            induction u with
            | succ u ih2 =>
              intro r vr g3 hr hvr k1 k2
              subst hvr
              have hr3 : r < 3 := by omega
              refine J_iload hS dX8_fitting_84 rfl ?_
              refine J_iconst (v := 3) hS dX8_fitting_86 (by decide) ?_
              refine J_icmp_ge (tgt := 115) hS dX8_fitting_87 (by decide) (fun c4 => ?_) (fun c4 => ?_)
              · exact absurd c4 (nI_ge hr3 (by decide))
              ·
                refine J_aload_n hS dX8_fitting_90 rfl ?_
                refine J_getR (t := 197) hS dX8_fitting_91 flX8_56 ob162 rfl ?_
                refine J_iload hS dX8_fitting_94 rfl ?_
                refine J_aload_n hS dX8_fitting_96 rfl ?_
                refine J_getR (t := 201) hS dX8_fitting_97 flX8_65 ob162 rfl ?_
                refine J_iload hS dX8_fitting_100 rfl ?_
                refine J_iconst (v := 3) hS dX8_fitting_102 (by decide) ?_
                refine J_iadd hS dX8_fitting_103 ?_
                refine J_iload hS dX8_fitting_104 rfl ?_
                refine J_iadd hS dX8_fitting_106 ?_
                refine J_ialdN hS (20 * (fr + k) + 3 + r) dX8_fitting_107 (show Ar lay NC .int 201 30000 from arM 38 30000 (by decide) (by decide) rfl) (by rw [n3, nI_add, nI_add]) (by omega) (by decide) ?_
                show J S 0 0 (g3) 108 [some (.ref 162), some (.int (nI f)), some (.int v), some (.int (nI k)), some (.int a), some (.int (nI (20 * (fr + k)))), some (.int (nI r))] [.int _, .int (nI r), .ref (197)]
                rw [k1 201 (by decide), o5 r hr3]
                refine J_iastN hS (r) dX8_fitting_108 (show Ar lay NC .int 197 3 from arM 34 3 (by decide) (by decide) rfl) (by first | rfl | (simp only [n0, n1, n2, n3, n4, n5, n6, n7, n8, n9, n10, n11, n12, n13, n14, n15, n16, n17, n18, n19, n20, n24, n32, n56, n60, n64, n72, n99, n100, n128, n136, n142, n144, n200, n300, n999, n1000, n1500, n3464, nI_add, pk_mul] <;> first | rfl | (congr 1; omega))) (by omega) (by decide) (fun g108 eg108 => ?_)
                refine J_iinc (lt := fun r2v => [some (.ref 162), some (.int (nI f)), some (.int v), some (.int (nI k)), some (.int a), some (.int (nI (20 * (fr + k)))), some (.int r2v)]) (v := 1) hS dX8_fitting_109 rfl (by decide) (fun _ => rfl) (fun r2v er2v => ?_)
                refine J_goto (tgt := 84) hS dX8_fitting_112 (by decide) ?_
                refine ih2 (r + 1) r2v g108 (by omega) (by rw [er2v]; exact nI_1 r) (fun z hz => by rw [eg108, u2_ne z hz]; exact k1 z hz) (fun r' h => ?_)
                rw [eg108, u2_at]
                split
                · rename_i e; rw [e]
                · exact k2 r' (by omega)
            | zero =>
              intro r vr g3 hr hvr k1 k2
              have e3 : r = 3 := by omega
              subst e3; subst hvr
              have f3 : FrB g g3 := f2.trans ⟨fun z _ _ _ z4 _ _ _ => k1 z z4, fun j _ => by rw [k1 162 (by decide)]⟩
              have r3 : RowM g3 165 (alK lw (-1) na nb ny nm w k) bb := r2'.fr (k1 165 (by decide))
              have w3 : g3 162 3 = nI 165 := by rw [k1 162 (by decide)]; exact w2
              have hkp : Kp w (alK lw (-1) na nb ny nm w k) := Kp_alK h6 h7 k
              refine J_iload hS dX8_fitting_84 rfl ?_
              refine J_iconst (v := 3) hS dX8_fitting_86 (by decide) ?_
              refine J_icmp_ge (tgt := 115) hS dX8_fitting_87 (by decide) (fun c4 => ?_) (fun c4 => ?_)
              ·
                refine J_aload_n hS dX8_fitting_115 rfl ?_
                refine J_aload_n hS dX8_fitting_116 rfl ?_
                refine J_getR (t := 201) hS dX8_fitting_117 flX8_65 ob162 rfl ?_
                refine J_iload hS dX8_fitting_120 rfl ?_
                refine J_iconst (v := 1) hS dX8_fitting_122 (by decide) ?_
                refine J_iadd hS dX8_fitting_123 ?_
                refine J_ialdN hS (20 * (fr + k) + 1) dX8_fitting_124 (show Ar lay NC .int 201 30000 from arM 38 30000 (by decide) (by decide) rfl) (by rw [n1, nI_add]) (by omega) (by decide) ?_
                show J S 0 0 (g3) 125 [some (.ref 162), some (.int (nI f)), some (.int v), some (.int (nI k)), some (.int a), some (.int (nI (20 * (fr + k)))), some (.int (nI 3))] [.int _, .ref 162]
                rw [k1 201 (by decide), o3]
                refine J_aload_n hS dX8_fitting_125 rfl ?_
                refine J_getR (t := 201) hS dX8_fitting_126 flX8_65 ob162 rfl ?_
                refine J_iload hS dX8_fitting_129 rfl ?_
                refine J_iconst (v := 2) hS dX8_fitting_131 (by decide) ?_
                refine J_iadd hS dX8_fitting_132 ?_
                refine J_ialdN hS (20 * (fr + k) + 2) dX8_fitting_133 (show Ar lay NC .int 201 30000 from arM 38 30000 (by decide) (by decide) rfl) (by rw [n2, nI_add]) (by omega) (by decide) ?_
                show J S 0 0 (g3) 134 [some (.ref 162), some (.int (nI f)), some (.int v), some (.int (nI k)), some (.int a), some (.int (nI (20 * (fr + k)))), some (.int (nI 3))] [.int _, .int (nI (na k)), .ref 162]
                rw [k1 201 (by decide), o4]
                have hRl : RuleM g3 165 lw := by
                  rw [hlw]
                  exact (hL.fb f3).rule (by rw [r3.no (by decide) (fun z => z.1 rfl)]; exact b5) hv
                refine J_callV2 (X' := fun _ _ => False) hS dX8_fitting_134 mvX8_326 ob162 rfl (by first | decide | omega) (by decide) (Nat.le_of_ble_eq_true rfl) ⟨Nat.le_trans (by decide) hR.1, Nat.le_trans (by decide) hR.2⟩ (fun _ _ q => q.elim) (m_talks (lo := -1) (y := ny k) (mt := nm k) Rw5 w3 r3 o1 o2 (h6 k) (by rw [show alK lw (-1) na nb ny nm w k (56 + 142 * na k) = w (56 + 142 * na k) from hkp.hd (r := 0) (by decide)]; exact h9 k hkm) (h7 k) (fun r hr => k2 r hr) (hkp.wt (h10 _ o1)) (hkp.wt (h10 _ o2)) (by rw [f3.2 27 (by decide)]; exact hlo) hRl (fun g4 hT => ?_))
                obtain ⟨t1, t2, t3, t4, t5, t6, -, -, -, -⟩ := hT
                have f4 : FrB g g4 := f3.trans ⟨fun z z1 z2 z3 z4 z5 z6 _ => t1 z z2 z1 z3 z5 z6, fun j hj => t2 j (by omega)⟩
                have w4 : g4 162 3 = nI 165 := by rw [t2 3 (by decide)]; exact w3
                have r4 : RowM g4 165 (alK lw (-1) na nb ny nm w (k + 1)) bb := t3
                have e201 : g4 201 = g 201 := f4.1 201 (by decide) (by decide) (by decide) (by decide) (by decide) (by decide) (by decide)
                have e213 : g4 213 = g 213 := f4.1 213 (by decide) (by decide) (by decide) (by decide) (by decide) (by decide) (by decide)
                refine J_iconst (v := 0) hS dX8_fitting_137 (by decide) ?_
                refine J_istore (lt := fun x6 => [some (.ref 162), some (.int (nI f)), some (.int v), some (.int (nI k)), some (.int a), some (.int (nI (20 * (fr + k)))), some (.int x6)]) hS dX8_fitting_138 (Nat.le_of_ble_eq_true rfl) (fun _ => rfl) (fun x6 ex6 => ?_)
                suffices H3 : ∀ (u r : Nat) (b vr : Int32), r + u = 3 → vr = nI r → (b = 0 ∨ b = 1) → (b = 1 ↔ ∀ r', r' < r → ¬ g 213 (100 * f + k) = 0 ∨ g 201 (20 * (fr + k) + 7 + r') = nI (sayS (alK lw (-1) na nb ny nm w k) (na k) (nm k) r')) → J S 0 0 g4 140 [some (.ref 162), some (.int (nI f)), some (.int v), some (.int (nI k)), some (.int b), some (.int (nI (20 * (fr + k)))), some (.int vr)] [] by
                  exact H3 3 0 a x6 (by omega) ex6 ha1 ⟨fun _ r' h => absurd h (by omega), fun _ => a1⟩
                intro u
                induction u with
                | succ u ih3 =>
                  intro r b vr hr hvr hb1 hb2
                  subst hvr
                  have hr3 : r < 3 := by omega
                  have aft : ∀ c : Int32, (c = 0 ∨ c = 1) → (c = 1 ↔ b = 1 ∧ (¬ g 213 (100 * f + k) = 0 ∨ g 201 (20 * (fr + k) + 7 + r) = nI (sayS (alK lw (-1) na nb ny nm w k) (na k) (nm k) r))) → J S 0 0 g4 193 [some (.ref 162), some (.int (nI f)), some (.int v), some (.int (nI k)), some (.int b), some (.int (nI (20 * (fr + k)))), some (.int (nI r))] [.int c] := by
                    intro c hc1 hc2
                    refine J_istore (lt := fun b9 => [some (.ref 162), some (.int (nI f)), some (.int v), some (.int (nI k)), some (.int b9), some (.int (nI (20 * (fr + k)))), some (.int (nI r))]) hS dX8_fitting_193 (Nat.le_of_ble_eq_true rfl) (fun _ => rfl) (fun b9 eb9 => ?_)
                    refine J_iinc (lt := fun r9 => [some (.ref 162), some (.int (nI f)), some (.int v), some (.int (nI k)), some (.int b9), some (.int (nI (20 * (fr + k)))), some (.int r9)]) (v := 1) hS dX8_fitting_195 rfl (by decide) (fun _ => rfl) (fun r9 er9 => ?_)
                    refine J_goto (tgt := 140) hS dX8_fitting_198 (by decide) ?_
                    refine ih3 (r + 1) b9 r9 (by omega) (by rw [er9]; exact nI_1 r) (by rw [eb9]; exact hc1) ?_
                    rw [eb9, hc2, hb2]
                    constructor
                    · intro z r' h
                      by_cases e : r' = r
                      · subst e; exact z.2
                      · exact z.1 r' (by omega)
                    · exact fun z => ⟨fun r' h => z r' (by omega), z r (by omega)⟩
                  have no : ¬ (b = 1 ∧ (¬ g 213 (100 * f + k) = 0 ∨ g 201 (20 * (fr + k) + 7 + r) = nI (sayS (alK lw (-1) na nb ny nm w k) (na k) (nm k) r))) → J S 0 0 g4 192 [some (.ref 162), some (.int (nI f)), some (.int v), some (.int (nI k)), some (.int b), some (.int (nI (20 * (fr + k)))), some (.int (nI r))] [] := by
                    intro z
                    refine J_iconst (v := 0) hS dX8_fitting_192 (by decide) ?_
                    exact aft 0 (Or.inl rfl) ⟨fun y => absurd y (by decide), fun y => absurd y z⟩
                  have yes : (b = 1 ∧ (¬ g 213 (100 * f + k) = 0 ∨ g 201 (20 * (fr + k) + 7 + r) = nI (sayS (alK lw (-1) na nb ny nm w k) (na k) (nm k) r))) → J S 0 0 g4 188 [some (.ref 162), some (.int (nI f)), some (.int v), some (.int (nI k)), some (.int b), some (.int (nI (20 * (fr + k)))), some (.int (nI r))] [] := by
                    intro z
                    refine J_iconst (v := 1) hS dX8_fitting_188 (by decide) ?_
                    refine J_goto (tgt := 193) hS dX8_fitting_189 (by decide) ?_
                    exact aft 1 (Or.inr rfl) ⟨fun _ => z, fun _ => rfl⟩
                  refine J_iload hS dX8_fitting_140 rfl ?_
                  refine J_iconst (v := 3) hS dX8_fitting_142 (by decide) ?_
                  refine J_icmp_ge (tgt := 201) hS dX8_fitting_143 (by decide) (fun c5 => ?_) (fun c5 => ?_)
                  · exact absurd c5 (nI_ge hr3 (by decide))
                  ·
                    refine J_iload hS dX8_fitting_146 rfl ?_
                    refine J_if_eq (tgt := 192) hS dX8_fitting_148 (by decide) (fun c6 => ?_) (fun c6 => ?_)
                    · exact no (fun z => absurd z.1 (by rw [c6]; decide))
                    · have b1 : b = 1 := hb1.resolve_left c6
                      refine J_aload_n hS dX8_fitting_151 rfl ?_
                      refine J_getR (t := 213) hS dX8_fitting_152 flX8_89 ob162 rfl ?_
                      refine J_bipush (v := 100) hS dX8_fitting_155 (by decide) ?_
                      refine J_iload_n hS dX8_fitting_157 rfl ?_
                      refine J_imul hS dX8_fitting_158 ?_
                      refine J_iload_n hS dX8_fitting_159 rfl ?_
                      refine J_iadd hS dX8_fitting_160 ?_
                      refine J_zaldN hS (100 * f + k) dX8_fitting_161 az213 (by rw [n100, pk_mul, nI_add]) (by omega) (by decide) ?_
                      show J S 0 0 (g4) 162 [some (.ref 162), some (.int (nI f)), some (.int v), some (.int (nI k)), some (.int b), some (.int (nI (20 * (fr + k)))), some (.int (nI r))] [.int _]
                      rw [e213]
                      refine J_if_ne (tgt := 188) hS dX8_fitting_162 (by decide) (fun c7 => ?_) (fun c7 => ?_)
                      · exact yes ⟨b1, Or.inl c7⟩
                      ·
                        refine J_aload_n hS dX8_fitting_165 rfl ?_
                        refine J_getR (t := 198) hS dX8_fitting_166 flX8_59 ob162 rfl ?_
                        refine J_iload hS dX8_fitting_169 rfl ?_
                        refine J_ialdN hS (r) dX8_fitting_171 (show Ar lay NC .int 198 3 from arM 35 3 (by decide) (by decide) rfl) (by first | rfl | (simp only [n0, n1, n2, n3, n4, n5, n6, n7, n8, n9, n10, n11, n12, n13, n14, n15, n16, n17, n18, n19, n20, n24, n32, n56, n60, n64, n72, n99, n100, n128, n136, n142, n144, n200, n300, n999, n1000, n1500, n3464, nI_add, pk_mul] <;> first | rfl | (congr 1; omega))) (by omega) (by decide) ?_
                        refine J_aload_n hS dX8_fitting_172 rfl ?_
                        refine J_getR (t := 201) hS dX8_fitting_173 flX8_65 ob162 rfl ?_
                        refine J_iload hS dX8_fitting_176 rfl ?_
                        refine J_bipush (v := 7) hS dX8_fitting_178 (by decide) ?_
                        refine J_iadd hS dX8_fitting_180 ?_
                        refine J_iload hS dX8_fitting_181 rfl ?_
                        refine J_iadd hS dX8_fitting_183 ?_
                        refine J_ialdN hS (20 * (fr + k) + 7 + r) dX8_fitting_184 (show Ar lay NC .int 201 30000 from arM 38 30000 (by decide) (by decide) rfl) (by rw [n7, nI_add, nI_add]) (by omega) (by decide) ?_
                        show J S 0 0 (g4) 185 [some (.ref 162), some (.int (nI f)), some (.int v), some (.int (nI k)), some (.int b), some (.int (nI (20 * (fr + k)))), some (.int (nI r))] [.int _, .int _]
                        rw [e201, t6 r hr3]
                        refine J_icmp_ne (tgt := 192) hS dX8_fitting_185 (by decide) (fun c8 => ?_) (fun c8 => ?_)
                        · exact no (fun z => z.2.elim (fun y => y c7) (fun y => c8 y.symm))
                        · exact yes ⟨b1, Or.inr c8.symm⟩
                | zero =>
                  intro r b vr hr hvr hb1 hb2
                  have e3 : r = 3 := by omega
                  subst e3; subst hvr
                  have hbk : b = 1 ↔ ok k := by
                    rw [hb2, hok]; unfold alOkM
                    constructor
                    · intro z
                      by_cases h : g 213 (100 * f + k) = 0
                      · exact Or.inr (fun r hr => (z r hr).resolve_left (fun y => y h))
                      · exact Or.inl h
                    · intro z r hr
                      exact z.imp id (fun y => y r hr)
                  refine J_iload hS dX8_fitting_140 rfl ?_
                  refine J_iconst (v := 3) hS dX8_fitting_142 (by decide) ?_
                  refine J_icmp_ge (tgt := 201) hS dX8_fitting_143 (by decide) (fun c5 => ?_) (fun c5 => ?_)
                  ·
                    refine J_iload_n hS dX8_fitting_201 rfl ?_
                    refine J_iload hS dX8_fitting_202 rfl ?_
                    refine J_if_eq (tgt := 211) hS dX8_fitting_204 (by decide) (fun c6 => ?_) (fun c6 => ?_)
                    · have nok : ¬ ok k := fun z => absurd (hbk.mpr z) (by rw [c6]; decide)
                      refine J_iconst (v := 0) hS dX8_fitting_211 (by decide) ?_
                      refine J_iadd hS dX8_fitting_212 ?_
                      refine J_istore_n (lt := fun n9 => [some (.ref 162), some (.int (nI f)), some (.int v), some (.int n9), some (.int b), some (.int (nI (20 * (fr + k)))), some (.int (nI 3))]) hS dX8_fitting_213 (Nat.le_of_ble_eq_true rfl) (fun _ => rfl) (fun n9 en9 => ?_)
                      refine J_goto (tgt := 53) hS dX8_fitting_214 (by decide) ?_
                      refine J_weak (ls' := [some (.ref 162), some (.int (nI f)), some (.int v), some (.int n9), some (.int b), none, none]) ⟨Or.inr rfl, Or.inr rfl, Or.inr rfl, Or.inr rfl, Or.inr rfl, Or.inl rfl, Or.inl rfl, trivial⟩ ?_
                      have en : n9 = nI k := by rw [en9, n0, nI_add]; rfl
                      rw [en]
                      refine J_iload hS dX8_fitting_53 rfl ?_
                      refine J_if_eq (tgt := 217) hS dX8_fitting_55 (by decide) (fun c7 => ?_) (fun c7 => ?_)
                      · exact fin k b g4 (by omega) (fun _ => nok) hyes f4
                      · exact absurd c6 c7
                    · have b1 : b = 1 := hb1.resolve_left c6
                      refine J_iconst (v := 1) hS dX8_fitting_207 (by decide) ?_
                      refine J_goto (tgt := 212) hS dX8_fitting_208 (by decide) ?_
                      refine J_iadd hS dX8_fitting_212 ?_
                      refine J_istore_n (lt := fun n9 => [some (.ref 162), some (.int (nI f)), some (.int v), some (.int n9), some (.int b), some (.int (nI (20 * (fr + k)))), some (.int (nI 3))]) hS dX8_fitting_213 (Nat.le_of_ble_eq_true rfl) (fun _ => rfl) (fun n9 en9 => ?_)
                      refine J_goto (tgt := 53) hS dX8_fitting_214 (by decide) ?_
                      exact ih (k + 1) b n9 _ _ g4 (by omega) (by rw [en9]; exact nI_1 k) hb1 (fun z => absurd z c6) (fun j hj => by
                        by_cases e : j = k
                        · subst e; exact hbk.mp b1
                        · exact hyes j (by omega)) f4 w4 (fun _ => r4)
                  · exact absurd (by decide) c5
              · exact absurd (by decide) c4
    · exact absurd (Int32.le_refl _) c1
theorem m_fits {f0 v : Int32} {fc : Nat} {Ls : List (List Cls)} {fr mn : Nat → Nat} {na nb ny : Nat → Nat → Nat} {nm : Nat → Nat → Nat → Nat} {wf : Nat → Wr} (h3 : g 162 3 = nI 164) (hlo : g 162 27 = -1) (hfc : fc ≤ 3) (efc : g 162 45 = nI fc) (hL : LawsM g Ls) (hF : ∀ f, f < fc → FmM g f (fr f) (mn f) (na f) (nb f) (ny f) (nm f) (wf f)) (x : (ou fc f0 ∨ ¬ isLw Ls.length v) → ∀ g', FrZ g g' → g' 162 0 = 1 → Q (some (.int 0)) g')
    (q : ∀ f, f < fc → f0 = nI f → isLw Ls.length v → ∀ (g' : Mm) (r : Nat), FrZ g g' → g' 162 0 = 0 → r ≤ mn f → (∀ j, j < r → alOkM g f (fr f) (lwOf Ls v) (-1) (na f) (nb f) (ny f) (nm f) (wf f) j) → (r < mn f → ¬ alOkM g f (fr f) (lwOf Ls v) (-1) (na f) (nb f) (ny f) (nm f) (wf f) r) → Q (some (.int (nI r))) g') : Ct l E lay NC 6 0 0 yX8_fits [.ref 162, .int f0, .int v] g Q X := by
  refine Ct_in k_yX8_fits (by decide) rfl (Nat.le_of_ble_eq_true rfl) rfl ?_
  intro S hS hZ hr ht hR
  show J S 0 0 (g) 0 [some (.ref 162), some (.int f0), some (.int v)] []
  refine J_aload_n hS dX8_fits_0 rfl ?_
  refine J_iconst (v := 0) hS dX8_fits_1 (by decide) ?_
  refine J_putI hS dX8_fits_2 fpX8_1 ob162 rfl (fun g2 eg2 => ?_)
  have z2 : FrZ g g2 := by rw [eg2]; exact FrZ_thr
  have t2 : g2 162 0 = 0 := by rw [eg2, u2_self]
  have L2 := hL.z z2
  have w2 : g2 162 3 = nI 164 := by rw [z2.2 3 (by decide)]; exact h3
  have zero : ∀ g' : Mm, Q (some (.int 0)) g' → J S 0 0 g' 21 [some (.ref 162), some (.int f0), some (.int v)] [] := by
    intro g' hq
    refine J_iconst (v := 0) hS dX8_fits_21 (by decide) ?_
    refine J_iret hS hZ hr dX8_fits_22 (by omega) (by omega) ?_
    exact hq
  rcases in_or (y := f0) (b := fc) (by first | decide | omega) with ⟨f, hf, ef⟩ | hbf
  ·
    subst ef
    refine J_aload_n hS dX8_fits_5 rfl ?_
    refine J_iload_n hS dX8_fits_6 rfl ?_
    refine J_callV1 (X' := fun _ _ => False) hS dX8_fits_7 mvX8_359 ob162 rfl (by first | decide | omega) (by decide) (Nat.le_of_ble_eq_true rfl) ⟨Nat.le_trans (by decide) hR.1, Nat.le_trans (by decide) hR.2⟩ (fun _ _ q => q.elim) (m_filmY hfc (by rw [z2.2 45 (by decide)]; exact efc) t2 hf ?_)
    refine J_if_eq (tgt := 21) hS dX8_fits_10 (by decide) (fun c1 => ?_) (fun c1 => ?_)
    · exact absurd c1 (by decide)
    · by_cases hv : isLw Ls.length v
      ·
        refine J_aload_n hS dX8_fits_13 rfl ?_
        refine J_iload_n hS dX8_fits_14 rfl ?_
        refine J_callV1 (X' := fun _ _ => False) hS dX8_fits_15 mvX8_237 ob162 rfl (by first | decide | omega) (by decide) (Nat.le_of_ble_eq_true rfl) ⟨Nat.le_trans (by decide) hR.1, Nat.le_trans (by decide) hR.2⟩ (fun _ _ q => q.elim) (m_lawY L2.1 L2.2.1 t2 hv ?_)
        refine J_if_ne (tgt := 23) hS dX8_fits_18 (by decide) (fun c2 => ?_) (fun c2 => ?_)
        ·
          refine J_aload_n hS dX8_fits_23 rfl ?_
          refine J_iload_n hS dX8_fits_24 rfl ?_
          refine J_iload_n hS dX8_fits_25 rfl ?_
          refine J_callV2 (X' := fun _ _ => False) hS dX8_fits_26 mvX8_362 ob162 rfl (by first | decide | omega) (by decide) (Nat.le_of_ble_eq_true rfl) ⟨Nat.le_trans (by decide) hR.1, Nat.le_trans (by decide) hR.2⟩ (fun _ _ q => q.elim) (m_fitting (by omega) ((hF f hf).fq z2.q) L2 hv (by rw [z2.2 27 (by decide)]; exact hlo) (fun g3 r f3 w3 h1 h2 h4 => ?_))
          refine J_iret hS hZ hr dX8_fits_29 (by omega) (by omega) ?_
          exact q f hf rfl hv g3 r (z2.trans (f3.z w2 w3)) (by rw [f3.2 0 (by decide)]; exact t2) h1 (fun j hj => (alOkM_fr z2.q).mp (h2 j hj)) (fun z y => h4 z ((alOkM_fr z2.q).mpr y))
        · exact absurd c2 (by decide)
      ·
        refine J_aload_n hS dX8_fits_13 rfl ?_
        refine J_iload_n hS dX8_fits_14 rfl ?_
        refine J_callV1 (X' := fun _ _ => False) hS dX8_fits_15 mvX8_237 ob162 rfl (by first | decide | omega) (by decide) (Nat.le_of_ble_eq_true rfl) ⟨Nat.le_trans (by decide) hR.1, Nat.le_trans (by decide) hR.2⟩ (fun _ _ q => q.elim) (m_lawN L2.1 L2.2.1 t2 hv ?_)
        refine J_if_ne (tgt := 23) hS dX8_fits_18 (by decide) (fun c2 => ?_) (fun c2 => ?_)
        · exact absurd rfl c2
        · exact zero _ (x (Or.inr hv) _ (z2.trans FrZ_thr) (u2_self ..))
  ·
    refine J_aload_n hS dX8_fits_5 rfl ?_
    refine J_iload_n hS dX8_fits_6 rfl ?_
    refine J_callV1 (X' := fun _ _ => False) hS dX8_fits_7 mvX8_359 ob162 rfl (by first | decide | omega) (by decide) (Nat.le_of_ble_eq_true rfl) ⟨Nat.le_trans (by decide) hR.1, Nat.le_trans (by decide) hR.2⟩ (fun _ _ q => q.elim) (m_filmN hfc (by rw [z2.2 45 (by decide)]; exact efc) t2 hbf ?_)
    refine J_if_eq (tgt := 21) hS dX8_fits_10 (by decide) (fun c1 => ?_) (fun c1 => ?_)
    · exact zero _ (x (Or.inl hbf) _ (z2.trans FrZ_thr) (u2_self ..))
    · exact absurd rfl c1
set_option maxRecDepth 10000 in
theorem m_read {fc : Nat} {Ls : List (List Cls)} {fr mn : Nat → Nat} {na nb ny : Nat → Nat → Nat} {nm : Nat → Nat → Nat → Nat} {wf : Nat → Wr} (h3 : g 162 3 = nI 164) (hlo : g 162 27 = -1) (hfc : fc ≤ 3) (efc : g 162 45 = nI fc) (hL : LawsM g Ls) (hF : ∀ f, f < fc → FmM g f (fr f) (mn f) (na f) (nb f) (ny f) (nm f) (wf f)) {F : Nat → Bool} (hFt : ∀ e, e ≤ Ls.length → (F e = true ↔ ∀ f, f < fc → ∀ j, j < mn f → alOkM g f (fr f) (lwOf Ls (lwI e)) (-1) (na f) (nb f) (ny f) (nm f) (wf f) j))
    (q : ∀ g', FrZ g g' → g' 162 0 = 0 → Q (some (.int (rdB F (Ls.length + 1)))) g') : Ct l E lay NC 6 0 0 yX8_read [.ref 162] g Q X := by
  have l6 := hL.1
  refine Ct_in k_yX8_read (by decide) rfl (Nat.le_of_ble_eq_true rfl) rfl ?_
  intro S hS hZ hr ht hR
  show J S 0 0 (g) 0 [some (.ref 162), none, none, none, none] []
  refine J_aload_n hS dX8_read_0 rfl ?_
  refine J_iconst (v := 0) hS dX8_read_1 (by decide) ?_
  refine J_putI hS dX8_read_2 fpX8_1 ob162 rfl (fun g2 eg2 => ?_)
  have z2 : FrZ g g2 := by rw [eg2]; exact FrZ_thr
  have t2 : g2 162 0 = 0 := by rw [eg2, u2_self]
  have L2 := hL.z z2
  have w2 : g2 162 3 = nI 164 := by rw [z2.2 3 (by decide)]; exact h3
  have lo2 : g2 162 27 = -1 := by rw [z2.2 27 (by decide)]; exact hlo
  have fc2 : g2 162 45 = nI fc := by rw [z2.2 45 (by decide)]; exact efc
  refine J_iconst (v := 0) hS dX8_read_5 (by decide) ?_
  refine J_istore_n (lt := fun b1 => [some (.ref 162), some (.int b1), none, none, none]) hS dX8_read_6 (Nat.le_of_ble_eq_true rfl) (fun _ => rfl) (fun b1 eb1 => ?_)
  refine J_iconst (v := (-1)) hS dX8_read_7 (by decide) ?_
  refine J_istore_n (lt := fun l2 => [some (.ref 162), some (.int b1), some (.int l2), none, none]) hS dX8_read_8 (Nat.le_of_ble_eq_true rfl) (fun _ => rfl) (fun l2 el2 => ?_)
  suffices H : ∀ (t e : Nat) (b v : Int32) (v3 v4 : Option Value) (g3 : Mm), e + t = Ls.length + 1 → v = lwI e → b = rdB F e → FrB g2 g3 → g3 162 3 = nI 164 → J S 0 0 g3 9 [some (.ref 162), some (.int b), some (.int v), v3, v4] [] by
    exact H (Ls.length + 1) 0 b1 l2 none none g2 (by omega) el2 eb1 FrB.refl w2
  have lwI_s : ∀ e, lwI e + 1 = lwI (e + 1) := by
    intro e
    unfold lwI
    rw [if_neg (show ¬ e + 1 = 0 by omega), Nat.add_sub_cancel]
    by_cases h : e = 0
    · subst h; decide
    · rw [if_neg h, nI_1, show e - 1 + 1 = e by omega]
  intro t
  induction t with
  | zero =>
    intro e b v v3 v4 g3 he hv hb f3 w3
    have e' : e = Ls.length + 1 := by omega
    subst e'; subst hv
    refine J_weak (ls' := [some (.ref 162), some (.int b), some (.int (lwI (Ls.length + 1))), none, none]) ⟨Or.inr rfl, Or.inr rfl, Or.inr rfl, Or.inl rfl, Or.inl rfl, trivial⟩ ?_
    refine J_iload_n hS dX8_read_9 rfl ?_
    refine J_aload_n hS dX8_read_10 rfl ?_
    refine J_getI hS dX8_read_11 flX8_168 ob162 rfl ?_
    show J S 0 0 (g3) 14 [some (.ref 162), some (.int b), some (.int (lwI (Ls.length + 1))), none, none] [.int _, .int (lwI (Ls.length + 1))]
    rw [f3.2 11 (by decide), L2.2.1]
    refine J_icmp_ge (tgt := 94) hS dX8_read_14 (by decide) (fun c1 => ?_) (fun c1 => ?_)
    ·
      refine J_iload_n hS dX8_read_94 rfl ?_
      refine J_iret hS hZ hr dX8_read_95 (by omega) (by omega) ?_
      rw [hb]
      exact q g3 (z2.trans (f3.z w2 w3)) (by rw [f3.2 0 (by decide)]; exact t2)
    · exact absurd (Int32.le_refl _) c1
  | succ t ih =>
    intro e b v v3 v4 g3 he hv hb f3 w3
    subst hv
    have heL : e ≤ Ls.length := by omega
    have hlt : lwI e < nI Ls.length := by
      unfold lwI
      split
      · exact Int32.lt_of_lt_of_le (show (-1 : Int32) < 0 by decide) (nI_le (Nat.zero_le _) (by omega))
      · exact nI_lt (by omega) (by omega)
    have hisl : isLw Ls.length (lwI e) := by
      unfold lwI
      split
      · exact Or.inl rfl
      · exact Or.inr ⟨e - 1, by omega, rfl⟩
    have hlm : lwI e = -1 ↔ e = 0 := by
      unfold lwI
      split
      · rename_i h; simp [h]
      · rename_i h; exact ⟨fun z => absurd z (nI_nem1 (by omega)), fun z => absurd z h⟩
    have hst : rdB F (e + 1) = if F e = true then rdB F e ||| (1 <<< ((if e = 0 then 6 else lwI e) &&& 31)) else rdB F e := rfl
    refine J_weak (ls' := [some (.ref 162), some (.int b), some (.int (lwI e)), none, none]) ⟨Or.inr rfl, Or.inr rfl, Or.inr rfl, Or.inl rfl, Or.inl rfl, trivial⟩ ?_
    refine J_iload_n hS dX8_read_9 rfl ?_
    refine J_aload_n hS dX8_read_10 rfl ?_
    refine J_getI hS dX8_read_11 flX8_168 ob162 rfl ?_
    show J S 0 0 (g3) 14 [some (.ref 162), some (.int b), some (.int (lwI e)), none, none] [.int _, .int (lwI e)]
    rw [f3.2 11 (by decide), L2.2.1]
    refine J_icmp_ge (tgt := 94) hS dX8_read_14 (by decide) (fun c1 => ?_) (fun c1 => ?_)
    · exact absurd hlt (Int32.not_lt.mpr c1)
    ·
      refine J_iconst (v := 1) hS dX8_read_17 (by decide) ?_
      refine J_istore_n (lt := fun s3 => [some (.ref 162), some (.int b), some (.int (lwI e)), some (.int s3), none]) hS dX8_read_18 (Nat.le_of_ble_eq_true rfl) (fun _ => rfl) (fun s3 es3 => ?_)
      refine J_iconst (v := 0) hS dX8_read_19 (by decide) ?_
      refine J_istore (lt := fun f4 => [some (.ref 162), some (.int b), some (.int (lwI e)), some (.int s3), some (.int f4)]) hS dX8_read_20 (Nat.le_of_ble_eq_true rfl) (fun _ => rfl) (fun f4 ef4 => ?_)
      suffices H2 : ∀ (u f : Nat) (s vf : Int32) (g4 : Mm), f + u = fc → vf = nI f → (s = 0 ∨ s = 1) → (s = 1 ↔ ∀ f', f' < f → ∀ j, j < mn f' → alOkM g f' (fr f') (lwOf Ls (lwI e)) (-1) (na f') (nb f') (ny f') (nm f') (wf f') j) → FrB g2 g4 → g4 162 3 = nI 164 → J S 0 0 g4 22 [some (.ref 162), some (.int b), some (.int (lwI e)), some (.int s), some (.int vf)] [] by
        exact H2 fc 0 s3 f4 g3 (by omega) ef4 (Or.inr es3) ⟨fun _ f' h => absurd h (by omega), fun _ => es3⟩ f3 w3
      intro u
      induction u with
      | zero =>
        intro f s vf g4 hf hvf hs1 hs2 f4 w4
        have ef : f = fc := by omega
        subst hvf
        rw [ef, ← hFt e heL] at hs2
        refine J_iload hS dX8_read_22 rfl ?_
        refine J_aload_n hS dX8_read_24 rfl ?_
        refine J_getI hS dX8_read_25 flX8_356 ob162 rfl ?_
        show J S 0 0 (g4) 28 [some (.ref 162), some (.int b), some (.int (lwI e)), some (.int s), some (.int (nI f))] [.int _, .int (nI f)]
        rw [f4.2 45 (by decide), fc2]
        have aft : ∀ c : Int32, b ||| c = rdB F (e + 1) → J S 0 0 g4 86 [some (.ref 162), some (.int b), some (.int (lwI e)), some (.int s), some (.int (nI f))] [.int c, .int b] := by
          intro c hc
          refine J_ior hS dX8_read_86 ?_
          refine J_istore_n (lt := fun b2 => [some (.ref 162), some (.int b2), some (.int (lwI e)), some (.int s), some (.int (nI f))]) hS dX8_read_87 (Nat.le_of_ble_eq_true rfl) (fun _ => rfl) (fun b2 eb2 => ?_)
          refine J_iinc (lt := fun l2' => [some (.ref 162), some (.int b2), some (.int l2'), some (.int s), some (.int (nI f))]) (v := 1) hS dX8_read_88 rfl (by decide) (fun _ => rfl) (fun l2' el2' => ?_)
          refine J_goto (tgt := 9) hS dX8_read_91 (by decide) ?_
          exact ih (e + 1) b2 l2' _ _ g4 (by omega) (by rw [el2']; exact lwI_s e) (by rw [eb2]; exact hc) f4 w4
        refine J_icmp_ge (tgt := 64) hS dX8_read_28 (by decide) (fun c2 => ?_) (fun c2 => ?_)
        ·
          refine J_iload_n hS dX8_read_64 rfl ?_
          refine J_iload_n hS dX8_read_65 rfl ?_
          refine J_if_eq (tgt := 85) hS dX8_read_66 (by decide) (fun c3 => ?_) (fun c3 => ?_)
          ·
            refine J_iconst (v := 0) hS dX8_read_85 (by decide) ?_
            refine aft 0 ?_
            rw [hst, if_neg (fun z => absurd (hs2.mpr z) (by rw [c3]; decide)), hb]; simp
          · have hFe : F e = true := hs2.mp (hs1.resolve_left c3)
            rw [if_pos hFe] at hst
            refine J_iload_n hS dX8_read_69 rfl ?_
            refine J_iconst (v := (-1)) hS dX8_read_70 (by decide) ?_
            refine J_icmp_ne (tgt := 79) hS dX8_read_71 (by decide) (fun c4 => ?_) (fun c4 => ?_)
            · rw [if_neg (fun z => c4 (hlm.mpr z))] at hst
              refine J_iconst (v := 1) hS dX8_read_79 (by decide) ?_
              refine J_iload_n hS dX8_read_80 rfl ?_
              refine J_ishl hS dX8_read_81 ?_
              refine J_goto (tgt := 86) hS dX8_read_82 (by decide) ?_
              refine aft _ ?_
              rw [hst, hb]
            · rw [if_pos (hlm.mp c4)] at hst
              refine J_bipush (v := 64) hS dX8_read_74 (by decide) ?_
              refine J_goto (tgt := 86) hS dX8_read_76 (by decide) ?_
              refine aft _ ?_
              rw [hst, hb]; rfl
        · exact absurd (by rw [ef]; exact Int32.le_refl _) c2
      | succ u ih2 =>
        intro f s vf g4 hf hvf hs1 hs2 f4 w4
        subst hvf
        have hff : f < fc := by omega
        have F4 := ((hF f hff).fq z2.q).fr f4
        refine J_iload hS dX8_read_22 rfl ?_
        refine J_aload_n hS dX8_read_24 rfl ?_
        refine J_getI hS dX8_read_25 flX8_356 ob162 rfl ?_
        show J S 0 0 (g4) 28 [some (.ref 162), some (.int b), some (.int (lwI e)), some (.int s), some (.int (nI f))] [.int _, .int (nI f)]
        rw [f4.2 45 (by decide), fc2]
        refine J_icmp_ge (tgt := 64) hS dX8_read_28 (by decide) (fun c2 => ?_) (fun c2 => ?_)
        · exact absurd c2 (nI_ge hff (by omega))
        · have hs1' := hs1
          have aft : ∀ (c : Int32) (g5 : Mm), (c = 0 ∨ c = 1) → (c = 1 ↔ s = 1 ∧ ∀ j, j < mn f → alOkM g f (fr f) (lwOf Ls (lwI e)) (-1) (na f) (nb f) (ny f) (nm f) (wf f) j) → FrB g2 g5 → g5 162 3 = nI 164 → J S 0 0 g5 57 [some (.ref 162), some (.int b), some (.int (lwI e)), some (.int s), some (.int (nI f))] [.int c] := by
            intro c g5 hc1 hc2 f5 w5
            refine J_istore_n (lt := fun s9 => [some (.ref 162), some (.int b), some (.int (lwI e)), some (.int s9), some (.int (nI f))]) hS dX8_read_57 (Nat.le_of_ble_eq_true rfl) (fun _ => rfl) (fun s9 es9 => ?_)
            refine J_iinc (lt := fun f9 => [some (.ref 162), some (.int b), some (.int (lwI e)), some (.int s9), some (.int f9)]) (v := 1) hS dX8_read_58 rfl (by decide) (fun _ => rfl) (fun f9 ef9 => ?_)
            refine J_goto (tgt := 22) hS dX8_read_61 (by decide) ?_
            refine ih2 (f + 1) s9 f9 g5 (by omega) (by rw [ef9]; exact nI_1 f) (by rw [es9]; exact hc1) ?_ f5 w5
            rw [es9, hc2, hs2]
            constructor
            · intro z f' h
              by_cases e : f' = f
              · subst e; exact z.2
              · exact z.1 f' (by omega)
            · exact fun z => ⟨fun f' h => z f' (by omega), z f (by omega)⟩
          refine J_iload_n hS dX8_read_31 rfl ?_
          refine J_if_eq (tgt := 56) hS dX8_read_32 (by decide) (fun c3 => ?_) (fun c3 => ?_)
          ·
            refine J_iconst (v := 0) hS dX8_read_56 (by decide) ?_
            exact aft 0 g4 (Or.inl rfl) ⟨fun y => absurd y (by decide), fun y => absurd y.1 (by rw [c3]; decide)⟩ f4 w4
          · have s1 : s = 1 := hs1.resolve_left c3
            refine J_aload_n hS dX8_read_35 rfl ?_
            refine J_iload hS dX8_read_36 rfl ?_
            refine J_iload_n hS dX8_read_38 rfl ?_
            refine J_callV2 (X' := fun _ _ => False) hS dX8_read_39 mvX8_362 ob162 rfl (by first | decide | omega) (by decide) (Nat.le_of_ble_eq_true rfl) ⟨Nat.le_trans (by decide) hR.1, Nat.le_trans (by decide) hR.2⟩ (fun _ _ q => q.elim) (m_fitting (by omega) F4 (L2.fb f4) hisl (by rw [f4.2 27 (by decide)]; exact lo2) (fun g5 r f5 w5 h1 h2 h4 => ?_))
            have f5' : FrB g2 g5 := f4.trans f5
            have tr : ∀ j, alOkM g4 f (fr f) (lwOf Ls (lwI e)) (-1) (na f) (nb f) (ny f) (nm f) (wf f) j ↔ alOkM g f (fr f) (lwOf Ls (lwI e)) (-1) (na f) (nb f) (ny f) (nm f) (wf f) j := fun j => (alOkM_fr f4.q).trans (alOkM_fr z2.q)
            have F5 := F4.fr f5
            have mn1 := F4.2.2.2.1
            refine J_aload_n hS dX8_read_42 rfl ?_
            refine J_getR (t := 211) hS dX8_read_43 flX8_83 ob162 rfl ?_
            refine J_iload hS dX8_read_46 rfl ?_
            refine J_ialdN hS (f) dX8_read_48 (show Ar lay NC .int 211 3 from arM 48 3 (by decide) (by decide) rfl) (by first | rfl | (simp only [n0, n1, n2, n3, n4, n5, n6, n7, n8, n9, n10, n11, n12, n13, n14, n15, n16, n17, n18, n19, n20, n24, n32, n56, n60, n64, n72, n99, n100, n128, n136, n142, n144, n200, n300, n999, n1000, n1500, n3464, nI_add, pk_mul] <;> first | rfl | (congr 1; omega))) (by omega) (by decide) ?_
            show J S 0 0 (g5) 49 [some (.ref 162), some (.int b), some (.int (lwI e)), some (.int s), some (.int (nI f))] [.int _, .int (nI r)]
            rw [F5.2.2.1]
            refine J_icmp_ne (tgt := 56) hS dX8_read_49 (by decide) (fun c4 => ?_) (fun c4 => ?_)
            ·
              refine J_iconst (v := 0) hS dX8_read_56 (by decide) ?_
              refine aft 0 g5 (Or.inl rfl) ⟨fun y => absurd y (by decide), fun y => ?_⟩ f5' w5
              have : r < mn f := by
                rcases Nat.lt_or_eq_of_le h1 with z | z
                · exact z
                · rw [z] at c4; exact absurd rfl c4
              exact absurd ((tr r).mpr (y.2 r this)) (h4 this)
            ·
              refine J_iconst (v := 1) hS dX8_read_52 (by decide) ?_
              refine J_goto (tgt := 57) hS dX8_read_53 (by decide) ?_
              have er : r = mn f := (nI_eq (by omega) (by omega)).mp c4
              refine aft 1 g5 (Or.inr rfl) ⟨fun _ => ⟨s1, fun j hj => (tr j).mp (h2 j (by omega))⟩, fun _ => rfl⟩ f5' w5
end RefF


/-! THE CLASS: Speech: what is said -/
/-- who talks to whom, and what is meant -/
def SpC (g : Mm) (a b : Nat) (mt : Nat → Nat) : Prop := a < 24 ∧ b < 24 ∧ g 148 0 = nI a ∧ g 148 1 = nI b ∧ ∀ j, j < 3 → mt j < 4 ∧ g 149 j = nI (mt j)
theorem SpC.fr {g g' : Mm} {a b : Nat} {mt : Nat → Nat} (h : SpC g a b mt) (e1 : g' 148 0 = g 148 0) (e2 : g' 148 1 = g 148 1) (e3 : g' 149 = g 149) : SpC g' a b mt :=
  ⟨h.1, h.2.1, by rw [e1]; exact h.2.2.1, by rw [e2]; exact h.2.2.2.1, fun j hj => ⟨(h.2.2.2.2 j hj).1, by rw [e3]; exact (h.2.2.2.2 j hj).2⟩⟩
section ClsG
variable {l : Launch} {E : Ey} {g : Mm} {Q : Option Value → Mm → Prop} {X : String → Mm → Prop} {h : Nat}
set_option maxRecDepth 10000 in
theorem c_begin {x0 x1 x2 x3 x4 : Int32} (q : ∀ g', (∀ z, z ≠ 148 → z ≠ 149 → g' z = g z) → g' 148 0 = x0 → g' 148 1 = x1 → (∀ j, j ≠ 0 → j ≠ 1 → g' 148 j = g 148 j) → g' 149 0 = x2 → g' 149 1 = x3 → g' 149 2 = x4 → Q none g') : Ct l E lay NC 0 0 0 yX5_begin [.ref 148, .int x0, .int x1, .int x2, .int x3, .int x4] g Q X := by
  refine Ct_in k_yX5_begin (by decide) rfl (Nat.le_of_ble_eq_true rfl) rfl ?_
  intro S hS hZ hr ht hR
  show J S 0 0 g 0 [some (.ref 148), some (.int x0), some (.int x1), some (.int x2), some (.int x3), some (.int x4)] []
  refine J_aload_n hS dX5_begin_0 rfl ?_
  refine J_iload_n hS dX5_begin_1 rfl ?_
  refine J_putI hS dX5_begin_2 fpX5_9 ob148 rfl (fun g2 eg2 => ?_)
  refine J_aload_n hS dX5_begin_5 rfl ?_
  refine J_iload_n hS dX5_begin_6 rfl ?_
  refine J_putI hS dX5_begin_7 fpX5_15 ob148 rfl (fun g7 eg7 => ?_)
  refine J_aload_n hS dX5_begin_10 rfl ?_
  refine J_getR (t := 149) hS dX5_begin_11 flX5_18 ob148 rfl ?_
  refine J_iconst (v := 0) hS dX5_begin_14 (by decide) ?_
  refine J_iload_n hS dX5_begin_15 rfl ?_
  refine J_iastN hS (0) dX5_begin_16 ar149 (by first | rfl | (simp only [n0, n1, n2, n3, n4, n5, n6, n7, n8, n9, n10, n11, n12, n13, n14, n15, n16, n17, n18, n19, n20, n24, n32, n56, n60, n64, n72, n99, n100, n128, n136, n142, n144, n200, n300, n999, n1000, n1500, n3464, nI_add, pk_mul] <;> first | rfl | (congr 1; omega))) (by omega) (by decide) (fun g16 eg16 => ?_)
  refine J_aload_n hS dX5_begin_17 rfl ?_
  refine J_getR (t := 149) hS dX5_begin_18 flX5_18 ob148 rfl ?_
  refine J_iconst (v := 1) hS dX5_begin_21 (by decide) ?_
  refine J_iload hS dX5_begin_22 rfl ?_
  refine J_iastN hS (1) dX5_begin_24 ar149 (by first | rfl | (simp only [n0, n1, n2, n3, n4, n5, n6, n7, n8, n9, n10, n11, n12, n13, n14, n15, n16, n17, n18, n19, n20, n24, n32, n56, n60, n64, n72, n99, n100, n128, n136, n142, n144, n200, n300, n999, n1000, n1500, n3464, nI_add, pk_mul] <;> first | rfl | (congr 1; omega))) (by omega) (by decide) (fun g24 eg24 => ?_)
  refine J_aload_n hS dX5_begin_25 rfl ?_
  refine J_getR (t := 149) hS dX5_begin_26 flX5_18 ob148 rfl ?_
  refine J_iconst (v := 2) hS dX5_begin_29 (by decide) ?_
  refine J_iload hS dX5_begin_30 rfl ?_
  refine J_iastN hS (2) dX5_begin_32 ar149 (by first | rfl | (simp only [n0, n1, n2, n3, n4, n5, n6, n7, n8, n9, n10, n11, n12, n13, n14, n15, n16, n17, n18, n19, n20, n24, n32, n56, n60, n64, n72, n99, n100, n128, n136, n142, n144, n200, n300, n999, n1000, n1500, n3464, nI_add, pk_mul] <;> first | rfl | (congr 1; omega))) (by omega) (by decide) (fun g32 eg32 => ?_)
  refine J_vret hS hZ hr dX5_begin_33 (by omega) (by omega) ?_
  subst eg32; subst eg24; subst eg16; subst eg7; subst eg2
  refine q _ (fun z h1 h2 => by rw [u2_ne z h2, u2_ne z h2, u2_ne z h2, u2_ne z h1, u2_ne z h1]) ?_ ?_ ?_ ?_ ?_ ?_
  · simp [u2]
  · simp [u2]
  · intro j h0 h1; simp [u2, h0, h1]
  · simp [u2]
  · simp [u2]
  · simp [u2]
set_option maxRecDepth 10000 in
theorem c_conceptMeant {a b o k : Nat} {mt : Nat → Nat} (hs : SpC g a b mt) (ho : o < 6) (ho2 : g 148 3 = nI o) (hk : k < 3) (q : Q (some (.int (nI (con (rN (o * 3 + k)) (mt (rN (o * 3 + k))))))) g) : Ct l E lay NC 1 0 0 yX5_conceptMeant [.ref 148, .int (nI k)] g Q X := by
  have hr3 := rN_lt ho hk
  refine Ct_in k_yX5_conceptMeant (by decide) rfl (Nat.le_of_ble_eq_true rfl) rfl ?_
  intro S hS hZ hr ht hR
  show J S 0 0 g 0 [some (.ref 148), some (.int (nI k)), none] []
  refine J_aload_n hS dX5_conceptMeant_0 rfl ?_
  refine J_getI hS dX5_conceptMeant_1 flX5_22 ob148 rfl ?_
  show J S 0 0 g 4 [some (.ref 148), some (.int (nI k)), none] [.int _]
  rw [ho2]
  refine J_iload_n hS dX5_conceptMeant_4 rfl ?_
  refine J_callN2 hS dX5_conceptMeant_5 mnX5_89 rfl (by decide) (by decide) (Nat.le_of_ble_eq_true rfl) hR (c_roleAt ho hk ?_)
  refine J_istore_n (lt := fun r => [some (.ref 148), some (.int (nI k)), some (.int r)]) hS dX5_conceptMeant_8 (Nat.le_of_ble_eq_true rfl) (fun _ => rfl) (fun r er => ?_)
  rw [zRO_rN ho hk] at er
  subst er
  refine J_iload_n hS dX5_conceptMeant_9 rfl ?_
  refine J_aload_n hS dX5_conceptMeant_10 rfl ?_
  refine J_getR (t := 149) hS dX5_conceptMeant_11 flX5_18 ob148 rfl ?_
  refine J_iload_n hS dX5_conceptMeant_14 rfl ?_
  refine J_ialdN hS (rN (o * 3 + k)) dX5_conceptMeant_15 ar149 (by first | rfl | (simp only [n0, n1, n2, n3, n4, n5, n6, n7, n8, n9, n10, n11, n12, n13, n14, n15, n16, n17, n18, n19, n20, n24, n32, n56, n60, n64, n72, n99, n100, n128, n136, n142, n144, n200, n300, n999, n1000, n1500, n3464, nI_add, pk_mul] <;> first | rfl | (congr 1; omega))) (by omega) (by decide) ?_
  show J S 0 0 g 16 [some (.ref 148), some (.int (nI k)), some (.int (nI (rN (o * 3 + k))))] [.int _, .int (nI (rN (o * 3 + k)))]
  rw [(hs.2.2.2.2 _ hr3).2]
  refine J_callN2 hS dX5_conceptMeant_16 mnX5_92 rfl (by decide) (by decide) (Nat.le_of_ble_eq_true rfl) hR (c_conceptOf ?_)
  refine J_iret hS hZ hr dX5_conceptMeant_19 (by omega) (by omega) ?_
  rw [con_nI _ _ hr3]; exact q
theorem pickO_congr {f f' : Nat → Int32} {n : Nat} {c c' : Int32} (h0 : 0 < n) (hf : ∀ j, j < n → f j = f' j) (hc : c = c') : pickO f n c = pickO f' n c' := by
  have hb := @bst_lt f' n h0
  unfold pickO
  rw [bst_congr hf, hf _ hb, hc]
theorem wv_o {c s : Nat} (hc : c < 24) (hs : s < 6) : wv g h (odB c + s) = g (h + 9) (c * 6 + s) := wv_at (wx_order hc hs)
theorem wv_s {c p s : Nat} (hc : c < 24) (hp : p < 8) (hs : s < 16) : wv g h (sgB c p + s) = g (h + 8) ((c * 8 + p) * 16 + s) := wv_at (wx_sign hc hp hs)
theorem ordP_eq {c : Nat} (hc : c < 24) : pickO (fun s => g (h + 9) (c * 6 + s)) 6 (g h 1) = ordP (wv g h) c := pickO_congr (by decide) (fun s hs => (wv_o hc hs).symm) rfl
theorem sgnP_eq {c p : Nat} (hc : c < 24) (hp : p < 8) : pickO (fun s => g (h + 8) ((c * 8 + p) * 16 + s)) 16 (g h 1) = sgnP (wv g h) c p := pickO_congr (by decide) (fun s hs => (wv_s hc hp hs).symm) rfl
theorem wv_ch {x : Int32} : wv (u2 g h 1 x) h = upd (wv g h) 1 x := wv_u2 (j0 := 0) (wx_i (by decide))
set_option maxRecDepth 10000 in
set_option maxHeartbeats 4000000 in
theorem c_sayIn (hW : Wo h) {a b y : Nat} {mt : Nat → Nat} (hs : SpC g a b mt) (hy : y < 3) (hya : wv g h (56 + 142 * a) = nI y) (q : ∀ g', (∀ z, (z < h ∨ h + 10 < z) → z ≠ 148 → z ≠ 150 → g' z = g z) → wv g' h = sayW (wv g h) a y mt → g' 148 3 = nI (sayO (wv g h) a) → (∀ j, j ≠ 3 → g' 148 j = g 148 j) → (∀ k, k < 3 → g' 150 k = nI (sayS (wv g h) a mt k)) → Q none g') : Ct l E lay NC 3 0 0 yX5_sayIn [.ref 148, .ref h] g Q X := by
  have hh : h + 10 < 107 := by obtain ⟨i, hi, e⟩ := hW; omega
  have ha := hs.1
  have ho := sayO_lt (wv g h) a
  refine Ct_in k_yX5_sayIn (by decide) rfl (Nat.le_of_ble_eq_true rfl) rfl ?_
  intro S hS hZ hr ht hR
  show J S 0 0 g 0 [some (.ref 148), some (.ref h), none] []
  refine J_aload_n hS dX5_sayIn_0 rfl ?_
  refine J_aload_n hS dX5_sayIn_1 rfl ?_
  refine J_aload_n hS dX5_sayIn_2 rfl ?_
  refine J_getI hS dX5_sayIn_3 flX5_9 ob148 rfl ?_
  show J S 0 0 g 6 [some (.ref 148), some (.ref h), none] [.int _, .ref h, .ref 148]
  rw [hs.2.2.1]
  refine J_callV1 (X' := fun _ _ => False) hS dX5_sayIn_6 mvX5_73 hW.ob rfl (by decide) (by decide) (Nat.le_of_ble_eq_true rfl) hR (fun _ _ q => q.elim) (c_chooseOrder hW ha ?_)
  refine J_putI hS dX5_sayIn_9 fpX5_22 ob148 rfl (fun g9 eg9 => ?_)
  refine J_iconst (v := 0) hS dX5_sayIn_12 (by decide) ?_
  refine J_istore_n (lt := fun i1 => [some (.ref 148), some (.ref h), some (.int i1)]) hS dX5_sayIn_13 (Nat.le_of_ble_eq_true rfl) (fun _ => rfl) (fun i1 ei1 => ?_)
  rw [ordP_eq ha] at eg9
  have f9 : ∀ z, z ≠ h → z ≠ 148 → g9 z = g z := fun z h1 h2 => by rw [eg9, u2_ne z h2, u2_ne z h1]
  have w9 : wv g9 h = say0W (wv g h) a := by
    rw [eg9, wv_fr (g := u2 g h 1 (ordP (wv g h) a).2) (fun z h1 h2 => u2_ne z (by omega)), wv_ch]; rfl
  have o9 : g9 148 3 = nI (sayO (wv g h) a) := by rw [eg9]; simp [u2]; rfl
  have p9 : ∀ j, j ≠ 3 → g9 148 j = g 148 j := fun j hj => by
    rw [eg9]
    have : ¬ (148 = h ∧ j = 1) := by omega
    simp [u2, hj]; intro z; omega
  suffices H : ∀ (r k : Nat) (i : Int32) (g1 : Mm), k + r = 3 → i = nI k → (∀ z, z ≠ h → z ≠ 148 → z ≠ 150 → g1 z = g z) → wv g1 h = sayK (wv g h) a mt k → (∀ j, g1 148 j = g9 148 j) → (∀ j, j < k → g1 150 j = nI (sayS (wv g h) a mt j)) → J S 0 0 g1 14 [some (.ref 148), some (.ref h), some (.int i)] [] by
    exact H 3 0 i1 g9 rfl ei1 (fun z h1 h2 _ => f9 z h1 h2) w9 (fun _ => rfl) (fun j hj => absurd hj (by omega))
  intro r
  induction r with
  | zero =>
    intro k i g1 hk hi f1 w1 p1 s1
    have hk3 : k = 3 := by omega
    subst hk3
    refine J_iload_n hS dX5_sayIn_14 rfl ?_
    refine J_iconst (v := 3) hS dX5_sayIn_15 (by decide) ?_
    refine J_icmp_ge (tgt := 44) hS dX5_sayIn_16 (by decide) (fun c1 => ?_) (fun c1 => ?_)
    ·
      refine J_iconst (v := 0) hS dX5_sayIn_44 (by decide) ?_
      refine J_istore_n (lt := fun j1 => [some (.ref 148), some (.ref h), some (.int j1)]) hS dX5_sayIn_45 (Nat.le_of_ble_eq_true rfl) (fun _ => rfl) (fun j1 ej1 => ?_)
      suffices H2 : ∀ (r k : Nat) (j : Int32) (g2 : Mm), k + r = 3 → j = nI k → (∀ z, z ≠ h + 10 → g2 z = g1 z) → wv g2 h = useK (sayK (wv g h) a mt 3) y (sayS (wv g h) a mt) k → J S 0 0 g2 46 [some (.ref 148), some (.ref h), some (.int j)] [] by
        exact H2 3 0 j1 g1 rfl ej1 (fun z _ => rfl) w1
      intro r
      induction r with
      | zero =>
        intro k j g2 hk hj f2 w2
        have hk3 : k = 3 := by omega
        subst hk3
        refine J_iload_n hS dX5_sayIn_46 rfl ?_
        refine J_iconst (v := 3) hS dX5_sayIn_47 (by decide) ?_
        refine J_icmp_ge (tgt := 85) hS dX5_sayIn_48 (by decide) (fun c2 => ?_) (fun c2 => ?_)
        ·
          refine J_vret hS hZ hr dX5_sayIn_85 (by omega) (by omega) ?_
          refine q g2 (fun z h1 h2 h3 => by rw [f2 z (by omega)]; exact f1 z (by omega) h2 h3) w2 (by rw [f2 148 (by omega), p1 3]; exact o9) (fun j hj => by rw [f2 148 (by omega), p1 j]; exact p9 j hj) (fun k hk => by rw [f2 150 (by omega)]; exact s1 k hk)
        · exact absurd (by rw [hj]; decide) c2
      | succ r ih =>
        intro k j g2 hk hj f2 w2
        subst hj
        refine J_iload_n hS dX5_sayIn_46 rfl ?_
        refine J_iconst (v := 3) hS dX5_sayIn_47 (by decide) ?_
        refine J_icmp_ge (tgt := 85) hS dX5_sayIn_48 (by decide) (fun c2 => ?_) (fun c2 => ?_)
        · exact absurd c2 (nI_ge (show k < 3 by omega) (by decide))
        ·
          refine J_aload_n hS dX5_sayIn_51 rfl ?_
          refine J_getR (t := h + 10) hS dX5_sayIn_52 flX5_83 hW.ob rfl ?_
          refine J_aload_n hS dX5_sayIn_55 rfl ?_
          refine J_getR (t := h + 1) hS dX5_sayIn_56 flX5_86 hW.ob rfl ?_
          refine J_aload_n hS dX5_sayIn_59 rfl ?_
          refine J_getI hS dX5_sayIn_60 flX5_9 ob148 rfl ?_
          show J S 0 0 g2 63 [some (.ref 148), some (.ref h), some (.int (nI k))] [.int _, .ref (h + 1), .ref (h + 10)]
          have e1 : g2 148 0 = nI a := by rw [f2 148 (by omega), p1 0, p9 0 (by decide)]; exact hs.2.2.1
          have e2 : g2 (h + 1) a = nI y := by
            rw [f2 (h + 1) (by omega), f1 (h + 1) (by omega) (by omega) (by omega), ← wv_at (g := g) (h := h) (wx_yard ha)]; exact hya
          have e3 : g2 150 k = nI (sayS (wv g h) a mt k) := by rw [f2 150 (by omega)]; exact s1 k (by omega)
          have hsk := sayS_lt (wv g h) a mt k
          rw [e1]
          refine J_ialdN hS (a) dX5_sayIn_63 (show Ar lay NC .int (h + 1) 24 from hW.ar 1 (by decide) (by decide)) (by first | rfl | (simp only [n0, n1, n2, n3, n4, n5, n6, n7, n8, n9, n10, n11, n12, n13, n14, n15, n16, n17, n18, n19, n20, n24, n32, n56, n60, n64, n72, n99, n100, n128, n136, n142, n144, n200, n300, n999, n1000, n1500, n3464, nI_add, pk_mul] <;> first | rfl | (congr 1; omega))) ha (by decide) ?_
          show J S 0 0 g2 64 [some (.ref 148), some (.ref h), some (.int (nI k))] [.int _, .ref (h + 10)]
          rw [e2]
          refine J_bipush (v := 16) hS dX5_sayIn_64 (by decide) ?_
          refine J_imul hS dX5_sayIn_66 ?_
          refine J_aload_n hS dX5_sayIn_67 rfl ?_
          refine J_getR (t := 150) hS dX5_sayIn_68 flX5_25 ob148 rfl ?_
          refine J_iload_n hS dX5_sayIn_71 rfl ?_
          refine J_ialdN hS (k) dX5_sayIn_72 ar150 (by first | rfl | (simp only [n0, n1, n2, n3, n4, n5, n6, n7, n8, n9, n10, n11, n12, n13, n14, n15, n16, n17, n18, n19, n20, n24, n32, n56, n60, n64, n72, n99, n100, n128, n136, n142, n144, n200, n300, n999, n1000, n1500, n3464, nI_add, pk_mul] <;> first | rfl | (congr 1; omega))) (by omega) (by decide) ?_
          show J S 0 0 g2 73 [some (.ref 148), some (.ref h), some (.int (nI k))] [.int _, .int _, .ref (h + 10)]
          rw [e3]
          refine J_iadd hS dX5_sayIn_73 ?_
          refine J_dup2 hS dX5_sayIn_74 rfl rfl ?_
          refine J_ialdN hS (y * 16 + sayS (wv g h) a mt k) dX5_sayIn_75 (show Ar lay NC .int (h + 10) 48 from hW.ar 10 (by decide) (by decide)) (by first | rfl | (simp only [n0, n1, n2, n3, n4, n5, n6, n7, n8, n9, n10, n11, n12, n13, n14, n15, n16, n17, n18, n19, n20, n24, n32, n56, n60, n64, n72, n99, n100, n128, n136, n142, n144, n200, n300, n999, n1000, n1500, n3464, nI_add, pk_mul] <;> first | rfl | (congr 1; omega))) (by omega) (by decide) ?_
          refine J_iconst (v := 1) hS dX5_sayIn_76 (by decide) ?_
          refine J_iadd hS dX5_sayIn_77 ?_
          refine J_iastN hS (y * 16 + sayS (wv g h) a mt k) dX5_sayIn_78 (show Ar lay NC .int (h + 10) 48 from hW.ar 10 (by decide) (by decide)) (by first | rfl | (simp only [n0, n1, n2, n3, n4, n5, n6, n7, n8, n9, n10, n11, n12, n13, n14, n15, n16, n17, n18, n19, n20, n24, n32, n56, n60, n64, n72, n99, n100, n128, n136, n142, n144, n200, n300, n999, n1000, n1500, n3464, nI_add, pk_mul] <;> first | rfl | (congr 1; omega))) (by omega) (by decide) (fun g78 eg78 => ?_)
          refine J_iinc (lt := fun j2 => [some (.ref 148), some (.ref h), some (.int j2)]) (v := 1) hS dX5_sayIn_79 rfl (by decide) (fun _ => rfl) (fun j2 ej2 => ?_)
          refine J_goto (tgt := 46) hS dX5_sayIn_82 (by decide) ?_
          refine ih (k + 1) j2 g78 (by omega) (by rw [ej2]; exact nI_1 k) (fun z hz => by rw [eg78, u2_ne z hz]; exact f2 z hz) ?_
          rw [eg78, wv_u2 (wx_use (i := y * 16 + sayS (wv g h) a mt k) (by omega)), ← wv_at (g := g2) (h := h) (wx_use (i := y * 16 + sayS (wv g h) a mt k) (by omega)), w2]
          show _ = use1 _ _ _
          unfold use1
          rw [show 8 + (y * 16 + sayS (wv g h) a mt k) = 8 + 16 * y + sayS (wv g h) a mt k by omega]
    · exact absurd (by rw [hi]; decide) c1
  | succ r ih =>
    intro k i g1 hk hi f1 w1 p1 s1
    subst hi
    have hk3 : k < 3 := by omega
    have hs1 : SpC g1 a b mt := hs.fr (by rw [p1, p9 0 (by decide)]) (by rw [p1, p9 1 (by decide)]) (f1 149 (by omega) (by decide) (by decide))
    have hr3 := rN_lt ho hk3
    have hp := con_lt (r := rN (sayO (wv g h) a * 3 + k)) (hs.2.2.2.2 _ hr3).1
    refine J_iload_n hS dX5_sayIn_14 rfl ?_
    refine J_iconst (v := 3) hS dX5_sayIn_15 (by decide) ?_
    refine J_icmp_ge (tgt := 44) hS dX5_sayIn_16 (by decide) (fun c1 => ?_) (fun c1 => ?_)
    · exact absurd c1 (nI_ge (show k < 3 by omega) (by decide))
    ·
      refine J_aload_n hS dX5_sayIn_19 rfl ?_
      refine J_getR (t := 150) hS dX5_sayIn_20 flX5_25 ob148 rfl ?_
      refine J_iload_n hS dX5_sayIn_23 rfl ?_
      refine J_aload_n hS dX5_sayIn_24 rfl ?_
      refine J_aload_n hS dX5_sayIn_25 rfl ?_
      refine J_getI hS dX5_sayIn_26 flX5_9 ob148 rfl ?_
      show J S 0 0 g1 29 [some (.ref 148), some (.ref h), some (.int (nI k))] [.int _, .ref h, .int (nI k), .ref (150)]
      rw [hs1.2.2.1]
      refine J_aload_n hS dX5_sayIn_29 rfl ?_
      refine J_iload_n hS dX5_sayIn_30 rfl ?_
      refine J_callV1 (X' := fun _ _ => False) hS dX5_sayIn_31 mvX5_76 ob148 rfl (by decide) (by decide) (Nat.le_of_ble_eq_true rfl) hR (fun _ _ q => q.elim) (c_conceptMeant hs1 ho (by rw [p1 3]; exact o9) hk3 ?_)
      refine J_callV2 (X' := fun _ _ => False) hS dX5_sayIn_34 mvX5_79 hW.ob rfl (by decide) (by decide) (Nat.le_of_ble_eq_true rfl) hR (fun _ _ q => q.elim) (c_chooseSign hW ha hp ?_)
      refine J_iastN hS (k) dX5_sayIn_37 ar150 (by first | rfl | (simp only [n0, n1, n2, n3, n4, n5, n6, n7, n8, n9, n10, n11, n12, n13, n14, n15, n16, n17, n18, n19, n20, n24, n32, n56, n60, n64, n72, n99, n100, n128, n136, n142, n144, n200, n300, n999, n1000, n1500, n3464, nI_add, pk_mul] <;> first | rfl | (congr 1; omega))) (by omega) (by decide) (fun g37 eg37 => ?_)
      refine J_iinc (lt := fun i2 => [some (.ref 148), some (.ref h), some (.int i2)]) (v := 1) hS dX5_sayIn_38 rfl (by decide) (fun _ => rfl) (fun i2 ei2 => ?_)
      refine J_goto (tgt := 14) hS dX5_sayIn_41 (by decide) ?_
      rw [sgnP_eq ha hp, w1] at eg37
      refine ih (k + 1) i2 g37 (by omega) (by rw [ei2]; exact nI_1 k) (fun z h1 h2 h3 => by rw [eg37, u2_ne z h3, u2_ne z h1]; exact f1 z h1 h2 h3) ?_ (fun j => ?_) (fun j hj => ?_)
      · rw [eg37, wv_fr (g := u2 g1 h 1 _) (fun z h1 h2 => u2_ne z (by omega)), wv_ch, w1]; rfl
      · rw [eg37, u2_ne 148 (by decide), u2_ne 148 (by omega)]; exact p1 j
      · by_cases e : j = k
        · subst e; rw [eg37]; simp [u2]; rfl
        · rw [eg37]; simp only [u2, e, and_false, if_false]
          rw [if_neg (by omega)]; exact s1 j (by omega)
end ClsG


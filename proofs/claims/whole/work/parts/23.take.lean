/-! THE CLASS: Speech: how it is taken -/
/-- weights as they must be -/
def Wt (w : Wr) (c : Nat) : Prop := ∀ r, 8 ≤ r → r < 142 → 0 ≤ w (56 + 142 * c + r) ∧ w (56 + 142 * c + r) ≤ 999
theorem Wt.sg {w : Wr} {c p s : Nat} (h : Wt w c) (hp : p < 8) (hs : s < 16) : 0 ≤ w (sgB c p + s) ∧ w (sgB c p + s) ≤ 999 := by
  have := h (8 + 16 * p + s) (by omega) (by omega)
  rw [show 56 + 142 * c + (8 + 16 * p + s) = sgB c p + s by unfold sgB; omega] at this
  exact this
theorem Wt.od {w : Wr} {c o : Nat} (h : Wt w c) (ho : o < 6) : 0 ≤ w (odB c + o) ∧ w (odB c + o) ≤ 999 := by
  have := h (136 + o) (by omega) (by omega)
  rw [show 56 + 142 * c + (136 + o) = odB c + o by unfold odB; omega] at this
  exact this
theorem add_rng {a b : Int32} (ha : 0 ≤ a ∧ a ≤ 999) (hb : 0 ≤ b ∧ b ≤ 999) : 0 ≤ a + b := by
  obtain ⟨a0, a9⟩ := ha
  obtain ⟨b0, b9⟩ := hb
  rw [Int32.le_iff_toInt_le] at *
  have e0 : (0 : Int32).toInt = 0 := by decide
  have e9 : (999 : Int32).toInt = 999 := by decide
  rw [Int32.toInt_add, Int.bmod_eq_of_le (by omega) (by omega)]
  omega
theorem wsW_nn {w : Wr} {y c p s : Nat} (h : Wt w c) (hp : p < 8) (hs : s < 16) : 0 ≤ wsW w y c p s := by
  unfold wsW
  split
  · exact add_rng (h.sg hp (by omega)) (h.sg hp (by omega))
  · exact (h.sg hp hs).1
section ClsH
variable {l : Launch} {E : Ey} {g : Mm} {Q : Option Value → Mm → Prop} {X : String → Mm → Prop} {h : Nat}
theorem wrb_W {y s : Nat} (hy : y < 3) (hs : s < 16) : wrb g h y s = wrW (wv g h) y s := by
  unfold wrb wrW
  rw [show 8 + 16 * y + s / 2 * 2 = 8 + (y * 16 + s / 2 * 2) by omega, show 8 + 16 * y + (s / 2 * 2 + 1) = 8 + (y * 16 + s / 2 * 2 + 1) by omega, wv_at (wx_use (by omega)), wv_at (wx_use (by omega)), wv_at (wx_i (show 3 < 7 by decide))]; rfl
theorem sna_W {y s : Nat} (hy : y < 3) (hs : s < 16) : sna g h y s = snW (wv g h) y s := by unfold sna snW; rw [wrb_W hy hs]
theorem wsn_W {y c p s : Nat} (hy : y < 3) (hc : c < 24) (hp : p < 8) (hs : s < 16) : wsn g h y c p s = wsW (wv g h) y c p s := by
  unfold wsn wsW
  rw [wrb_W hy hs, wv_s hc hp (by omega), wv_s hc hp (by omega), wv_s hc hp hs]; rfl
set_option maxRecDepth 10000 in
theorem c_guessPart (hW : Wo h) {b y r s : Nat} (hb : b < 24) (hb2 : g 148 1 = nI b) (hy : y < 3) (hyb : wv g h (56 + 142 * b) = nI y) (hwt : Wt (wv g h) b) (hr3 : r < 3) (hs : s < 16) (q : Q (some (.int (nI (tk1 (wv g h) y b r s)))) g) : Ct l E lay NC 2 0 0 yX5_guessPart [.ref 148, .ref h, .int (nI r), .int (nI s)] g Q X := by
  have hyd : g (h + 1) b = nI y := by rw [← wv_at (g := g) (h := h) (wx_yard hb)]; exact hyb
  refine Ct_in k_yX5_guessPart (by decide) rfl (Nat.le_of_ble_eq_true rfl) rfl ?_
  intro S hS hZ hr ht hR
  show J S 0 0 g 0 [some (.ref 148), some (.ref h), some (.int (nI r)), some (.int (nI s)), none, none, none, none] []
  refine J_iconst (v := 0) hS dX5_guessPart_0 (by decide) ?_
  refine J_istore (lt := fun b1 => [some (.ref 148), some (.ref h), some (.int (nI r)), some (.int (nI s)), some (.int b1), none, none, none]) hS dX5_guessPart_1 (Nat.le_of_ble_eq_true rfl) (fun _ => rfl) (fun b1 eb1 => ?_)
  refine J_iconst (v := 0) hS dX5_guessPart_3 (by decide) ?_
  refine J_istore (lt := fun m1 => [some (.ref 148), some (.ref h), some (.int (nI r)), some (.int (nI s)), some (.int b1), some (.int m1), none, none]) hS dX5_guessPart_4 (Nat.le_of_ble_eq_true rfl) (fun _ => rfl) (fun m1 em1 => ?_)
  refine J_iconst (v := 0) hS dX5_guessPart_6 (by decide) ?_
  refine J_istore (lt := fun i1 => [some (.ref 148), some (.ref h), some (.int (nI r)), some (.int (nI s)), some (.int b1), some (.int m1), some (.int i1), none]) hS dX5_guessPart_7 (Nat.le_of_ble_eq_true rfl) (fun _ => rfl) (fun i1 ei1 => ?_)
  obtain ⟨f, hf⟩ : ∃ f : Nat → Int32, f = fun v => wsW (wv g h) y b (con r v) s := ⟨_, rfl⟩
  have q' : Q (some (.int (hv0 f 4).1)) g := by
    rw [hv0_end (by decide) (fun j hj => by rw [hf]; exact wsW_nn hwt (con_lt hj) hs), hf]; exact q
  suffices H : ∀ (n k : Nat) (bb mm i : Int32), k + n = 4 → i = nI k → (bb, mm) = hv0 f k → J S 0 0 g 9 [some (.ref 148), some (.ref h), some (.int (nI r)), some (.int (nI s)), some (.int bb), some (.int mm), some (.int i), none] [] by
    exact H 4 0 b1 m1 i1 rfl ei1 (by rw [eb1, em1]; rfl)
  intro n
  induction n with
  | zero =>
    intro k bb mm i hk hi hbm
    refine J_iload hS dX5_guessPart_9 rfl ?_
    refine J_iconst (v := 4) hS dX5_guessPart_11 (by decide) ?_
    refine J_icmp_ge (tgt := 53) hS dX5_guessPart_12 (by decide) (fun c1 => ?_) (fun c1 => ?_)
    ·
      refine J_iload hS dX5_guessPart_53 rfl ?_
      refine J_iret hS hZ hr dX5_guessPart_55 (by omega) (by omega) ?_
      rw [show (4 : Nat) = k by omega, ← hbm] at q'
      exact q'
    · exact absurd (by rw [hi, show k = 4 by omega]; decide) c1
  | succ n ih =>
    intro k bb mm i hk hi hbm
    subst hi
    have hp := con_lt (r := r) (show k < 4 by omega)
    refine J_iload hS dX5_guessPart_9 rfl ?_
    refine J_iconst (v := 4) hS dX5_guessPart_11 (by decide) ?_
    refine J_icmp_ge (tgt := 53) hS dX5_guessPart_12 (by decide) (fun c1 => ?_) (fun c1 => ?_)
    · exact absurd c1 (nI_ge (show k < 4 by omega) (by decide))
    ·
      refine J_aload_n hS dX5_guessPart_15 rfl ?_
      refine J_aload_n hS dX5_guessPart_16 rfl ?_
      refine J_getI hS dX5_guessPart_17 flX5_15 ob148 rfl ?_
      show J S 0 0 g 20 [some (.ref 148), some (.ref h), some (.int (nI r)), some (.int (nI s)), some (.int bb), some (.int mm), some (.int (nI k)), none] [.int _, .ref h]
      rw [hb2]
      refine J_iload_n hS dX5_guessPart_20 rfl ?_
      refine J_iload hS dX5_guessPart_21 rfl ?_
      refine J_callN2 hS dX5_guessPart_23 mnX5_92 rfl (by decide) (by decide) (Nat.le_of_ble_eq_true rfl) hR (c_conceptOf ?_)
      show J S 0 0 g 26 [some (.ref 148), some (.ref h), some (.int (nI r)), some (.int (nI s)), some (.int bb), some (.int mm), some (.int (nI k)), none] [.int _, .int _, .ref h]
      rw [con_nI _ _ hr3]
      refine J_iload_n hS dX5_guessPart_26 rfl ?_
      refine J_callV3 (X' := fun _ _ => False) hS dX5_guessPart_27 mvX5_99 hW.ob rfl (by decide) (by decide) (Nat.le_of_ble_eq_true rfl) hR (fun _ _ q => q.elim) (c_weightSeen hW hb hp hs hy hyd ?_)
      refine J_istore (lt := fun w => [some (.ref 148), some (.ref h), some (.int (nI r)), some (.int (nI s)), some (.int bb), some (.int mm), some (.int (nI k)), some (.int w)]) hS dX5_guessPart_30 (Nat.le_of_ble_eq_true rfl) (fun _ => rfl) (fun w ew => ?_)
      have ew' : w = f k := by rw [ew, hf, wsn_W hy hb hp hs]
      have hst := hv0_step (f := f) (i := k)
      rw [← hbm] at hst
      refine J_iload hS dX5_guessPart_32 rfl ?_
      refine J_iload hS dX5_guessPart_34 rfl ?_
      refine J_icmp_le (tgt := 47) hS dX5_guessPart_36 (by decide) (fun c2 => ?_) (fun c2 => ?_)
      ·
        refine J_iinc (lt := fun i2 => [some (.ref 148), some (.ref h), some (.int (nI r)), some (.int (nI s)), some (.int bb), some (.int mm), some (.int i2), some (.int w)]) (v := 1) hS dX5_guessPart_47 rfl (by decide) (fun _ => rfl) (fun i2 ei2 => ?_)
        refine J_goto (tgt := 9) hS dX5_guessPart_50 (by decide) ?_
        refine J_weak (ls' := [some (.ref 148), some (.ref h), some (.int (nI r)), some (.int (nI s)), some (.int bb), some (.int mm), some (.int i2), none]) ⟨Or.inr rfl, Or.inr rfl, Or.inr rfl, Or.inr rfl, Or.inr rfl, Or.inr rfl, Or.inr rfl, Or.inl rfl, trivial⟩ ?_
        refine ih (k + 1) bb mm i2 (by omega) (by rw [ei2]; exact nI_1 k) ?_
        rw [hst, if_neg]
        rw [← ew']; exact Int32.not_lt.mpr c2
      ·
        refine J_iload hS dX5_guessPart_39 rfl ?_
        refine J_istore (lt := fun m2 => [some (.ref 148), some (.ref h), some (.int (nI r)), some (.int (nI s)), some (.int bb), some (.int m2), some (.int (nI k)), some (.int w)]) hS dX5_guessPart_41 (Nat.le_of_ble_eq_true rfl) (fun _ => rfl) (fun m2 em2 => ?_)
        refine J_iload hS dX5_guessPart_43 rfl ?_
        refine J_istore (lt := fun b2 => [some (.ref 148), some (.ref h), some (.int (nI r)), some (.int (nI s)), some (.int b2), some (.int m2), some (.int (nI k)), some (.int w)]) hS dX5_guessPart_45 (Nat.le_of_ble_eq_true rfl) (fun _ => rfl) (fun b2 eb2 => ?_)
        refine J_iinc (lt := fun i2 => [some (.ref 148), some (.ref h), some (.int (nI r)), some (.int (nI s)), some (.int b2), some (.int m2), some (.int i2), some (.int w)]) (v := 1) hS dX5_guessPart_47 rfl (by decide) (fun _ => rfl) (fun i2 ei2 => ?_)
        refine J_goto (tgt := 9) hS dX5_guessPart_50 (by decide) ?_
        refine J_weak (ls' := [some (.ref 148), some (.ref h), some (.int (nI r)), some (.int (nI s)), some (.int b2), some (.int m2), some (.int i2), none]) ⟨Or.inr rfl, Or.inr rfl, Or.inr rfl, Or.inr rfl, Or.inr rfl, Or.inr rfl, Or.inr rfl, Or.inl rfl, trivial⟩ ?_
        refine ih (k + 1) b2 m2 i2 (by omega) (by rw [ei2]; exact nI_1 k) ?_
        rw [hst, if_pos, eb2, em2, ew']
        rw [← ew']; exact Int32.not_le.mp c2
theorem ch_eq {w : Wr} {x : Int32} {i : Nat} (hi : i ≠ 1) : upd w 1 x i = w i := by simp [upd, hi]
/-- the signs that were said -/
def SgC (g : Mm) (s : Nat → Nat) : Prop := ∀ k, k < 3 → s k < 16 ∧ g 150 k = nI (s k)
set_option maxRecDepth 10000 in
set_option maxHeartbeats 4000000 in
theorem c_takeIn (hW : Wo h) {a b y : Nat} {mt s : Nat → Nat} (hs : SpC g a b mt) (hsg : SgC g s) (hy : y < 3) (hyb : wv g h (56 + 142 * b) = nI y) (hwt : Wt (wv g h) b) (q : ∀ g', (∀ z, (z < h ∨ h + 10 < z) → z ≠ 148 → z ≠ 151 → g' z = g z) → wv g' h = takW (wv g h) b → g' 148 5 = nI (takO (wv g h) b) → (∀ j, j ≠ 5 → j ≠ 7 → g' 148 j = g 148 j) → (g' 148 7 = 0 ∨ g' 148 7 = 1) → (g' 148 7 = 1 ↔ ∀ r, r < 3 → takT (wv g h) y b s r = mt r) → (∀ r, r < 3 → g' 151 r = nI (takT (wv g h) y b s r)) → Q none g') : Ct l E lay NC 3 0 0 yX5_takeIn [.ref 148, .ref h] g Q X := by
  have hh : h + 10 < 107 := by obtain ⟨i, hi, e⟩ := hW; omega
  have hb := hs.2.1
  have ho : takO (wv g h) b < 6 := pickO_lt (by decide)
  refine Ct_in k_yX5_takeIn (by decide) rfl (Nat.le_of_ble_eq_true rfl) rfl ?_
  intro S hS hZ hr ht hR
  show J S 0 0 g 0 [some (.ref 148), some (.ref h), none, none] []
  refine J_aload_n hS dX5_takeIn_0 rfl ?_
  refine J_aload_n hS dX5_takeIn_1 rfl ?_
  refine J_aload_n hS dX5_takeIn_2 rfl ?_
  refine J_getI hS dX5_takeIn_3 flX5_15 ob148 rfl ?_
  show J S 0 0 g 6 [some (.ref 148), some (.ref h), none, none] [.int _, .ref h, .ref 148]
  rw [hs.2.2.2.1]
  refine J_callV1 (X' := fun _ _ => False) hS dX5_takeIn_6 mvX5_73 hW.ob rfl (by decide) (by decide) (Nat.le_of_ble_eq_true rfl) hR (fun _ _ q => q.elim) (c_chooseOrder hW hb ?_)
  refine J_putI hS dX5_takeIn_9 fpX5_28 ob148 rfl (fun g9 eg9 => ?_)
  refine J_aload_n hS dX5_takeIn_12 rfl ?_
  refine J_iconst (v := 1) hS dX5_takeIn_13 (by decide) ?_
  refine J_putZ hS dX5_takeIn_14 fpX5_34 ob148 rfl (by decide) (fun g14 eg14 => ?_)
  refine J_iconst (v := 0) hS dX5_takeIn_17 (by decide) ?_
  refine J_istore_n (lt := fun i1 => [some (.ref 148), some (.ref h), some (.int i1), none]) hS dX5_takeIn_18 (Nat.le_of_ble_eq_true rfl) (fun _ => rfl) (fun i1 ei1 => ?_)
  rw [ordP_eq hb] at eg9
  have f14 : ∀ z, z ≠ h → z ≠ 148 → g14 z = g z := fun z h1 h2 => by rw [eg14, u2_ne z h2, eg9, u2_ne z h2, u2_ne z h1]
  have w14 : wv g14 h = takW (wv g h) b := by
    rw [eg14, wv_fr (g := g9) (fun z h1 h2 => u2_ne z (by omega)), eg9, wv_fr (g := u2 g h 1 (ordP (wv g h) b).2) (fun z h1 h2 => u2_ne z (by omega)), wv_ch]; rfl
  have o14 : g14 148 5 = nI (takO (wv g h) b) := by rw [eg14, eg9]; simp [u2]; rfl
  have r14 : g14 148 7 = 1 := by rw [eg14]; simp [u2]
  have p14 : ∀ j, j ≠ 5 → j ≠ 7 → g14 148 j = g 148 j := fun j h5 h7 => by
    rw [eg14, eg9]; simp [u2, h5, h7]; intro z; omega
  obtain ⟨w', hw'⟩ : ∃ w' : Wr, w' = takW (wv g h) b := ⟨_, rfl⟩
  obtain ⟨o, hoe⟩ : ∃ o : Nat, o = takO (wv g h) b := ⟨_, rfl⟩
  rw [← hoe] at ho o14
  rw [← hw'] at w14
  have hyb' : ∀ gx : Mm, wv gx h = w' → wv gx h (56 + 142 * b) = nI y := fun gx e => by rw [e, hw']; unfold takW; rw [ch_eq (by omega)]; exact hyb
  have hwt' : Wt w' b := fun r h8 h142 => by rw [hw']; unfold takW; rw [ch_eq (by omega)]; exact hwt r h8 h142
  have tkT : ∀ k, k < 3 → takT (wv g h) y b s (rN (o * 3 + k)) = tk1 w' y b (rN (o * 3 + k)) (s k) := fun k hk => by
    unfold takT; rw [← hoe, ← hw', pN_rN o ho k hk]
  suffices H : ∀ (n k : Nat) (i : Int32) (g1 : Mm), k + n = 3 → i = nI k → (∀ z, z ≠ h → z ≠ 148 → z ≠ 151 → g1 z = g z) → wv g1 h = w' → (∀ j, j ≠ 7 → g1 148 j = g14 148 j) → (g1 148 7 = 0 ∨ g1 148 7 = 1) → (g1 148 7 = 1 ↔ ∀ j, j < k → tk1 w' y b (rN (o * 3 + j)) (s j) = mt (rN (o * 3 + j))) → (∀ j, j < k → g1 151 (rN (o * 3 + j)) = nI (tk1 w' y b (rN (o * 3 + j)) (s j))) → J S 0 0 g1 19 [some (.ref 148), some (.ref h), some (.int i), none] [] by
    exact H 3 0 i1 g14 rfl ei1 (fun z h1 h2 _ => f14 z h1 h2) w14 (fun _ _ => rfl) (Or.inr r14) ⟨fun _ j hj => absurd hj (by omega), fun _ => r14⟩ (fun j hj => absurd hj (by omega))
  intro n
  induction n with
  | zero =>
    intro k i g1 hk hi f1 w1 p1 r01 r1 t1
    have hk3 : k = 3 := by omega
    subst hk3
    have onto : ∀ r, r < 3 → ∃ k, k < 3 ∧ r = rN (o * 3 + k) := fun r hr => by
      rcases rN_sur o ho r hr with e | e | e
      · exact ⟨0, by decide, e.symm⟩
      · exact ⟨1, by decide, e.symm⟩
      · exact ⟨2, by decide, e.symm⟩
    refine J_iload_n hS dX5_takeIn_19 rfl ?_
    refine J_iconst (v := 3) hS dX5_takeIn_20 (by decide) ?_
    refine J_icmp_ge (tgt := 77) hS dX5_takeIn_21 (by decide) (fun c1 => ?_) (fun c1 => ?_)
    ·
      refine J_vret hS hZ hr dX5_takeIn_77 (by omega) (by omega) ?_
      refine q g1 (fun z h1 h2 h3 => f1 z (by omega) h2 h3) (by rw [w1, hw']) (by rw [p1 5 (by decide), o14, hoe]) (fun j h5 h7 => by rw [p1 j h7]; exact p14 j h5 h7) r01 ?_ ?_
      · rw [r1]
        constructor
        · intro z r hr
          obtain ⟨k, hk, e⟩ := onto r hr
          rw [e, tkT k hk]; exact z k hk
        · intro z j hj
          rw [← tkT j hj]; exact z _ (rN_lt ho hj)
      · intro r hr
        obtain ⟨k, hk, e⟩ := onto r hr
        rw [e, tkT k hk]; exact t1 k hk
    · exact absurd (by rw [hi]; decide) c1
  | succ n ih =>
    intro k i g1 hk hi f1 w1 p1 r01 r1 t1
    subst hi
    have hk3 : k < 3 := by omega
    have hr3 := rN_lt ho hk3
    have e5 : g1 148 5 = nI o := by rw [p1 5 (by decide)]; exact o14
    have e1 : g1 148 1 = nI b := by rw [p1 1 (by decide), p14 1 (by decide) (by decide)]; exact hs.2.2.2.1
    have e150 : g1 150 k = nI (s k) := by rw [f1 150 (by omega) (by decide) (by decide)]; exact (hsg k hk3).2
    have e149 : g1 149 (rN (o * 3 + k)) = nI (mt (rN (o * 3 + k))) := by rw [f1 149 (by omega) (by decide) (by decide)]; exact (hs.2.2.2.2 _ hr3).2
    refine J_iload_n hS dX5_takeIn_19 rfl ?_
    refine J_iconst (v := 3) hS dX5_takeIn_20 (by decide) ?_
    refine J_icmp_ge (tgt := 77) hS dX5_takeIn_21 (by decide) (fun c1 => ?_) (fun c1 => ?_)
    · exact absurd c1 (nI_ge (show k < 3 by omega) (by decide))
    ·
      refine J_aload_n hS dX5_takeIn_24 rfl ?_
      refine J_getI hS dX5_takeIn_25 flX5_28 ob148 rfl ?_
      show J S 0 0 g1 28 [some (.ref 148), some (.ref h), some (.int (nI k)), none] [.int _]
      rw [e5]
      refine J_iload_n hS dX5_takeIn_28 rfl ?_
      refine J_callN2 hS dX5_takeIn_29 mnX5_89 rfl (by decide) (by decide) (Nat.le_of_ble_eq_true rfl) hR (c_roleAt ho hk3 ?_)
      refine J_istore_n (lt := fun r => [some (.ref 148), some (.ref h), some (.int (nI k)), some (.int r)]) hS dX5_takeIn_32 (Nat.le_of_ble_eq_true rfl) (fun _ => rfl) (fun r er => ?_)
      rw [zRO_rN ho hk3] at er
      subst er
      refine J_aload_n hS dX5_takeIn_33 rfl ?_
      refine J_getR (t := 151) hS dX5_takeIn_34 flX5_31 ob148 rfl ?_
      refine J_iload_n hS dX5_takeIn_37 rfl ?_
      refine J_aload_n hS dX5_takeIn_38 rfl ?_
      refine J_aload_n hS dX5_takeIn_39 rfl ?_
      refine J_iload_n hS dX5_takeIn_40 rfl ?_
      refine J_aload_n hS dX5_takeIn_41 rfl ?_
      refine J_getR (t := 150) hS dX5_takeIn_42 flX5_25 ob148 rfl ?_
      refine J_iload_n hS dX5_takeIn_45 rfl ?_
      refine J_ialdN hS (k) dX5_takeIn_46 ar150 (by first | rfl | (simp only [n0, n1, n2, n3, n4, n5, n6, n7, n8, n9, n10, n11, n12, n13, n14, n15, n16, n17, n18, n19, n20, n24, n32, n56, n60, n64, n72, n99, n100, n128, n136, n142, n144, n200, n300, n999, n1000, n1500, n3464, nI_add, pk_mul] <;> first | rfl | (congr 1; omega))) (by omega) (by decide) ?_
      show J S 0 0 g1 47 [some (.ref 148), some (.ref h), some (.int (nI k)), some (.int (nI (rN (o * 3 + k))))] [.int _, .int (nI (rN (o * 3 + k))), .ref h, .ref 148, .int (nI (rN (o * 3 + k))), .ref (151)]
      rw [e150]
      refine J_callV3 (X' := fun _ _ => False) hS dX5_takeIn_47 mvX5_95 ob148 rfl (by decide) (by decide) (Nat.le_of_ble_eq_true rfl) hR (fun _ _ q => q.elim) (c_guessPart hW hb e1 hy (hyb' g1 w1) (by rw [w1]; exact hwt') hr3 (hsg k hk3).1 ?_)
      refine J_iastN hS (rN (o * 3 + k)) dX5_takeIn_50 ar151 (by first | rfl | (simp only [n0, n1, n2, n3, n4, n5, n6, n7, n8, n9, n10, n11, n12, n13, n14, n15, n16, n17, n18, n19, n20, n24, n32, n56, n60, n64, n72, n99, n100, n128, n136, n142, n144, n200, n300, n999, n1000, n1500, n3464, nI_add, pk_mul] <;> first | rfl | (congr 1; omega))) (by omega) (by decide) (fun g50 eg50 => ?_)
      refine J_aload_n hS dX5_takeIn_51 rfl ?_
      refine J_getR (t := 151) hS dX5_takeIn_52 flX5_31 ob148 rfl ?_
      refine J_iload_n hS dX5_takeIn_55 rfl ?_
      refine J_ialdN hS (rN (o * 3 + k)) dX5_takeIn_56 ar151 (by first | rfl | (simp only [n0, n1, n2, n3, n4, n5, n6, n7, n8, n9, n10, n11, n12, n13, n14, n15, n16, n17, n18, n19, n20, n24, n32, n56, n60, n64, n72, n99, n100, n128, n136, n142, n144, n200, n300, n999, n1000, n1500, n3464, nI_add, pk_mul] <;> first | rfl | (congr 1; omega))) (by omega) (by decide) ?_
      rw [w1] at eg50
      refine J_aload_n hS dX5_takeIn_57 rfl ?_
      refine J_getR (t := 149) hS dX5_takeIn_58 flX5_18 ob148 rfl ?_
      refine J_iload_n hS dX5_takeIn_61 rfl ?_
      refine J_ialdN hS (rN (o * 3 + k)) dX5_takeIn_62 ar149 (by first | rfl | (simp only [n0, n1, n2, n3, n4, n5, n6, n7, n8, n9, n10, n11, n12, n13, n14, n15, n16, n17, n18, n19, n20, n24, n32, n56, n60, n64, n72, n99, n100, n128, n136, n142, n144, n200, n300, n999, n1000, n1500, n3464, nI_add, pk_mul] <;> first | rfl | (congr 1; omega))) (by omega) (by decide) ?_
      show J S 0 0 g50 63 [some (.ref 148), some (.ref h), some (.int (nI k)), some (.int (nI (rN (o * 3 + k))))] [.int _, .int _]
      have e50 : g50 151 (rN (o * 3 + k)) = nI (tk1 w' y b (rN (o * 3 + k)) (s k)) := by rw [eg50]; simp [u2]
      have e51 : g50 149 (rN (o * 3 + k)) = nI (mt (rN (o * 3 + k))) := by rw [eg50, u2_ne 149 (by decide)]; exact e149
      rw [e50, e51]
      have htk4 : tk1 w' y b (rN (o * 3 + k)) (s k) < 4 := bst_lt (by decide)
      have t50 : ∀ j, j < k + 1 → g50 151 (rN (o * 3 + j)) = nI (tk1 w' y b (rN (o * 3 + j)) (s j)) := by
        intro j hj
        by_cases e : j = k
        · subst e; exact e50
        · rw [eg50]
          have : rN (o * 3 + j) ≠ rN (o * 3 + k) := fun z => e (rN_inj o ho j (by omega) k hk3 z)
          simp only [u2, this, and_false, if_false]
          exact t1 j (by omega)
      have f50 : ∀ z, z ≠ h → z ≠ 148 → z ≠ 151 → g50 z = g z := fun z h1 h2 h3 => by rw [eg50, u2_ne z h3]; exact f1 z h1 h2 h3
      have w50 : wv g50 h = w' := by rw [eg50, wv_fr (g := g1) (fun z h1 h2 => u2_ne z (by omega))]; exact w1
      have p50 : ∀ j, g50 148 j = g1 148 j := fun j => by rw [eg50, u2_ne 148 (by decide)]
      refine J_icmp_eq (tgt := 71) hS dX5_takeIn_63 (by decide) (fun c2 => ?_) (fun c2 => ?_)
      · have hcm : tk1 w' y b (rN (o * 3 + k)) (s k) = mt (rN (o * 3 + k)) := (nI_eq (by omega) (by have := (hs.2.2.2.2 _ hr3).1; omega)).mp c2
        refine J_iinc (lt := fun i2 => [some (.ref 148), some (.ref h), some (.int i2), some (.int (nI (rN (o * 3 + k))))]) (v := 1) hS dX5_takeIn_71 rfl (by decide) (fun _ => rfl) (fun i2 ei2 => ?_)
        refine J_goto (tgt := 19) hS dX5_takeIn_74 (by decide) ?_
        refine J_weak (ls' := [some (.ref 148), some (.ref h), some (.int i2), none]) ⟨Or.inr rfl, Or.inr rfl, Or.inr rfl, Or.inl rfl, trivial⟩ ?_
        refine ih (k + 1) i2 g50 (by omega) (by rw [ei2]; exact nI_1 k) f50 w50 (fun j hj => by rw [p50]; exact p1 j hj) (by rw [p50]; exact r01) ?_ t50
        rw [p50, r1]
        constructor
        · intro z j hj
          by_cases e : j = k
          · subst e; exact hcm
          · exact z j (by omega)
        · intro z j hj; exact z j (by omega)
      · have hcm : ¬ tk1 w' y b (rN (o * 3 + k)) (s k) = mt (rN (o * 3 + k)) := fun z => c2 (by rw [z])
        refine J_aload_n hS dX5_takeIn_66 rfl ?_
        refine J_iconst (v := 0) hS dX5_takeIn_67 (by decide) ?_
        refine J_putZ hS dX5_takeIn_68 fpX5_34 ob148 rfl (by decide) (fun g68 eg68 => ?_)
        refine J_iinc (lt := fun i2 => [some (.ref 148), some (.ref h), some (.int i2), some (.int (nI (rN (o * 3 + k))))]) (v := 1) hS dX5_takeIn_71 rfl (by decide) (fun _ => rfl) (fun i2 ei2 => ?_)
        refine J_goto (tgt := 19) hS dX5_takeIn_74 (by decide) ?_
        refine J_weak (ls' := [some (.ref 148), some (.ref h), some (.int i2), none]) ⟨Or.inr rfl, Or.inr rfl, Or.inr rfl, Or.inl rfl, trivial⟩ ?_
        refine ih (k + 1) i2 g68 (by omega) (by rw [ei2]; exact nI_1 k) (fun z h1 h2 h3 => by rw [eg68, u2_ne z h2]; exact f50 z h1 h2 h3) (by rw [eg68, wv_fr (g := g50) (fun z h1 h2 => u2_ne z (by omega))]; exact w50) (fun j hj => by rw [eg68]; simp only [u2, hj, and_false, if_false]; rw [p50]; exact p1 j hj) (Or.inl (by rw [eg68]; simp [u2])) ?_ (fun j hj => by rw [eg68, u2_ne 151 (by decide)]; exact t50 j hj)
        have e7 : g68 148 7 = 0 := by rw [eg68]; simp [u2]
        rw [e7]
        exact ⟨fun z => absurd z (by decide), fun z => absurd (z k (by omega)) hcm⟩
end ClsH


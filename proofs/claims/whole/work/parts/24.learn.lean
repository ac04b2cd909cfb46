/-! THE CLASS: Speech: what is learnt -/
/-- what the law says of a word and a weight, as the facts lie -/
def VG (g : Mm) (lw : Option (List Cls)) : Nat → Int32 → Int32 := fun wd v => rval lw (g 152 3) (upd (g 153) 4 v) wd
theorem VG_fr {g g' : Mm} {lw : Option (List Cls)} (e1 : g' 152 = g 152) (e2 : ∀ v, upd (g' 153) 4 v = upd (g 153) 4 v) : VG g' lw = VG g lw := by
  funext wd v; unfold VG; rw [e1, e2 v]
theorem VG_rng {g : Mm} {lw : Option (List Cls)} {wd : Nat} {v : Int32} (hw : wd < 4) : 0 ≤ VG g lw wd v ∧ VG g lw wd v ≤ 999 := rval_rng hw
theorem upd4 {f : Nat → Int32} {v v' : Int32} : upd (upd f 4 v) 4 v' = upd f 4 v' := by funext j; unfold upd; split <;> rfl
theorem lrn_0 {w : Wr} {B x : Nat} {V V' : Int32 → Int32} : lrn w B 0 x V V' = w := by
  funext i; unfold lrn; rw [if_neg (by omega)]
theorem lrn_s {w : Wr} {B k x : Nat} {V V' : Int32 → Int32} : lrn w B (k + 1) x V V' = upd (lrn w B k x V V') (B + k) (if k = x then kb (w (B + k) + V (w (B + k))) else kb (w (B + k) - V' (w (B + k)))) := by
  funext i
  unfold lrn upd
  by_cases e : i = B + k
  · subst e
    rw [if_pos (by omega), if_pos rfl]
    by_cases e2 : k = x
    · subst e2; simp
    · rw [if_neg (by omega), if_neg e2]
  · rw [if_neg e]
    dsimp only
    by_cases e2 : B ≤ i ∧ i < B + k
    · rw [if_pos e2, if_pos (by omega)]
    · rw [if_neg e2, if_neg (by omega)]
theorem lrn_at {w : Wr} {B n x i : Nat} {V V' : Int32 → Int32} (h : i < B ∨ B + n ≤ i) : lrn w B n x V V' i = w i := by unfold lrn; rw [if_neg (by omega)]
section ClsI
variable {l : Launch} {E : Ey} {g : Mm} {Q : Option Value → Mm → Prop} {X : String → Mm → Prop} {h : Nat}
theorem sub_neg (a b : Int32) : a + -b = a - b := (Int32.sub_eq_add_neg a b).symm
set_option maxRecDepth 10000 in
set_option maxHeartbeats 4000000 in
theorem c_learnSign (hW : Wo h) {b p x : Nat} {lw : Option (List Cls)} (hb : b < 24) (hb2 : g 148 1 = nI b) (hp : p < 8) (hx : x < 16) (hwt : Wt (wv g h) b) (hR0 : RuleC g lw) (q : ∀ g', (∀ z, z ≠ h + 8 → z ≠ 153 → z ≠ 154 → g' z = g z) → wv g' h = lrn (wv g h) (sgB b p) 16 x (VG g lw 0) (VG g lw 2) → (∀ v, upd (g' 153) 4 v = upd (g 153) 4 v) → Q none g') : Ct l E lay NC 3 0 0 yX5_learnSign [.ref 148, .ref h, .ref 152, .int (nI p), .int (nI x)] g Q X := by
  have hh : h + 10 < 107 := by obtain ⟨i, hi, e⟩ := hW; omega
  refine Ct_in k_yX5_learnSign (by decide) rfl (Nat.le_of_ble_eq_true rfl) rfl ?_
  intro S hS hZ hr ht hR
  show J S 0 0 g 0 [some (.ref 148), some (.ref h), some (.ref 152), some (.int (nI p)), some (.int (nI x)), none, none] []
  refine J_iconst (v := 0) hS dX5_learnSign_0 (by decide) ?_
  refine J_istore (lt := fun i1 => [some (.ref 148), some (.ref h), some (.ref 152), some (.int (nI p)), some (.int (nI x)), some (.int i1), none]) hS dX5_learnSign_1 (Nat.le_of_ble_eq_true rfl) (fun _ => rfl) (fun i1 ei1 => ?_)
  suffices H : ∀ (n k : Nat) (i : Int32) (g1 : Mm), k + n = 16 → i = nI k → (∀ z, z ≠ h + 8 → z ≠ 153 → z ≠ 154 → g1 z = g z) → wv g1 h = lrn (wv g h) (sgB b p) k x (VG g lw 0) (VG g lw 2) → (∀ v, upd (g1 153) 4 v = upd (g 153) 4 v) → J S 0 0 g1 3 [some (.ref 148), some (.ref h), some (.ref 152), some (.int (nI p)), some (.int (nI x)), some (.int i), none] [] by
    exact H 16 0 i1 g rfl ei1 (fun _ _ _ _ => rfl) (by rw [lrn_0]) (fun _ => rfl)
  intro n
  induction n with
  | zero =>
    intro k i g1 hk hi f1 w1 r1
    have hk3 : k = 16 := by omega
    subst hk3
    refine J_iload hS dX5_learnSign_3 rfl ?_
    refine J_bipush (v := 16) hS dX5_learnSign_5 (by decide) ?_
    refine J_icmp_ge (tgt := 85) hS dX5_learnSign_7 (by decide) (fun c1 => ?_) (fun c1 => ?_)
    ·
      refine J_vret hS hZ hr dX5_learnSign_85 (by omega) (by omega) ?_
      exact q g1 f1 w1 r1
    · exact absurd (by rw [hi]; decide) c1
  | succ n ih =>
    intro k i g1 hk hi f1 w1 r1
    subst hi
    have hk16 : k < 16 := by omega
    have e1 : g1 148 1 = nI b := by rw [f1 148 (by omega) (by decide) (by decide)]; exact hb2
    have ew : g1 (h + 8) ((b * 8 + p) * 16 + k) = wv g h (sgB b p + k) := by
      rw [← wv_s (g := g1) (h := h) hb hp hk16, w1, lrn_at (by omega)]
    have hR1 : RuleC g1 lw := hR0.fr (fun a ha => f1 a (by omega) (by omega) (by omega))
    have hV : VG g1 lw = VG g lw := VG_fr (f1 152 (by omega) (by decide) (by decide)) r1
    have nxt : ∀ (i' x' : Int32) (g2 : Mm), i' = nI k + 1 → (∀ z, z ≠ h + 8 → z ≠ 153 → z ≠ 154 → g2 z = g z) → wv g2 h = lrn (wv g h) (sgB b p) (k + 1) x (VG g lw 0) (VG g lw 2) → (∀ v, upd (g2 153) 4 v = upd (g 153) 4 v) → J S 0 0 g2 3 [some (.ref 148), some (.ref h), some (.ref 152), some (.int (nI p)), some (.int (nI x)), some (.int i'), some (.int x')] [] := by
      intro i' x' g2 hi' f2 w2 r2
      refine J_weak (ls' := [some (.ref 148), some (.ref h), some (.ref 152), some (.int (nI p)), some (.int (nI x)), some (.int i'), none]) ⟨Or.inr rfl, Or.inr rfl, Or.inr rfl, Or.inr rfl, Or.inr rfl, Or.inr rfl, Or.inl rfl, trivial⟩ ?_
      exact ih (k + 1) i' g2 (by omega) (by rw [hi']; exact nI_1 k) f2 w2 r2
    have upw : ∀ (g2 g3 : Mm) (v : Int32), (∀ z, z ≠ 153 → z ≠ 154 → g2 z = g1 z) → g3 = u2 g2 (h + 8) ((b * 8 + p) * 16 + k) v → v = (if k = x then kb (wv g h (sgB b p + k) + VG g lw 0 (wv g h (sgB b p + k))) else kb (wv g h (sgB b p + k) - VG g lw 2 (wv g h (sgB b p + k)))) → wv g3 h = lrn (wv g h) (sgB b p) (k + 1) x (VG g lw 0) (VG g lw 2) := by
      intro g2 g3 v e2 e3 ev
      rw [e3, wv_u2 (wx_sign hb hp hk16), wv_fr (g := g1) (g' := g2) (fun z h1 h2 => e2 z (by omega) (by omega)), w1, lrn_s, ev]; rfl
    refine J_iload hS dX5_learnSign_3 rfl ?_
    refine J_bipush (v := 16) hS dX5_learnSign_5 (by decide) ?_
    refine J_icmp_ge (tgt := 85) hS dX5_learnSign_7 (by decide) (fun c1 => ?_) (fun c1 => ?_)
    · exact absurd c1 (nI_ge (show k < 16 by omega) (by decide))
    ·
      refine J_aload_n hS dX5_learnSign_10 rfl ?_
      refine J_getR (t := h + 8) hS dX5_learnSign_11 flX5_126 hW.ob rfl ?_
      refine J_aload_n hS dX5_learnSign_14 rfl ?_
      refine J_getI hS dX5_learnSign_15 flX5_15 ob148 rfl ?_
      show J S 0 0 g1 18 [some (.ref 148), some (.ref h), some (.ref 152), some (.int (nI p)), some (.int (nI x)), some (.int (nI k)), none] [.int _, .ref (h + 8)]
      rw [e1]
      refine J_iload_n hS dX5_learnSign_18 rfl ?_
      refine J_iload hS dX5_learnSign_19 rfl ?_
      refine J_callN3 hS dX5_learnSign_21 mnX5_127 rfl (by decide) (by decide) (Nat.le_of_ble_eq_true rfl) hR (c_signIndex ?_)
      refine J_ialdN hS ((b * 8 + p) * 16 + k) dX5_learnSign_24 (show Ar lay NC .int (h + 8) 3072 from hW.ar 8 (by decide) (by decide)) (by first | rfl | (simp only [n0, n1, n2, n3, n4, n5, n6, n7, n8, n9, n10, n11, n12, n13, n14, n15, n16, n17, n18, n19, n20, n24, n32, n56, n60, n64, n72, n99, n100, n128, n136, n142, n144, n200, n300, n999, n1000, n1500, n3464, nI_add, pk_mul] <;> first | rfl | (congr 1; omega))) (by omega) (by decide) ?_
      refine J_istore (lt := fun wt => [some (.ref 148), some (.ref h), some (.ref 152), some (.int (nI p)), some (.int (nI x)), some (.int (nI k)), some (.int wt)]) hS dX5_learnSign_25 (Nat.le_of_ble_eq_true rfl) (fun _ => rfl) (fun wt ewt => ?_)
      rw [ew] at ewt
      refine J_iload hS dX5_learnSign_27 rfl ?_
      refine J_iload hS dX5_learnSign_29 rfl ?_
      refine J_icmp_ne (tgt := 55) hS dX5_learnSign_31 (by decide) (fun c2 => ?_) (fun c2 => ?_)
      · have hne : k ≠ x := fun z => c2 (by rw [z])
        refine J_iload hS dX5_learnSign_55 rfl ?_
        refine J_if_le (tgt := 79) hS dX5_learnSign_57 (by decide) (fun c3 => ?_) (fun c3 => ?_)
        · have hz : wt = 0 := Int32.le_antisymm c3 (by rw [ewt]; exact (hwt.sg hp hk16).1)
          refine J_iinc (lt := fun i2 => [some (.ref 148), some (.ref h), some (.ref 152), some (.int (nI p)), some (.int (nI x)), some (.int i2), some (.int wt)]) (v := 1) hS dX5_learnSign_79 rfl (by decide) (fun _ => rfl) (fun i2 ei2 => ?_)
          refine J_goto (tgt := 3) hS dX5_learnSign_82 (by decide) ?_
          refine nxt i2 wt g1 ei2 f1 ?_ r1
          rw [w1, lrn_s, if_neg hne, ← ewt, hz, kb_sub (VG_rng (by decide)).1 (VG_rng (by decide)).2]
          funext i
          unfold upd
          by_cases e : i = sgB b p + k
          · rw [if_pos e, e, lrn_at (by omega), ← ewt, hz]
          · rw [if_neg e]
        ·
          refine J_aload_n hS dX5_learnSign_60 rfl ?_
          refine J_aload_n hS dX5_learnSign_61 rfl ?_
          refine J_getI hS dX5_learnSign_62 flX5_15 ob148 rfl ?_
          show J S 0 0 g1 65 [some (.ref 148), some (.ref h), some (.ref 152), some (.int (nI p)), some (.int (nI x)), some (.int (nI k)), some (.int wt)] [.int _, .ref h]
          rw [e1]
          refine J_iload_n hS dX5_learnSign_65 rfl ?_
          refine J_iload hS dX5_learnSign_66 rfl ?_
          refine J_aload_n hS dX5_learnSign_68 rfl ?_
          refine J_iconst (v := 2) hS dX5_learnSign_69 (by decide) ?_
          refine J_iload hS dX5_learnSign_70 rfl ?_
          refine J_callV2 (X' := fun _ _ => False) hS dX5_learnSign_72 mvX5_130 ob152 rfl (by decide) (by decide) (Nat.le_of_ble_eq_true rfl) hR (fun _ _ q => q.elim) (c_valueOf (w := 2) (by decide) hR1 (fun g72 n1 n2 => ?_))
          have ef : rval lw (g1 152 3) (upd (g1 153) 4 wt) 2 = VG g lw 2 wt := by rw [← hV]; rfl
          show J S 0 0 g72 75 [some (.ref 148), some (.ref h), some (.ref 152), some (.int (nI p)), some (.int (nI x)), some (.int (nI k)), some (.int wt)] [.int _, .int (nI k), .int (nI p), .int _, .ref h]
          rw [ef]
          refine J_ineg hS dX5_learnSign_75 ?_
          refine J_callV4 (X' := fun _ _ => False) hS dX5_learnSign_76 mvX5_133 hW.ob rfl (by decide) (by decide) (Nat.le_of_ble_eq_true rfl) hR (fun _ _ q => q.elim) (c_addToSign hW hb hp hk16 ?_)
          refine J_iinc (lt := fun i2 => [some (.ref 148), some (.ref h), some (.ref 152), some (.int (nI p)), some (.int (nI x)), some (.int i2), some (.int wt)]) (v := 1) hS dX5_learnSign_79 rfl (by decide) (fun _ => rfl) (fun i2 ei2 => ?_)
          refine J_goto (tgt := 3) hS dX5_learnSign_82 (by decide) ?_
          refine nxt i2 wt _ ei2 (fun z h1 h2 h3 => by rw [u2_ne z h1, n1 z h2 h3]; exact f1 z h1 h2 h3) (upw g72 _ _ n1 rfl ?_) (fun v => by rw [u2_ne 153 (by omega), n2, upd4]; exact r1 v)
          rw [if_neg hne, n1 (h + 8) (by omega) (by omega), ew, sub_neg, ewt]
      · have he : k = x := (nI_eq (by omega) (by omega)).mp c2
        refine J_aload_n hS dX5_learnSign_34 rfl ?_
        refine J_aload_n hS dX5_learnSign_35 rfl ?_
        refine J_getI hS dX5_learnSign_36 flX5_15 ob148 rfl ?_
        show J S 0 0 g1 39 [some (.ref 148), some (.ref h), some (.ref 152), some (.int (nI p)), some (.int (nI x)), some (.int (nI k)), some (.int wt)] [.int _, .ref h]
        rw [e1]
        refine J_iload_n hS dX5_learnSign_39 rfl ?_
        refine J_iload hS dX5_learnSign_40 rfl ?_
        refine J_aload_n hS dX5_learnSign_42 rfl ?_
        refine J_iconst (v := 0) hS dX5_learnSign_43 (by decide) ?_
        refine J_iload hS dX5_learnSign_44 rfl ?_
        refine J_callV2 (X' := fun _ _ => False) hS dX5_learnSign_46 mvX5_130 ob152 rfl (by decide) (by decide) (Nat.le_of_ble_eq_true rfl) hR (fun _ _ q => q.elim) (c_valueOf (w := 0) (by decide) hR1 (fun g46 n1 n2 => ?_))
        have ef : rval lw (g1 152 3) (upd (g1 153) 4 wt) 0 = VG g lw 0 wt := by rw [← hV]; rfl
        show J S 0 0 g46 49 [some (.ref 148), some (.ref h), some (.ref 152), some (.int (nI p)), some (.int (nI x)), some (.int (nI k)), some (.int wt)] [.int _, .int (nI k), .int (nI p), .int _, .ref h]
        rw [ef]
        refine J_callV4 (X' := fun _ _ => False) hS dX5_learnSign_49 mvX5_133 hW.ob rfl (by decide) (by decide) (Nat.le_of_ble_eq_true rfl) hR (fun _ _ q => q.elim) (c_addToSign hW hb hp hk16 ?_)
        refine J_goto (tgt := 79) hS dX5_learnSign_52 (by decide) ?_
        refine J_iinc (lt := fun i2 => [some (.ref 148), some (.ref h), some (.ref 152), some (.int (nI p)), some (.int (nI x)), some (.int i2), some (.int wt)]) (v := 1) hS dX5_learnSign_79 rfl (by decide) (fun _ => rfl) (fun i2 ei2 => ?_)
        refine J_goto (tgt := 3) hS dX5_learnSign_82 (by decide) ?_
        refine nxt i2 wt _ ei2 (fun z h1 h2 h3 => by rw [u2_ne z h1, n1 z h2 h3]; exact f1 z h1 h2 h3) (upw g46 _ _ n1 rfl ?_) (fun v => by rw [u2_ne 153 (by omega), n2, upd4]; exact r1 v)
        rw [if_pos he, n1 (h + 8) (by omega) (by omega), ew, ewt]
end ClsI


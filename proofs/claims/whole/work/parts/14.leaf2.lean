/-! THE CLASS: more of World -/
/-- both of a couple are worn -/
def wrn (g : Mm) (h y s : Nat) : Prop := ¬ g (h + 10) (y * 16 + s / 2 * 2) < g h 3 ∧ ¬ g (h + 10) (y * 16 + s / 2 * 2 + 1) < g h 3
theorem wrn_dec (g : Mm) (h y s : Nat) : wrn g h y s ∨ ¬ wrn g h y s := Classical.em _
noncomputable def wrb (g : Mm) (h y s : Nat) : Bool := decide (¬ g (h + 10) (y * 16 + s / 2 * 2) < g h 3) && decide (¬ g (h + 10) (y * 16 + s / 2 * 2 + 1) < g h 3)
theorem wrb_iff {g : Mm} {h y s : Nat} : wrb g h y s = true ↔ wrn g h y s := by simp [wrb, wrn]
/-- what a sign is seen as -/
noncomputable def sna (g : Mm) (h y s : Nat) : Nat := if wrb g h y s then s / 2 * 2 else s
theorem sna_lt {g : Mm} {h y s : Nat} (hs : s < 16) : sna g h y s < 16 := by unfold sna; split <;> omega
noncomputable def wsn (g : Mm) (h y c p s : Nat) : Int32 := if wrb g h y s then g (h + 8) ((c * 8 + p) * 16 + s / 2 * 2) + g (h + 8) ((c * 8 + p) * 16 + s / 2 * 2 + 1) else g (h + 8) ((c * 8 + p) * 16 + s)
section ClsB
variable {l : Launch} {E : Ey} {g : Mm} {Q : Option Value → Mm → Prop} {X : String → Mm → Prop} {h : Nat}
theorem half_nI {s : Nat} (hs : s < 2 ^ 31) : nI s / 2 * 2 = nI (s / 2 * 2) := by
  rw [show nI s / 2 = nI (s / 2) from pk_div hs (by decide) (by decide)]; exact pk_mul _ _
set_option maxRecDepth 10000 in
theorem c_heaviestOrder (hW : Wo h) {c : Nat} (hc : c < 24) (q : Q (some (.int (hvy (fun s => g (h + 9) (c * 6 + s)) 6))) g) : Ct l E lay NC 0 0 0 yX6_heaviestOrder [.ref h, .int (nI c)] g Q X := by
  refine Ct_in k_yX6_heaviestOrder (by decide) rfl (Nat.le_of_ble_eq_true rfl) rfl ?_
  intro S hS hZ hr ht hR
  show J S 0 0 g 0 [some (.ref h), some (.int (nI c)), none, none, none, none] []
  refine J_iconst (v := (-1)) hS dX6_heaviestOrder_0 (by decide) ?_
  refine J_istore_n (lt := fun b1 => [some (.ref h), some (.int (nI c)), some (.int b1), none, none, none]) hS dX6_heaviestOrder_1 (Nat.le_of_ble_eq_true rfl) (fun _ => rfl) (fun b1 eb1 => ?_)
  refine J_iconst (v := 0) hS dX6_heaviestOrder_2 (by decide) ?_
  refine J_istore_n (lt := fun m1 => [some (.ref h), some (.int (nI c)), some (.int b1), some (.int m1), none, none]) hS dX6_heaviestOrder_3 (Nat.le_of_ble_eq_true rfl) (fun _ => rfl) (fun m1 em1 => ?_)
  refine J_iconst (v := 0) hS dX6_heaviestOrder_4 (by decide) ?_
  refine J_istore (lt := fun i1 => [some (.ref h), some (.int (nI c)), some (.int b1), some (.int m1), some (.int i1), none]) hS dX6_heaviestOrder_5 (Nat.le_of_ble_eq_true rfl) (fun _ => rfl) (fun i1 ei1 => ?_)
  obtain ⟨f, hf⟩ : ∃ f : Nat → Int32, f = fun s => g (h + 9) (c * 6 + s) := ⟨_, rfl⟩
  rw [← hf] at q
  suffices H : ∀ (r k : Nat) (b m i : Int32), k + r = 6 → i = nI k → (b, m) = hvs f k → J S 0 0 g 7 [some (.ref h), some (.int (nI c)), some (.int b), some (.int m), some (.int i), none] [] by
    exact H 6 0 b1 m1 i1 rfl ei1 (by rw [eb1, em1]; rfl)
  intro r
  induction r with
  | zero =>
    intro k b m i hk hi hb
    refine J_iload hS dX6_heaviestOrder_7 rfl ?_
    refine J_bipush (v := 6) hS dX6_heaviestOrder_9 (by decide) ?_
    refine J_icmp_ge (tgt := 46) hS dX6_heaviestOrder_11 (by decide) (fun c1 => ?_) (fun c1 => ?_)
    ·
      refine J_iload_n hS dX6_heaviestOrder_46 rfl ?_
      refine J_iret hS hZ hr dX6_heaviestOrder_47 (by omega) (by omega) ?_
      rw [show b = hvy f 6 from by rw [← hvs_end (by decide), show (6 : Nat) = k by omega, ← hb]]
      exact q
    · exact absurd (by rw [hi, show k = 6 by omega]; decide) c1
  | succ r ih =>
    intro k b m i hk hi hb
    refine J_iload hS dX6_heaviestOrder_7 rfl ?_
    refine J_bipush (v := 6) hS dX6_heaviestOrder_9 (by decide) ?_
    refine J_icmp_ge (tgt := 46) hS dX6_heaviestOrder_11 (by decide) (fun c1 => ?_) (fun c1 => ?_)
    · exact absurd (by rw [hi] at c1; exact c1) (nI_ge (show k < 6 by omega) (by decide))
    · subst hi
      refine J_aload_n hS dX6_heaviestOrder_14 rfl ?_
      refine J_getR (t := h + 9) hS dX6_heaviestOrder_15 flX6_58 hW.ob rfl ?_
      refine J_iload_n hS dX6_heaviestOrder_18 rfl ?_
      refine J_bipush (v := 6) hS dX6_heaviestOrder_19 (by decide) ?_
      refine J_imul hS dX6_heaviestOrder_21 ?_
      refine J_iload hS dX6_heaviestOrder_22 rfl ?_
      refine J_iadd hS dX6_heaviestOrder_24 ?_
      refine J_ialdN hS (c * 6 + k) dX6_heaviestOrder_25 (show Ar lay NC .int (h + 9) 144 from hW.ar 9 (by decide) (by decide)) (by first | rfl | (simp only [n0, n1, n2, n3, n4, n5, n6, n7, n8, n9, n10, n11, n12, n13, n14, n15, n16, n17, n18, n19, n20, n24, n32, n56, n60, n64, n72, n99, n100, n128, n136, n142, n144, n200, n300, n999, n1000, n1500, n3464, nI_add, pk_mul] <;> first | rfl | (congr 1; omega))) (by omega) (by decide) ?_
      refine J_istore (lt := fun w => [some (.ref h), some (.int (nI c)), some (.int b), some (.int m), some (.int (nI k)), some (.int w)]) hS dX6_heaviestOrder_26 (Nat.le_of_ble_eq_true rfl) (fun _ => rfl) (fun w ew => ?_)
      refine J_iload hS dX6_heaviestOrder_28 rfl ?_
      refine J_iload_n hS dX6_heaviestOrder_30 rfl ?_
      have hs := hvs_step (f := f) (i := k)
      rw [← hb] at hs
      have ew' : w = f k := by rw [ew, hf]
      refine J_icmp_le (tgt := 40) hS dX6_heaviestOrder_31 (by decide) (fun c2 => ?_) (fun c2 => ?_)
      ·
        refine J_iinc (lt := fun i2 => [some (.ref h), some (.int (nI c)), some (.int b), some (.int m), some (.int i2), some (.int w)]) (v := 1) hS dX6_heaviestOrder_40 rfl (by decide) (fun _ => rfl) (fun i2 ei2 => ?_)
        refine J_goto (tgt := 7) hS dX6_heaviestOrder_43 (by decide) ?_
        refine J_weak (ls' := [some (.ref h), some (.int (nI c)), some (.int b), some (.int m), some (.int i2), none]) ⟨Or.inr rfl, Or.inr rfl, Or.inr rfl, Or.inr rfl, Or.inr rfl, Or.inl rfl, trivial⟩ ?_
        refine ih (k + 1) b m i2 (by omega) (by rw [ei2]; exact nI_1 k) ?_
        rw [hs, if_neg]
        rw [← ew']; exact Int32.not_lt.mpr c2
      ·
        refine J_iload hS dX6_heaviestOrder_34 rfl ?_
        refine J_istore_n (lt := fun m2 => [some (.ref h), some (.int (nI c)), some (.int b), some (.int m2), some (.int (nI k)), some (.int w)]) hS dX6_heaviestOrder_36 (Nat.le_of_ble_eq_true rfl) (fun _ => rfl) (fun m2 em2 => ?_)
        refine J_iload hS dX6_heaviestOrder_37 rfl ?_
        refine J_istore_n (lt := fun b2 => [some (.ref h), some (.int (nI c)), some (.int b2), some (.int m2), some (.int (nI k)), some (.int w)]) hS dX6_heaviestOrder_39 (Nat.le_of_ble_eq_true rfl) (fun _ => rfl) (fun b2 eb2 => ?_)
        refine J_iinc (lt := fun i2 => [some (.ref h), some (.int (nI c)), some (.int b2), some (.int m2), some (.int i2), some (.int w)]) (v := 1) hS dX6_heaviestOrder_40 rfl (by decide) (fun _ => rfl) (fun i2 ei2 => ?_)
        refine J_goto (tgt := 7) hS dX6_heaviestOrder_43 (by decide) ?_
        refine J_weak (ls' := [some (.ref h), some (.int (nI c)), some (.int b2), some (.int m2), some (.int i2), none]) ⟨Or.inr rfl, Or.inr rfl, Or.inr rfl, Or.inr rfl, Or.inr rfl, Or.inl rfl, trivial⟩ ?_
        refine ih (k + 1) b2 m2 i2 (by omega) (by rw [ei2]; exact nI_1 k) ?_
        rw [hs, if_pos, eb2, em2, ew']
        rw [← ew']; exact Int32.not_le.mp c2
set_option maxRecDepth 10000 in
theorem c_areBothWorn (hW : Wo h) {y s : Nat} (hy : y < 3) (hs : s < 16) (q : Q (some (.int (if wrb g h y s then 1 else 0))) g) : Ct l E lay NC 0 0 0 yX6_areBothWorn [.ref h, .int (nI y), .int (nI s)] g Q X := by
  refine Ct_in k_yX6_areBothWorn (by decide) rfl (Nat.le_of_ble_eq_true rfl) rfl ?_
  intro S hS hZ hr ht hR
  show J S 0 0 g 0 [some (.ref h), some (.int (nI y)), some (.int (nI s)), none] []
  refine J_iload_n hS dX6_areBothWorn_0 rfl ?_
  refine J_bipush (v := 16) hS dX6_areBothWorn_1 (by decide) ?_
  refine J_imul hS dX6_areBothWorn_3 ?_
  refine J_iload_n hS dX6_areBothWorn_4 rfl ?_
  refine J_iconst (v := 2) hS dX6_areBothWorn_5 (by decide) ?_
  refine J_idiv hS dX6_areBothWorn_6 (by decide) ?_
  refine J_iconst (v := 2) hS dX6_areBothWorn_7 (by decide) ?_
  refine J_imul hS dX6_areBothWorn_8 ?_
  refine J_iadd hS dX6_areBothWorn_9 ?_
  refine J_istore_n (lt := fun z => [some (.ref h), some (.int (nI y)), some (.int (nI s)), some (.int z)]) hS dX6_areBothWorn_10 (Nat.le_of_ble_eq_true rfl) (fun _ => rfl) (fun z ez => ?_)
  have ez' : z = nI (y * 16 + s / 2 * 2) := by rw [ez, half_nI (by omega)]; simp only [n16, pk_mul, nI_add]
  subst ez'
  refine J_aload_n hS dX6_areBothWorn_11 rfl ?_
  refine J_getR (t := h + 10) hS dX6_areBothWorn_12 flX6_61 hW.ob rfl ?_
  refine J_iload_n hS dX6_areBothWorn_15 rfl ?_
  refine J_ialdN hS (y * 16 + s / 2 * 2) dX6_areBothWorn_16 (show Ar lay NC .int (h + 10) 48 from hW.ar 10 (by decide) (by decide)) (by first | rfl | (simp only [n0, n1, n2, n3, n4, n5, n6, n7, n8, n9, n10, n11, n12, n13, n14, n15, n16, n17, n18, n19, n20, n24, n32, n56, n60, n64, n72, n99, n100, n128, n136, n142, n144, n200, n300, n999, n1000, n1500, n3464, nI_add, pk_mul] <;> first | rfl | (congr 1; omega))) (by omega) (by decide) ?_
  refine J_aload_n hS dX6_areBothWorn_17 rfl ?_
  refine J_getI hS dX6_areBothWorn_18 flX6_21 hW.ob rfl ?_
  refine J_icmp_lt (tgt := 43) hS dX6_areBothWorn_21 (by decide) (fun c1 => ?_) (fun c1 => ?_)
  ·
    refine J_iconst (v := 0) hS dX6_areBothWorn_43 (by decide) ?_
    refine J_zret hS hZ hr dX6_areBothWorn_44 (by decide) (by omega) (by omega) ?_
    rw [if_neg (by rw [wrb_iff]; exact fun q => q.1 c1)] at q; exact q
  ·
    refine J_aload_n hS dX6_areBothWorn_24 rfl ?_
    refine J_getR (t := h + 10) hS dX6_areBothWorn_25 flX6_61 hW.ob rfl ?_
    refine J_iload_n hS dX6_areBothWorn_28 rfl ?_
    refine J_iconst (v := 1) hS dX6_areBothWorn_29 (by decide) ?_
    refine J_iadd hS dX6_areBothWorn_30 ?_
    refine J_ialdN hS (y * 16 + s / 2 * 2 + 1) dX6_areBothWorn_31 (show Ar lay NC .int (h + 10) 48 from hW.ar 10 (by decide) (by decide)) (by first | rfl | (simp only [n0, n1, n2, n3, n4, n5, n6, n7, n8, n9, n10, n11, n12, n13, n14, n15, n16, n17, n18, n19, n20, n24, n32, n56, n60, n64, n72, n99, n100, n128, n136, n142, n144, n200, n300, n999, n1000, n1500, n3464, nI_add, pk_mul] <;> first | rfl | (congr 1; omega))) (by omega) (by decide) ?_
    refine J_aload_n hS dX6_areBothWorn_32 rfl ?_
    refine J_getI hS dX6_areBothWorn_33 flX6_21 hW.ob rfl ?_
    refine J_icmp_lt (tgt := 43) hS dX6_areBothWorn_36 (by decide) (fun c2 => ?_) (fun c2 => ?_)
    ·
      refine J_iconst (v := 0) hS dX6_areBothWorn_43 (by decide) ?_
      refine J_zret hS hZ hr dX6_areBothWorn_44 (by decide) (by omega) (by omega) ?_
      rw [if_neg (by rw [wrb_iff]; exact fun q => q.2 c2)] at q; exact q
    ·
      refine J_iconst (v := 1) hS dX6_areBothWorn_39 (by decide) ?_
      refine J_goto (tgt := 44) hS dX6_areBothWorn_40 (by decide) ?_
      refine J_zret hS hZ hr dX6_areBothWorn_44 (by decide) (by omega) (by omega) ?_
      rw [if_pos (by rw [wrb_iff]; exact ⟨c1, c2⟩)] at q; exact q
set_option maxRecDepth 10000 in
theorem c_seenAs (hW : Wo h) {y s : Nat} (hy : y < 3) (hs : s < 16) (q : Q (some (.int (nI (sna g h y s)))) g) : Ct l E lay NC 1 0 0 yX6_seenAs [.ref h, .int (nI y), .int (nI s)] g Q X := by
  refine Ct_in k_yX6_seenAs (by decide) rfl (Nat.le_of_ble_eq_true rfl) rfl ?_
  intro S hS hZ hr ht hR
  show J S 0 0 g 0 [some (.ref h), some (.int (nI y)), some (.int (nI s))] []
  refine J_aload_n hS dX6_seenAs_0 rfl ?_
  refine J_iload_n hS dX6_seenAs_1 rfl ?_
  refine J_iload_n hS dX6_seenAs_2 rfl ?_
  refine J_callV2 (X' := fun _ _ => False) hS dX6_seenAs_3 mvX6_103 hW.ob rfl (by decide) (by decide) (Nat.le_of_ble_eq_true rfl) hR (fun _ _ q => q.elim) (c_areBothWorn hW hy hs ?_)
  refine J_if_eq (tgt := 17) hS dX6_seenAs_6 (by decide) (fun c1 => ?_) (fun c1 => ?_)
  ·
    refine J_iload_n hS dX6_seenAs_17 rfl ?_
    refine J_iret hS hZ hr dX6_seenAs_18 (by omega) (by omega) ?_
    have : wrb g h y s = false := by cases e : wrb g h y s with
      | false => rfl
      | true => simp [e] at c1
    simpa [sna, this] using q
  ·
    refine J_iload_n hS dX6_seenAs_9 rfl ?_
    refine J_iconst (v := 2) hS dX6_seenAs_10 (by decide) ?_
    refine J_idiv hS dX6_seenAs_11 (by decide) ?_
    refine J_iconst (v := 2) hS dX6_seenAs_12 (by decide) ?_
    refine J_imul hS dX6_seenAs_13 ?_
    refine J_goto (tgt := 18) hS dX6_seenAs_14 (by decide) ?_
    refine J_top (half_nI (by omega)) ?_
    refine J_iret hS hZ hr dX6_seenAs_18 (by omega) (by omega) ?_
    have : wrb g h y s = true := by cases e : wrb g h y s with
      | true => rfl
      | false => simp [e] at c1
    simpa [sna, this] using q
set_option maxRecDepth 10000 in
theorem c_weightSeen (hW : Wo h) {c p y s : Nat} (hc : c < 24) (hp : p < 8) (hs : s < 16) (hy : y < 3) (hyd : g (h + 1) c = nI y) (q : Q (some (.int (wsn g h y c p s))) g) : Ct l E lay NC 1 0 0 yX6_weightSeen [.ref h, .int (nI c), .int (nI p), .int (nI s)] g Q X := by
  refine Ct_in k_yX6_weightSeen (by decide) rfl (Nat.le_of_ble_eq_true rfl) rfl ?_
  intro S hS hZ hr ht hR
  show J S 0 0 g 0 [some (.ref h), some (.int (nI c)), some (.int (nI p)), some (.int (nI s)), none] []
  refine J_aload_n hS dX6_weightSeen_0 rfl ?_
  refine J_aload_n hS dX6_weightSeen_1 rfl ?_
  refine J_getR (t := h + 1) hS dX6_weightSeen_2 flX6_33 hW.ob rfl ?_
  refine J_iload_n hS dX6_weightSeen_5 rfl ?_
  refine J_ialdN hS (c) dX6_weightSeen_6 (show Ar lay NC .int (h + 1) 24 from hW.ar 1 (by decide) (by decide)) (by first | rfl | (simp only [n0, n1, n2, n3, n4, n5, n6, n7, n8, n9, n10, n11, n12, n13, n14, n15, n16, n17, n18, n19, n20, n24, n32, n56, n60, n64, n72, n99, n100, n128, n136, n142, n144, n200, n300, n999, n1000, n1500, n3464, nI_add, pk_mul] <;> first | rfl | (congr 1; omega))) hc (by decide) ?_
  refine J_top hyd ?_
  refine J_iload_n hS dX6_weightSeen_7 rfl ?_
  refine J_callV2 (X' := fun _ _ => False) hS dX6_weightSeen_8 mvX6_103 hW.ob rfl (by decide) (by decide) (Nat.le_of_ble_eq_true rfl) hR (fun _ _ q => q.elim) (c_areBothWorn hW hy hs ?_)
  refine J_if_eq (tgt := 44) hS dX6_weightSeen_11 (by decide) (fun c1 => ?_) (fun c1 => ?_)
  ·
    refine J_aload_n hS dX6_weightSeen_44 rfl ?_
    refine J_getR (t := h + 8) hS dX6_weightSeen_45 flX6_55 hW.ob rfl ?_
    refine J_iload_n hS dX6_weightSeen_48 rfl ?_
    refine J_iload_n hS dX6_weightSeen_49 rfl ?_
    refine J_iload_n hS dX6_weightSeen_50 rfl ?_
    refine J_callN3 hS dX6_weightSeen_51 mnX6_83 rfl (by decide) (by decide) (Nat.le_of_ble_eq_true rfl) hR (c_signIndex ?_)
    refine J_ialdN hS ((c * 8 + p) * 16 + s) dX6_weightSeen_54 (show Ar lay NC .int (h + 8) 3072 from hW.ar 8 (by decide) (by decide)) (by first | rfl | (simp only [n0, n1, n2, n3, n4, n5, n6, n7, n8, n9, n10, n11, n12, n13, n14, n15, n16, n17, n18, n19, n20, n24, n32, n56, n60, n64, n72, n99, n100, n128, n136, n142, n144, n200, n300, n999, n1000, n1500, n3464, nI_add, pk_mul] <;> first | rfl | (congr 1; omega))) (by omega) (by decide) ?_
    refine J_iret hS hZ hr dX6_weightSeen_55 (by omega) (by omega) ?_
    have : wrb g h y s = false := by cases e : wrb g h y s with
      | false => rfl
      | true => simp [e] at c1
    simpa [wsn, this] using q
  ·
    refine J_iload_n hS dX6_weightSeen_14 rfl ?_
    refine J_iload_n hS dX6_weightSeen_15 rfl ?_
    refine J_iload_n hS dX6_weightSeen_16 rfl ?_
    refine J_iconst (v := 2) hS dX6_weightSeen_17 (by decide) ?_
    refine J_idiv hS dX6_weightSeen_18 (by decide) ?_
    refine J_iconst (v := 2) hS dX6_weightSeen_19 (by decide) ?_
    refine J_imul hS dX6_weightSeen_20 ?_
    refine J_top (half_nI (by omega)) ?_
    refine J_callN3 hS dX6_weightSeen_21 mnX6_83 rfl (by decide) (by decide) (Nat.le_of_ble_eq_true rfl) hR (c_signIndex (s := s / 2 * 2) ?_)
    refine J_istore (lt := fun z => [some (.ref h), some (.int (nI c)), some (.int (nI p)), some (.int (nI s)), some (.int z)]) hS dX6_weightSeen_24 (Nat.le_of_ble_eq_true rfl) (fun _ => rfl) (fun z ez => ?_)
    subst ez
    refine J_aload_n hS dX6_weightSeen_26 rfl ?_
    refine J_getR (t := h + 8) hS dX6_weightSeen_27 flX6_55 hW.ob rfl ?_
    refine J_iload hS dX6_weightSeen_30 rfl ?_
    refine J_ialdN hS ((c * 8 + p) * 16 + s / 2 * 2) dX6_weightSeen_32 (show Ar lay NC .int (h + 8) 3072 from hW.ar 8 (by decide) (by decide)) (by first | rfl | (simp only [n0, n1, n2, n3, n4, n5, n6, n7, n8, n9, n10, n11, n12, n13, n14, n15, n16, n17, n18, n19, n20, n24, n32, n56, n60, n64, n72, n99, n100, n128, n136, n142, n144, n200, n300, n999, n1000, n1500, n3464, nI_add, pk_mul] <;> first | rfl | (congr 1; omega))) (by omega) (by decide) ?_
    refine J_aload_n hS dX6_weightSeen_33 rfl ?_
    refine J_getR (t := h + 8) hS dX6_weightSeen_34 flX6_55 hW.ob rfl ?_
    refine J_iload hS dX6_weightSeen_37 rfl ?_
    refine J_iconst (v := 1) hS dX6_weightSeen_39 (by decide) ?_
    refine J_iadd hS dX6_weightSeen_40 ?_
    refine J_ialdN hS ((c * 8 + p) * 16 + s / 2 * 2 + 1) dX6_weightSeen_41 (show Ar lay NC .int (h + 8) 3072 from hW.ar 8 (by decide) (by decide)) (by first | rfl | (simp only [n0, n1, n2, n3, n4, n5, n6, n7, n8, n9, n10, n11, n12, n13, n14, n15, n16, n17, n18, n19, n20, n24, n32, n56, n60, n64, n72, n99, n100, n128, n136, n142, n144, n200, n300, n999, n1000, n1500, n3464, nI_add, pk_mul] <;> first | rfl | (congr 1; omega))) (by omega) (by decide) ?_
    refine J_iadd hS dX6_weightSeen_42 ?_
    refine J_iret hS hZ hr dX6_weightSeen_43 (by omega) (by omega) ?_
    have : wrb g h y s = true := by cases e : wrb g h y s with
      | true => rfl
      | false => simp [e] at c1
    simpa [wsn, this] using q
set_option maxRecDepth 10000 in
theorem c_addToSign (hW : Wo h) {c p s : Nat} {x : Int32} (hc : c < 24) (hp : p < 8) (hs : s < 16) (q : Q none (u2 g (h + 8) ((c * 8 + p) * 16 + s) (kb (g (h + 8) ((c * 8 + p) * 16 + s) + x)))) : Ct l E lay NC 2 0 0 yX6_addToSign [.ref h, .int (nI c), .int (nI p), .int (nI s), .int x] g Q X := by
  refine Ct_in k_yX6_addToSign (by decide) rfl (Nat.le_of_ble_eq_true rfl) rfl ?_
  intro S hS hZ hr ht hR
  show J S 0 0 g 0 [some (.ref h), some (.int (nI c)), some (.int (nI p)), some (.int (nI s)), some (.int x), none] []
  refine J_iload_n hS dX6_addToSign_0 rfl ?_
  refine J_iload_n hS dX6_addToSign_1 rfl ?_
  refine J_iload_n hS dX6_addToSign_2 rfl ?_
  refine J_callN3 hS dX6_addToSign_3 mnX6_83 rfl (by decide) (by decide) (Nat.le_of_ble_eq_true rfl) hR (c_signIndex ?_)
  refine J_istore (lt := fun z => [some (.ref h), some (.int (nI c)), some (.int (nI p)), some (.int (nI s)), some (.int x), some (.int z)]) hS dX6_addToSign_6 (Nat.le_of_ble_eq_true rfl) (fun _ => rfl) (fun z ez => ?_)
  subst ez
  refine J_aload_n hS dX6_addToSign_8 rfl ?_
  refine J_getR (t := h + 8) hS dX6_addToSign_9 flX6_55 hW.ob rfl ?_
  refine J_iload hS dX6_addToSign_12 rfl ?_
  refine J_aload_n hS dX6_addToSign_14 rfl ?_
  refine J_getR (t := h + 8) hS dX6_addToSign_15 flX6_55 hW.ob rfl ?_
  refine J_iload hS dX6_addToSign_18 rfl ?_
  refine J_ialdN hS ((c * 8 + p) * 16 + s) dX6_addToSign_20 (show Ar lay NC .int (h + 8) 3072 from hW.ar 8 (by decide) (by decide)) (by first | rfl | (simp only [n0, n1, n2, n3, n4, n5, n6, n7, n8, n9, n10, n11, n12, n13, n14, n15, n16, n17, n18, n19, n20, n24, n32, n56, n60, n64, n72, n99, n100, n128, n136, n142, n144, n200, n300, n999, n1000, n1500, n3464, nI_add, pk_mul] <;> first | rfl | (congr 1; omega))) (by omega) (by decide) ?_
  refine J_iload hS dX6_addToSign_21 rfl ?_
  refine J_iadd hS dX6_addToSign_23 ?_
  refine J_callN1 hS dX6_addToSign_24 mnX6_109 rfl (by decide) (by decide) (Nat.le_of_ble_eq_true rfl) hR (c_keepInBounds ?_)
  refine J_iastN hS ((c * 8 + p) * 16 + s) dX6_addToSign_27 (show Ar lay NC .int (h + 8) 3072 from hW.ar 8 (by decide) (by decide)) (by first | rfl | (simp only [n0, n1, n2, n3, n4, n5, n6, n7, n8, n9, n10, n11, n12, n13, n14, n15, n16, n17, n18, n19, n20, n24, n32, n56, n60, n64, n72, n99, n100, n128, n136, n142, n144, n200, n300, n999, n1000, n1500, n3464, nI_add, pk_mul] <;> first | rfl | (congr 1; omega))) (by omega) (by decide) (fun g27 eg27 => ?_)
  refine J_vret hS hZ hr dX6_addToSign_28 (by omega) (by omega) ?_
  rw [eg27]; exact q
set_option maxRecDepth 10000 in
theorem c_addToOrder (hW : Wo h) {c o : Nat} {x : Int32} (hc : c < 24) (ho : o < 6) (q : Q none (u2 g (h + 9) (c * 6 + o) (kb (g (h + 9) (c * 6 + o) + x)))) : Ct l E lay NC 2 0 0 yX6_addToOrder [.ref h, .int (nI c), .int (nI o), .int x] g Q X := by
  refine Ct_in k_yX6_addToOrder (by decide) rfl (Nat.le_of_ble_eq_true rfl) rfl ?_
  intro S hS hZ hr ht hR
  show J S 0 0 g 0 [some (.ref h), some (.int (nI c)), some (.int (nI o)), some (.int x), none] []
  refine J_iload_n hS dX6_addToOrder_0 rfl ?_
  refine J_bipush (v := 6) hS dX6_addToOrder_1 (by decide) ?_
  refine J_imul hS dX6_addToOrder_3 ?_
  refine J_iload_n hS dX6_addToOrder_4 rfl ?_
  refine J_iadd hS dX6_addToOrder_5 ?_
  refine J_istore (lt := fun z => [some (.ref h), some (.int (nI c)), some (.int (nI o)), some (.int x), some (.int z)]) hS dX6_addToOrder_6 (Nat.le_of_ble_eq_true rfl) (fun _ => rfl) (fun z ez => ?_)
  have ez' : z = nI (c * 6 + o) := by rw [ez]; simp only [n6, pk_mul, nI_add]
  subst ez'
  refine J_aload_n hS dX6_addToOrder_8 rfl ?_
  refine J_getR (t := h + 9) hS dX6_addToOrder_9 flX6_58 hW.ob rfl ?_
  refine J_iload hS dX6_addToOrder_12 rfl ?_
  refine J_aload_n hS dX6_addToOrder_14 rfl ?_
  refine J_getR (t := h + 9) hS dX6_addToOrder_15 flX6_58 hW.ob rfl ?_
  refine J_iload hS dX6_addToOrder_18 rfl ?_
  refine J_ialdN hS (c * 6 + o) dX6_addToOrder_20 (show Ar lay NC .int (h + 9) 144 from hW.ar 9 (by decide) (by decide)) (by first | rfl | (simp only [n0, n1, n2, n3, n4, n5, n6, n7, n8, n9, n10, n11, n12, n13, n14, n15, n16, n17, n18, n19, n20, n24, n32, n56, n60, n64, n72, n99, n100, n128, n136, n142, n144, n200, n300, n999, n1000, n1500, n3464, nI_add, pk_mul] <;> first | rfl | (congr 1; omega))) (by omega) (by decide) ?_
  refine J_iload_n hS dX6_addToOrder_21 rfl ?_
  refine J_iadd hS dX6_addToOrder_22 ?_
  refine J_callN1 hS dX6_addToOrder_23 mnX6_109 rfl (by decide) (by decide) (Nat.le_of_ble_eq_true rfl) hR (c_keepInBounds ?_)
  refine J_iastN hS (c * 6 + o) dX6_addToOrder_26 (show Ar lay NC .int (h + 9) 144 from hW.ar 9 (by decide) (by decide)) (by first | rfl | (simp only [n0, n1, n2, n3, n4, n5, n6, n7, n8, n9, n10, n11, n12, n13, n14, n15, n16, n17, n18, n19, n20, n24, n32, n56, n60, n64, n72, n99, n100, n128, n136, n142, n144, n200, n300, n999, n1000, n1500, n3464, nI_add, pk_mul] <;> first | rfl | (congr 1; omega))) (by omega) (by decide) (fun g26 eg26 => ?_)
  refine J_vret hS hZ hr dX6_addToOrder_27 (by omega) (by omega) ?_
  rw [eg26]; exact q
/-- who is there in a yard -/
def thr (g : Mm) (h : Nat) (y : Int32) : Nat → Bool := fun c => decide (g (h + 5) c = 1 ∧ g (h + 1) c = y)
theorem thr_b01 {g : Mm} {h c : Nat} {y : Int32} : b01 (g (h + 5) c = 1 ∧ g (h + 1) c = y) = (if thr g h y c then 1 else 0) := by
  unfold b01 thr
  by_cases e : g (h + 5) c = 1 ∧ g (h + 1) c = y <;> simp [e]
set_option maxRecDepth 10000 in
theorem c_countThere (hW : Wo h) {n : Nat} {y : Int32} (hn : n ≤ 24) (hm : g h 6 = nI n) (q : Q (some (.int (nI (here (thr g h y) n).length))) g) : Ct l E lay NC 1 0 0 yX6_countThere [.ref h, .int y] g Q X := by
  refine Ct_in k_yX6_countThere (by decide) rfl (Nat.le_of_ble_eq_true rfl) rfl ?_
  intro S hS hZ hr ht hR
  show J S 0 0 g 0 [some (.ref h), some (.int y), none, none] []
  refine J_iconst (v := 0) hS dX6_countThere_0 (by decide) ?_
  refine J_istore_n (lt := fun b1 => [some (.ref h), some (.int y), some (.int b1), none]) hS dX6_countThere_1 (Nat.le_of_ble_eq_true rfl) (fun _ => rfl) (fun b1 eb1 => ?_)
  refine J_iconst (v := 0) hS dX6_countThere_2 (by decide) ?_
  refine J_istore_n (lt := fun i1 => [some (.ref h), some (.int y), some (.int b1), some (.int i1)]) hS dX6_countThere_3 (Nat.le_of_ble_eq_true rfl) (fun _ => rfl) (fun i1 ei1 => ?_)
  suffices H : ∀ (r k : Nat) (b i : Int32), k + r = n → i = nI k → b = nI (here (thr g h y) k).length → J S 0 0 g 4 [some (.ref h), some (.int y), some (.int b), some (.int i)] [] by
    exact H n 0 b1 i1 (by omega) ei1 (by rw [eb1]; rfl)
  intro r
  induction r with
  | zero =>
    intro k b i hk hi hb
    refine J_iload_n hS dX6_countThere_4 rfl ?_
    refine J_aload_n hS dX6_countThere_5 rfl ?_
    refine J_getI hS dX6_countThere_6 flX6_30 hW.ob rfl ?_
    refine J_icmp_ge (tgt := 30) hS dX6_countThere_9 (by decide) (fun c1 => ?_) (fun c1 => ?_)
    ·
      refine J_iload_n hS dX6_countThere_30 rfl ?_
      refine J_iret hS hZ hr dX6_countThere_31 (by omega) (by omega) ?_
      rw [hb, show k = n by omega]; exact q
    · exact absurd (by rw [hi, hm, show k = n by omega]; exact Int32.le_refl _) c1
  | succ r ih =>
    intro k b i hk hi hb
    refine J_iload_n hS dX6_countThere_4 rfl ?_
    refine J_aload_n hS dX6_countThere_5 rfl ?_
    refine J_getI hS dX6_countThere_6 flX6_30 hW.ob rfl ?_
    refine J_icmp_ge (tgt := 30) hS dX6_countThere_9 (by decide) (fun c1 => ?_) (fun c1 => ?_)
    · exact absurd (by rw [hi, hm] at c1; exact c1) (nI_ge (show k < n by omega) (by omega))
    · subst hi
      refine J_aload_n hS dX6_countThere_12 rfl ?_
      refine J_iload_n hS dX6_countThere_13 rfl ?_
      refine J_iload_n hS dX6_countThere_14 rfl ?_
      refine J_callV2 (X' := fun _ _ => False) hS dX6_countThere_15 mvX6_90 hW.ob rfl (by decide) (by decide) (Nat.le_of_ble_eq_true rfl) hR (fun _ _ q => q.elim) (c_isThere hW (show k < 24 by omega) ?_)
      show J S 0 0 g 18 [some (.ref h), some (.int y), some (.int b), some (.int (nI k))] [.int _]
      rw [thr_b01]
      have hs := here_succ (thr g h y) k
      refine J_if_eq (tgt := 24) hS dX6_countThere_18 (by decide) (fun c2 => ?_) (fun c2 => ?_)
      ·
        refine J_iinc (lt := fun i2 => [some (.ref h), some (.int y), some (.int b), some (.int i2)]) (v := 1) hS dX6_countThere_24 rfl (by decide) (fun _ => rfl) (fun i2 ei2 => ?_)
        refine J_goto (tgt := 4) hS dX6_countThere_27 (by decide) ?_
        refine ih (k + 1) b i2 (by omega) (by rw [ei2]; exact nI_1 k) ?_
        have : thr g h y k = false := by cases e : thr g h y k with
          | false => rfl
          | true => simp [e] at c2
        rw [hb, hs]; simp [this]
      ·
        refine J_iinc (lt := fun b2 => [some (.ref h), some (.int y), some (.int b2), some (.int (nI k))]) (v := 1) hS dX6_countThere_21 rfl (by decide) (fun _ => rfl) (fun b2 eb2 => ?_)
        refine J_iinc (lt := fun i2 => [some (.ref h), some (.int y), some (.int b2), some (.int i2)]) (v := 1) hS dX6_countThere_24 rfl (by decide) (fun _ => rfl) (fun i2 ei2 => ?_)
        refine J_goto (tgt := 4) hS dX6_countThere_27 (by decide) ?_
        refine ih (k + 1) b2 i2 (by omega) (by rw [ei2]; exact nI_1 k) ?_
        have : thr g h y k = true := by cases e : thr g h y k with
          | true => rfl
          | false => simp [e] at c2
        rw [eb2, hb, hs]; simp [this, nI_1]
end ClsB


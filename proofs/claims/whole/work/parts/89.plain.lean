/-! THE REFERENCE: plain -/
noncomputable def sfW (w : Wr) (y c p : Nat) : Int32 := if 0 < w (sgB c p + bst (fun s => w (sgB c p + s)) 16) then nI (snW w y (bst (fun s => w (sgB c p + s)) 16)) else -1
/-- what a child would say at a place k for a meaning m -/
noncomputable def wdP (w : Wr) (y c o m k : Nat) : Int32 := sfW w y c (con (rN (o * 3 + k)) (mnK m (rN (o * 3 + k))))
/-- alike in all places -/
def wdE (f : Nat → Nat → Int32) (m o : Nat) : Prop := f o 0 = f m 0 ∧ f o 1 = f m 1 ∧ f o 2 = f m 2
noncomputable def wdU (f : Nat → Nat → Int32) (m : Nat) : Bool := @decide (∀ o, o < 64 → o = m ∨ ¬ wdE f m o) (Classical.propDecidable _)
theorem wdU_t {f : Nat → Nat → Int32} {m : Nat} : wdU f m = true ↔ ∀ o, o < 64 → o = m ∨ ¬ wdE f m o := by unfold wdU; exact @decide_eq_true_iff _ (Classical.propDecidable _)
theorem con_lt8 {r v : Nat} (h : v < 4) : con r v < 8 := by unfold con; split <;> omega
section RefL
variable {l : Launch} {E : Ey} {g : Mm} {Q : Option Value → Mm → Prop} {X : String → Mm → Prop} {w : Wr} {n : Nat}
theorem m_heaviest {fr mn : Nat} (hI : RI g w n) (hfm : fr + mn ≤ 3464) (hm1 : 1 ≤ mn) (hf0 : ∀ s, s < mn → 0 ≤ w (fr + s)) (q : Q (some (.int (hvy (fun s => w (fr + s)) mn))) g) : Ct l E lay NC 0 0 0 yX8_heaviest [.ref 162, .int (nI fr), .int (nI mn)] g Q X := by
  obtain ⟨f, hf⟩ : ∃ f : Nat → Int32, f = fun s => w (fr + s) := ⟨_, rfl⟩
  rw [← hf] at q
  have rd : ∀ s, s < mn → g 164 (fr + s) = f s := fun s hs => by rw [hf]; exact hI.row _ (by omega)
  refine Ct_in k_yX8_heaviest (by decide) rfl (Nat.le_of_ble_eq_true rfl) rfl ?_
  intro S hS hZ hr ht hR
  show J S 0 0 (g) 0 [some (.ref 162), some (.int (nI fr)), some (.int (nI mn)), none, none] []
  refine J_iconst (v := 0) hS dX8_heaviest_0 (by decide) ?_
  refine J_istore_n (lt := fun x3 => [some (.ref 162), some (.int (nI fr)), some (.int (nI mn)), some (.int x3), none]) hS dX8_heaviest_1 (Nat.le_of_ble_eq_true rfl) (fun _ => rfl) (fun x3 ex3 => ?_)
  refine J_iconst (v := 1) hS dX8_heaviest_2 (by decide) ?_
  refine J_istore (lt := fun x4 => [some (.ref 162), some (.int (nI fr)), some (.int (nI mn)), some (.int x3), some (.int x4)]) hS dX8_heaviest_3 (Nat.le_of_ble_eq_true rfl) (fun _ => rfl) (fun x4 ex4 => ?_)
  suffices H : ∀ (t k : Nat) (v i : Int32), k + t = mn → 1 ≤ k → i = nI k → v = nI (bst f k) → J S 0 0 g 5 [some (.ref 162), some (.int (nI fr)), some (.int (nI mn)), some (.int v), some (.int i)] [] by
    exact H (mn - 1) 1 x3 x4 (by omega) (by omega) ex4 (by rw [ex3]; unfold bst; split <;> rfl)
  intro t
  induction t with
  | zero =>
    intro k v i hk hk1 hi hv
    have ek : k = mn := by omega
    subst ek; subst hi; subst hv
    have hb := bst_lt (f := f) (n := k) (by omega)
    refine J_iload hS dX8_heaviest_5 rfl ?_
    refine J_iload_n hS dX8_heaviest_7 rfl ?_
    refine J_icmp_ge (tgt := 40) hS dX8_heaviest_8 (by decide) (fun c1 => ?_) (fun c1 => ?_)
    ·
      refine J_aload_n hS dX8_heaviest_40 rfl ?_
      refine J_getD (v := .ref 164) hS dX8_heaviest_41 flX8_20 ob162 rfl (wI Rw4 hI.w3) ?_
      refine J_iload_n hS dX8_heaviest_44 rfl ?_
      refine J_iload_n hS dX8_heaviest_45 rfl ?_
      refine J_iadd hS dX8_heaviest_46 ?_
      refine J_ialdN hS (fr + bst f k) dX8_heaviest_47 Rw4.ar (by first | rfl | (simp only [n0, n1, n2, n3, n4, n5, n6, n7, n8, n9, n10, n11, n12, n13, n14, n15, n16, n17, n18, n19, n20, n24, n32, n56, n60, n64, n72, n99, n100, n128, n136, n142, n144, n200, n300, n999, n1000, n1500, n3464, nI_add, pk_mul] <;> first | rfl | (congr 1; omega))) (by omega) (by decide) ?_
      show J S 0 0 (g) 48 [some (.ref 162), some (.int (nI fr)), some (.int (nI k)), some (.int (nI (bst f k))), some (.int (nI k))] [.int _]
      rw [rd _ hb]
      have h0 : 0 ≤ f (bst f k) := by rw [hf]; exact hf0 _ (by rw [hf] at hb; exact hb)
      unfold hvy at q
      refine J_if_ne (tgt := 55) hS dX8_heaviest_48 (by decide) (fun c2 => ?_) (fun c2 => ?_)
      · rw [if_pos (by rcases Int32.lt_or_eq_of_le h0 with z | z; exact z; exact absurd z.symm c2)] at q
        refine J_iload_n hS dX8_heaviest_55 rfl ?_
        refine J_iret hS hZ hr dX8_heaviest_56 (by omega) (by omega) ?_
        exact q
      · rw [c2, if_neg (by decide)] at q
        refine J_iconst (v := (-1)) hS dX8_heaviest_51 (by decide) ?_
        refine J_goto (tgt := 56) hS dX8_heaviest_52 (by decide) ?_
        refine J_iret hS hZ hr dX8_heaviest_56 (by omega) (by omega) ?_
        exact q
    · exact absurd (Int32.le_refl _) c1
  | succ t ih =>
    intro k v i hk hk1 hi hv
    subst hi; subst hv
    have hb := bst_lt (f := f) (n := k) (by omega)
    have hst : bst f (k + 1) = if f (bst f k) < f k then k else bst f k := rfl
    refine J_iload hS dX8_heaviest_5 rfl ?_
    refine J_iload_n hS dX8_heaviest_7 rfl ?_
    refine J_icmp_ge (tgt := 40) hS dX8_heaviest_8 (by decide) (fun c1 => ?_) (fun c1 => ?_)
    · exact absurd c1 (nI_ge (show k < mn by omega) (by omega))
    ·
      refine J_aload_n hS dX8_heaviest_11 rfl ?_
      refine J_getD (v := .ref 164) hS dX8_heaviest_12 flX8_20 ob162 rfl (wI Rw4 hI.w3) ?_
      refine J_iload_n hS dX8_heaviest_15 rfl ?_
      refine J_iload hS dX8_heaviest_16 rfl ?_
      refine J_iadd hS dX8_heaviest_18 ?_
      refine J_ialdN hS (fr + k) dX8_heaviest_19 Rw4.ar (by first | rfl | (simp only [n0, n1, n2, n3, n4, n5, n6, n7, n8, n9, n10, n11, n12, n13, n14, n15, n16, n17, n18, n19, n20, n24, n32, n56, n60, n64, n72, n99, n100, n128, n136, n142, n144, n200, n300, n999, n1000, n1500, n3464, nI_add, pk_mul] <;> first | rfl | (congr 1; omega))) (by omega) (by decide) ?_
      refine J_aload_n hS dX8_heaviest_20 rfl ?_
      refine J_getD (v := .ref 164) hS dX8_heaviest_21 flX8_20 ob162 rfl (wI Rw4 hI.w3) ?_
      refine J_iload_n hS dX8_heaviest_24 rfl ?_
      refine J_iload_n hS dX8_heaviest_25 rfl ?_
      refine J_iadd hS dX8_heaviest_26 ?_
      refine J_ialdN hS (fr + bst f k) dX8_heaviest_27 Rw4.ar (by first | rfl | (simp only [n0, n1, n2, n3, n4, n5, n6, n7, n8, n9, n10, n11, n12, n13, n14, n15, n16, n17, n18, n19, n20, n24, n32, n56, n60, n64, n72, n99, n100, n128, n136, n142, n144, n200, n300, n999, n1000, n1500, n3464, nI_add, pk_mul] <;> first | rfl | (congr 1; omega))) (by omega) (by decide) ?_
      show J S 0 0 (g) 28 [some (.ref 162), some (.int (nI fr)), some (.int (nI mn)), some (.int (nI (bst f k))), some (.int (nI k))] [.int _, .int _]
      rw [rd k (by omega), rd _ (show bst f k < mn by omega)]
      refine J_icmp_le (tgt := 34) hS dX8_heaviest_28 (by decide) (fun c2 => ?_) (fun c2 => ?_)
      ·
        refine J_iinc (lt := fun i2 => [some (.ref 162), some (.int (nI fr)), some (.int (nI mn)), some (.int (nI (bst f k))), some (.int i2)]) (v := 1) hS dX8_heaviest_34 rfl (by decide) (fun _ => rfl) (fun i2 ei2 => ?_)
        refine J_goto (tgt := 5) hS dX8_heaviest_37 (by decide) ?_
        exact ih (k + 1) _ i2 (by omega) (by omega) (by rw [ei2]; exact nI_1 k) (by rw [hst, if_neg (Int32.not_lt.mpr c2)])
      ·
        refine J_iload hS dX8_heaviest_31 rfl ?_
        refine J_istore_n (lt := fun v2 => [some (.ref 162), some (.int (nI fr)), some (.int (nI mn)), some (.int v2), some (.int (nI k))]) hS dX8_heaviest_33 (Nat.le_of_ble_eq_true rfl) (fun _ => rfl) (fun v2 ev2 => ?_)
        refine J_iinc (lt := fun i2 => [some (.ref 162), some (.int (nI fr)), some (.int (nI mn)), some (.int v2), some (.int i2)]) (v := 1) hS dX8_heaviest_34 rfl (by decide) (fun _ => rfl) (fun i2 ei2 => ?_)
        refine J_goto (tgt := 5) hS dX8_heaviest_37 (by decide) ?_
        exact ih (k + 1) v2 i2 (by omega) (by omega) (by rw [ei2]; exact nI_1 k) (by rw [ev2, hst, if_pos (Int32.not_le.mp c2)])
set_option maxRecDepth 10000 in
theorem m_plain {c0 : Int32} (hI : RI g w n) (x : ou n c0 → ∀ g', FrZ g g' → g' 162 0 = 1 → Q (some (.int 0)) g') (q0 : ∀ c, c < n → c0 = nI c → hvy (fun s => w (odB c + s)) 6 = -1 → ∀ g', FrZ g g' → g' 162 0 = 0 → Q (some (.int 0)) g') (q : ∀ c y o, c < n → c0 = nI c → y < 3 → w (56 + 142 * c) = nI y → o < 6 → ¬ hvy (fun s => w (odB c + s)) 6 = -1 → ∀ g', FrZ g g' → g' 162 0 = 0 → Q (some (.int (nI (here (wdU (wdP w y c o)) 64).length))) g') : Ct l E lay NC 3 0 0 yX8_plain [.ref 162, .int c0] g Q X := by
  have hn := hI.hn
  refine Ct_in k_yX8_plain (by decide) rfl (Nat.le_of_ble_eq_true rfl) rfl ?_
  intro S hS hZ hr ht hR
  show J S 0 0 (g) 0 [some (.ref 162), some (.int c0), none, none, none, none, none, none] []
  refine J_aload_n hS dX8_plain_0 rfl ?_
  refine J_iconst (v := 0) hS dX8_plain_1 (by decide) ?_
  refine J_putI hS dX8_plain_2 fpX8_1 ob162 rfl (fun g2 eg2 => ?_)
  have z2 : FrZ g g2 := by rw [eg2]; exact FrZ_thr
  have t2 : g2 162 0 = 0 := by rw [eg2, u2_self]
  have i2 := hI.fr z2
  rcases in_or (y := c0) (b := n) (by first | decide | omega) with ⟨c, hc, ec⟩ | hbc
  ·
    subst ec
    have hc24 : c < 24 := by omega
    obtain ⟨y, hy, ey⟩ := hI.ok.2.1 c hc24
    have hwt := hI.ok.2.2 c hc24
    refine J_aload_n hS dX8_plain_5 rfl ?_
    refine J_iload_n hS dX8_plain_6 rfl ?_
    refine J_callV1 (X' := fun _ _ => False) hS dX8_plain_7 mvX8_125 ob162 rfl (by first | decide | omega) (by decide) (Nat.le_of_ble_eq_true rfl) ⟨Nat.le_trans (by decide) hR.1, Nat.le_trans (by decide) hR.2⟩ (fun _ _ q => q.elim) (m_childY i2 t2 hc ?_)
    refine J_if_ne (tgt := 15) hS dX8_plain_10 (by decide) (fun c1 => ?_) (fun c1 => ?_)
    ·
      refine J_aload_n hS dX8_plain_15 rfl ?_
      refine J_iload_n hS dX8_plain_16 rfl ?_
      refine J_callS1 (X' := fun _ _ => False) hS dX8_plain_17 msX8_121 rfl (by first | decide | omega) (by decide) (Nat.le_of_ble_eq_true rfl) ⟨Nat.le_trans (by decide) hR.1, Nat.le_trans (by decide) hR.2⟩ (fun _ _ q => q.elim) (m_at ?_)
      refine J_sipush (v := 136) hS dX8_plain_20 (by decide) ?_
      refine J_iadd hS dX8_plain_23 ?_
      refine J_bipush (v := 6) hS dX8_plain_24 (by decide) ?_
      show J S 0 0 (g2) 26 [some (.ref 162), some (.int (nI c)), none, none, none, none, none, none] [.int 6, .int _, .ref 162]
      rw [show nI (56 + 142 * c) + 136 = nI (odB c) by rw [n136, nI_add]; rfl, show (6 : Int32) = nI 6 from rfl]
      refine J_callV2 (X' := fun _ _ => False) hS dX8_plain_26 mvX8_383 ob162 rfl (by first | decide | omega) (by decide) (Nat.le_of_ble_eq_true rfl) ⟨Nat.le_trans (by decide) hR.1, Nat.le_trans (by decide) hR.2⟩ (fun _ _ q => q.elim) (m_heaviest i2 (by unfold odB; omega) (by decide) (fun s hs => (hwt.od hs).1) ?_)
      refine J_istore_n (lt := fun x2 => [some (.ref 162), some (.int (nI c)), some (.int x2), none, none, none, none, none]) hS dX8_plain_29 (Nat.le_of_ble_eq_true rfl) (fun _ => rfl) (fun x2 ex2 => ?_)
      refine J_iload_n hS dX8_plain_30 rfl ?_
      refine J_iconst (v := (-1)) hS dX8_plain_31 (by decide) ?_
      refine J_icmp_ne (tgt := 37) hS dX8_plain_32 (by decide) (fun c2 => ?_) (fun c2 => ?_)
      · have nm : ¬ hvy (fun s => w (odB c + s)) 6 = -1 := fun z => c2 (by rw [ex2]; exact z)
        obtain ⟨o, ho, eo⟩ : ∃ o : Nat, o < 6 ∧ x2 = nI o := ⟨bst (fun s => w (odB c + s)) 6, bst_lt (by decide), by
          rw [ex2]; unfold hvy at nm ⊢; split; rfl; rename_i z; rw [if_neg z] at nm; exact absurd rfl nm⟩
        subst eo
        obtain ⟨f, hf⟩ : ∃ f : Nat → Nat → Int32, f = wdP w y c o := ⟨_, rfl⟩
        have qq : ∀ g', FrZ g g' → g' 162 0 = 0 → Q (some (.int (nI (here (wdU f) 64).length))) g' := by rw [hf]; exact q c y o hc rfl hy ey ho nm
        have snd : ∀ (v4 v5 v6 v7 : Option Value) (x3 : Int32) (g5 : Mm), FrZ g g5 → g5 162 0 = 0 → (∀ m k, m < 64 → k < 3 → g5 215 (3 * m + k) = f m k) → J S 0 0 g5 173 [some (.ref 162), some (.int (nI c)), some (.int (nI o)), some (.int x3), v4, v5, v6, v7] [] := by
          intro v4 v5 v6 v7 x3 g5 z5 t5 r5
          refine J_weak (ls' := [some (.ref 162), some (.int (nI c)), some (.int (nI o)), none, none, none, none, none]) ⟨Or.inr rfl, Or.inr rfl, Or.inr rfl, Or.inl rfl, Or.inl rfl, Or.inl rfl, Or.inl rfl, Or.inl rfl, trivial⟩ ?_
          refine J_iconst (v := 0) hS dX8_plain_173 (by decide) ?_
          refine J_istore_n (lt := fun a3 => [some (.ref 162), some (.int (nI c)), some (.int (nI o)), some (.int a3), none, none, none, none]) hS dX8_plain_174 (Nat.le_of_ble_eq_true rfl) (fun _ => rfl) (fun a3 ea3 => ?_)
          refine J_iconst (v := 0) hS dX8_plain_175 (by decide) ?_
          refine J_istore (lt := fun m4 => [some (.ref 162), some (.int (nI c)), some (.int (nI o)), some (.int a3), some (.int m4), none, none, none]) hS dX8_plain_176 (Nat.le_of_ble_eq_true rfl) (fun _ => rfl) (fun m4 em4 => ?_)
          suffices H : ∀ (t m : Nat) (a v : Int32) (v5 v6 : Option Value), m + t = 64 → v = nI m → a = nI (here (wdU f) m).length → J S 0 0 g5 178 [some (.ref 162), some (.int (nI c)), some (.int (nI o)), some (.int a), some (.int v), v5, v6, none] [] by
            exact H 64 0 a3 m4 none none (by omega) em4 ea3
          intro t
          induction t with
          | zero =>
            intro m a v v5 v6 hm hv ha
            have e : m = 64 := by omega
            subst e; subst hv
            refine J_weak (ls' := [some (.ref 162), some (.int (nI c)), some (.int (nI o)), some (.int a), some (.int (nI 64)), none, none, none]) ⟨Or.inr rfl, Or.inr rfl, Or.inr rfl, Or.inr rfl, Or.inr rfl, Or.inl rfl, Or.inl rfl, Or.inl rfl, trivial⟩ ?_
            refine J_iload hS dX8_plain_178 rfl ?_
            refine J_bipush (v := 64) hS dX8_plain_180 (by decide) ?_
            refine J_icmp_ge (tgt := 313) hS dX8_plain_182 (by decide) (fun d1 => ?_) (fun d1 => ?_)
            ·
              refine J_iload_n hS dX8_plain_313 rfl ?_
              refine J_iret hS hZ hr dX8_plain_314 (by omega) (by omega) ?_
              rw [ha]; exact qq g5 z5 t5
            · exact absurd (by decide) d1
          | succ t ih =>
            intro m a v v5 v6 hm hv ha
            subst hv
            have hm64 : m < 64 := by omega
            refine J_weak (ls' := [some (.ref 162), some (.int (nI c)), some (.int (nI o)), some (.int a), some (.int (nI m)), none, none, none]) ⟨Or.inr rfl, Or.inr rfl, Or.inr rfl, Or.inr rfl, Or.inr rfl, Or.inl rfl, Or.inl rfl, Or.inl rfl, trivial⟩ ?_
            refine J_iload hS dX8_plain_178 rfl ?_
            refine J_bipush (v := 64) hS dX8_plain_180 (by decide) ?_
            refine J_icmp_ge (tgt := 313) hS dX8_plain_182 (by decide) (fun d1 => ?_) (fun d1 => ?_)
            · exact absurd d1 (nI_ge hm64 (by decide))
            ·
              refine J_iconst (v := 1) hS dX8_plain_185 (by decide) ?_
              refine J_istore (lt := fun s5 => [some (.ref 162), some (.int (nI c)), some (.int (nI o)), some (.int a), some (.int (nI m)), some (.int s5), none, none]) hS dX8_plain_186 (Nat.le_of_ble_eq_true rfl) (fun _ => rfl) (fun s5 es5 => ?_)
              refine J_iconst (v := 0) hS dX8_plain_188 (by decide) ?_
              refine J_istore (lt := fun o6 => [some (.ref 162), some (.int (nI c)), some (.int (nI o)), some (.int a), some (.int (nI m)), some (.int s5), some (.int o6), none]) hS dX8_plain_189 (Nat.le_of_ble_eq_true rfl) (fun _ => rfl) (fun o6 eo6 => ?_)
              suffices H2 : ∀ (u i : Nat) (s v : Int32), i + u = 64 → v = nI i → (s = 0 ∨ s = 1) → (s = 1 ↔ ∀ j, j < i → j = m ∨ ¬ wdE f m j) → J S 0 0 g5 191 [some (.ref 162), some (.int (nI c)), some (.int (nI o)), some (.int a), some (.int (nI m)), some (.int s), some (.int v), none] [] by
                exact H2 64 0 s5 o6 (by omega) eo6 (Or.inr es5) ⟨fun _ j hj => absurd hj (by omega), fun _ => es5⟩
              intro u
              induction u with
              | zero =>
                intro i s v hi hv hs1 hs2
                have e : i = 64 := by omega
                subst e; subst hv
                refine J_iload hS dX8_plain_191 rfl ?_
                refine J_bipush (v := 64) hS dX8_plain_193 (by decide) ?_
                refine J_icmp_ge (tgt := 294) hS dX8_plain_195 (by decide) (fun d2 => ?_) (fun d2 => ?_)
                ·
                  refine J_iload_n hS dX8_plain_294 rfl ?_
                  refine J_iload hS dX8_plain_295 rfl ?_
                  refine J_if_eq (tgt := 304) hS dX8_plain_297 (by decide) (fun d3 => ?_) (fun d3 => ?_)
                  ·
                    refine J_iconst (v := 0) hS dX8_plain_304 (by decide) ?_
                    refine J_iadd hS dX8_plain_305 ?_
                    refine J_istore_n (lt := fun a2 => [some (.ref 162), some (.int (nI c)), some (.int (nI o)), some (.int a2), some (.int (nI m)), some (.int s), some (.int (nI 64)), none]) hS dX8_plain_306 (Nat.le_of_ble_eq_true rfl) (fun _ => rfl) (fun a2 ea2 => ?_)
                    refine J_iinc (lt := fun m2 => [some (.ref 162), some (.int (nI c)), some (.int (nI o)), some (.int a2), some (.int m2), some (.int s), some (.int (nI 64)), none]) (v := 1) hS dX8_plain_307 rfl (by decide) (fun _ => rfl) (fun m2 em2 => ?_)
                    refine J_goto (tgt := 178) hS dX8_plain_310 (by decide) ?_
                    refine ih (m + 1) a2 m2 _ _ (by omega) (by rw [em2]; exact nI_1 m) ?_
                    rw [ea2, ha]; exact hl_f (fun z => absurd (hs2.mpr (wdU_t.mp z)) (by rw [d3]; decide))
                  ·
                    refine J_iconst (v := 1) hS dX8_plain_300 (by decide) ?_
                    refine J_goto (tgt := 305) hS dX8_plain_301 (by decide) ?_
                    refine J_iadd hS dX8_plain_305 ?_
                    refine J_istore_n (lt := fun a2 => [some (.ref 162), some (.int (nI c)), some (.int (nI o)), some (.int a2), some (.int (nI m)), some (.int s), some (.int (nI 64)), none]) hS dX8_plain_306 (Nat.le_of_ble_eq_true rfl) (fun _ => rfl) (fun a2 ea2 => ?_)
                    refine J_iinc (lt := fun m2 => [some (.ref 162), some (.int (nI c)), some (.int (nI o)), some (.int a2), some (.int m2), some (.int s), some (.int (nI 64)), none]) (v := 1) hS dX8_plain_307 rfl (by decide) (fun _ => rfl) (fun m2 em2 => ?_)
                    refine J_goto (tgt := 178) hS dX8_plain_310 (by decide) ?_
                    refine ih (m + 1) a2 m2 _ _ (by omega) (by rw [em2]; exact nI_1 m) ?_
                    rw [ea2, ha]; exact hl_t (wdU_t.mpr (hs2.mp (hs1.resolve_left d3)))
                · exact absurd (by decide) d2
              | succ u ih2 =>
                intro i s v hi hv hs1 hs2
                subst hv
                have hi64 : i < 64 := by omega
                have aft : ∀ b : Int32, (b = 0 ∨ b = 1) → (b = 1 ↔ s = 1 ∧ (i = m ∨ ¬ wdE f m i)) → J S 0 0 g5 286 [some (.ref 162), some (.int (nI c)), some (.int (nI o)), some (.int a), some (.int (nI m)), some (.int s), some (.int (nI i)), none] [.int b] := by
                  intro b hb1 hb2
                  refine J_istore (lt := fun s7 => [some (.ref 162), some (.int (nI c)), some (.int (nI o)), some (.int a), some (.int (nI m)), some (.int s7), some (.int (nI i)), none]) hS dX8_plain_286 (Nat.le_of_ble_eq_true rfl) (fun _ => rfl) (fun s7 es7 => ?_)
                  refine J_iinc (lt := fun i7 => [some (.ref 162), some (.int (nI c)), some (.int (nI o)), some (.int a), some (.int (nI m)), some (.int s7), some (.int i7), none]) (v := 1) hS dX8_plain_288 rfl (by decide) (fun _ => rfl) (fun i7 ei7 => ?_)
                  refine J_goto (tgt := 191) hS dX8_plain_291 (by decide) ?_
                  refine ih2 (i + 1) s7 i7 (by omega) (by rw [ei7]; exact nI_1 i) (by rw [es7]; exact hb1) ?_
                  rw [es7, hb2, hs2]
                  constructor
                  · intro z j hj
                    by_cases e : j = i
                    · subst e; exact z.2
                    · exact z.1 j (by omega)
                  · exact fun z => ⟨fun j hj => z j (by omega), z i (by omega)⟩
                have no : ¬ (s = 1 ∧ (i = m ∨ ¬ wdE f m i)) → J S 0 0 g5 285 [some (.ref 162), some (.int (nI c)), some (.int (nI o)), some (.int a), some (.int (nI m)), some (.int s), some (.int (nI i)), none] [] := by
                  intro z
                  refine J_iconst (v := 0) hS dX8_plain_285 (by decide) ?_
                  exact aft 0 (Or.inl rfl) ⟨fun y => absurd y (by decide), fun y => absurd y z⟩
                have yes : (s = 1 ∧ (i = m ∨ ¬ wdE f m i)) → J S 0 0 g5 281 [some (.ref 162), some (.int (nI c)), some (.int (nI o)), some (.int a), some (.int (nI m)), some (.int s), some (.int (nI i)), none] [] := by
                  intro z
                  refine J_iconst (v := 1) hS dX8_plain_281 (by decide) ?_
                  refine J_goto (tgt := 286) hS dX8_plain_282 (by decide) ?_
                  exact aft 1 (Or.inr rfl) ⟨fun _ => z, fun _ => rfl⟩
                refine J_iload hS dX8_plain_191 rfl ?_
                refine J_bipush (v := 64) hS dX8_plain_193 (by decide) ?_
                refine J_icmp_ge (tgt := 294) hS dX8_plain_195 (by decide) (fun d2 => ?_) (fun d2 => ?_)
                · exact absurd d2 (nI_ge hi64 (by decide))
                ·
                  refine J_iload hS dX8_plain_198 rfl ?_
                  refine J_if_eq (tgt := 285) hS dX8_plain_200 (by decide) (fun d3 => ?_) (fun d3 => ?_)
                  · exact no (fun z => absurd z.1 (by rw [d3]; decide))
                  · have s1 : s = 1 := hs1.resolve_left d3
                    refine J_iload hS dX8_plain_203 rfl ?_
                    refine J_iload hS dX8_plain_205 rfl ?_
                    refine J_icmp_eq (tgt := 281) hS dX8_plain_207 (by decide) (fun d4 => ?_) (fun d4 => ?_)
                    · exact yes ⟨s1, Or.inl ((nI_eq (by omega) (by omega)).mp d4)⟩
                    · have nim : ¬ i = m := fun z => d4 (by rw [z])
                      refine J_aload_n hS dX8_plain_210 rfl ?_
                      refine J_getR (t := 215) hS dX8_plain_211 flX8_96 ob162 rfl ?_
                      refine J_iconst (v := 3) hS dX8_plain_214 (by decide) ?_
                      refine J_iload hS dX8_plain_215 rfl ?_
                      refine J_imul hS dX8_plain_217 ?_
                      refine J_ialdN hS (3 * i) dX8_plain_218 (show Ar lay NC .int 215 192 from arM 52 192 (by decide) (by decide) rfl) (by first | rfl | (simp only [n0, n1, n2, n3, n4, n5, n6, n7, n8, n9, n10, n11, n12, n13, n14, n15, n16, n17, n18, n19, n20, n24, n32, n56, n60, n64, n72, n99, n100, n128, n136, n142, n144, n200, n300, n999, n1000, n1500, n3464, nI_add, pk_mul] <;> first | rfl | (congr 1; omega))) (by omega) (by decide) ?_
                      refine J_aload_n hS dX8_plain_219 rfl ?_
                      refine J_getR (t := 215) hS dX8_plain_220 flX8_96 ob162 rfl ?_
                      refine J_iconst (v := 3) hS dX8_plain_223 (by decide) ?_
                      refine J_iload hS dX8_plain_224 rfl ?_
                      refine J_imul hS dX8_plain_226 ?_
                      refine J_ialdN hS (3 * m) dX8_plain_227 (show Ar lay NC .int 215 192 from arM 52 192 (by decide) (by decide) rfl) (by first | rfl | (simp only [n0, n1, n2, n3, n4, n5, n6, n7, n8, n9, n10, n11, n12, n13, n14, n15, n16, n17, n18, n19, n20, n24, n32, n56, n60, n64, n72, n99, n100, n128, n136, n142, n144, n200, n300, n999, n1000, n1500, n3464, nI_add, pk_mul] <;> first | rfl | (congr 1; omega))) (by omega) (by decide) ?_
                      show J S 0 0 (g5) 228 [some (.ref 162), some (.int (nI c)), some (.int (nI o)), some (.int a), some (.int (nI m)), some (.int s), some (.int (nI i)), none] [.int _, .int _]
                      rw [show g5 215 (3 * i) = f i 0 from r5 i 0 hi64 (by decide), show g5 215 (3 * m) = f m 0 from r5 m 0 hm64 (by decide)]
                      refine J_icmp_ne (tgt := 281) hS dX8_plain_228 (by decide) (fun d5 => ?_) (fun d5 => ?_)
                      · exact yes ⟨s1, Or.inr (fun z => d5 z.1)⟩
                      ·
                        refine J_aload_n hS dX8_plain_231 rfl ?_
                        refine J_getR (t := 215) hS dX8_plain_232 flX8_96 ob162 rfl ?_
                        refine J_iconst (v := 3) hS dX8_plain_235 (by decide) ?_
                        refine J_iload hS dX8_plain_236 rfl ?_
                        refine J_imul hS dX8_plain_238 ?_
                        refine J_iconst (v := 1) hS dX8_plain_239 (by decide) ?_
                        refine J_iadd hS dX8_plain_240 ?_
                        refine J_ialdN hS (3 * i + 1) dX8_plain_241 (show Ar lay NC .int 215 192 from arM 52 192 (by decide) (by decide) rfl) (by first | rfl | (simp only [n0, n1, n2, n3, n4, n5, n6, n7, n8, n9, n10, n11, n12, n13, n14, n15, n16, n17, n18, n19, n20, n24, n32, n56, n60, n64, n72, n99, n100, n128, n136, n142, n144, n200, n300, n999, n1000, n1500, n3464, nI_add, pk_mul] <;> first | rfl | (congr 1; omega))) (by omega) (by decide) ?_
                        refine J_aload_n hS dX8_plain_242 rfl ?_
                        refine J_getR (t := 215) hS dX8_plain_243 flX8_96 ob162 rfl ?_
                        refine J_iconst (v := 3) hS dX8_plain_246 (by decide) ?_
                        refine J_iload hS dX8_plain_247 rfl ?_
                        refine J_imul hS dX8_plain_249 ?_
                        refine J_iconst (v := 1) hS dX8_plain_250 (by decide) ?_
                        refine J_iadd hS dX8_plain_251 ?_
                        refine J_ialdN hS (3 * m + 1) dX8_plain_252 (show Ar lay NC .int 215 192 from arM 52 192 (by decide) (by decide) rfl) (by first | rfl | (simp only [n0, n1, n2, n3, n4, n5, n6, n7, n8, n9, n10, n11, n12, n13, n14, n15, n16, n17, n18, n19, n20, n24, n32, n56, n60, n64, n72, n99, n100, n128, n136, n142, n144, n200, n300, n999, n1000, n1500, n3464, nI_add, pk_mul] <;> first | rfl | (congr 1; omega))) (by omega) (by decide) ?_
                        show J S 0 0 (g5) 253 [some (.ref 162), some (.int (nI c)), some (.int (nI o)), some (.int a), some (.int (nI m)), some (.int s), some (.int (nI i)), none] [.int _, .int _]
                        rw [r5 i 1 hi64 (by decide), r5 m 1 hm64 (by decide)]
                        refine J_icmp_ne (tgt := 281) hS dX8_plain_253 (by decide) (fun d6 => ?_) (fun d6 => ?_)
                        · exact yes ⟨s1, Or.inr (fun z => d6 z.2.1)⟩
                        ·
                          refine J_aload_n hS dX8_plain_256 rfl ?_
                          refine J_getR (t := 215) hS dX8_plain_257 flX8_96 ob162 rfl ?_
                          refine J_iconst (v := 3) hS dX8_plain_260 (by decide) ?_
                          refine J_iload hS dX8_plain_261 rfl ?_
                          refine J_imul hS dX8_plain_263 ?_
                          refine J_iconst (v := 2) hS dX8_plain_264 (by decide) ?_
                          refine J_iadd hS dX8_plain_265 ?_
                          refine J_ialdN hS (3 * i + 2) dX8_plain_266 (show Ar lay NC .int 215 192 from arM 52 192 (by decide) (by decide) rfl) (by first | rfl | (simp only [n0, n1, n2, n3, n4, n5, n6, n7, n8, n9, n10, n11, n12, n13, n14, n15, n16, n17, n18, n19, n20, n24, n32, n56, n60, n64, n72, n99, n100, n128, n136, n142, n144, n200, n300, n999, n1000, n1500, n3464, nI_add, pk_mul] <;> first | rfl | (congr 1; omega))) (by omega) (by decide) ?_
                          refine J_aload_n hS dX8_plain_267 rfl ?_
                          refine J_getR (t := 215) hS dX8_plain_268 flX8_96 ob162 rfl ?_
                          refine J_iconst (v := 3) hS dX8_plain_271 (by decide) ?_
                          refine J_iload hS dX8_plain_272 rfl ?_
                          refine J_imul hS dX8_plain_274 ?_
                          refine J_iconst (v := 2) hS dX8_plain_275 (by decide) ?_
                          refine J_iadd hS dX8_plain_276 ?_
                          refine J_ialdN hS (3 * m + 2) dX8_plain_277 (show Ar lay NC .int 215 192 from arM 52 192 (by decide) (by decide) rfl) (by first | rfl | (simp only [n0, n1, n2, n3, n4, n5, n6, n7, n8, n9, n10, n11, n12, n13, n14, n15, n16, n17, n18, n19, n20, n24, n32, n56, n60, n64, n72, n99, n100, n128, n136, n142, n144, n200, n300, n999, n1000, n1500, n3464, nI_add, pk_mul] <;> first | rfl | (congr 1; omega))) (by omega) (by decide) ?_
                          show J S 0 0 (g5) 278 [some (.ref 162), some (.int (nI c)), some (.int (nI o)), some (.int a), some (.int (nI m)), some (.int s), some (.int (nI i)), none] [.int _, .int _]
                          rw [r5 i 2 hi64 (by decide), r5 m 2 hm64 (by decide)]
                          refine J_icmp_eq (tgt := 285) hS dX8_plain_278 (by decide) (fun d7 => ?_) (fun d7 => ?_)
                          · exact no (fun z => z.2.elim nim (fun y => y ⟨d5, d6, d7⟩))
                          · exact yes ⟨s1, Or.inr (fun z => d7 z.2.2)⟩
        refine J_iconst (v := 0) hS dX8_plain_37 (by decide) ?_
        refine J_istore_n (lt := fun x3 => [some (.ref 162), some (.int (nI c)), some (.int (nI o)), some (.int x3), none, none, none, none]) hS dX8_plain_38 (Nat.le_of_ble_eq_true rfl) (fun _ => rfl) (fun x3 ex3 => ?_)
        suffices H : ∀ (t m : Nat) (v : Int32) (v4 v5 v6 v7 : Option Value) (g3 : Mm), m + t = 64 → v = nI m → FrZ g g3 → g3 162 0 = 0 → (∀ m' k, m' < m → k < 3 → g3 215 (3 * m' + k) = f m' k) → J S 0 0 g3 39 [some (.ref 162), some (.int (nI c)), some (.int (nI o)), some (.int v), v4, v5, v6, v7] [] by
          exact H 64 0 x3 none none none none g2 (by omega) ex3 z2 t2 (fun m' k h => absurd h (by omega))
        intro t
        induction t with
        | zero =>
          intro m v v4 v5 v6 v7 g3 hm hv z3 t3 r3
          have e : m = 64 := by omega
          subst e; subst hv
          refine J_weak (ls' := [some (.ref 162), some (.int (nI c)), some (.int (nI o)), some (.int (nI 64)), none, none, none, none]) ⟨Or.inr rfl, Or.inr rfl, Or.inr rfl, Or.inr rfl, Or.inl rfl, Or.inl rfl, Or.inl rfl, Or.inl rfl, trivial⟩ ?_
          refine J_iload_n hS dX8_plain_39 rfl ?_
          refine J_bipush (v := 64) hS dX8_plain_40 (by decide) ?_
          refine J_icmp_ge (tgt := 173) hS dX8_plain_42 (by decide) (fun d1 => ?_) (fun d1 => ?_)
          · exact snd _ _ _ _ _ g3 z3 t3 r3
          · exact absurd (by decide) d1
        | succ t ih =>
          intro m v v4 v5 v6 v7 g3 hm hv z3 t3 r3
          subst hv
          have hm64 : m < 64 := by omega
          refine J_weak (ls' := [some (.ref 162), some (.int (nI c)), some (.int (nI o)), some (.int (nI m)), none, none, none, none]) ⟨Or.inr rfl, Or.inr rfl, Or.inr rfl, Or.inr rfl, Or.inl rfl, Or.inl rfl, Or.inl rfl, Or.inl rfl, trivial⟩ ?_
          refine J_iload_n hS dX8_plain_39 rfl ?_
          refine J_bipush (v := 64) hS dX8_plain_40 (by decide) ?_
          refine J_icmp_ge (tgt := 173) hS dX8_plain_42 (by decide) (fun d1 => ?_) (fun d1 => ?_)
          · exact absurd d1 (nI_ge hm64 (by decide))
          ·
            refine J_iconst (v := 0) hS dX8_plain_45 (by decide) ?_
            refine J_istore (lt := fun x4 => [some (.ref 162), some (.int (nI c)), some (.int (nI o)), some (.int (nI m)), some (.int x4), none, none, none]) hS dX8_plain_46 (Nat.le_of_ble_eq_true rfl) (fun _ => rfl) (fun x4 ex4 => ?_)
            suffices H2 : ∀ (u k : Nat) (v : Int32) (v5 v6 v7 : Option Value) (g4 : Mm), k + u = 3 → v = nI k → FrZ g g4 → g4 162 0 = 0 → (∀ m' k', m' < m → k' < 3 → g4 215 (3 * m' + k') = f m' k') → (∀ k', k' < k → g4 215 (3 * m + k') = f m k') → J S 0 0 g4 48 [some (.ref 162), some (.int (nI c)), some (.int (nI o)), some (.int (nI m)), some (.int v), v5, v6, v7] [] by
              exact H2 3 0 x4 none none none g3 (by omega) ex4 z3 t3 r3 (fun k' h => absurd h (by omega))
            intro u
            induction u with
            | zero =>
              intro k v v5 v6 v7 g4 hk hv z4 t4 r4 r4'
              have e : k = 3 := by omega
              subst e; subst hv
              refine J_weak (ls' := [some (.ref 162), some (.int (nI c)), some (.int (nI o)), some (.int (nI m)), some (.int (nI 3)), none, none, none]) ⟨Or.inr rfl, Or.inr rfl, Or.inr rfl, Or.inr rfl, Or.inr rfl, Or.inl rfl, Or.inl rfl, Or.inl rfl, trivial⟩ ?_
              refine J_iload hS dX8_plain_48 rfl ?_
              refine J_iconst (v := 3) hS dX8_plain_50 (by decide) ?_
              refine J_icmp_ge (tgt := 167) hS dX8_plain_51 (by decide) (fun d2 => ?_) (fun d2 => ?_)
              ·
                refine J_iinc (lt := fun m2 => [some (.ref 162), some (.int (nI c)), some (.int (nI o)), some (.int m2), some (.int (nI 3)), none, none, none]) (v := 1) hS dX8_plain_167 rfl (by decide) (fun _ => rfl) (fun m2 em2 => ?_)
                refine J_goto (tgt := 39) hS dX8_plain_170 (by decide) ?_
                refine ih (m + 1) m2 _ _ _ _ g4 (by omega) (by rw [em2]; exact nI_1 m) z4 t4 (fun m' k' h1 h2 => ?_)
                by_cases e : m' = m
                · subst e; exact r4' k' h2
                · exact r4 m' k' (by omega) h2
              · exact absurd (by decide) d2
            | succ u ih2 =>
              intro k v v5 v6 v7 g4 hk hv z4 t4 r4 r4'
              subst hv
              have hk3 : k < 3 := by omega
              have i4 := hI.fr z4
              have hrn := (rN_ok (o * 3 + k) (by omega)).2
              obtain ⟨p, hp⟩ : ∃ p, p = rN (o * 3 + k) := ⟨_, rfl⟩
              have hp3 : p < 3 := by rw [hp]; exact hrn
              have hmk : mnK m p < 4 := mnK_lt hm64
              have hcon : con p (mnK m p) < 8 := con_lt8 hmk
              have efk : f m k = sfW w y c (con p (mnK m p)) := by rw [hf, hp]; rfl
              refine J_weak (ls' := [some (.ref 162), some (.int (nI c)), some (.int (nI o)), some (.int (nI m)), some (.int (nI k)), none, none, none]) ⟨Or.inr rfl, Or.inr rfl, Or.inr rfl, Or.inr rfl, Or.inr rfl, Or.inl rfl, Or.inl rfl, Or.inl rfl, trivial⟩ ?_
              refine J_iload hS dX8_plain_48 rfl ?_
              refine J_iconst (v := 3) hS dX8_plain_50 (by decide) ?_
              refine J_icmp_ge (tgt := 167) hS dX8_plain_51 (by decide) (fun d2 => ?_) (fun d2 => ?_)
              · exact absurd d2 (nI_ge hk3 (by decide))
              ·
                refine J_gets hS dX8_plain_54 stX8_291 ro_PLACES ?_
                refine J_iconst (v := 3) hS dX8_plain_57 (by decide) ?_
                refine J_iload_n hS dX8_plain_58 rfl ?_
                refine J_imul hS dX8_plain_59 ?_
                refine J_iload hS dX8_plain_60 rfl ?_
                refine J_iadd hS dX8_plain_62 ?_
                refine J_taldN hS (o * 3 + k) dX8_plain_63 ro_PLACESt (pl3 _ _) (by omega) (by decide) ?_
                show J S 0 0 (g4) 64 [some (.ref 162), some (.int (nI c)), some (.int (nI o)), some (.int (nI m)), some (.int (nI k)), none, none, none] [.int _]
                rw [zRO_rN ho hk3, ← hp]
                refine J_istore (lt := fun x5 => [some (.ref 162), some (.int (nI c)), some (.int (nI o)), some (.int (nI m)), some (.int (nI k)), some (.int x5), none, none]) hS dX8_plain_64 (Nat.le_of_ble_eq_true rfl) (fun _ => rfl) (fun x5 ex5 => ?_)
                rw [show x5 = nI p from ex5]
                have aft : J S 0 0 g4 95 [some (.ref 162), some (.int (nI c)), some (.int (nI o)), some (.int (nI m)), some (.int (nI k)), some (.int (nI p)), none, none] [.int (nI (mnK m p))] := by
                  refine J_istore (lt := fun x6 => [some (.ref 162), some (.int (nI c)), some (.int (nI o)), some (.int (nI m)), some (.int (nI k)), some (.int (nI p)), some (.int x6), none]) hS dX8_plain_95 (Nat.le_of_ble_eq_true rfl) (fun _ => rfl) (fun x6 ex6 => ?_)
                  rw [show x6 = nI (mnK m p) from ex6]
                  refine J_aload_n hS dX8_plain_97 rfl ?_
                  refine J_iload_n hS dX8_plain_98 rfl ?_
                  refine J_callS1 (X' := fun _ _ => False) hS dX8_plain_99 msX8_121 rfl (by first | decide | omega) (by decide) (Nat.le_of_ble_eq_true rfl) ⟨Nat.le_trans (by decide) hR.1, Nat.le_trans (by decide) hR.2⟩ (fun _ _ q => q.elim) (m_at ?_)
                  refine J_bipush (v := 8) hS dX8_plain_102 (by decide) ?_
                  refine J_iadd hS dX8_plain_104 ?_
                  refine J_bipush (v := 16) hS dX8_plain_105 (by decide) ?_
                  refine J_iload hS dX8_plain_107 rfl ?_
                  refine J_iload hS dX8_plain_109 rfl ?_
                  refine J_callS2 (X' := fun _ _ => False) hS dX8_plain_111 msX8_294 rfl (by first | decide | omega) (by decide) (Nat.le_of_ble_eq_true rfl) ⟨Nat.le_trans (by decide) hR.1, Nat.le_trans (by decide) hR.2⟩ (fun _ _ q => q.elim) (m_concept (by omega) ?_)
                  refine J_imul hS dX8_plain_114 ?_
                  refine J_iadd hS dX8_plain_115 ?_
                  refine J_bipush (v := 16) hS dX8_plain_116 (by decide) ?_
                  show J S 0 0 (g4) 118 [some (.ref 162), some (.int (nI c)), some (.int (nI o)), some (.int (nI m)), some (.int (nI k)), some (.int (nI p)), some (.int (nI (mnK m p))), none] [.int 16, .int _, .ref 162]
                  rw [show nI (56 + 142 * c) + 8 + 16 * nI (con p (mnK m p)) = nI (sgB c (con p (mnK m p))) by rw [n8, n16, nI_add, pk_mul, nI_add]; rfl, show (16 : Int32) = nI 16 from rfl]
                  refine J_callV2 (X' := fun _ _ => False) hS dX8_plain_118 mvX8_383 ob162 rfl (by first | decide | omega) (by decide) (Nat.le_of_ble_eq_true rfl) ⟨Nat.le_trans (by decide) hR.1, Nat.le_trans (by decide) hR.2⟩ (fun _ _ q => q.elim) (m_heaviest i4 (by unfold sgB; omega) (by decide) (fun s hs => (hwt.sg hcon hs).1) ?_)
                  refine J_istore (lt := fun x7 => [some (.ref 162), some (.int (nI c)), some (.int (nI o)), some (.int (nI m)), some (.int (nI k)), some (.int (nI p)), some (.int (nI (mnK m p))), some (.int x7)]) hS dX8_plain_121 (Nat.le_of_ble_eq_true rfl) (fun _ => rfl) (fun x7 ex7 => ?_)
                  have put : ∀ v : Int32, v = f m k → J S 0 0 g4 160 [some (.ref 162), some (.int (nI c)), some (.int (nI o)), some (.int (nI m)), some (.int (nI k)), some (.int (nI p)), some (.int (nI (mnK m p))), some (.int x7)] [.int v, .int (nI (3 * m + k)), .ref 215] := by
                    intro v hv
                    refine J_iastN hS (3 * m + k) dX8_plain_160 (show Ar lay NC .int 215 192 from arM 52 192 (by decide) (by decide) rfl) (by first | rfl | (simp only [n0, n1, n2, n3, n4, n5, n6, n7, n8, n9, n10, n11, n12, n13, n14, n15, n16, n17, n18, n19, n20, n24, n32, n56, n60, n64, n72, n99, n100, n128, n136, n142, n144, n200, n300, n999, n1000, n1500, n3464, nI_add, pk_mul] <;> first | rfl | (congr 1; omega))) (by omega) (by decide) (fun g160 eg160 => ?_)
                    refine J_iinc (lt := fun k2 => [some (.ref 162), some (.int (nI c)), some (.int (nI o)), some (.int (nI m)), some (.int k2), some (.int (nI p)), some (.int (nI (mnK m p))), some (.int x7)]) (v := 1) hS dX8_plain_161 rfl (by decide) (fun _ => rfl) (fun k2 ek2 => ?_)
                    refine J_goto (tgt := 48) hS dX8_plain_164 (by decide) ?_
                    refine ih2 (k + 1) k2 _ _ _ g160 (by omega) (by rw [ek2]; exact nI_1 k) ?_ (by rw [eg160, u2_ne 162 (by decide)]; exact t4) ?_ ?_
                    · rw [eg160]; exact z4.trans ⟨fun z _ _ _ _ _ _ _ _ z9 _ => u2_ne z z9, fun j _ => by rw [u2_ne 162 (by decide)]⟩
                    · intro m' k' h1 h2; rw [eg160, u2_at, if_neg (by omega)]; exact r4 m' k' h1 h2
                    · intro k' h1; rw [eg160, u2_at]; split
                      · rename_i e; rw [hv, show k' = k by omega]
                      · exact r4' k' (by omega)
                  refine J_aload_n hS dX8_plain_123 rfl ?_
                  refine J_getR (t := 215) hS dX8_plain_124 flX8_96 ob162 rfl ?_
                  refine J_iconst (v := 3) hS dX8_plain_127 (by decide) ?_
                  refine J_iload_n hS dX8_plain_128 rfl ?_
                  refine J_imul hS dX8_plain_129 ?_
                  refine J_iload hS dX8_plain_130 rfl ?_
                  refine J_iadd hS dX8_plain_132 ?_
                  show J S 0 0 (g4) 133 [some (.ref 162), some (.int (nI c)), some (.int (nI o)), some (.int (nI m)), some (.int (nI k)), some (.int (nI p)), some (.int (nI (mnK m p))), some (.int x7)] [.int _, .ref (215)]
                  rw [n3, pk_mul, nI_add]
                  refine J_iload hS dX8_plain_133 rfl ?_
                  refine J_iconst (v := (-1)) hS dX8_plain_135 (by decide) ?_
                  unfold hvy at ex7
                  unfold sfW at efk
                  refine J_icmp_ne (tgt := 143) hS dX8_plain_136 (by decide) (fun d3 => ?_) (fun d3 => ?_)
                  · have pos : 0 < w (sgB c (con p (mnK m p)) + bst (fun s => w (sgB c (con p (mnK m p)) + s)) 16) := by
                      refine Decidable.byContradiction (fun z => d3 ?_)
                      rw [ex7, if_neg z]
                    rw [if_pos pos] at ex7 efk
                    have hb := bst_lt (f := fun s => w (sgB c (con p (mnK m p)) + s)) (n := 16) (by decide)
                    obtain ⟨b, ebq⟩ : ∃ b, b = bst (fun s => w (sgB c (con p (mnK m p)) + s)) 16 := ⟨_, rfl⟩
                    rw [← ebq] at ex7 efk hb
                    refine J_aload_n hS dX8_plain_143 rfl ?_
                    refine J_aload_n hS dX8_plain_144 rfl ?_
                    refine J_getR (t := 164) hS dX8_plain_145 flX8_13 ob162 rfl ?_
                    refine J_iload_n hS dX8_plain_148 rfl ?_
                    refine J_callS1 (X' := fun _ _ => False) hS dX8_plain_149 msX8_121 rfl (by first | decide | omega) (by decide) (Nat.le_of_ble_eq_true rfl) ⟨Nat.le_trans (by decide) hR.1, Nat.le_trans (by decide) hR.2⟩ (fun _ _ q => q.elim) (m_at ?_)
                    refine J_iconst (v := 0) hS dX8_plain_152 (by decide) ?_
                    refine J_iadd hS dX8_plain_153 ?_
                    refine J_ialdN hS (56 + 142 * c) dX8_plain_154 (show Ar lay NC .int 164 3464 from arM 1 3464 (by decide) (by decide) rfl) (by first | rfl | (simp only [n0, n1, n2, n3, n4, n5, n6, n7, n8, n9, n10, n11, n12, n13, n14, n15, n16, n17, n18, n19, n20, n24, n32, n56, n60, n64, n72, n99, n100, n128, n136, n142, n144, n200, n300, n999, n1000, n1500, n3464, nI_add, pk_mul] <;> first | rfl | (congr 1; omega))) (by omega) (by decide) ?_
                    show J S 0 0 (g4) 155 [some (.ref 162), some (.int (nI c)), some (.int (nI o)), some (.int (nI m)), some (.int (nI k)), some (.int (nI p)), some (.int (nI (mnK m p))), some (.int x7)] [.int _, .ref 162, .int (nI (3 * m + k)), .ref 215]
                    rw [i4.row (56 + 142 * c) (by omega), ey]
                    refine J_iload hS dX8_plain_155 rfl ?_
                    show J S 0 0 (g4) 157 [some (.ref 162), some (.int (nI c)), some (.int (nI o)), some (.int (nI m)), some (.int (nI k)), some (.int (nI p)), some (.int (nI (mnK m p))), some (.int x7)] [.int x7, .int (nI y), .ref 162, .int (nI (3 * m + k)), .ref 215]
                    rw [show x7 = nI b from ex7]
                    rw [show x7 = nI b from ex7] at put
                    refine J_callV2 (X' := fun _ _ => False) hS dX8_plain_157 mvX8_314 ob162 rfl (by first | decide | omega) (by decide) (Nat.le_of_ble_eq_true rfl) ⟨Nat.le_trans (by decide) hR.1, Nat.le_trans (by decide) hR.2⟩ (fun _ _ q => q.elim) (m_seenAs Rw4 i4.w3 i4.rw hy hb ?_)
                    exact put _ efk.symm
                  · have npos : ¬ 0 < w (sgB c (con p (mnK m p)) + bst (fun s => w (sgB c (con p (mnK m p)) + s)) 16) := by
                      intro z
                      rw [if_pos z] at ex7
                      rw [ex7] at d3
                      have hb := bst_lt (f := fun s => w (sgB c (con p (mnK m p)) + s)) (n := 16) (by decide)
                      exact nI_nem1 (by omega) d3
                    rw [if_neg npos] at efk
                    refine J_iconst (v := (-1)) hS dX8_plain_139 (by decide) ?_
                    refine J_goto (tgt := 160) hS dX8_plain_140 (by decide) ?_
                    exact put _ efk.symm
                refine J_iload hS dX8_plain_66 rfl ?_
                refine J_if_ne (tgt := 78) hS dX8_plain_68 (by decide) (fun d3 => ?_) (fun d3 => ?_)
                ·
                  refine J_iload hS dX8_plain_78 rfl ?_
                  refine J_iconst (v := 1) hS dX8_plain_80 (by decide) ?_
                  refine J_icmp_ne (tgt := 92) hS dX8_plain_81 (by decide) (fun d4 => ?_) (fun d4 => ?_)
                  · have e2 : p = 2 := by
                      have h0 : p ≠ 0 := fun z => d3 (by rw [z]; rfl)
                      have h1 : p ≠ 1 := fun z => d4 (by rw [z]; rfl)
                      omega
                    refine J_iload_n hS dX8_plain_92 rfl ?_
                    refine J_iconst (v := 4) hS dX8_plain_93 (by decide) ?_
                    refine J_irem hS dX8_plain_94 (by decide) ?_
                    show J S 0 0 (g4) 95 [some (.ref 162), some (.int (nI c)), some (.int (nI o)), some (.int (nI m)), some (.int (nI k)), some (.int (nI p)), none, none] [.int _]
                    rw [n4, nI_rem (by omega) (by decide) (by decide), show nI (m % 4) = nI (mnK m p) by rw [e2]; rfl]
                    exact aft
                  · have e1 : p = 1 := (nI_eq (by omega) (by decide)).mp d4
                    refine J_iload_n hS dX8_plain_84 rfl ?_
                    refine J_iconst (v := 4) hS dX8_plain_85 (by decide) ?_
                    refine J_idiv hS dX8_plain_86 (by decide) ?_
                    refine J_iconst (v := 4) hS dX8_plain_87 (by decide) ?_
                    refine J_irem hS dX8_plain_88 (by decide) ?_
                    refine J_goto (tgt := 95) hS dX8_plain_89 (by decide) ?_
                    show J S 0 0 (g4) 95 [some (.ref 162), some (.int (nI c)), some (.int (nI o)), some (.int (nI m)), some (.int (nI k)), some (.int (nI p)), none, none] [.int _]
                    rw [n4, nI_div (by omega) (by decide) (by decide), nI_rem (by omega) (by decide) (by decide), show nI (m / 4 % 4) = nI (mnK m p) by rw [e1]; rfl]
                    exact aft
                · have e0 : p = 0 := (nI_eq (by omega) (by decide)).mp d3
                  refine J_iload_n hS dX8_plain_71 rfl ?_
                  refine J_bipush (v := 16) hS dX8_plain_72 (by decide) ?_
                  refine J_idiv hS dX8_plain_74 (by decide) ?_
                  refine J_goto (tgt := 95) hS dX8_plain_75 (by decide) ?_
                  show J S 0 0 (g4) 95 [some (.ref 162), some (.int (nI c)), some (.int (nI o)), some (.int (nI m)), some (.int (nI k)), some (.int (nI p)), none, none] [.int _]
                  rw [n16, nI_div (by omega) (by decide) (by decide), show nI (m / 16) = nI (mnK m p) by rw [e0]; rfl]
                  exact aft
      · have e : hvy (fun s => w (odB c + s)) 6 = -1 := by rw [← ex2]; exact c2
        refine J_iconst (v := 0) hS dX8_plain_35 (by decide) ?_
        refine J_iret hS hZ hr dX8_plain_36 (by omega) (by omega) ?_
        exact q0 c hc rfl e g2 z2 t2
    · exact absurd c1 (by decide)
  ·
    refine J_aload_n hS dX8_plain_5 rfl ?_
    refine J_iload_n hS dX8_plain_6 rfl ?_
    refine J_callV1 (X' := fun _ _ => False) hS dX8_plain_7 mvX8_125 ob162 rfl (by first | decide | omega) (by decide) (Nat.le_of_ble_eq_true rfl) ⟨Nat.le_trans (by decide) hR.1, Nat.le_trans (by decide) hR.2⟩ (fun _ _ q => q.elim) (m_childN i2 t2 hbc ?_)
    refine J_if_ne (tgt := 15) hS dX8_plain_10 (by decide) (fun c1 => ?_) (fun c1 => ?_)
    · exact absurd rfl c1
    ·
      refine J_iconst (v := 0) hS dX8_plain_13 (by decide) ?_
      refine J_iret hS hZ hr dX8_plain_14 (by omega) (by omega) ?_
      exact x hbc _ (z2.trans FrZ_thr) (u2_self ..)
end RefL


/-! THE REFERENCE: nearest, blurred -/
def okN (w : Wr) (n i j : Nat) : Bool := decide (j ≠ i ∧ ¬ ((here (thrW w (nI i)) n).length = 0 ∨ (here (thrW w (nI j)) n).length = 0))
def pB (w : Wr) (n y e : Nat) : Bool := decide (e / 8 < e % 8 ∧ e / 8 / 4 = e % 8 / 4 ∧ sgN w n (nI y) (e / 8) ≠ sgN w n (nI y) (e % 8) ∧ snW w y (sgN w n (nI y) (e / 8)) = snW w y (sgN w n (nI y) (e % 8)))
theorem nrS_n {ok : Nat → Bool} {f : Nat → Int32} {k : Nat} (h : ¬ (ok k = true ∧ f k < (nrS ok f k).2)) : nrS ok f (k + 1) = nrS ok f k := by
  show (if ok k = true ∧ f k < (nrS ok f k).2 then (nI k, f k) else nrS ok f k) = _
  rw [if_neg h]
theorem nrS_y {ok : Nat → Bool} {f : Nat → Int32} {k : Nat} (h : ok k = true ∧ f k < (nrS ok f k).2) : nrS ok f (k + 1) = (nI k, f k) := by
  show (if ok k = true ∧ f k < (nrS ok f k).2 then (nI k, f k) else nrS ok f k) = _
  rw [if_pos h]
section RefN
variable {l : Launch} {E : Ey} {g : Mm} {Q : Option Value → Mm → Prop} {X : String → Mm → Prop} {w : Wr} {n : Nat}
set_option maxRecDepth 10000 in
theorem m_nearest {y : Int32} (hI : RI g w n) (x : ou 3 y → ∀ g', FrZ g g' → g' 162 0 = 1 → Q (some (.int 0)) g') (q : ∀ i, i < 3 → y = nI i → ∀ g', FrZ g g' → g' 162 0 = 0 → Q (some (.int (nrS (okN w n i) (fun j => nI (unN w n i j)) 3).1)) g') : Ct l E lay NC 3 0 0 yX8_nearest [.ref 162, .int y] g Q X := by
  have hn := hI.hn
  refine Ct_in k_yX8_nearest (by decide) rfl (Nat.le_of_ble_eq_true rfl) rfl ?_
  intro S hS hZ hr ht hR
  show J S 0 0 (g) 0 [some (.ref 162), some (.int y), none, none, none, none] []
  refine J_aload_n hS dX8_nearest_0 rfl ?_
  refine J_iconst (v := 0) hS dX8_nearest_1 (by decide) ?_
  refine J_putI hS dX8_nearest_2 fpX8_1 ob162 rfl (fun g2 eg2 => ?_)
  have z2 : FrZ g g2 := by rw [eg2]; exact FrZ_thr
  have t2 : g2 162 0 = 0 := by rw [eg2, u2_self]
  have i2 := hI.fr z2
  rcases in_or (y := y) (b := 3) (by first | decide | omega) with ⟨i, hi, ei⟩ | hbi
  ·
    subst ei
    refine J_aload_n hS dX8_nearest_5 rfl ?_
    refine J_iload_n hS dX8_nearest_6 rfl ?_
    refine J_callS1 (X' := fun _ _ => False) hS dX8_nearest_7 msX8_117 rfl (by first | decide | omega) (by decide) (Nat.le_of_ble_eq_true rfl) ⟨Nat.le_trans (by decide) hR.1, Nat.le_trans (by decide) hR.2⟩ (fun _ _ q => q.elim) (m_yardY hi ?_)
    refine J_iconst (v := 1) hS dX8_nearest_10 (by decide) ?_
    refine J_callV2 (X' := fun _ _ => False) hS dX8_nearest_11 mvX8_110 ob162 rfl (by first | decide | omega) (by decide) (Nat.le_of_ble_eq_true rfl) ⟨Nat.le_trans (by decide) hR.1, Nat.le_trans (by decide) hR.2⟩ (fun _ _ q => q.elim) (m_mayY t2 (by decide) ?_)
    refine J_if_ne (tgt := 19) hS dX8_nearest_14 (by decide) (fun c3 => ?_) (fun c3 => ?_)
    ·
      refine J_iconst (v := (-1)) hS dX8_nearest_19 (by decide) ?_
      refine J_istore_n (lt := fun b1 => [some (.ref 162), some (.int (nI i)), some (.int b1), none, none, none]) hS dX8_nearest_20 (Nat.le_of_ble_eq_true rfl) (fun _ => rfl) (fun b1 eb1 => ?_)
      refine J_iconst (v := 0) hS dX8_nearest_21 (by decide) ?_
      refine J_istore_n (lt := fun m1 => [some (.ref 162), some (.int (nI i)), some (.int b1), some (.int m1), none, none]) hS dX8_nearest_22 (Nat.le_of_ble_eq_true rfl) (fun _ => rfl) (fun m1 em1 => ?_)
      refine J_iconst (v := 0) hS dX8_nearest_23 (by decide) ?_
      refine J_istore (lt := fun k1 => [some (.ref 162), some (.int (nI i)), some (.int b1), some (.int m1), some (.int k1), none]) hS dX8_nearest_24 (Nat.le_of_ble_eq_true rfl) (fun _ => rfl) (fun k1 ek1 => ?_)
      obtain ⟨ok, hok⟩ : ∃ ok : Nat → Bool, ok = okN w n i := ⟨_, rfl⟩
      obtain ⟨f, hf⟩ : ∃ f : Nat → Int32, f = fun j => nI (unN w n i j) := ⟨_, rfl⟩
      have qq : ∀ g', FrG g2 g' → Q (some (.int (nrS ok f 3).1)) g' := fun g' f' => by rw [hok, hf]; exact q i hi rfl g' (z2.trans f'.z) (by rw [f'.2 0 (by decide)]; exact t2)
      suffices H : ∀ (t k : Nat) (b m v : Int32) (v5 : Option Value) (g3 : Mm), k + t = 3 → v = nI k → FrG g2 g3 → b = (nrS ok f k).1 → ((b = -1 ∧ (nrS ok f k).2 = 10) ∨ (¬ b = -1 ∧ m = (nrS ok f k).2)) → J S 0 0 g3 26 [some (.ref 162), some (.int (nI i)), some (.int b), some (.int m), some (.int v), v5] [] by
        exact H 3 0 b1 m1 k1 none g2 (by omega) ek1 ⟨fun _ _ _ _ => rfl, fun _ _ => rfl⟩ eb1 (Or.inl ⟨eb1, rfl⟩)
      intro t
      induction t with
      | zero =>
        intro k b m v v5 g3 hk hv f3 hb hm
        have e : k = 3 := by omega
        subst e; subst hv
        refine J_weak (ls' := [some (.ref 162), some (.int (nI i)), some (.int b), some (.int m), some (.int (nI 3)), none]) ⟨Or.inr rfl, Or.inr rfl, Or.inr rfl, Or.inr rfl, Or.inr rfl, Or.inl rfl, trivial⟩ ?_
        refine J_iload hS dX8_nearest_26 rfl ?_
        refine J_iconst (v := 3) hS dX8_nearest_28 (by decide) ?_
        refine J_icmp_ge (tgt := 82) hS dX8_nearest_29 (by decide) (fun c4 => ?_) (fun c4 => ?_)
        ·
          refine J_iload_n hS dX8_nearest_82 rfl ?_
          refine J_iret hS hZ hr dX8_nearest_83 (by omega) (by omega) ?_
          rw [hb]; exact qq g3 f3
        · exact absurd (by decide) c4
      | succ t ih =>
        intro k b m v v5 g3 hk hv f3 hb hm
        subst hv
        have hk3 : k < 3 := by omega
        refine J_weak (ls' := [some (.ref 162), some (.int (nI i)), some (.int b), some (.int m), some (.int (nI k)), none]) ⟨Or.inr rfl, Or.inr rfl, Or.inr rfl, Or.inr rfl, Or.inr rfl, Or.inl rfl, trivial⟩ ?_
        have i3 := i2.fr f3.z
        have skip : ∀ (g4 : Mm) (v5 : Option Value), FrG g2 g4 → ¬ (ok k = true ∧ f k < (nrS ok f k).2) → J S 0 0 g4 76 [some (.ref 162), some (.int (nI i)), some (.int b), some (.int m), some (.int (nI k)), v5] [] := by
          intro g4 v5 f4 hno
          refine J_weak (ls' := [some (.ref 162), some (.int (nI i)), some (.int b), some (.int m), some (.int (nI k)), none]) ⟨Or.inr rfl, Or.inr rfl, Or.inr rfl, Or.inr rfl, Or.inr rfl, Or.inl rfl, trivial⟩ ?_
          refine J_iinc (lt := fun v2 => [some (.ref 162), some (.int (nI i)), some (.int b), some (.int m), some (.int v2), none]) (v := 1) hS dX8_nearest_76 rfl (by decide) (fun _ => rfl) (fun v2 ev2 => ?_)
          refine J_goto (tgt := 26) hS dX8_nearest_79 (by decide) ?_
          exact ih (k + 1) b m v2 _ g4 (by omega) (by rw [ev2]; exact nI_1 k) f4 (by rw [nrS_n hno]; exact hb) (by rw [nrS_n hno]; exact hm)
        have take : ∀ (g4 : Mm), FrG g2 g4 → (ok k = true ∧ f k < (nrS ok f k).2) → J S 0 0 g4 70 [some (.ref 162), some (.int (nI i)), some (.int b), some (.int m), some (.int (nI k)), some (.int (f k))] [] := by
          intro g4 f4 hyes
          refine J_iload hS dX8_nearest_70 rfl ?_
          refine J_istore_n (lt := fun b2 => [some (.ref 162), some (.int (nI i)), some (.int b2), some (.int m), some (.int (nI k)), some (.int (f k))]) hS dX8_nearest_72 (Nat.le_of_ble_eq_true rfl) (fun _ => rfl) (fun b2 eb2 => ?_)
          refine J_iload hS dX8_nearest_73 rfl ?_
          refine J_istore_n (lt := fun m2 => [some (.ref 162), some (.int (nI i)), some (.int b2), some (.int m2), some (.int (nI k)), some (.int (f k))]) hS dX8_nearest_75 (Nat.le_of_ble_eq_true rfl) (fun _ => rfl) (fun m2 em2 => ?_)
          refine J_iinc (lt := fun v2 => [some (.ref 162), some (.int (nI i)), some (.int b2), some (.int m2), some (.int v2), some (.int (f k))]) (v := 1) hS dX8_nearest_76 rfl (by decide) (fun _ => rfl) (fun v2 ev2 => ?_)
          refine J_goto (tgt := 26) hS dX8_nearest_79 (by decide) ?_
          exact ih (k + 1) b2 m2 v2 _ g4 (by omega) (by rw [ev2]; exact nI_1 k) f4 (by rw [nrS_y hyes]; exact eb2) (Or.inr ⟨by rw [eb2]; exact nI_nem1 (by omega), by rw [nrS_y hyes]; exact em2⟩)
        refine J_iload hS dX8_nearest_26 rfl ?_
        refine J_iconst (v := 3) hS dX8_nearest_28 (by decide) ?_
        refine J_icmp_ge (tgt := 82) hS dX8_nearest_29 (by decide) (fun c4 => ?_) (fun c4 => ?_)
        · exact absurd c4 (nI_ge hk3 (by decide))
        ·
          refine J_iload hS dX8_nearest_32 rfl ?_
          refine J_iload_n hS dX8_nearest_34 rfl ?_
          refine J_icmp_ne (tgt := 41) hS dX8_nearest_35 (by decide) (fun c5 => ?_) (fun c5 => ?_)
          · refine J_aload_n hS dX8_nearest_41 rfl ?_
            refine J_iload_n hS dX8_nearest_42 rfl ?_
            refine J_iload hS dX8_nearest_43 rfl ?_
            have nki : k ≠ i := fun z => c5 (by rw [z])
            have fl : f k < 10 := by
              rw [hf]; show nI (unN w n i k) < nI 10; exact nI_lt (by have := unN_le (w := w) (n := n) (i := i) (j := k); omega) (by decide)
            have aft : ∀ (v : Int32) (g4 : Mm), FrG g2 g4 → ((v = -1 ∧ ¬ ok k = true) ∨ (v = f k ∧ ok k = true)) → J S 0 0 g4 48 [some (.ref 162), some (.int (nI i)), some (.int b), some (.int m), some (.int (nI k)), none] [.int v] := by
              intro v g4 f4 hv
              refine J_istore (lt := fun x5 => [some (.ref 162), some (.int (nI i)), some (.int b), some (.int m), some (.int (nI k)), some (.int x5)]) hS dX8_nearest_48 (Nat.le_of_ble_eq_true rfl) (fun _ => rfl) (fun x5 ex5 => ?_)
              refine J_iload hS dX8_nearest_50 rfl ?_
              refine J_iconst (v := (-1)) hS dX8_nearest_52 (by decide) ?_
              have hv' : (x5 = -1 ∧ ¬ ok k = true) ∨ (x5 = f k ∧ ok k = true) := by rw [ex5]; exact hv
              have hfk : ¬ f k = -1 := by rw [hf]; exact nI_nem1 (by have := unN_le (w := w) (n := n) (i := i) (j := k); omega)
              refine J_icmp_eq (tgt := 76) hS dX8_nearest_53 (by decide) (fun c6 => ?_) (fun c6 => ?_)
              · refine skip g4 _ f4 (fun z => ?_)
                rcases hv' with ⟨_, h2⟩ | ⟨h1, _⟩
                · exact h2 z.1
                · rw [h1] at c6; exact hfk c6
              · obtain ⟨e1, o1⟩ := hv'.resolve_left (fun z => c6 z.1)
                subst e1
                refine J_iload_n hS dX8_nearest_56 rfl ?_
                refine J_iconst (v := (-1)) hS dX8_nearest_57 (by decide) ?_
                refine J_icmp_eq (tgt := 70) hS dX8_nearest_58 (by decide) (fun c7 => ?_) (fun c7 => ?_)
                · refine take g4 f4 ⟨o1, ?_⟩
                  rcases hm with ⟨_, h2⟩ | ⟨h1, _⟩
                  · rw [h2]; exact fl
                  · exact absurd c7 h1
                · have hm2 : m = (nrS ok f k).2 := (hm.resolve_left (fun z => c7 z.1)).2
                  refine J_iload hS dX8_nearest_61 rfl ?_
                  refine J_iload_n hS dX8_nearest_63 rfl ?_
                  refine J_icmp_lt (tgt := 70) hS dX8_nearest_64 (by decide) (fun c8 => ?_) (fun c8 => ?_)
                  · exact take g4 f4 ⟨o1, by rw [← hm2]; exact c8⟩
                  ·
                    refine J_goto (tgt := 76) hS dX8_nearest_67 (by decide) ?_
                    exact skip g4 _ f4 (fun z => c8 (by rw [hm2]; exact z.2))
            have okT : ¬ ((here (thrW w (nI i)) n).length = 0 ∨ (here (thrW w (nI k)) n).length = 0) → ok k = true := fun z => by rw [hok]; exact decide_eq_true ⟨nki, z⟩
            have okF : ((here (thrW w (nI i)) n).length = 0 ∨ (here (thrW w (nI k)) n).length = 0) → ¬ ok k = true := fun z => by rw [hok]; unfold okN; rw [decide_eq_true_iff]; exact fun y => y.2 z
            refine J_callV2 (X' := fun _ _ => False) hS dX8_nearest_45 mvX8_377 ob162 rfl (by first | decide | omega) (by decide) (Nat.le_of_ble_eq_true rfl) ⟨Nat.le_trans (by decide) hR.1, Nat.le_trans (by decide) hR.2⟩ (fun _ _ q => q.elim) (m_unlikeOf i3 hi hk3 (fun z g4 f4 => aft _ g4 (f3.trans f4) (Or.inl ⟨rfl, okF z⟩)) (fun z z' g4 f4 => aft _ g4 (f3.trans f4) (Or.inr ⟨by rw [hf], okT (fun y => y.elim z z')⟩)))
          · have e : k = i := (nI_eq (by omega) (by omega)).mp c5
            refine J_goto (tgt := 76) hS dX8_nearest_38 (by decide) ?_
            exact skip g3 _ f3 (fun z => by have := z.1; rw [hok] at this; exact (of_decide_eq_true this).1 e)
    · exact absurd c3 (by decide)
  ·
    refine J_aload_n hS dX8_nearest_5 rfl ?_
    refine J_iload_n hS dX8_nearest_6 rfl ?_
    refine J_callS1 (X' := fun _ _ => False) hS dX8_nearest_7 msX8_117 rfl (by first | decide | omega) (by decide) (Nat.le_of_ble_eq_true rfl) ⟨Nat.le_trans (by decide) hR.1, Nat.le_trans (by decide) hR.2⟩ (fun _ _ q => q.elim) (m_yardN hbi ?_)
    refine J_iconst (v := 1) hS dX8_nearest_10 (by decide) ?_
    refine J_callV2 (X' := fun _ _ => False) hS dX8_nearest_11 mvX8_110 ob162 rfl (by first | decide | omega) (by decide) (Nat.le_of_ble_eq_true rfl) ⟨Nat.le_trans (by decide) hR.1, Nat.le_trans (by decide) hR.2⟩ (fun _ _ q => q.elim) (m_mayN t2 (by decide) ?_)
    refine J_if_ne (tgt := 19) hS dX8_nearest_14 (by decide) (fun c3 => ?_) (fun c3 => ?_)
    · exact absurd rfl c3
    ·
      refine J_iconst (v := 0) hS dX8_nearest_17 (by decide) ?_
      refine J_iret hS hZ hr dX8_nearest_18 (by omega) (by omega) ?_
      exact x hbi _ (z2.trans FrZ_thr) (u2_self ..)
set_option maxRecDepth 10000 in
theorem m_blurred {y k : Int32} (hI : RI g w n) (x : ou 3 y → ∀ g', FrZ g g' → g' 162 0 = 1 → Q (some (.int 0)) g') (q0 : ∀ i, i < 3 → y = nI i → (here (thrW w (nI i)) n).length = 0 → ∀ g', FrZ g g' → g' 162 0 = 0 → Q (some (.int (-1))) g') (q : ∀ i, i < 3 → y = nI i → ¬ (here (thrW w (nI i)) n).length = 0 → ∀ g', FrZ g g' → g' 162 0 = 0 → Q (some (.int (bkA (pB w n i) k 0 64))) g') : Ct l E lay NC 2 0 0 yX8_blurred [.ref 162, .int y, .int k] g Q X := by
  have hn := hI.hn
  refine Ct_in k_yX8_blurred (by decide) rfl (Nat.le_of_ble_eq_true rfl) rfl ?_
  intro S hS hZ hr ht hR
  show J S 0 0 (g) 0 [some (.ref 162), some (.int y), some (.int k), none, none, none] []
  refine J_aload_n hS dX8_blurred_0 rfl ?_
  refine J_iconst (v := 0) hS dX8_blurred_1 (by decide) ?_
  refine J_putI hS dX8_blurred_2 fpX8_1 ob162 rfl (fun g2 eg2 => ?_)
  have z2 : FrZ g g2 := by rw [eg2]; exact FrZ_thr
  have t2 : g2 162 0 = 0 := by rw [eg2, u2_self]
  have i2 := hI.fr z2
  rcases in_or (y := y) (b := 3) (by first | decide | omega) with ⟨i, hi, ei⟩ | hbi
  ·
    subst ei
    have hli := here_len (thrW w (nI i)) n
    refine J_aload_n hS dX8_blurred_5 rfl ?_
    refine J_iload_n hS dX8_blurred_6 rfl ?_
    refine J_callS1 (X' := fun _ _ => False) hS dX8_blurred_7 msX8_117 rfl (by first | decide | omega) (by decide) (Nat.le_of_ble_eq_true rfl) ⟨Nat.le_trans (by decide) hR.1, Nat.le_trans (by decide) hR.2⟩ (fun _ _ q => q.elim) (m_yardY hi ?_)
    refine J_iconst (v := 1) hS dX8_blurred_10 (by decide) ?_
    refine J_callV2 (X' := fun _ _ => False) hS dX8_blurred_11 mvX8_110 ob162 rfl (by first | decide | omega) (by decide) (Nat.le_of_ble_eq_true rfl) ⟨Nat.le_trans (by decide) hR.1, Nat.le_trans (by decide) hR.2⟩ (fun _ _ q => q.elim) (m_mayY t2 (by decide) ?_)
    refine J_if_ne (tgt := 19) hS dX8_blurred_14 (by decide) (fun c3 => ?_) (fun c3 => ?_)
    ·
      refine J_aload_n hS dX8_blurred_19 rfl ?_
      refine J_iload_n hS dX8_blurred_20 rfl ?_
      refine J_callV1 (X' := fun _ _ => False) hS dX8_blurred_21 mvX8_344 ob162 rfl (by first | decide | omega) (by decide) (Nat.le_of_ble_eq_true rfl) ⟨Nat.le_trans (by decide) hR.1, Nat.le_trans (by decide) hR.2⟩ (fun _ _ q => q.elim) (m_findHere Rw4 i2.w3 hn i2.m6 (i2.tm (y := nI i)) (fun g3 b1 b2 b3 b4 => ?_))
      refine J_aload_n hS dX8_blurred_24 rfl ?_
      refine J_getI hS dX8_blurred_25 flX8_335 ob162 rfl ?_
      have f3 : FrG g2 g3 := ⟨fun z z1 z2 _ => b1 z z1 z2, b2⟩
      show J S 0 0 (g3) 28 [some (.ref 162), some (.int (nI i)), some (.int k), none, none, none] [.int _]
      rw [b3]
      refine J_if_ne (tgt := 33) hS dX8_blurred_28 (by decide) (fun c4 => ?_) (fun c4 => ?_)
      · have ni : ¬ (here (thrW w (nI i)) n).length = 0 := fun z => c4 (by rw [z]; rfl)
        obtain ⟨P, hP⟩ : ∃ P : Nat → Bool, P = pB w n i := ⟨_, rfl⟩
        obtain ⟨R, hR0⟩ : ∃ R : Int32, R = bkA P k 0 64 := ⟨_, rfl⟩
        have qq : ∀ g', FrG g2 g' → Q (some (.int R)) g' := fun g' f' => by rw [hR0, hP]; exact q i hi rfl ni g' (z2.trans f'.z) (by rw [f'.2 0 (by decide)]; exact t2)
        refine J_iconst (v := 0) hS dX8_blurred_33 (by decide) ?_
        refine J_istore_n (lt := fun x3 => [some (.ref 162), some (.int (nI i)), some (.int k), some (.int x3), none, none]) hS dX8_blurred_34 (Nat.le_of_ble_eq_true rfl) (fun _ => rfl) (fun x3 ex3 => ?_)
        suffices H : ∀ (t c : Nat) (v : Int32) (g4 : Mm), c + t = 8 → v = nI c → FrG g2 g4 → g4 162 41 = nI (here (thrW w (nI i)) n).length → (∀ k, k < (here (thrW w (nI i)) n).length → g4 205 k = nI ((here (thrW w (nI i)) n).getD k 0)) → (∀ k, k < c → g4 214 k = nI (sgN w n (nI i) k)) → J S 0 0 g4 35 [some (.ref 162), some (.int (nI i)), some (.int k), some (.int v), none, none] [] by
          exact H 8 0 x3 g3 (by omega) ex3 f3 b3 b4 (fun k hk => absurd hk (by omega))
        intro t
        induction t with
        | zero =>
          intro c v g4 hc hv f4 k1 k2 k3
          have e : c = 8 := by omega
          subst e; subst hv
          have i4 := i2.fr f4.z
          refine J_iload_n hS dX8_blurred_35 rfl ?_
          refine J_bipush (v := 8) hS dX8_blurred_36 (by decide) ?_
          refine J_icmp_ge (tgt := 66) hS dX8_blurred_38 (by decide) (fun c5 => ?_) (fun c5 => ?_)
          ·
            refine J_iconst (v := 0) hS dX8_blurred_66 (by decide) ?_
            refine J_istore_n (lt := fun f1 => [some (.ref 162), some (.int (nI i)), some (.int k), some (.int f1), none, none]) hS dX8_blurred_67 (Nat.le_of_ble_eq_true rfl) (fun _ => rfl) (fun f1 ef1 => ?_)
            refine J_iconst (v := 0) hS dX8_blurred_68 (by decide) ?_
            refine J_istore (lt := fun a1 => [some (.ref 162), some (.int (nI i)), some (.int k), some (.int f1), some (.int a1), none]) hS dX8_blurred_69 (Nat.le_of_ble_eq_true rfl) (fun _ => rfl) (fun a1 ea1 => ?_)
            suffices HA : ∀ (t a : Nat) (f v : Int32) (v5 : Option Value), a + t = 8 → v = nI a → f = nI (here P (8 * a)).length → bkA P k (8 * a) (8 * t) = R → J S 0 0 g4 71 [some (.ref 162), some (.int (nI i)), some (.int k), some (.int f), some (.int v), v5] [] by
              exact HA 8 0 f1 a1 none (by omega) ea1 ef1 hR0.symm
            intro t
            induction t with
            | zero =>
              intro a f v v5 ha hv hf hb
              have e : a = 8 := by omega
              subst e; subst hv
              refine J_weak (ls' := [some (.ref 162), some (.int (nI i)), some (.int k), some (.int f), some (.int (nI 8)), none]) ⟨Or.inr rfl, Or.inr rfl, Or.inr rfl, Or.inr rfl, Or.inr rfl, Or.inl rfl, trivial⟩ ?_
              have hb' : (if k = -1 then nI (here P (8 * 8)).length else -1) = R := hb
              refine J_iload hS dX8_blurred_71 rfl ?_
              refine J_bipush (v := 8) hS dX8_blurred_73 (by decide) ?_
              refine J_icmp_ge (tgt := 178) hS dX8_blurred_75 (by decide) (fun c6 => ?_) (fun c6 => ?_)
              ·
                refine J_iload_n hS dX8_blurred_178 rfl ?_
                refine J_iconst (v := (-1)) hS dX8_blurred_179 (by decide) ?_
                refine J_icmp_ne (tgt := 187) hS dX8_blurred_180 (by decide) (fun c7 => ?_) (fun c7 => ?_)
                ·
                  refine J_iconst (v := (-1)) hS dX8_blurred_187 (by decide) ?_
                  refine J_iret hS hZ hr dX8_blurred_188 (by omega) (by omega) ?_
                  rw [if_neg c7] at hb'; rw [hb']; exact qq g4 f4
                ·
                  refine J_iload_n hS dX8_blurred_183 rfl ?_
                  refine J_goto (tgt := 188) hS dX8_blurred_184 (by decide) ?_
                  refine J_iret hS hZ hr dX8_blurred_188 (by omega) (by omega) ?_
                  rw [if_pos c7] at hb'; rw [hf, hb']; exact qq g4 f4
              · exact absurd (by decide) c6
            | succ t ihA =>
              intro a f v v5 ha hv hf hb
              subst hv
              have ha8 : a < 8 := by omega
              refine J_weak (ls' := [some (.ref 162), some (.int (nI i)), some (.int k), some (.int f), some (.int (nI a)), none]) ⟨Or.inr rfl, Or.inr rfl, Or.inr rfl, Or.inr rfl, Or.inr rfl, Or.inl rfl, trivial⟩ ?_
              have hno : ∀ e, 8 * a ≤ e → e < 8 * a + (a + 1) → P e = false := fun e h1 h2 => by rw [hP]; exact decide_eq_false (fun z => by have := z.1; omega)
              refine J_iload hS dX8_blurred_71 rfl ?_
              refine J_bipush (v := 8) hS dX8_blurred_73 (by decide) ?_
              refine J_icmp_ge (tgt := 178) hS dX8_blurred_75 (by decide) (fun c6 => ?_) (fun c6 => ?_)
              · exact absurd c6 (nI_ge ha8 (by decide))
              ·
                refine J_iload hS dX8_blurred_78 rfl ?_
                refine J_iconst (v := 1) hS dX8_blurred_80 (by decide) ?_
                refine J_iadd hS dX8_blurred_81 ?_
                refine J_istore (lt := fun b5 => [some (.ref 162), some (.int (nI i)), some (.int k), some (.int f), some (.int (nI a)), some (.int b5)]) hS dX8_blurred_82 (Nat.le_of_ble_eq_true rfl) (fun _ => rfl) (fun b5 eb5 => ?_)
                suffices HB : ∀ (u b : Nat) (f v : Int32), b + u = 8 → a < b → v = nI b → f = nI (here P (8 * a + b)).length → bkA P k (8 * a + b) (u + 8 * t) = R → J S 0 0 g4 84 [some (.ref 162), some (.int (nI i)), some (.int k), some (.int f), some (.int (nI a)), some (.int v)] [] by
                  refine HB (7 - a) (a + 1) f b5 (by omega) (by omega) (by rw [eb5]; exact nI_1 a) ?_ ?_
                  · rw [hf, here_skip hno]
                  · rw [← hb, show 8 * (t + 1) = (a + 1) + (7 - a + 8 * t) by omega, bkA_skip hno]
                intro u
                induction u with
                | zero =>
                  intro b f v hb8 hab hv hf hb
                  have e : b = 8 := by omega
                  subst e; subst hv
                  refine J_iload hS dX8_blurred_84 rfl ?_
                  refine J_bipush (v := 8) hS dX8_blurred_86 (by decide) ?_
                  refine J_icmp_ge (tgt := 172) hS dX8_blurred_88 (by decide) (fun c7 => ?_) (fun c7 => ?_)
                  ·
                    refine J_iinc (lt := fun a2 => [some (.ref 162), some (.int (nI i)), some (.int k), some (.int f), some (.int a2), some (.int (nI 8))]) (v := 1) hS dX8_blurred_172 rfl (by decide) (fun _ => rfl) (fun a2 ea2 => ?_)
                    refine J_goto (tgt := 71) hS dX8_blurred_175 (by decide) ?_
                    exact ihA (a + 1) f a2 _ (by omega) (by rw [ea2]; exact nI_1 a) (by rw [hf]; rfl) (by rw [← hb]; rw [Nat.zero_add]; rfl)
                  · exact absurd (by decide) c7
                | succ u ihB =>
                  intro b f v hb8 hab hv hf hb
                  subst hv
                  have hlt8 : b < 8 := by omega
                  have ed : (8 * a + b) / 8 = a := by omega
                  have em : (8 * a + b) % 8 = b := by omega
                  have la : sgN w n (nI i) a < 16 := sgN_lt
                  have lb : sgN w n (nI i) b < 16 := sgN_lt
                  have Pt : P (8 * a + b) = true ↔ a < b ∧ a / 4 = b / 4 ∧ sgN w n (nI i) a ≠ sgN w n (nI i) b ∧ snW w i (sgN w n (nI i) a) = snW w i (sgN w n (nI i) b) := by
                    rw [hP]; unfold pB; rw [ed, em]; exact decide_eq_true_iff
                  have no : ¬ P (8 * a + b) = true → J S 0 0 g4 166 [some (.ref 162), some (.int (nI i)), some (.int k), some (.int f), some (.int (nI a)), some (.int (nI b))] [] := by
                    intro hp
                    refine J_iinc (lt := fun b2 => [some (.ref 162), some (.int (nI i)), some (.int k), some (.int f), some (.int (nI a)), some (.int b2)]) (v := 1) hS dX8_blurred_166 rfl (by decide) (fun _ => rfl) (fun b2 eb2 => ?_)
                    refine J_goto (tgt := 84) hS dX8_blurred_169 (by decide) ?_
                    refine ihB (b + 1) f b2 (by omega) (by omega) (by rw [eb2]; exact nI_1 b) ?_ ?_
                    · rw [hf, ← Nat.add_assoc, here_succ, if_neg hp, List.append_nil]
                    · rw [← hb, show u + 1 + 8 * t = (u + 8 * t) + 1 by omega, bkA_no (by cases h : P (8 * a + b); rfl; exact absurd h hp)]; rfl
                  have yes : P (8 * a + b) = true → J S 0 0 g4 149 [some (.ref 162), some (.int (nI i)), some (.int k), some (.int f), some (.int (nI a)), some (.int (nI b))] [] := by
                    intro hp
                    have hb' : (if P (8 * a + b) = true ∧ k = nI (here P (8 * a + b)).length then nI (8 * a + b) else bkA P k (8 * a + b + 1) (u + 8 * t)) = R := by rw [← hb, show u + 1 + 8 * t = (u + 8 * t) + 1 by omega]; rfl
                    refine J_iload_n hS dX8_blurred_149 rfl ?_
                    refine J_iload_n hS dX8_blurred_150 rfl ?_
                    refine J_icmp_ne (tgt := 163) hS dX8_blurred_151 (by decide) (fun c8 => ?_) (fun c8 => ?_)
                    · rw [if_neg (fun z => c8 (by rw [hf]; exact z.2.symm))] at hb'
                      refine J_iinc (lt := fun f2 => [some (.ref 162), some (.int (nI i)), some (.int k), some (.int f2), some (.int (nI a)), some (.int (nI b))]) (v := 1) hS dX8_blurred_163 rfl (by decide) (fun _ => rfl) (fun f2 ef2 => ?_)
                      refine J_iinc (lt := fun b2 => [some (.ref 162), some (.int (nI i)), some (.int k), some (.int f2), some (.int (nI a)), some (.int b2)]) (v := 1) hS dX8_blurred_166 rfl (by decide) (fun _ => rfl) (fun b2 eb2 => ?_)
                      refine J_goto (tgt := 84) hS dX8_blurred_169 (by decide) ?_
                      refine ihB (b + 1) f2 b2 (by omega) (by omega) (by rw [eb2]; exact nI_1 b) ?_ hb'
                      rw [ef2, hf]; exact hl_t hp
                    · rw [if_pos ⟨hp, by rw [← c8]; exact hf⟩] at hb'
                      refine J_bipush (v := 8) hS dX8_blurred_154 (by decide) ?_
                      refine J_iload hS dX8_blurred_156 rfl ?_
                      refine J_imul hS dX8_blurred_158 ?_
                      refine J_iload hS dX8_blurred_159 rfl ?_
                      refine J_iadd hS dX8_blurred_161 ?_
                      show J S 0 0 (g4) 162 [some (.ref 162), some (.int (nI i)), some (.int k), some (.int f), some (.int (nI a)), some (.int (nI b))] [.int _]
                      rw [n8, pk_mul, nI_add]
                      refine J_iret hS hZ hr dX8_blurred_162 (by omega) (by omega) ?_
                      rw [hb']; exact qq g4 f4
                  refine J_iload hS dX8_blurred_84 rfl ?_
                  refine J_bipush (v := 8) hS dX8_blurred_86 (by decide) ?_
                  refine J_icmp_ge (tgt := 172) hS dX8_blurred_88 (by decide) (fun c7 => ?_) (fun c7 => ?_)
                  · exact absurd c7 (nI_ge hlt8 (by decide))
                  ·
                    refine J_iload hS dX8_blurred_91 rfl ?_
                    refine J_iconst (v := 4) hS dX8_blurred_93 (by decide) ?_
                    refine J_idiv hS dX8_blurred_94 (by decide) ?_
                    refine J_iload hS dX8_blurred_95 rfl ?_
                    refine J_iconst (v := 4) hS dX8_blurred_97 (by decide) ?_
                    refine J_idiv hS dX8_blurred_98 (by decide) ?_
                    show J S 0 0 (g4) 99 [some (.ref 162), some (.int (nI i)), some (.int k), some (.int f), some (.int (nI a)), some (.int (nI b))] [.int _, .int _]
                    rw [n4, nI_div (by omega) (by decide) (by decide), nI_div (by omega) (by decide) (by decide)]
                    refine J_icmp_ne (tgt := 166) hS dX8_blurred_99 (by decide) (fun c8 => ?_) (fun c8 => ?_)
                    · exact no (fun z => c8 (by rw [(Pt.mp z).2.1]))
                    · have e4 : a / 4 = b / 4 := (nI_eq (by omega) (by omega)).mp c8
                      refine J_aload_n hS dX8_blurred_102 rfl ?_
                      refine J_getR (t := 214) hS dX8_blurred_103 flX8_93 ob162 rfl ?_
                      refine J_iload hS dX8_blurred_106 rfl ?_
                      refine J_ialdN hS (a) dX8_blurred_108 (show Ar lay NC .int 214 9 from arM 51 9 (by decide) (by decide) rfl) (by first | rfl | (simp only [n0, n1, n2, n3, n4, n5, n6, n7, n8, n9, n10, n11, n12, n13, n14, n15, n16, n17, n18, n19, n20, n24, n32, n56, n60, n64, n72, n99, n100, n128, n136, n142, n144, n200, n300, n999, n1000, n1500, n3464, nI_add, pk_mul] <;> first | rfl | (congr 1; omega))) (by omega) (by decide) ?_
                      refine J_aload_n hS dX8_blurred_109 rfl ?_
                      refine J_getR (t := 214) hS dX8_blurred_110 flX8_93 ob162 rfl ?_
                      refine J_iload hS dX8_blurred_113 rfl ?_
                      refine J_ialdN hS (b) dX8_blurred_115 (show Ar lay NC .int 214 9 from arM 51 9 (by decide) (by decide) rfl) (by first | rfl | (simp only [n0, n1, n2, n3, n4, n5, n6, n7, n8, n9, n10, n11, n12, n13, n14, n15, n16, n17, n18, n19, n20, n24, n32, n56, n60, n64, n72, n99, n100, n128, n136, n142, n144, n200, n300, n999, n1000, n1500, n3464, nI_add, pk_mul] <;> first | rfl | (congr 1; omega))) (by omega) (by decide) ?_
                      show J S 0 0 (g4) 116 [some (.ref 162), some (.int (nI i)), some (.int k), some (.int f), some (.int (nI a)), some (.int (nI b))] [.int _, .int _]
                      rw [k3 a ha8, k3 b hlt8]
                      refine J_icmp_eq (tgt := 166) hS dX8_blurred_116 (by decide) (fun c9 => ?_) (fun c9 => ?_)
                      · exact no (fun z => (Pt.mp z).2.2.1 (nI_eq16 la lb c9))
                      · have ne : sgN w n (nI i) a ≠ sgN w n (nI i) b := fun z => c9 (by rw [z])
                        refine J_aload_n hS dX8_blurred_119 rfl ?_
                        refine J_iload_n hS dX8_blurred_120 rfl ?_
                        refine J_aload_n hS dX8_blurred_121 rfl ?_
                        refine J_getR (t := 214) hS dX8_blurred_122 flX8_93 ob162 rfl ?_
                        refine J_iload hS dX8_blurred_125 rfl ?_
                        refine J_ialdN hS (a) dX8_blurred_127 (show Ar lay NC .int 214 9 from arM 51 9 (by decide) (by decide) rfl) (by first | rfl | (simp only [n0, n1, n2, n3, n4, n5, n6, n7, n8, n9, n10, n11, n12, n13, n14, n15, n16, n17, n18, n19, n20, n24, n32, n56, n60, n64, n72, n99, n100, n128, n136, n142, n144, n200, n300, n999, n1000, n1500, n3464, nI_add, pk_mul] <;> first | rfl | (congr 1; omega))) (by omega) (by decide) ?_
                        show J S 0 0 (g4) 128 [some (.ref 162), some (.int (nI i)), some (.int k), some (.int f), some (.int (nI a)), some (.int (nI b))] [.int _, .int (nI i), .ref 162]
                        rw [k3 a ha8]
                        refine J_callV2 (X' := fun _ _ => False) hS dX8_blurred_128 mvX8_314 ob162 rfl (by first | decide | omega) (by decide) (Nat.le_of_ble_eq_true rfl) ⟨Nat.le_trans (by decide) hR.1, Nat.le_trans (by decide) hR.2⟩ (fun _ _ q => q.elim) (m_seenAs Rw4 i4.w3 i4.rw hi la ?_)
                        refine J_aload_n hS dX8_blurred_131 rfl ?_
                        refine J_iload_n hS dX8_blurred_132 rfl ?_
                        refine J_aload_n hS dX8_blurred_133 rfl ?_
                        refine J_getR (t := 214) hS dX8_blurred_134 flX8_93 ob162 rfl ?_
                        refine J_iload hS dX8_blurred_137 rfl ?_
                        refine J_ialdN hS (b) dX8_blurred_139 (show Ar lay NC .int 214 9 from arM 51 9 (by decide) (by decide) rfl) (by first | rfl | (simp only [n0, n1, n2, n3, n4, n5, n6, n7, n8, n9, n10, n11, n12, n13, n14, n15, n16, n17, n18, n19, n20, n24, n32, n56, n60, n64, n72, n99, n100, n128, n136, n142, n144, n200, n300, n999, n1000, n1500, n3464, nI_add, pk_mul] <;> first | rfl | (congr 1; omega))) (by omega) (by decide) ?_
                        show J S 0 0 (g4) 140 [some (.ref 162), some (.int (nI i)), some (.int k), some (.int f), some (.int (nI a)), some (.int (nI b))] [.int _, .int (nI i), .ref 162, .int (nI (snW w i (sgN w n (nI i) a)))]
                        rw [k3 b hlt8]
                        refine J_callV2 (X' := fun _ _ => False) hS dX8_blurred_140 mvX8_314 ob162 rfl (by first | decide | omega) (by decide) (Nat.le_of_ble_eq_true rfl) ⟨Nat.le_trans (by decide) hR.1, Nat.le_trans (by decide) hR.2⟩ (fun _ _ q => q.elim) (m_seenAs Rw4 i4.w3 i4.rw hi lb ?_)
                        refine J_icmp_eq (tgt := 149) hS dX8_blurred_143 (by decide) (fun d1 => ?_) (fun d1 => ?_)
                        · exact yes (Pt.mpr ⟨hab, e4, ne, nI_eq16 (snW_lt la) (snW_lt lb) d1⟩)
                        ·
                          refine J_goto (tgt := 166) hS dX8_blurred_146 (by decide) ?_
                          exact no (fun z => d1 (by rw [(Pt.mp z).2.2.2]))
          · exact absurd (by decide) c5
        | succ t ih =>
          intro c v g4 hc hv f4 k1 k2 k3
          subst hv
          have hc8 : c < 8 := by omega
          refine J_iload_n hS dX8_blurred_35 rfl ?_
          refine J_bipush (v := 8) hS dX8_blurred_36 (by decide) ?_
          refine J_icmp_ge (tgt := 66) hS dX8_blurred_38 (by decide) (fun c5 => ?_) (fun c5 => ?_)
          · exact absurd c5 (nI_ge hc8 (by decide))
          ·
            refine J_aload_n hS dX8_blurred_41 rfl ?_
            refine J_getR (t := 214) hS dX8_blurred_42 flX8_93 ob162 rfl ?_
            refine J_iload_n hS dX8_blurred_45 rfl ?_
            refine J_aload_n hS dX8_blurred_46 rfl ?_
            refine J_bipush (v := 8) hS dX8_blurred_47 (by decide) ?_
            refine J_bipush (v := 16) hS dX8_blurred_49 (by decide) ?_
            refine J_iload_n hS dX8_blurred_51 rfl ?_
            refine J_imul hS dX8_blurred_52 ?_
            refine J_iadd hS dX8_blurred_53 ?_
            refine J_bipush (v := 16) hS dX8_blurred_54 (by decide) ?_
            show J S 0 0 (g4) 56 [some (.ref 162), some (.int (nI i)), some (.int k), some (.int (nI c)), none, none] [.int 16, .int _, .ref 162, .int (nI c), .ref (214)]
            rw [n8, n16, pk_mul, nI_add]
            have eg : grN w n (nI i) c = sgN w n (nI i) c := by unfold grN; rw [if_pos hc8]
            refine J_callV2 (X' := fun _ _ => False) hS dX8_blurred_56 mvX8_380 ob162 rfl (by first | decide | omega) (by decide) (Nat.le_of_ble_eq_true rfl) ⟨Nat.le_trans (by decide) hR.1, Nat.le_trans (by decide) hR.2⟩ (fun _ _ q => q.elim) (m_gr (c := c) (y := nI i) i2 (fun z z1 z2 z3 => f4.1 z z1 z2 z3) f4.2 k1 k2 (by omega) (by rw [if_pos hc8]) (by rw [if_pos hc8]) ?_)
            rw [eg]
            refine J_iastN hS (c) dX8_blurred_59 (show Ar lay NC .int 214 9 from arM 51 9 (by decide) (by decide) rfl) (by first | rfl | (simp only [n0, n1, n2, n3, n4, n5, n6, n7, n8, n9, n10, n11, n12, n13, n14, n15, n16, n17, n18, n19, n20, n24, n32, n56, n60, n64, n72, n99, n100, n128, n136, n142, n144, n200, n300, n999, n1000, n1500, n3464, nI_add, pk_mul] <;> first | rfl | (congr 1; omega))) (by omega) (by decide) (fun g59 eg59 => ?_)
            refine J_iinc (lt := fun v2 => [some (.ref 162), some (.int (nI i)), some (.int k), some (.int v2), none, none]) (v := 1) hS dX8_blurred_60 rfl (by decide) (fun _ => rfl) (fun v2 ev2 => ?_)
            refine J_goto (tgt := 35) hS dX8_blurred_63 (by decide) ?_
            refine ih (c + 1) v2 g59 (by omega) (by rw [ev2]; exact nI_1 c) (by rw [eg59]; exact f4.put) (by rw [eg59, u2_ne 162 (by decide)]; exact k1) (fun k hk => by rw [eg59, u2_ne 205 (by decide)]; exact k2 k hk) (fun k hk => ?_)
            rw [eg59, u2_at]
            split
            · rename_i e; rw [e]
            · exact k3 k (by omega)
      ·
        refine J_iconst (v := (-1)) hS dX8_blurred_31 (by decide) ?_
        refine J_iret hS hZ hr dX8_blurred_32 (by omega) (by omega) ?_
        exact q0 i hi rfl ((nI_eq (by omega) (by decide)).mp c4) g3 (z2.trans f3.z) (by rw [f3.2 0 (by decide)]; exact t2)
    · exact absurd c3 (by decide)
  ·
    refine J_aload_n hS dX8_blurred_5 rfl ?_
    refine J_iload_n hS dX8_blurred_6 rfl ?_
    refine J_callS1 (X' := fun _ _ => False) hS dX8_blurred_7 msX8_117 rfl (by first | decide | omega) (by decide) (Nat.le_of_ble_eq_true rfl) ⟨Nat.le_trans (by decide) hR.1, Nat.le_trans (by decide) hR.2⟩ (fun _ _ q => q.elim) (m_yardN hbi ?_)
    refine J_iconst (v := 1) hS dX8_blurred_10 (by decide) ?_
    refine J_callV2 (X' := fun _ _ => False) hS dX8_blurred_11 mvX8_110 ob162 rfl (by first | decide | omega) (by decide) (Nat.le_of_ble_eq_true rfl) ⟨Nat.le_trans (by decide) hR.1, Nat.le_trans (by decide) hR.2⟩ (fun _ _ q => q.elim) (m_mayN t2 (by decide) ?_)
    refine J_if_ne (tgt := 19) hS dX8_blurred_14 (by decide) (fun c3 => ?_) (fun c3 => ?_)
    · exact absurd rfl c3
    ·
      refine J_iconst (v := 0) hS dX8_blurred_17 (by decide) ?_
      refine J_iret hS hZ hr dX8_blurred_18 (by omega) (by omega) ?_
      exact x hbi _ (z2.trans FrZ_thr) (u2_self ..)
end RefN


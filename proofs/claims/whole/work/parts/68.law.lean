/-! THE READER: a law; the public method law -/
def fk (r : Res) : Prop := ∀ e, r = .inl e → 1 ≤ e.1 ∧ e.1 ≤ 3
theorem fk_rb {r : Res} {f : List Tok → Nat → Res} (h1 : fk r) (h2 : ∀ L s, fk (f L s)) : fk (rb r f) := by
  intro e he
  cases r with
  | inl a => exact h1 e he
  | inr p => exact h2 p.1 p.2 e he
theorem fk_inr {p : List Tok × Nat} : fk (.inr p) := fun e he => by cases he
theorem fk_inl {k s : Nat} (h1 : 1 ≤ k) (h2 : k ≤ 3) : fk (.inl (k, s)) := fun e he => by cases he; exact ⟨h1, h2⟩
theorem fk_psC {T : Wr} {n s : Nat} {c : Int32} : fk (psC T n c s) := by unfold psC; split; exact fk_inr; exact fk_inl (by decide) (by decide)
theorem fk_psO {T : Wr} {n d s : Nat} {c : Int32} : fk (psO T n c d s) := by unfold psO; split; exact fk_inl (by decide) (by decide); exact fk_psC
theorem fk_opR {T : Wr} {n : Nat} {look : Nat → Option Nat} {u : Nat → Res} (hu : ∀ s, fk (u s)) : ∀ (r : Nat) (L : List Tok) (s : Nat), fk (opR T n look u r L s)
  | 0, L, s => fk_inr
  | r + 1, L, s => by
    cases k : look s with
    | none => rw [opR_no k]; exact fk_inr
    | some c => rw [opR_yes k]; exact fk_rb (hu _) (fun L2 s2 => fk_opR hu r _ s2)
theorem fk_chn {T : Wr} {n : Nat} {look : Nat → Option Nat} {u : Nat → Res} (hu : ∀ s, fk (u s)) (s : Nat) : fk (chn T n look u s) := fk_rb (hu s) (fun L s1 => fk_opR hu _ L s1)
theorem fk_cpl {T : Wr} {n d c : Nat} {u : Nat → Res} (hu : ∀ s, fk (u s)) (s : Nat) : fk (cpl T n u d c s) := fk_rb fk_psO (fun _ s1 => fk_rb (hu s1) (fun _ s2 => fk_rb fk_psC (fun _ s3 => fk_rb (hu s3) (fun _ s4 => fk_rb fk_psC (fun _ s5 => fk_inr)))))
theorem fk_unt {T : Wr} {n d : Nat} {u : Nat → Res} (hu : ∀ s, fk (u s)) (s : Nat) : fk (unt T n u d s) := by
  unfold unt
  split
  · split
    · exact fk_inl (by decide) (by decide)
    · exact fk_inr
  · split
    · exact fk_rb fk_psO (fun _ s1 => fk_rb (hu s1) (fun _ s2 => fk_rb fk_psC (fun _ s3 => fk_inr)))
    · split
      · exact fk_cpl hu s
      · split
        · exact fk_cpl hu s
        · split
          · exact fk_inl (by decide) (by decide)
          · exact fk_inr
theorem fk_sumD {T : Wr} {n : Nat} : ∀ (d s : Nat), fk (sumD T n d s)
  | 0, s => fk_chn (fun s => fk_chn (fun s => fk_unt (fun s => fk_inl (by decide) (by decide)) s) s) s
  | d + 1, s => fk_chn (fun s => fk_chn (fun s => fk_unt (fun s => fk_sumD d s) s) s) s
theorem fk_bas {T : Wr} {n d : Nat} {nb ne sm : Nat → Res} (h1 : ∀ s, fk (nb s)) (h2 : ∀ s, fk (ne s)) (h3 : ∀ s, fk (sm s)) (s : Nat) : fk (bas T n nb ne sm d s) := by
  unfold bas
  split
  · unfold ngt
    split
    · exact fk_inl (by decide) (by decide)
    · exact fk_rb (h1 _) (fun _ _ => fk_inr)
  · split
    · exact fk_rb fk_psO (fun _ s1 => fk_rb (h2 s1) (fun _ s2 => fk_rb fk_psC (fun _ s3 => fk_inr)))
    · unfold cmp
      refine fk_rb (h3 _) (fun L s1 => ?_)
      split
      · exact fk_inl (by decide) (by decide)
      · exact fk_rb (h3 _) (fun _ _ => fk_inr)
theorem fk_eit {T : Wr} {n : Nat} {b : Nat → Res} (hb : ∀ s, fk (b s)) (s : Nat) : fk (eit T n b s) := fk_chn (fun s => fk_chn hb s) s
theorem fk_basD {T : Wr} {n : Nat} : ∀ (d s : Nat), fk (basD T n d s)
  | 0, s => fk_bas (fun s => fk_inl (by decide) (by decide)) (fun s => fk_inl (by decide) (by decide)) (fun s => fk_sumD 0 s) s
  | d + 1, s => fk_bas (fun s => fk_basD d s) (fun s => fk_eit (fun s => fk_basD d s) s) (fun s => fk_sumD (d + 1) s) s
theorem fk_clR {T : Wr} {n k s : Nat} {e : Nat × Nat} (he : clR T n k s = .inl e) : 1 ≤ e.1 ∧ e.1 ≤ 3 := by
  unfold clR at he
  split at he
  · cases he; exact ⟨Nat.le_of_ble_eq_true rfl, Nat.le_of_ble_eq_true rfl⟩
  · split at he
    · cases he; exact ⟨Nat.le_of_ble_eq_true rfl, Nat.le_of_ble_eq_true rfl⟩
    · split at he
      · rename_i e1 h1
        cases he; exact fk_sumD 6 _ _ h1
      · split at he
        · rename_i e1 h1
          cases he
          split at h1
          · exact fk_eit (fun s => fk_basD 6 s) _ _ h1
          · cases h1
        · split at he
          · cases he
          · cases he; exact ⟨Nat.le_of_ble_eq_true rfl, Nat.le_of_ble_eq_true rfl⟩
theorem fk_lwR {T : Wr} {n : Nat} : ∀ (r k : Nat) (cl : List Cls) (s : Nat) (e : Nat × Nat), lwR T n r k cl s = .inl e → 1 ≤ e.1 ∧ e.1 ≤ 3
  | 0, k, cl, s, e, he => by cases he
  | r + 1, k, cl, s, e, he => by
    unfold lwR at he
    split at he
    · cases he
    · split at he
      · rename_i e1 h1
        cases he; exact fk_clR h1
      · exact fk_lwR r _ _ _ e he
section RdZ
variable {l : Launch} {E : Ey} {g : Mm} {Q : Option Value → Mm → Prop} {X : String → Mm → Prop} {h : Nat} {T : Wr} {n : Nat}
set_option maxRecDepth 10000 in
set_option maxHeartbeats 4000000 in
theorem c_findFault (hL : Lw h) (hn : n ≤ 300) (eT : g 156 = T) (q1 : ∀ cl g', lwT T n = .inr cl → FrK h g g' → LawC g' h cl → Q (some (.int 0)) g') (q0 : ∀ e g', lwT T n = .inl e → FrK h g g' → g' 155 8 = nI e.2 → Q (some (.int (nI e.1))) g') : Ct l E lay NC 62 0 0 yX2_findFault [.ref 155, .ref 156, .int (nI n), .ref h] g Q X := by
  obtain ⟨i0, hi0, eh⟩ := id hL
  refine Ct_in k_yX2_findFault (by decide) rfl (Nat.le_of_ble_eq_true rfl) rfl ?_
  intro S hS hZ hr ht hR
  show J S 0 0 (g) 0 [some (.ref 155), some (.ref 156), some (.int (nI n)), some (.ref h), none] []
  refine J_aload_n hS dX2_findFault_0 rfl ?_
  refine J_aload_n hS dX2_findFault_1 rfl ?_
  refine J_putD hS dX2_findFault_2 fpX2_9 (by first | exact Or.inl ⟨_, rfl⟩ | exact Or.inr ⟨_, rfl⟩) ob155 rfl (ab_nI (h := 156) (by decide) (by decide)) (by first | exact Or.inl rfl | exact Or.inr ⟨_, rfl⟩) (fun g2 eg2 => ?_)
  refine J_aload_n hS dX2_findFault_5 rfl ?_
  refine J_iload_n hS dX2_findFault_6 rfl ?_
  refine J_aload_n hS dX2_findFault_7 rfl ?_
  refine J_alen (v := 300) hS dX2_findFault_8 ar156 (by decide) ?_
  refine J_mmin hS dX2_findFault_9 msX2_41.1 mm_min_st in_java_lang_Math mm_min_c rfl (by decide) (Nat.le_of_ble_eq_true rfl) ⟨Nat.le_trans (by decide) hR.1, Nat.le_trans (by decide) hR.2⟩ ?_
  show J S 0 0 (g2) 12 [some (.ref 155), some (.ref 156), some (.int (nI n)), some (.ref h), none] [.int _, .ref 155]
  rw [show (if (300 : Int32) < nI n then (300 : Int32) else nI n) = nI n from if_neg (show ¬ (300 : Int32) < nI n from Int32.not_lt.mpr (show nI n ≤ nI 300 from nI_le hn (by decide)))]
  refine J_putI hS dX2_findFault_12 fpX2_15 ob155 rfl (fun g12 eg12 => ?_)
  refine J_aload_n hS dX2_findFault_15 rfl ?_
  refine J_aload_n hS dX2_findFault_16 rfl ?_
  refine J_putD hS dX2_findFault_17 fpX2_19 (by first | exact Or.inl ⟨_, rfl⟩ | exact Or.inr ⟨_, rfl⟩) ob155 rfl hL.ab (by first | exact Or.inl rfl | exact Or.inr ⟨_, rfl⟩) (fun g17 eg17 => ?_)
  have e17 : ∀ z, z ≠ 155 → g17 z = g z := fun z hz => by rw [eg17, u2_ne z hz, eg12, u2_ne z hz, eg2, u2_ne z hz]
  have r0 : g17 155 0 = nI 156 := by rw [eg17, u2_row155 (by decide), eg12, u2_row155 (by decide), eg2, u2_self]
  have r1 : g17 155 1 = nI n := by rw [eg17, u2_row155 (by decide), eg12, u2_self]
  have r2 : g17 155 2 = nI h := by rw [eg17, u2_self]
  obtain ⟨g1, hg1⟩ : ∃ g1, g1 = u2 (u2 g17 h 0 0) h 6 0 := ⟨_, rfl⟩
  refine J_aload_n hS dX2_findFault_20 rfl ?_
  refine J_getD (v := .ref h) hS dX2_findFault_21 flX2_19 ob155 rfl (by rw [r2]; exact hL.ab) ?_
  refine J_callV0 (X' := fun _ _ => False) hS dX2_findFault_24 mvX2_47 hL.ob rfl (by first | decide | omega) (by decide) (Nat.le_of_ble_eq_true rfl) ⟨Nat.le_trans (by decide) hR.1, Nat.le_trans (by decide) hR.2⟩ (fun _ _ q => q.elim) (c_clear hL ?_)
  rw [← hg1]
  have e1 : ∀ z, z ≠ h → g1 z = g17 z := fun z hz => by rw [hg1, u2_ne z hz, u2_ne z hz]
  have h0 : g1 h 0 = nI 0 := by rw [hg1]; unfold u2; rw [if_neg (fun z => absurd z.2 (by decide)), if_pos ⟨rfl, rfl⟩]; rfl
  have h6 : g1 h 6 = nI 0 := by rw [hg1, u2_self]; rfl
  refine J_aload_n hS dX2_findFault_27 rfl ?_
  refine J_iconst (v := 0) hS dX2_findFault_28 (by decide) ?_
  refine J_putI hS dX2_findFault_29 fpX2_29 ob155 rfl (fun g29 eg29 => ?_)
  refine J_aload_n hS dX2_findFault_32 rfl ?_
  refine J_iconst (v := 0) hS dX2_findFault_33 (by decide) ?_
  refine J_putI hS dX2_findFault_34 fpX2_35 ob155 rfl (fun g34 eg34 => ?_)
  refine J_aload_n hS dX2_findFault_37 rfl ?_
  refine J_iconst (v := (-1)) hS dX2_findFault_38 (by decide) ?_
  refine J_putI hS dX2_findFault_39 fpX2_38 ob155 rfl (fun g39 eg39 => ?_)
  have e39 : ∀ z, z ≠ 155 → g39 z = g1 z := fun z hz => by rw [eg39, u2_ne z hz, eg34, u2_ne z hz, eg29, u2_ne z hz]
  have k7 : g39 155 7 = 0 := by rw [eg39, u2_row155 (by decide), eg34, u2_self]
  have k5 : g39 155 5 = nI 0 := by rw [eg39, u2_row155 (by decide), eg34, u2_row155 (by decide), eg29, u2_self]; rfl
  have kk : ∀ j, j < 3 → g39 155 j = g17 155 j := fun j hj => by rw [eg39, u2_row155 (by omega), eg34, u2_row155 (by omega), eg29, u2_row155 (by omega), e1 155 (by omega)]
  have tx : TxC g39 T n := ⟨by rw [kk 0 (by decide)]; exact r0, by rw [kk 1 (by decide)]; exact r1, hn, by rw [e39 156 (by decide), e1 156 (by omega), e17 156 (by decide)]; exact eT⟩
  refine J_aload_n hS dX2_findFault_42 rfl ?_
  refine J_callV0 (X' := fun _ _ => False) hS dX2_findFault_43 mvX2_52 ob155 rfl (by first | decide | omega) (by decide) (Nat.le_of_ble_eq_true rfl) ⟨Nat.le_trans (by decide) hR.1, Nat.le_trans (by decide) hR.2⟩ (fun _ _ q => q.elim) (c_step (h := h) tx (by rw [kk 2 (by decide)]; exact r2) (Nat.zero_le n) k5 (fun g2 b1 b2 => ?_))
  refine J_iconst (v := 0) hS dX2_findFault_46 (by decide) ?_
  refine J_istore (lt := fun i1 => [some (.ref 155), some (.ref 156), some (.int (nI n)), some (.ref h), some (.int i1)]) hS dX2_findFault_47 (Nat.le_of_ble_eq_true rfl) (fun _ => rfl) (fun i1 ei1 => ?_)
  have fk0 : FrK h g g2 := fun z z1 z2 => by rw [b1.1 z z1, e39 z z1, e1 z (by omega), e17 z z1]
  have hh := (b1.frL hL).2.1
  suffices H : ∀ (r k m s : Nat) (cl : List Cls) (v : Int32) (g3 : Mm), k + r = 13 → k ≤ 12 → v = nI k → cl.length = k → FrK h g g3 → RdC g3 T n h s → g3 h 0 = nI k → g3 h 6 = nI m → m ≤ s → LawB g3 h cl m → g3 155 7 = 0 → lwT T n = lwR T n r k cl s → J S 0 0 g3 49 [some (.ref 155), some (.ref 156), some (.int (nI n)), some (.ref h), some (.int v)] [] by
    refine H 13 0 0 _ [] i1 g2 rfl (by decide) ei1 rfl fk0 b2 (by rw [hh, e39 h (by omega)]; exact h0) (by rw [hh, e39 h (by omega)]; exact h6) (Nat.zero_le _) (fun k c z => by cases z) (by rw [b1.2 7 (by decide)]; exact k7) rfl
  have out : ∀ (k m s : Nat) (cl : List Cls) (v : Int32) (g3 : Mm), cl.length = k → k ≤ 12 → FrK h g g3 → RdC g3 T n h s → g3 h 0 = nI k → m ≤ s → LawB g3 h cl m → g3 155 7 = 0 → lwT T n = .inr cl → J S 0 0 g3 81 [some (.ref 155), some (.ref 156), some (.int (nI n)), some (.ref h), some (.int v)] [] := by
    intro k m s cl v g3 a1 a2 a3 a4 a5 a6 a7 a8 a9
    have hsn := a4.2.2.1
    refine J_aload_n hS dX2_findFault_81 rfl ?_
    refine J_getI hS dX2_findFault_82 flX2_35 ob155 rfl ?_
    show J S 0 0 (g3) 85 [some (.ref 155), some (.ref 156), some (.int (nI n)), some (.ref h), some (.int v)] [.int _]
    rw [a8]
    refine J_iret hS hZ hr dX2_findFault_85 (by omega) (by omega) ?_
    refine q1 cl g3 a9 a3 ⟨by omega, by rw [a1]; exact a5, fun j c hj => ?_⟩
    obtain ⟨w1, s0, w2, w3⟩ := a7 j c hj
    exact ⟨w1, s0, by omega, w3⟩
  intro r
  induction r with
  | zero =>
    intro k m s cl v g3 hk hk12 hv hcl f1 f2 f3 f4 f5 f6 f7 f8
    exfalso
    omega
  | succ r ih =>
    intro k m s cl v g3 hk hk12 hv hcl f1 f2 f3 f4 f5 f6 f7 f8
    have hk4 : tkK T n s ≤ 3 := by unfold tkK; split; decide; split; decide; split <;> decide
    have hl1 : lwR T n (r + 1) k cl s = if tkK T n s = 0 then .inr cl else match clR T n k s with
      | .inl e => .inl e
      | .inr (c, s1) => lwR T n r (k + 1) (cl ++ [c]) s1 := rfl
    subst hv
    refine J_iload hS dX2_findFault_49 rfl ?_
    refine J_bipush (v := 12) hS dX2_findFault_51 (by decide) ?_
    refine J_icmp_gt (tgt := 81) hS dX2_findFault_53 (by decide) (fun c1 => ?_) (fun c1 => ?_)
    · exact absurd c1 (nI_nlt hk12 (by decide))
    ·
      refine J_aload_n hS dX2_findFault_56 rfl ?_
      refine J_getI hS dX2_findFault_57 flX2_23 ob155 rfl ?_
      show J S 0 0 (g3) 60 [some (.ref 155), some (.ref 156), some (.int (nI n)), some (.ref h), some (.int (nI k))] [.int _]
      rw [f2.2.2.2.1]
      refine J_if_eq (tgt := 81) hS dX2_findFault_60 (by decide) (fun c2 => ?_) (fun c2 => ?_)
      · have e0 : tkK T n s = 0 := (nI_eq (by omega) (by decide)).mp c2
        exact out k m s cl _ g3 hcl hk12 f1 f2 f3 f5 f6 f7 (by rw [f8, hl1, if_pos e0])
      · have e0 : ¬ tkK T n s = 0 := fun z => c2 (by rw [z]; rfl)
        refine J_aload_n hS dX2_findFault_63 rfl ?_
        refine J_iload hS dX2_findFault_64 rfl ?_
        refine J_callV1 (X' := fun _ _ => False) hS dX2_findFault_66 mvX2_55 ob155 rfl (by first | decide | omega) (by decide) (Nat.le_of_ble_eq_true rfl) ⟨Nat.le_trans (by decide) hR.1, Nat.le_trans (by decide) hR.2⟩ (fun _ _ q => q.elim) (c_readClause hL hcl hk12 ⟨f2, f4, f5⟩ f3 f6 (fun c s' g4 m' z1 z2 z3 z4 z5 z6 z7 z8 => ?_) (fun e g4 z1 z2 z3 z4 => ?_))
        · have hk11 : k < 12 := by
            rcases Nat.lt_or_ge k 12 with z | z
            · exact z
            · exfalso
              unfold clR at z1
              split at z1
              · cases z1
              · rw [if_pos z] at z1; cases z1
          refine J_if_ne (tgt := 75) hS dX2_findFault_69 (by decide) (fun c3 => ?_) (fun c3 => ?_)
          ·
            refine J_iinc (lt := fun v2 => [some (.ref 155), some (.ref 156), some (.int (nI n)), some (.ref h), some (.int v2)]) (v := 1) hS dX2_findFault_75 rfl (by decide) (fun _ => rfl) (fun v2 ev2 => ?_)
            refine J_goto (tgt := 49) hS dX2_findFault_78 (by decide) ?_
            refine ih (k + 1) m' s' (cl ++ [c]) v2 g4 (by omega) (by omega) (by rw [ev2]; exact nI_1 k) (by simp [hcl]) (f1.trans z2) z3 z4 z5 z6 z7 (by rw [z8]; exact f7) ?_
            rw [f8, hl1, if_neg e0, z1]
          · exact absurd c3 (by decide)
        ·
          refine J_if_ne (tgt := 75) hS dX2_findFault_69 (by decide) (fun c3 => ?_) (fun c3 => ?_)
          · exact absurd rfl c3
          ·
            refine J_goto (tgt := 81) hS dX2_findFault_72 (by decide) ?_
            refine J_aload_n hS dX2_findFault_81 rfl ?_
            refine J_getI hS dX2_findFault_82 flX2_35 ob155 rfl ?_
            show J S 0 0 (g4) 85 [some (.ref 155), some (.ref 156), some (.int (nI n)), some (.ref h), some (.int (nI k))] [.int _]
            rw [z3]
            refine J_iret hS hZ hr dX2_findFault_85 (by omega) (by omega) ?_
            exact q0 e g4 (by rw [f8, hl1, if_neg e0, z1]) (f1.trans z2) z4
def FrW (g g' : Mm) : Prop := ∀ z, z ≠ 1 → z ≠ 155 → (z < 107 ∨ 143 ≤ z) → g' z = g z
set_option maxRecDepth 10000 in
theorem c_law {n0 : Int32} {tb : Nat} {Ls : List (List Cls)} (hl : LawsC g Ls) (htb : tb ≤ 300) (etb : g 1 12 = nI tb) (x : (n0 < 0 ∨ nI tb < n0) → X eIA g) (q6 : ∀ n, n ≤ tb → n0 = nI n → Ls.length = 6 → Q (some (.int (-1))) (u2 (u2 g 1 12 0) 1 13 (-1)))
    (qb : ∀ n e, n ≤ tb → n0 = nI n → Ls.length < 6 → lwT (g 156) n = .inl e → ∀ g', FrW g g' → g' 1 12 = 0 → g' 1 13 = nI e.2 → (∀ j, j ≠ 12 → j ≠ 13 → g' 1 j = g 1 j) → LawsC g' Ls → Q (some (.int (nI e.1 - 10))) g')
    (qo : ∀ n cl, n ≤ tb → n0 = nI n → Ls.length < 6 → lwT (g 156) n = .inr cl → ∀ g', FrW g g' → g' 1 12 = 0 → g' 1 13 = -1 → g' 1 14 = nI (Ls.length + 1) → (∀ j, j ≠ 12 → j ≠ 13 → j ≠ 14 → g' 1 j = g 1 j) → LawsC g' (Ls ++ [cl]) → Q (some (.int (nI Ls.length))) g') : Ct l E lay NC 63 1 6 yX7_law [.ref 1, .int n0] g Q X := by
  have hl6 := hl.1
  refine Ct_in k_yX7_law (by decide) rfl (Nat.le_of_ble_eq_true rfl) rfl ?_
  intro S hS hZ hr ht hR
  show J S 0 0 (g) 0 [some (.ref 1), some (.int n0), none] []
  refine J_iload_n hS dX7_law_0 rfl ?_
  refine J_if_lt (tgt := 12) hS dX7_law_1 (by decide) (fun c1 => ?_) (fun c1 => ?_)
  ·
    exact J_thA hS hZ ht hR (by decide) (List.mem_of_getElem? (i := 10) rfl) rfl dX7_law_12 dX7_law_15 dX7_law_16 dX7_law_18 dX7_law_21 (by omega) (by omega) (x (Or.inl c1))
  ·
    refine J_iload_n hS dX7_law_4 rfl ?_
    refine J_aload_n hS dX7_law_5 rfl ?_
    refine J_getI hS dX7_law_6 flX7_73 ob1 rfl ?_
    show J S 0 0 (g) 9 [some (.ref 1), some (.int n0), none] [.int _, .int n0]
    rw [etb]
    refine J_icmp_le (tgt := 22) hS dX7_law_9 (by decide) (fun c2 => ?_) (fun c2 => ?_)
    · obtain ⟨n, hn, en⟩ : ∃ n, n < tb + 1 ∧ n0 = nI n := (in_or (by omega)).resolve_right (fun z => by
        rcases z with z | z
        · exact c1 z
        · exact absurd (Int32.lt_of_le_of_lt c2 (nI_lt (show tb < tb + 1 by omega) (by omega))) (Int32.not_lt.mpr z))
      subst en
      refine J_aload_n hS dX7_law_22 rfl ?_
      refine J_iconst (v := 0) hS dX7_law_23 (by decide) ?_
      refine J_putI hS dX7_law_24 fpX7_73 ob1 rfl (fun g24 eg24 => ?_)
      refine J_aload_n hS dX7_law_27 rfl ?_
      refine J_iconst (v := (-1)) hS dX7_law_28 (by decide) ?_
      refine J_putI hS dX7_law_29 fpX7_77 ob1 rfl (fun g29 eg29 => ?_)
      refine J_aload_n hS dX7_law_32 rfl ?_
      refine J_getI hS dX7_law_33 flX7_80 ob1 rfl ?_
      refine J_bipush (v := 6) hS dX7_law_36 (by decide) ?_
      have k29 : ∀ z, z ≠ 1 → g29 z = g z := fun z hz => by rw [eg29, u2_ne z hz, eg24, u2_ne z hz]
      have j29 : ∀ j, j ≠ 12 → j ≠ 13 → g29 1 j = g 1 j := fun j h1 h2 => by rw [eg29, eg24]; simp [u2, h1, h2]
      have a29 : g29 1 12 = 0 := by rw [eg29, eg24]; simp [u2]
      have b29 : g29 1 13 = -1 := by rw [eg29]; simp [u2]
      show J S 0 0 (g29) 38 [some (.ref 1), some (.int (nI n)), none] [.int 6, .int _]
      rw [show g29 1 14 = nI Ls.length by rw [j29 14 (by decide) (by decide)]; exact hl.2.1]
      refine J_icmp_lt (tgt := 43) hS dX7_law_38 (by decide) (fun c3 => ?_) (fun c3 => ?_)
      · have hL6 : Ls.length < 6 := by
          rcases Nat.lt_or_ge Ls.length 6 with z | z
          · exact z
          · exact absurd c3 (Int32.not_lt.mpr (show nI 6 ≤ nI Ls.length from nI_le z (by omega)))
        have hL : Lw (107 + 6 * Ls.length) := ⟨Ls.length, hL6, rfl⟩
        refine J_aload_n hS dX7_law_43 rfl ?_
        refine J_getR (t := 155) hS dX7_law_44 flX7_59 ob1 rfl ?_
        refine J_aload_n hS dX7_law_47 rfl ?_
        refine J_getR (t := 156) hS dX7_law_48 flX7_63 ob1 rfl ?_
        refine J_iload_n hS dX7_law_51 rfl ?_
        refine J_aload_n hS dX7_law_52 rfl ?_
        refine J_getR (t := 161) hS dX7_law_53 flX7_31 ob1 rfl ?_
        refine J_aload_n hS dX7_law_56 rfl ?_
        refine J_getI hS dX7_law_57 flX7_80 ob1 rfl ?_
        show J S 0 0 (g29) 60 [some (.ref 1), some (.int (nI n)), none] [.int _, .ref (161), .int (nI n), .ref (156), .ref (155)]
        rw [show g29 1 14 = nI Ls.length by rw [j29 14 (by decide) (by decide)]; exact hl.2.1]
        have lw : ∀ g' : Mm, FrK (107 + 6 * Ls.length) g29 g' → ∀ (k : Nat) (L : List Cls), Ls[k]? = some L → LawC g' (107 + 6 * k) L := by
          intro g' hf k L hk
          have hkl : k < Ls.length := (List.getElem?_eq_some_iff.mp hk).1
          exact (hl.2.2 k L hk).fr (fun a h1 h2 => by rw [hf a (by omega) (by omega), k29 a (by omega)])
        refine J_aaldN (t0 := 5) (t := 107 + 6 * Ls.length) hS (Ls.length) dX7_law_60 aq161 (fun _ => rfl) (by first | rfl | (simp only [n0, n1, n2, n3, n4, n5, n6, n7, n8, n9, n10, n11, n12, n13, n14, n15, n16, n17, n18, n19, n20, n24, n32, n56, n60, n64, n72, n99, n100, n128, n136, n142, n144, n200, n300, n999, n1000, n1500, n3464, nI_add, pk_mul] <;> first | rfl | (congr 1; omega))) (by omega) (by decide) rfl ?_
        refine J_callV3 (X' := fun _ _ => False) hS dX7_law_61 mvX7_197 ob155 rfl (by first | decide | omega) (by decide) (Nat.le_of_ble_eq_true rfl) ⟨Nat.le_trans (by decide) hR.1, Nat.le_trans (by decide) hR.2⟩ (fun _ _ q => q.elim) (c_findFault hL (show n ≤ 300 by omega) rfl (fun cl g1 z1 z2 z3 => ?_) (fun e g1 z1 z2 z3 => ?_))
        · rw [k29 156 (by decide)] at z1
          have e1 : g1 1 = g29 1 := z2 1 (by decide) (by omega)
          refine J_istore_n (lt := fun w => [some (.ref 1), some (.int (nI n)), some (.int w)]) hS dX7_law_64 (Nat.le_of_ble_eq_true rfl) (fun _ => rfl) (fun w ew => ?_)
          refine J_iload_n hS dX7_law_65 rfl ?_
          refine J_if_eq (tgt := 85) hS dX7_law_66 (by decide) (fun c4 => ?_) (fun c4 => ?_)
          ·
            refine J_aload_n hS dX7_law_85 rfl ?_
            refine J_dup hS dX7_law_86 rfl ?_
            refine J_getI hS dX7_law_87 flX7_80 ob1 rfl ?_
            show J S 0 0 (g1) 90 [some (.ref 1), some (.int (nI n)), some (.int w)] [.int _, .ref 1]
            rw [e1, show g29 1 14 = nI Ls.length by rw [j29 14 (by decide) (by decide)]; exact hl.2.1]
            refine J_iconst (v := 1) hS dX7_law_90 (by decide) ?_
            refine J_iadd hS dX7_law_91 ?_
            refine J_putI hS dX7_law_92 fpX7_80 ob1 rfl (fun g92 eg92 => ?_)
            refine J_aload_n hS dX7_law_95 rfl ?_
            refine J_getI hS dX7_law_96 flX7_80 ob1 rfl ?_
            show J S 0 0 (g92) 99 [some (.ref 1), some (.int (nI n)), some (.int w)] [.int _]
            rw [show g92 1 14 = nI (Ls.length + 1) by rw [eg92, u2_self]; exact nI_1 _]
            refine J_iconst (v := 1) hS dX7_law_99 (by decide) ?_
            refine J_isub hS dX7_law_100 ?_
            show J S 0 0 (g92) 101 [some (.ref 1), some (.int (nI n)), some (.int w)] [.int _]
            rw [nI_pred]
            refine J_iret hS hZ hr dX7_law_101 (by omega) (by omega) ?_
            refine qo n cl (by omega) rfl hL6 z1 g92 (fun z y1 y2 y3 => by rw [eg92, u2_ne z y1, z2 z y2 (by omega), k29 z y1]) ?_ ?_ (by rw [eg92, u2_self]; exact nI_1 _) (fun j y1 y2 y3 => ?_) ⟨by simp; omega, by rw [eg92, u2_self, List.length_append]; exact nI_1 _, fun k L hk => ?_⟩
            · rw [eg92]; simp [u2, e1, a29]
            · rw [eg92]; simp [u2, e1, b29]
            · rw [eg92]; simp [u2, y3, e1, j29 j y1 y2]
            · have up : ∀ (h : Nat) (L : List Cls), 107 ≤ h → LawC g1 h L → LawC g92 h L := fun h L h1 hL => hL.fr (fun a h2 h3 => by rw [eg92, u2_ne a (by omega)])
              rcases Nat.lt_or_ge k Ls.length with y | y
              · rw [List.getElem?_append_left y] at hk
                exact up _ _ (by omega) (lw g1 z2 k L hk)
              · rw [List.getElem?_append_right y] at hk
                have e0 : k - Ls.length = 0 := by
                  rcases Nat.eq_zero_or_pos (k - Ls.length) with z | z
                  · exact z
                  · rw [List.getElem?_eq_none (show [cl].length ≤ k - Ls.length from z)] at hk; cases hk
                rw [e0] at hk
                cases hk
                have ek : k = Ls.length := by omega
                subst ek
                exact up _ _ (by omega) z3
          · exact absurd ew c4
        · rw [k29 156 (by decide)] at z1
          have e1 : g1 1 = g29 1 := z2 1 (by decide) (by omega)
          have hf := fk_lwR _ _ _ _ _ z1
          refine J_istore_n (lt := fun w => [some (.ref 1), some (.int (nI n)), some (.int w)]) hS dX7_law_64 (Nat.le_of_ble_eq_true rfl) (fun _ => rfl) (fun w ew => ?_)
          refine J_iload_n hS dX7_law_65 rfl ?_
          refine J_if_eq (tgt := 85) hS dX7_law_66 (by decide) (fun c4 => ?_) (fun c4 => ?_)
          · rw [ew] at c4
            exact absurd ((nI_eq (by omega) (by decide)).mp (c4.trans n0)) (by omega)
          ·
            refine J_aload_n hS dX7_law_69 rfl ?_
            refine J_aload_n hS dX7_law_70 rfl ?_
            refine J_getR (t := 155) hS dX7_law_71 flX7_59 ob1 rfl ?_
            refine J_getI hS dX7_law_74 flX7_201 ob155 rfl ?_
            show J S 0 0 (g1) 77 [some (.ref 1), some (.int (nI n)), some (.int w)] [.int _, .ref 1]
            rw [z3]
            refine J_putI hS dX7_law_77 fpX7_77 ob1 rfl (fun g77 eg77 => ?_)
            refine J_iload_n hS dX7_law_80 rfl ?_
            refine J_bipush (v := 10) hS dX7_law_81 (by decide) ?_
            refine J_isub hS dX7_law_83 ?_
            refine J_iret hS hZ hr dX7_law_84 (by omega) (by omega) ?_
            rw [ew]
            refine qb n e (by omega) rfl hL6 z1 g77 (fun z y1 y2 y3 => by rw [eg77, u2_ne z y1, z2 z y2 (by omega), k29 z y1]) ?_ (by rw [eg77, u2_self]) (fun j y1 y2 => ?_) ⟨by omega, ?_, fun k L hk => ?_⟩
            · rw [eg77]; simp [u2, e1, a29]
            · rw [eg77]; simp [u2, y2, e1, j29 j y1 y2]
            · rw [eg77]; simp [u2, e1, j29 14 (by decide) (by decide), hl.2.1]
            · exact (lw g1 z2 k L hk).fr (fun a h2 h3 => by rw [eg77, u2_ne a (by omega)])
      · have hL6 : Ls.length = 6 := by
          rcases Nat.lt_or_ge Ls.length 6 with z | z
          · exact absurd (nI_lt z (by decide)) c3
          · omega
        refine J_iconst (v := (-1)) hS dX7_law_41 (by decide) ?_
        refine J_iret hS hZ hr dX7_law_42 (by omega) (by omega) ?_
        rw [eg29, eg24]
        exact q6 n (by omega) rfl hL6
    ·
      exact J_thA hS hZ ht hR (by decide) (List.mem_of_getElem? (i := 10) rfl) rfl dX7_law_12 dX7_law_15 dX7_law_16 dX7_law_18 dX7_law_21 (by omega) (by omega) (x (Or.inr (Int32.not_le.mp c2)))
end RdZ


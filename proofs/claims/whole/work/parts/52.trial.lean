/-! THE CLASS: trials on the copy -/
/-- the cells that a trial leaves alone -/
def FrT (g g' : Mm) : Prop := ∀ z, (z < 13 ∨ 23 < z) → (z < 148 ∨ 154 < z) → z ≠ 157 → g' z = g z
/-- the row with the words 'there' of some children taken away -/
def mskT (p : Nat → Bool) (w : Wr) : Wr := fun i => if 56 ≤ i ∧ (i - 56) % 142 = 3 ∧ p ((i - 56) / 142) = true then 0 else w i
theorem wx_t {i c : Nat} (h : wx i = some (5, c)) : i = 56 + 142 * c + 3 := by
  have := wi_wx h
  simpa [wi] using this.symm
theorem wv_msk {g g' : Mm} {h : Nat} {p : Nat → Bool} (hf : ∀ a, a ≠ h + 5 → g' a = g a) (hp : ∀ c, p c = true → c < 24) (hc : ∀ c, c < 24 → g' (h + 5) c = if p c = true then 0 else g (h + 5) c) : wv g' h = mskT p (wv g h) := by
  funext i
  unfold mskT
  by_cases e : 56 ≤ i ∧ (i - 56) % 142 = 3 ∧ (i - 56) / 142 < 24
  · obtain ⟨c, hcc⟩ : ∃ c, c = (i - 56) / 142 := ⟨_, rfl⟩
    have ei : i = 56 + 142 * c + 3 := by omega
    have c24 : c < 24 := by omega
    have e2 : (i - 56) / 142 = c := hcc.symm
    rw [e2]
    rw [show wv g' h i = g' (h + 5) c by rw [ei]; exact wv_at (wx_there c24), hc c c24]
    rw [show wv g h i = g (h + 5) c by rw [ei]; exact wv_at (wx_there c24)]
    by_cases k : p c = true
    · rw [if_pos k, if_pos ⟨e.1, e.2.1, k⟩]
    · rw [if_neg k, if_neg (fun z => k z.2.2)]
  · rw [if_neg (fun z => e ⟨z.1, z.2.1, hp _ z.2.2⟩)]
    unfold wv
    cases hx : wx i with
    | none => rfl
    | some q =>
      obtain ⟨a, j⟩ := q
      show g' (h + a) j = g (h + a) j
      by_cases ha : a = 5
      · exfalso
        subst ha
        have := wx_t hx
        have hj : j < 24 := by
          rcases Nat.lt_or_ge j 24 with z | z
          · exact z
          · exfalso
            subst this
            unfold wx at hx
            rw [if_neg (by omega), if_neg (by omega), if_neg (by omega), if_pos (by omega)] at hx
            cases hx
        exact e (by omega)
      · rw [hf (h + a) (by omega)]
theorem Wt_upd0 {w : Wr} {c : Nat} {s : Int32} (h : Wt w c) : Wt (upd w 0 s) c := fun r h1 h2 => by unfold upd; rw [if_neg (by omega)]; exact h r h1 h2
theorem Wt_upd1 {w : Wr} {c : Nat} {s : Int32} (h : Wt w c) : Wt (upd w 1 s) c := fun r h1 h2 => by unfold upd; rw [if_neg (by omega)]; exact h r h1 h2
theorem Wt_msk {w : Wr} {c : Nat} {p : Nat → Bool} (h : Wt w c) : Wt (mskT p w) c := fun r h1 h2 => by unfold mskT; rw [if_neg (by omega)]; exact h r h1 h2
theorem isLw_of {n : Nat} {v : Int32} (h1 : ¬ v < -1) (h2 : v < nI n) (hn : n < 2 ^ 31) : isLw n v := by
  rcases in_or (y := v) hn with ⟨k, hk, e⟩ | z | z
  · exact Or.inr ⟨k, hk, e⟩
  · refine Or.inl ?_
    rw [Int32.lt_iff_toInt_lt] at h1 z
    have a : (-1 : Int32).toInt = -1 := by decide
    have b : (0 : Int32).toInt = 0 := by decide
    apply Int32.toInt_inj.mp
    omega
  · exact absurd h2 (Int32.not_lt.mpr z)
section ClsTr
variable {l : Launch} {E : Ey} {g : Mm} {Q : Option Value → Mm → Prop} {X : String → Mm → Prop} {h : Nat}
theorem c_trial {n : Nat} {y0 m0 v o0 : Int32} {Ls : List (List Cls)} (hl : LawsC g Ls) (hw : WOk (wv g 2)) (hn : n ≤ 24) (hm : wv g 2 6 = nI n) (x : (v < -1 ∨ nI Ls.length ≤ v) → X eIB g) (x2 : isLw Ls.length v → (ou 3 y0 ∨ ou 201 m0 ∨ ou 6 o0) → X eIA g)
    (q : isLw Ls.length v → ∀ y m o, y < 3 → y0 = nI y → m < 201 → m0 = nI m → o < 6 → o0 = nI o → ∀ g', FrT g g' → Q (some (.int (nI (trC (lwOf Ls v) (-1) n y m o (wv g 2))))) g') : Ct l E lay NC 8 1 6 yX7_trial [.ref 1, .int y0, .int m0, .int v, .int o0] g Q X := by
  refine Ct_in k_yX7_trial (by decide) rfl (Nat.le_of_ble_eq_true rfl) rfl ?_
  intro S hS hZ hr ht hR
  show J S 0 0 (g) 0 [some (.ref 1), some (.int y0), some (.int m0), some (.int v), some (.int o0)] []
  refine J_aload_n hS dX7_trial_0 rfl ?_
  refine J_iload_n hS dX7_trial_1 rfl ?_
  have hl6 := hl.1
  by_cases hb : v < -1 ∨ g 1 14 ≤ v
  ·
    refine J_callV1 hS dX7_trial_2 mvX7_202 ob1 rfl (by decide) (by decide) (Nat.le_of_ble_eq_true rfl) ⟨Nat.le_trans (by decide) hR.1, Nat.le_trans (by decide) hR.2⟩ (fun _ _ q => q) (c_checkLawBad hb (JX_out hS hZ ht (by omega) (by omega) (x (by rw [← hl.2.1]; exact hb))))
  · have h1 : ¬ v < -1 := fun z => hb (Or.inl z)
    have h2 : v < g 1 14 := Int32.not_le.mp (fun z => hb (Or.inr z))
    have hv : isLw Ls.length v := isLw_of h1 (by rw [← hl.2.1]; exact h2) (by omega)
    refine J_callV1 (X' := fun _ _ => False) hS dX7_trial_2 mvX7_202 ob1 rfl (by decide) (by decide) (Nat.le_of_ble_eq_true rfl) ⟨Nat.le_trans (by decide) hR.1, Nat.le_trans (by decide) hR.2⟩ (fun _ _ q => q.elim) (c_checkLawOk h1 h2 ?_)
    refine J_iload_n hS dX7_trial_5 rfl ?_
    refine J_iload_n hS dX7_trial_6 rfl ?_
    refine J_iload hS dX7_trial_7 rfl ?_
    by_cases hbb : (y0 < 0 ∨ nI 3 ≤ y0) ∨ (m0 < 0 ∨ nI 201 ≤ m0) ∨ (o0 < 0 ∨ nI 6 ≤ o0)
    ·
      refine J_callS3 hS dX7_trial_9 msX7_291 rfl (by decide) (by decide) (Nat.le_of_ble_eq_true rfl) ⟨Nat.le_trans (by decide) hR.1, Nat.le_trans (by decide) hR.2⟩ (fun _ _ q => q) (c_checkTrialBad hbb (JX_out hS hZ ht (by omega) (by omega) (x2 hv hbb)))
    · obtain ⟨y, hy, ey⟩ : ∃ y, y < 3 ∧ y0 = nI y := (in_or (by decide)).resolve_right (fun z => hbb (Or.inl z))
      obtain ⟨m, hm2, em⟩ : ∃ m, m < 201 ∧ m0 = nI m := (in_or (by decide)).resolve_right (fun z => hbb (Or.inr (Or.inl z)))
      obtain ⟨o, ho, eo⟩ : ∃ o, o < 6 ∧ o0 = nI o := (in_or (by decide)).resolve_right (fun z => hbb (Or.inr (Or.inr z)))
      subst ey; subst em; subst eo
      refine J_callS3 (X' := fun _ _ => False) hS dX7_trial_9 msX7_291 rfl (by decide) (by decide) (Nat.le_of_ble_eq_true rfl) ⟨Nat.le_trans (by decide) hR.1, Nat.le_trans (by decide) hR.2⟩ (fun _ _ q => q.elim) (c_checkTrialOk hy hm2 ho ?_)
      refine J_aload_n hS dX7_trial_12 rfl ?_
      refine J_getR (t := 13) hS dX7_trial_13 flX7_16 ob1 rfl ?_
      refine J_aload_n hS dX7_trial_16 rfl ?_
      refine J_getR (t := 2) hS dX7_trial_17 flX7_10 ob1 rfl ?_
      refine J_callV1 (X' := fun _ _ => False) hS dX7_trial_20 mvX7_295 wo_copy.ob rfl (by decide) (by decide) (Nat.le_of_ble_eq_true rfl) ⟨Nat.le_trans (by decide) hR.1, Nat.le_trans (by decide) hR.2⟩ (fun _ _ q => q.elim) (c_become wo_copy wo_now (by decide) (fun g0 w0 f0 => ?_))
      refine J_aload_n hS dX7_trial_23 rfl ?_
      refine J_getR (t := 152) hS dX7_trial_24 flX7_52 ob1 rfl ?_
      refine J_aload_n hS dX7_trial_27 rfl ?_
      refine J_iload_n hS dX7_trial_28 rfl ?_
      have hl0 : LawsC g0 Ls := hl.fr (by rw [f0 1 (by decide)]) (fun a h1 h2 => f0 a (by omega))
      refine J_callV1 (X' := fun _ _ => False) hS dX7_trial_29 mvX7_299 ob1 rfl (by decide) (by decide) (Nat.le_of_ble_eq_true rfl) ⟨Nat.le_trans (by decide) hR.1, Nat.le_trans (by decide) hR.2⟩ (fun _ _ q => q.elim) (c_lawOf hl0 hv (fun r xx h1 h2 h3 => ?_))
      obtain ⟨g1, hg1⟩ : ∃ g1 : Mm, g1 = u2 (u2 g0 152 2 xx) 152 3 (-1) := ⟨_, rfl⟩
      have f1 : ∀ z, z ≠ 152 → g1 z = g0 z := fun z hz => by rw [hg1, u2_ne z hz, u2_ne z hz]
      have w1 : wv g1 13 = wv g 2 := by rw [← w0]; exact wv_fr (fun a h1 h2 => f1 a (by omega))
      have r1 : RuleC g1 (lwOf Ls v) := by rw [hg1]; exact use_rule hl0 h3
      have e1 : g1 152 3 = -1 := by rw [hg1]; simp [u2]
      refine J_iconst (v := (-1)) hS dX7_trial_32 (by decide) ?_
      refine J_callV2 (X' := fun _ _ => False) hS dX7_trial_33 mvX7_303 ob152 rfl (by decide) (by decide) (Nat.le_of_ble_eq_true rfl) ⟨Nat.le_trans (by decide) hR.1, Nat.le_trans (by decide) hR.2⟩ (fun _ _ q => q.elim) (c_use h1 h2 ?_)
      rw [← hg1]
      refine J_aload_n hS dX7_trial_36 rfl ?_
      refine J_iload_n hS dX7_trial_37 rfl ?_
      refine J_iload_n hS dX7_trial_38 rfl ?_
      refine J_iload hS dX7_trial_39 rfl ?_
      refine J_callV3 (X' := fun _ _ => False) hS dX7_trial_41 mvX7_307 ob1 rfl (by decide) (by decide) (Nat.le_of_ble_eq_true rfl) ⟨Nat.le_trans (by decide) hR.1, Nat.le_trans (by decide) hR.2⟩ (fun _ _ q => q.elim) (c_tryOut hn (show g1 13 6 = nI n by rw [show g1 13 6 = wv g1 13 6 from rfl, w1]; exact hm) hy (show m < 2 ^ 31 by omega) ho r1 (fun c hc => by rw [w1]; exact hw.2.2 c hc) (fun g2 d1 => ?_))
      refine J_iret hS hZ hr dX7_trial_44 (by omega) (by omega) ?_
      rw [w1, e1]
      exact q hv y m o hy rfl hm2 rfl ho rfl g2 (fun z z1 z2 z3 => by rw [d1 z z1 (by omega) (by omega) (by omega) (by omega) (by omega) (by omega) (by omega), f1 z (by omega), f0 z (by omega)])
theorem c_untaught {n : Nat} {y0 m0 o0 : Int32} {Ls : List (List Cls)} (hl : LawsC g Ls) (hv : isLw Ls.length (wv g 2 5)) (hw : WOk (wv g 2)) (hn : n ≤ 24) (hm : wv g 2 6 = nI n) (x : (ou 3 y0 ∨ ou 201 m0 ∨ ou 6 o0) → X eIA g)
    (q : ∀ y m o, y < 3 → y0 = nI y → m < 201 → m0 = nI m → o < 6 → o0 = nI o → ∀ g', FrT g g' → Q (some (.int (nI (trC (lwOf Ls (wv g 2 5)) (-1) n y m o (mskT (fun c => decide (c < n) && (thrW (wv g 2) (nI y) c && decide (wv g 2 (56 + 142 * c + 4) = 3))) (wv g 2)))))) g') : Ct l E lay NC 8 1 6 yX7_untaught [.ref 1, .int y0, .int m0, .int o0] g Q X := by
  refine Ct_in k_yX7_untaught (by decide) rfl (Nat.le_of_ble_eq_true rfl) rfl ?_
  intro S hS hZ hr ht hR
  show J S 0 0 (g) 0 [some (.ref 1), some (.int y0), some (.int m0), some (.int o0)] []
  refine J_iload_n hS dX7_untaught_0 rfl ?_
  refine J_iload_n hS dX7_untaught_1 rfl ?_
  refine J_iload_n hS dX7_untaught_2 rfl ?_
  by_cases hbb : (y0 < 0 ∨ nI 3 ≤ y0) ∨ (m0 < 0 ∨ nI 201 ≤ m0) ∨ (o0 < 0 ∨ nI 6 ≤ o0)
  ·
    refine J_callS3 hS dX7_untaught_3 msX7_291 rfl (by decide) (by decide) (Nat.le_of_ble_eq_true rfl) ⟨Nat.le_trans (by decide) hR.1, Nat.le_trans (by decide) hR.2⟩ (fun _ _ q => q) (c_checkTrialBad hbb (JX_out hS hZ ht (by omega) (by omega) (x hbb)))
  · obtain ⟨y, hy, ey⟩ : ∃ y, y < 3 ∧ y0 = nI y := (in_or (by decide)).resolve_right (fun z => hbb (Or.inl z))
    obtain ⟨m, hm2, em⟩ : ∃ m, m < 201 ∧ m0 = nI m := (in_or (by decide)).resolve_right (fun z => hbb (Or.inr (Or.inl z)))
    obtain ⟨o, ho, eo⟩ : ∃ o, o < 6 ∧ o0 = nI o := (in_or (by decide)).resolve_right (fun z => hbb (Or.inr (Or.inr z)))
    subst ey; subst em; subst eo
    obtain ⟨W, hW⟩ : ∃ W : Wr, W = wv g 2 := ⟨_, rfl⟩
    rw [← hW] at hm hw q hv
    obtain ⟨p, hp⟩ : ∃ p : Nat → Bool, p = fun c => decide (c < n) && (thrW W (nI y) c && decide (W (56 + 142 * c + 4) = 3)) := ⟨_, rfl⟩
    have q2 := q y m o hy rfl hm2 rfl ho rfl
    rw [← hp] at q2
    refine J_callS3 (X' := fun _ _ => False) hS dX7_untaught_3 msX7_291 rfl (by decide) (by decide) (Nat.le_of_ble_eq_true rfl) ⟨Nat.le_trans (by decide) hR.1, Nat.le_trans (by decide) hR.2⟩ (fun _ _ q => q.elim) (c_checkTrialOk hy hm2 ho ?_)
    refine J_aload_n hS dX7_untaught_6 rfl ?_
    refine J_getR (t := 13) hS dX7_untaught_7 flX7_16 ob1 rfl ?_
    refine J_aload_n hS dX7_untaught_10 rfl ?_
    refine J_getR (t := 2) hS dX7_untaught_11 flX7_10 ob1 rfl ?_
    refine J_callV1 (X' := fun _ _ => False) hS dX7_untaught_14 mvX7_295 wo_copy.ob rfl (by decide) (by decide) (Nat.le_of_ble_eq_true rfl) ⟨Nat.le_trans (by decide) hR.1, Nat.le_trans (by decide) hR.2⟩ (fun _ _ q => q.elim) (c_become wo_copy wo_now (by decide) (fun g0 w0 f0 => ?_))
    rw [← hW] at w0
    refine J_aload_n hS dX7_untaught_17 rfl ?_
    refine J_getR (t := 13) hS dX7_untaught_18 flX7_16 ob1 rfl ?_
    refine J_iload_n hS dX7_untaught_21 rfl ?_
    refine J_callV1 (X' := fun _ _ => False) hS dX7_untaught_22 mvX7_354 wo_copy.ob rfl (by decide) (by decide) (Nat.le_of_ble_eq_true rfl) ⟨Nat.le_trans (by decide) hR.1, Nat.le_trans (by decide) hR.2⟩ (fun _ _ q => q.elim) (c_sendTeachersAway wo_copy hn (show g0 13 6 = nI n by rw [show g0 13 6 = wv g0 13 6 from rfl, w0]; exact hm) (fun g1 f1 t1 => ?_))
    have pp : ∀ c, c < 24 → (p c = true ↔ c < n ∧ thr g0 13 (nI y) c = true ∧ g0 (13 + 4) c = 3) := by
      intro c hc
      rw [hp]
      simp only [Bool.and_eq_true, decide_eq_true_eq]
      rw [← thrW_thr hc, w0, ← w0, wv_at (wx_kind hc)]
    have w1 : wv g1 13 = mskT p W := by
      rw [← w0]
      refine wv_msk f1 (fun c hc => ?_) (fun c hc => ?_)
      · rw [hp] at hc; simp at hc; omega
      · rw [t1 c]
        by_cases k : p c = true
        · rw [if_pos k, if_pos ((pp c hc).mp k)]
        · rw [if_neg k, if_neg (fun z => k ((pp c hc).mpr z))]
    have hl1 : LawsC g1 Ls := hl.fr (by rw [f1 1 (by decide), f0 1 (by decide)]) (fun a h1 h2 => by rw [f1 a (by omega), f0 a (by omega)])
    have n1 : wv g1 2 = W := by rw [hW]; exact wv_fr (fun a h1 h2 => by rw [f1 a (by omega), f0 a (by omega)])
    refine J_aload_n hS dX7_untaught_25 rfl ?_
    refine J_callV0 (X' := fun _ _ => False) hS dX7_untaught_26 mvX7_167 ob1 rfl (by decide) (by decide) (Nat.le_of_ble_eq_true rfl) ⟨Nat.le_trans (by decide) hR.1, Nat.le_trans (by decide) hR.2⟩ (fun _ _ q => q.elim) (c_useLawInForce hl1 (by rw [n1]; exact hv) (fun g2 b1 b2 b3 => ?_))
    rw [n1] at b2
    have w2 : wv g2 13 = mskT p W := by rw [← w1]; exact wv_fr (fun a h1 h2 => b1 a (by omega))
    refine J_aload_n hS dX7_untaught_29 rfl ?_
    refine J_iload_n hS dX7_untaught_30 rfl ?_
    refine J_iload_n hS dX7_untaught_31 rfl ?_
    refine J_iload_n hS dX7_untaught_32 rfl ?_
    refine J_callV3 (X' := fun _ _ => False) hS dX7_untaught_33 mvX7_307 ob1 rfl (by decide) (by decide) (Nat.le_of_ble_eq_true rfl) ⟨Nat.le_trans (by decide) hR.1, Nat.le_trans (by decide) hR.2⟩ (fun _ _ q => q.elim) (c_tryOut hn (show g2 13 6 = nI n by rw [show g2 13 6 = wv g2 13 6 from rfl, w2]; show (if _ then _ else _) = _; rw [if_neg (fun z => absurd z.1 (by decide))]; exact hm) hy (show m < 2 ^ 31 by omega) ho b2 (fun c hc => by rw [w2]; exact Wt_msk (hw.2.2 c hc)) (fun g3 d1 => ?_))
    refine J_iret hS hZ hr dX7_untaught_36 (by omega) (by omega) ?_
    rw [w2, b3]
    exact q2 g3 (fun z z1 z2 z3 => by rw [d1 z z1 (by omega) (by omega) (by omega) (by omega) (by omega) (by omega) (by omega), b1 z (by omega), f1 z (by omega), f0 z (by omega)])
set_option maxRecDepth 10000 in
theorem c_odds {n : Nat} {y0 m0 o0 k0 : Int32} {Ls : List (List Cls)} (hl : LawsC g Ls) (hv : isLw Ls.length (wv g 2 5)) (hw : WOk (wv g 2)) (hn : n ≤ 24) (hm : wv g 2 6 = nI n) (x : ((ou 3 y0 ∨ ou 201 m0 ∨ ou 6 o0) ∨ (k0 < 1 ∨ 20 < k0)) → X eIA g)
    (q : ∀ y m o k, y < 3 → y0 = nI y → m < 201 → m0 = nI m → o < 6 → o0 = nI o → k ≤ 20 → k0 = nI k → 1 ≤ k → ∀ g', FrT g g' → Q (some (.int (nI (here (fun i => decide (nI (here (thrW (wv g 2) (nI y)) n).length ≤ nI (trC (lwOf Ls (wv g 2 5)) (-1) n y m o (upd (upd (wv g 2) 0 (nI (i + 1))) 1 (nI (i + 1)))) * 2)) k).length))) g') : Ct l E lay NC 8 1 6 yX7_odds [.ref 1, .int y0, .int m0, .int o0, .int k0] g Q X := by
  refine Ct_in k_yX7_odds (by decide) rfl (Nat.le_of_ble_eq_true rfl) rfl ?_
  intro S hS hZ hr ht hR
  show J S 0 0 (g) 0 [some (.ref 1), some (.int y0), some (.int m0), some (.int o0), some (.int k0), none, none, none] []
  refine J_iload_n hS dX7_odds_0 rfl ?_
  refine J_iload_n hS dX7_odds_1 rfl ?_
  refine J_iload_n hS dX7_odds_2 rfl ?_
  by_cases hbb : (y0 < 0 ∨ nI 3 ≤ y0) ∨ (m0 < 0 ∨ nI 201 ≤ m0) ∨ (o0 < 0 ∨ nI 6 ≤ o0)
  ·
    refine J_callS3 hS dX7_odds_3 msX7_291 rfl (by decide) (by decide) (Nat.le_of_ble_eq_true rfl) ⟨Nat.le_trans (by decide) hR.1, Nat.le_trans (by decide) hR.2⟩ (fun _ _ q => q) (c_checkTrialBad hbb (JX_out hS hZ ht (by omega) (by omega) (x (Or.inl hbb))))
  · obtain ⟨y, hy, ey⟩ : ∃ y, y < 3 ∧ y0 = nI y := (in_or (by decide)).resolve_right (fun z => hbb (Or.inl z))
    obtain ⟨m, hm2, em⟩ : ∃ m, m < 201 ∧ m0 = nI m := (in_or (by decide)).resolve_right (fun z => hbb (Or.inr (Or.inl z)))
    obtain ⟨o, ho, eo⟩ : ∃ o, o < 6 ∧ o0 = nI o := (in_or (by decide)).resolve_right (fun z => hbb (Or.inr (Or.inr z)))
    subst ey; subst em; subst eo
    refine J_callS3 (X' := fun _ _ => False) hS dX7_odds_3 msX7_291 rfl (by decide) (by decide) (Nat.le_of_ble_eq_true rfl) ⟨Nat.le_trans (by decide) hR.1, Nat.le_trans (by decide) hR.2⟩ (fun _ _ q => q.elim) (c_checkTrialOk hy hm2 ho ?_)
    refine J_iload hS dX7_odds_6 rfl ?_
    refine J_iconst (v := 1) hS dX7_odds_8 (by decide) ?_
    refine J_icmp_lt (tgt := 19) hS dX7_odds_9 (by decide) (fun c1 => ?_) (fun c1 => ?_)
    ·
      exact J_thAW hS hZ ht hR (by decide) (List.mem_of_getElem? (i := 36) rfl) rfl dX7_odds_19 dX7_odds_22 dX7_odds_23 dX7_odds_26 dX7_odds_29 (by omega) (by omega) (x (Or.inr (Or.inl c1)))
    ·
      refine J_iload hS dX7_odds_12 rfl ?_
      refine J_bipush (v := 20) hS dX7_odds_14 (by decide) ?_
      refine J_icmp_le (tgt := 30) hS dX7_odds_16 (by decide) (fun c2 => ?_) (fun c2 => ?_)
      · obtain ⟨k, hk, ek⟩ : ∃ k, k < 21 ∧ k0 = nI k := (in_or (by decide)).resolve_right (fun z => by
          rcases z with z | z
          · exact c1 (Int32.lt_of_lt_of_le z (by decide))
          · exact absurd (Int32.lt_of_le_of_lt c2 (show (20 : Int32) < nI 21 by decide)) (Int32.not_lt.mpr z))
        subst ek
        have hk1 : 1 ≤ k := by
          rcases Nat.eq_zero_or_pos k with z | z
          · subst z; exact absurd (by decide) c1
          · exact z
        obtain ⟨W, hW⟩ : ∃ W : Wr, W = wv g 2 := ⟨_, rfl⟩
        rw [← hW] at hm hw q hv
        refine J_aload_n hS dX7_odds_30 rfl ?_
        refine J_callV0 (X' := fun _ _ => False) hS dX7_odds_31 mvX7_167 ob1 rfl (by decide) (by decide) (Nat.le_of_ble_eq_true rfl) ⟨Nat.le_trans (by decide) hR.1, Nat.le_trans (by decide) hR.2⟩ (fun _ _ q => q.elim) (c_useLawInForce hl (by rw [← hW]; exact hv) (fun g1 b1 b2 b3 => ?_))
        rw [← hW] at b2
        have n1 : wv g1 2 = W := by rw [hW]; exact wv_fr (fun a h1 h2 => b1 a (by omega))
        have hth : here (thr g1 2 (nI y)) n = here (thrW W (nI y)) n := here_congr (fun c hc => by rw [← n1]; exact (thrW_thr (by omega)).symm)
        refine J_aload_n hS dX7_odds_34 rfl ?_
        refine J_getR (t := 2) hS dX7_odds_35 flX7_10 ob1 rfl ?_
        refine J_iload_n hS dX7_odds_38 rfl ?_
        refine J_callV1 (X' := fun _ _ => False) hS dX7_odds_39 mvX7_319 wo_now.ob rfl (by decide) (by decide) (Nat.le_of_ble_eq_true rfl) ⟨Nat.le_trans (by decide) hR.1, Nat.le_trans (by decide) hR.2⟩ (fun _ _ q => q.elim) (c_countThere wo_now hn (show g1 2 6 = nI n by rw [show g1 2 6 = wv g1 2 6 from rfl, n1]; exact hm) ?_)
        refine J_istore (lt := fun t1 => [some (.ref 1), some (.int (nI y)), some (.int (nI m)), some (.int (nI o)), some (.int (nI k)), some (.int t1), none, none]) hS dX7_odds_42 (Nat.le_of_ble_eq_true rfl) (fun _ => rfl) (fun t1 et1 => ?_)
        refine J_iconst (v := 0) hS dX7_odds_44 (by decide) ?_
        refine J_istore (lt := fun f1 => [some (.ref 1), some (.int (nI y)), some (.int (nI m)), some (.int (nI o)), some (.int (nI k)), some (.int t1), some (.int f1), none]) hS dX7_odds_45 (Nat.le_of_ble_eq_true rfl) (fun _ => rfl) (fun f1 ef1 => ?_)
        refine J_iconst (v := 1) hS dX7_odds_47 (by decide) ?_
        refine J_istore (lt := fun i1 => [some (.ref 1), some (.int (nI y)), some (.int (nI m)), some (.int (nI o)), some (.int (nI k)), some (.int t1), some (.int f1), some (.int i1)]) hS dX7_odds_48 (Nat.le_of_ble_eq_true rfl) (fun _ => rfl) (fun i1 ei1 => ?_)
        rw [hth] at et1
        obtain ⟨P, hP⟩ : ∃ P : Nat → Bool, P = fun i => decide (nI (here (thrW W (nI y)) n).length ≤ nI (trC (lwOf Ls (W 5)) (-1) n y m o (upd (upd W 0 (nI (i + 1))) 1 (nI (i + 1)))) * 2) := ⟨_, rfl⟩
        have q2 := q y m o k hy rfl hm2 rfl ho rfl (by omega) rfl hk1
        rw [← hP] at q2
        suffices H : ∀ (r j : Nat) (f i : Int32) (g2 : Mm), j + r = k → i = nI (j + 1) → f = nI (here P j).length → FrT g1 g2 → g2 152 = g1 152 → J S 0 0 g2 50 [some (.ref 1), some (.int (nI y)), some (.int (nI m)), some (.int (nI o)), some (.int (nI k)), some (.int t1), some (.int f), some (.int i)] [] by
          exact H k 0 f1 i1 g1 (by omega) ei1 ef1 (fun _ _ _ _ => rfl) rfl
        intro r
        induction r with
        | zero =>
          intro j f i g2 hj hi hf k1 k2
          have : j = k := by omega
          subst this
          subst hi
          refine J_iload hS dX7_odds_50 rfl ?_
          refine J_iload hS dX7_odds_52 rfl ?_
          refine J_icmp_gt (tgt := 109) hS dX7_odds_54 (by decide) (fun c3 => ?_) (fun c3 => ?_)
          ·
            refine J_iload hS dX7_odds_109 rfl ?_
            refine J_iret hS hZ hr dX7_odds_111 (by omega) (by omega) ?_
            rw [hf]
            exact q2 g2 (fun z z1 z2 z3 => by rw [k1 z z1 z2 z3, b1 z (by omega)])
          · exact absurd (nI_lt (show j < j + 1 by omega) (by omega)) c3
        | succ r ih =>
          intro j f i g2 hj hi hf k1 k2
          subst hi
          have hs := here_succ P j
          refine J_iload hS dX7_odds_50 rfl ?_
          refine J_iload hS dX7_odds_52 rfl ?_
          refine J_icmp_gt (tgt := 109) hS dX7_odds_54 (by decide) (fun c3 => ?_) (fun c3 => ?_)
          · exact absurd c3 (nI_nlt (show j + 1 ≤ k by omega) (by omega))
          ·
            refine J_aload_n hS dX7_odds_57 rfl ?_
            refine J_getR (t := 13) hS dX7_odds_58 flX7_16 ob1 rfl ?_
            refine J_aload_n hS dX7_odds_61 rfl ?_
            refine J_getR (t := 2) hS dX7_odds_62 flX7_10 ob1 rfl ?_
            refine J_callV1 (X' := fun _ _ => False) hS dX7_odds_65 mvX7_295 wo_copy.ob rfl (by decide) (by decide) (Nat.le_of_ble_eq_true rfl) ⟨Nat.le_trans (by decide) hR.1, Nat.le_trans (by decide) hR.2⟩ (fun _ _ q => q.elim) (c_become wo_copy wo_now (by decide) (fun g3 w3 f3 => ?_))
            have n2 : wv g2 2 = W := by rw [← n1]; exact wv_fr (fun a h1 h2 => k1 a (by omega) (by omega) (by omega))
            rw [n2] at w3
            refine J_aload_n hS dX7_odds_68 rfl ?_
            refine J_getR (t := 13) hS dX7_odds_69 flX7_16 ob1 rfl ?_
            refine J_iload hS dX7_odds_72 rfl ?_
            refine J_putI hS dX7_odds_74 fpX7_94 wo_copy.ob rfl (fun g74 eg74 => ?_)
            refine J_aload_n hS dX7_odds_77 rfl ?_
            refine J_getR (t := 13) hS dX7_odds_78 flX7_16 ob1 rfl ?_
            refine J_iload hS dX7_odds_81 rfl ?_
            refine J_putI hS dX7_odds_83 fpX7_97 wo_copy.ob rfl (fun g83 eg83 => ?_)
            have w4 : wv g83 13 = upd (upd W 0 (nI (j + 1))) 1 (nI (j + 1)) := by
              rw [eg83, eg74, ← w3]
              rw [show u2 (u2 g3 13 0 (nI (j + 1))) 13 1 (nI (j + 1)) = u2 (u2 g3 (13 + 0) 0 (nI (j + 1))) (13 + 0) 1 (nI (j + 1)) from rfl, wv_u2 (wx_i (by decide)), wv_u2 (wx_i (by decide))]
            have f4 : ∀ z, (z < 13 ∨ 23 < z) → g83 z = g2 z := fun z hz => by rw [eg83, u2_ne z (by omega), eg74, u2_ne z (by omega), f3 z (by omega)]
            have r4 : RuleC g83 (lwOf Ls (W 5)) := b2.fr (fun a ha => by
              rcases ha with ha | ha
              · rw [f4 a (by omega)]; exact k1 a (by omega) (by omega) (by omega)
              · subst ha; rw [f4 152 (by decide)]; exact k2)
            have e4 : g83 152 3 = -1 := by rw [f4 152 (by decide), k2]; exact b3
            refine J_aload_n hS dX7_odds_86 rfl ?_
            refine J_iload_n hS dX7_odds_87 rfl ?_
            refine J_iload_n hS dX7_odds_88 rfl ?_
            refine J_iload_n hS dX7_odds_89 rfl ?_
            refine J_callV3 (X' := fun _ _ => False) hS dX7_odds_90 mvX7_307 ob1 rfl (by decide) (by decide) (Nat.le_of_ble_eq_true rfl) ⟨Nat.le_trans (by decide) hR.1, Nat.le_trans (by decide) hR.2⟩ (fun _ _ q => q.elim) (c_tryOut hn (show g83 13 6 = nI n by rw [show g83 13 6 = wv g83 13 6 from rfl, w4]; exact hm) hy (show m < 2 ^ 31 by omega) ho r4 (fun c hc => by rw [w4]; exact Wt_upd1 (Wt_upd0 (hw.2.2 c hc))) (fun g4 d1 => ?_))
            rw [w4, e4]
            have fr4 : FrT g1 g4 := fun z z1 z2 z3 => by rw [d1 z z1 (by omega) (by omega) (by omega) (by omega) (by omega) (by omega) (by omega), f4 z z1]; exact k1 z z1 z2 z3
            have e5 : g4 152 = g1 152 := by rw [d1 152 (by decide) (by decide) (by decide) (by decide) (by decide) (by decide) (by decide) (by decide), f4 152 (by decide)]; exact k2
            refine J_iconst (v := 2) hS dX7_odds_93 (by decide) ?_
            refine J_imul hS dX7_odds_94 ?_
            refine J_iload hS dX7_odds_95 rfl ?_
            refine J_icmp_lt (tgt := 103) hS dX7_odds_97 (by decide) (fun c4 => ?_) (fun c4 => ?_)
            · have hno : P j = false := by rw [hP]; exact decide_eq_false (by rw [← et1]; exact Int32.not_le.mpr c4)
              refine J_iinc (lt := fun i2 => [some (.ref 1), some (.int (nI y)), some (.int (nI m)), some (.int (nI o)), some (.int (nI k)), some (.int t1), some (.int f), some (.int i2)]) (v := 1) hS dX7_odds_103 rfl (by decide) (fun _ => rfl) (fun i2 ei2 => ?_)
              refine J_goto (tgt := 50) hS dX7_odds_106 (by decide) ?_
              exact ih (j + 1) f i2 g4 (by omega) (by rw [ei2]; exact nI_1 _) (by rw [hf, hs]; simp [hno]) fr4 e5
            · have hyes : P j = true := by rw [hP]; exact decide_eq_true (by rw [← et1]; exact Int32.not_lt.mp c4)
              refine J_iinc (lt := fun f2 => [some (.ref 1), some (.int (nI y)), some (.int (nI m)), some (.int (nI o)), some (.int (nI k)), some (.int t1), some (.int f2), some (.int (nI (j + 1)))]) (v := 1) hS dX7_odds_100 rfl (by decide) (fun _ => rfl) (fun f2 ef2 => ?_)
              refine J_iinc (lt := fun i2 => [some (.ref 1), some (.int (nI y)), some (.int (nI m)), some (.int (nI o)), some (.int (nI k)), some (.int t1), some (.int f2), some (.int i2)]) (v := 1) hS dX7_odds_103 rfl (by decide) (fun _ => rfl) (fun i2 ei2 => ?_)
              refine J_goto (tgt := 50) hS dX7_odds_106 (by decide) ?_
              exact ih (j + 1) f2 i2 g4 (by omega) (by rw [ei2]; exact nI_1 _) (by rw [ef2, hf, hs, nI_1]; simp [hyes]) fr4 e5
      ·
        exact J_thAW hS hZ ht hR (by decide) (List.mem_of_getElem? (i := 36) rfl) rfl dX7_odds_19 dX7_odds_22 dX7_odds_23 dX7_odds_26 dX7_odds_29 (by omega) (by omega) (x (Or.inr (Or.inr (Int32.not_le.mp c2))))
end ClsTr


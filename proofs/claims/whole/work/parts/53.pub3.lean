/-! THE CLASS: public methods, III -/
/-- the least number of children from m on that is enough -/
def fwA (F : Nat → Nat) (h : Int32) : Nat → Nat → Int32
  | _, 0 => -1
  | m, r + 1 => if nI m * h ≤ nI (F m) * 100 then nI m else fwA F h (m + 1) r
def kfP (w : Wr) (n y m : Nat) (c : Nat) : Bool := decide (c < n) && !(thrW w (nI y) c && decide ((here (thrW w (nI y)) c).length < m))
/-- bits of the clauses without which fewer hold -/
def ndB (F : Nat → Nat) (wa : Nat) : Nat → Int32
  | 0 => 0
  | k + 1 => if nI (F k) < nI wa then ndB F wa k ||| (1 <<< (nI k &&& 31)) else ndB F wa k
/-- the meaning k -/
def mnK (k r : Nat) : Nat := if r = 0 then k / 16 else if r = 1 then k / 4 % 4 else k % 4
theorem mnK_lt {k r : Nat} (h : k < 64) : mnK k r < 4 := by unfold mnK; split; omega; split <;> omega
theorem nI_div {a b : Nat} (ha : a < 2 ^ 31) (hb : 0 < b) (hb2 : b < 2 ^ 31) : nI a / nI b = nI (a / b) := pk_div ha hb hb2
section ClsP3
variable {l : Launch} {E : Ey} {g : Mm} {Q : Option Value → Mm → Prop} {X : String → Mm → Prop} {h : Nat}
set_option maxRecDepth 10000 in
theorem c_fewest {n : Nat} {y0 m0 o0 k0 : Int32} {Ls : List (List Cls)} (hl : LawsC g Ls) (hv : isLw Ls.length (wv g 2 5)) (hw : WOk (wv g 2)) (hn : n ≤ 24) (hm : wv g 2 6 = nI n) (x : ((ou 3 y0 ∨ ou 201 m0 ∨ ou 6 o0) ∨ (k0 < 1 ∨ 100 < k0)) → X eIA g)
    (q : ∀ y m o, y < 3 → y0 = nI y → m < 201 → m0 = nI m → o < 6 → o0 = nI o → 1 ≤ k0 → k0 ≤ 100 → ∀ g', FrT g g' → Q (some (.int (fwA (fun k => trC (lwOf Ls (wv g 2 5)) (-1) n y m o (mskT (kfP (wv g 2) n y k) (wv g 2))) k0 2 ((here (thrW (wv g 2) (nI y)) n).length - 1)))) g') : Ct l E lay NC 8 1 6 yX7_fewest [.ref 1, .int y0, .int m0, .int k0, .int o0] g Q X := by
  refine Ct_in k_yX7_fewest (by decide) rfl (Nat.le_of_ble_eq_true rfl) rfl ?_
  intro S hS hZ hr ht hR
  show J S 0 0 (g) 0 [some (.ref 1), some (.int y0), some (.int m0), some (.int k0), some (.int o0), none, none] []
  refine J_iload_n hS dX7_fewest_0 rfl ?_
  refine J_iload_n hS dX7_fewest_1 rfl ?_
  refine J_iload hS dX7_fewest_2 rfl ?_
  by_cases hbb : (y0 < 0 ∨ nI 3 ≤ y0) ∨ (m0 < 0 ∨ nI 201 ≤ m0) ∨ (o0 < 0 ∨ nI 6 ≤ o0)
  ·
    refine J_callS3 hS dX7_fewest_4 msX7_291 rfl (by decide) (by decide) (Nat.le_of_ble_eq_true rfl) ⟨Nat.le_trans (by decide) hR.1, Nat.le_trans (by decide) hR.2⟩ (fun _ _ q => q) (c_checkTrialBad hbb (JX_out hS hZ ht (by omega) (by omega) (x (Or.inl hbb))))
  · obtain ⟨y, hy, ey⟩ : ∃ y, y < 3 ∧ y0 = nI y := (in_or (by decide)).resolve_right (fun z => hbb (Or.inl z))
    obtain ⟨m, hm2, em⟩ : ∃ m, m < 201 ∧ m0 = nI m := (in_or (by decide)).resolve_right (fun z => hbb (Or.inr (Or.inl z)))
    obtain ⟨o, ho, eo⟩ : ∃ o, o < 6 ∧ o0 = nI o := (in_or (by decide)).resolve_right (fun z => hbb (Or.inr (Or.inr z)))
    subst ey; subst em; subst eo
    refine J_callS3 (X' := fun _ _ => False) hS dX7_fewest_4 msX7_291 rfl (by decide) (by decide) (Nat.le_of_ble_eq_true rfl) ⟨Nat.le_trans (by decide) hR.1, Nat.le_trans (by decide) hR.2⟩ (fun _ _ q => q.elim) (c_checkTrialOk hy hm2 ho ?_)
    refine J_iload_n hS dX7_fewest_7 rfl ?_
    refine J_iconst (v := 1) hS dX7_fewest_8 (by decide) ?_
    refine J_icmp_lt (tgt := 18) hS dX7_fewest_9 (by decide) (fun c1 => ?_) (fun c1 => ?_)
    ·
      exact J_thAW hS hZ ht hR (by decide) (List.mem_of_getElem? (i := 34) rfl) rfl dX7_fewest_18 dX7_fewest_21 dX7_fewest_22 dX7_fewest_25 dX7_fewest_28 (by omega) (by omega) (x (Or.inr (Or.inl c1)))
    ·
      refine J_iload_n hS dX7_fewest_12 rfl ?_
      refine J_bipush (v := 100) hS dX7_fewest_13 (by decide) ?_
      refine J_icmp_le (tgt := 29) hS dX7_fewest_15 (by decide) (fun c2 => ?_) (fun c2 => ?_)
      · obtain ⟨W, hW⟩ : ∃ W : Wr, W = wv g 2 := ⟨_, rfl⟩
        rw [← hW] at hm hw q hv
        obtain ⟨F, hF⟩ : ∃ F : Nat → Nat, F = fun k => trC (lwOf Ls (W 5)) (-1) n y m o (mskT (kfP W n y k) W) := ⟨_, rfl⟩
        have q2 := q y m o hy rfl hm2 rfl ho rfl (Int32.not_lt.mp c1) c2
        rw [← hF] at q2
        refine J_aload_n hS dX7_fewest_29 rfl ?_
        refine J_callV0 (X' := fun _ _ => False) hS dX7_fewest_30 mvX7_167 ob1 rfl (by decide) (by decide) (Nat.le_of_ble_eq_true rfl) ⟨Nat.le_trans (by decide) hR.1, Nat.le_trans (by decide) hR.2⟩ (fun _ _ q => q.elim) (c_useLawInForce hl (by rw [← hW]; exact hv) (fun g1 b1 b2 b3 => ?_))
        rw [← hW] at b2
        have n1 : wv g1 2 = W := by rw [hW]; exact wv_fr (fun a h1 h2 => b1 a (by omega))
        have hth : here (thr g1 2 (nI y)) n = here (thrW W (nI y)) n := here_congr (fun c hc => by rw [← n1]; exact (thrW_thr (by omega)).symm)
        have hlen := here_len (thrW W (nI y)) n
        refine J_aload_n hS dX7_fewest_33 rfl ?_
        refine J_getR (t := 2) hS dX7_fewest_34 flX7_10 ob1 rfl ?_
        refine J_iload_n hS dX7_fewest_37 rfl ?_
        refine J_aload_n hS dX7_fewest_38 rfl ?_
        refine J_getR (t := 157) hS dX7_fewest_39 flX7_67 ob1 rfl ?_
        refine J_callV2 (X' := fun _ _ => False) hS dX7_fewest_42 mvX7_235 wo_now.ob rfl (by decide) (by decide) (Nat.le_of_ble_eq_true rfl) ⟨Nat.le_trans (by decide) hR.1, Nat.le_trans (by decide) hR.2⟩ (fun _ _ q => q.elim) (c_gather wo_now hn (show g1 2 6 = nI n by rw [show g1 2 6 = wv g1 2 6 from rfl, n1]; exact hm) (fun g0 f0 c0 => ?_))
        refine J_istore (lt := fun t1 => [some (.ref 1), some (.int (nI y)), some (.int (nI m)), some (.int k0), some (.int (nI o)), some (.int t1), none]) hS dX7_fewest_45 (Nat.le_of_ble_eq_true rfl) (fun _ => rfl) (fun t1 et1 => ?_)
        refine J_iconst (v := 2) hS dX7_fewest_47 (by decide) ?_
        refine J_istore (lt := fun i1 => [some (.ref 1), some (.int (nI y)), some (.int (nI m)), some (.int k0), some (.int (nI o)), some (.int t1), some (.int i1)]) hS dX7_fewest_48 (Nat.le_of_ble_eq_true rfl) (fun _ => rfl) (fun i1 ei1 => ?_)
        rw [hth] at et1
        obtain ⟨T, hT⟩ : ∃ T : Nat, T = (here (thrW W (nI y)) n).length := ⟨_, rfl⟩
        rw [← hT] at et1 q2 hlen
        subst et1
        suffices H : ∀ (r k : Nat) (i : Int32) (g2 : Mm), k + r = T - 1 + 2 → 2 ≤ k → i = nI k → fwA F k0 2 (T - 1) = fwA F k0 k r → FrT g1 g2 → g2 152 = g1 152 → J S 0 0 g2 50 [some (.ref 1), some (.int (nI y)), some (.int (nI m)), some (.int k0), some (.int (nI o)), some (.int (nI T)), some (.int i)] [] by
          exact H (T - 1) 2 i1 g0 (by omega) (by omega) ei1 rfl (fun z _ _ h3 => f0 z h3) (f0 152 (by decide))
        intro r
        induction r with
        | zero =>
          intro k i g2 hk hk2 hi hf k1 k2
          subst hi
          refine J_iload hS dX7_fewest_50 rfl ?_
          refine J_iload hS dX7_fewest_52 rfl ?_
          refine J_icmp_gt (tgt := 105) hS dX7_fewest_54 (by decide) (fun c3 => ?_) (fun c3 => ?_)
          ·
            refine J_iconst (v := (-1)) hS dX7_fewest_105 (by decide) ?_
            refine J_iret hS hZ hr dX7_fewest_106 (by omega) (by omega) ?_
            have fq := q2 g2 (fun z z1 z2 z3 => by rw [k1 z z1 z2 z3, b1 z (by omega)])
            rw [hf] at fq; exact fq
          · exact absurd (nI_lt (show T < k by omega) (by omega)) c3
        | succ r ih =>
          intro k i g2 hk hk2 hi hf k1 k2
          subst hi
          refine J_iload hS dX7_fewest_50 rfl ?_
          refine J_iload hS dX7_fewest_52 rfl ?_
          refine J_icmp_gt (tgt := 105) hS dX7_fewest_54 (by decide) (fun c3 => ?_) (fun c3 => ?_)
          · exact absurd c3 (nI_nlt (show k ≤ T by omega) (by omega))
          ·
            refine J_aload_n hS dX7_fewest_57 rfl ?_
            refine J_getR (t := 13) hS dX7_fewest_58 flX7_16 ob1 rfl ?_
            refine J_aload_n hS dX7_fewest_61 rfl ?_
            refine J_getR (t := 2) hS dX7_fewest_62 flX7_10 ob1 rfl ?_
            refine J_callV1 (X' := fun _ _ => False) hS dX7_fewest_65 mvX7_295 wo_copy.ob rfl (by decide) (by decide) (Nat.le_of_ble_eq_true rfl) ⟨Nat.le_trans (by decide) hR.1, Nat.le_trans (by decide) hR.2⟩ (fun _ _ q => q.elim) (c_become wo_copy wo_now (by decide) (fun g3 w3 f3 => ?_))
            have n2 : wv g2 2 = W := by rw [← n1]; exact wv_fr (fun a h1 h2 => k1 a (by omega) (by omega) (by omega))
            rw [n2] at w3
            refine J_aload_n hS dX7_fewest_68 rfl ?_
            refine J_getR (t := 13) hS dX7_fewest_69 flX7_16 ob1 rfl ?_
            refine J_iload_n hS dX7_fewest_72 rfl ?_
            refine J_iload hS dX7_fewest_73 rfl ?_
            refine J_callV2 (X' := fun _ _ => False) hS dX7_fewest_75 mvX7_312 wo_copy.ob rfl (by decide) (by decide) (Nat.le_of_ble_eq_true rfl) ⟨Nat.le_trans (by decide) hR.1, Nat.le_trans (by decide) hR.2⟩ (fun _ _ q => q.elim) (c_keepFirst wo_copy hn (show k < 2 ^ 31 by omega) (show g3 13 6 = nI n by rw [show g3 13 6 = wv g3 13 6 from rfl, w3]; exact hm) (fun g4 f4 t4 => ?_))
            have t3 : ∀ c, c < 24 → thr g3 13 (nI y) c = thrW W (nI y) c := fun c hc => by rw [← w3]; exact (thrW_thr hc).symm
            have pp : ∀ c, c < 24 → (kfP W n y k c = true ↔ c < n ∧ ¬ (thr g3 13 (nI y) c = true ∧ (here (thr g3 13 (nI y)) c).length < k)) := by
              intro c hc
              unfold kfP
              rw [t3 c hc, here_congr (p := thr g3 13 (nI y)) (p' := thrW W (nI y)) (fun d hd => t3 d (by omega))]
              cases thrW W (nI y) c <;> simp
            have w4 : wv g4 13 = mskT (kfP W n y k) W := by
              rw [← w3]
              refine wv_msk f4 (fun c hc => ?_) (fun c hc => ?_)
              · rw [w3] at hc; unfold kfP at hc; simp at hc; omega
              · rw [t4 c, w3]
                by_cases z : kfP W n y k c = true
                · rw [if_pos z, if_pos ((pp c hc).mp z)]
                · rw [if_neg z, if_neg (fun z2 => z ((pp c hc).mpr z2))]
            have f5 : ∀ z, (z < 13 ∨ 23 < z) → g4 z = g2 z := fun z hz => by rw [f4 z (by omega), f3 z (by omega)]
            have r4 : RuleC g4 (lwOf Ls (W 5)) := b2.fr (fun a ha => by
              rcases ha with ha | ha
              · rw [f5 a (by omega)]; exact k1 a (by omega) (by omega) (by omega)
              · subst ha; rw [f5 152 (by decide)]; exact k2)
            have e4 : g4 152 3 = -1 := by rw [f5 152 (by decide), k2]; exact b3
            refine J_aload_n hS dX7_fewest_78 rfl ?_
            refine J_iload_n hS dX7_fewest_79 rfl ?_
            refine J_iload_n hS dX7_fewest_80 rfl ?_
            refine J_iload hS dX7_fewest_81 rfl ?_
            refine J_callV3 (X' := fun _ _ => False) hS dX7_fewest_83 mvX7_307 ob1 rfl (by decide) (by decide) (Nat.le_of_ble_eq_true rfl) ⟨Nat.le_trans (by decide) hR.1, Nat.le_trans (by decide) hR.2⟩ (fun _ _ q => q.elim) (c_tryOut hn (show g4 13 6 = nI n by rw [show g4 13 6 = wv g4 13 6 from rfl, w4]; show (if _ then _ else _) = _; rw [if_neg (fun z => absurd z.1 (by decide))]; exact hm) hy (show m < 2 ^ 31 by omega) ho r4 (fun c hc => by rw [w4]; exact Wt_msk (hw.2.2 c hc)) (fun g5 d1 => ?_))
            rw [w4, e4]
            have eF : trC (lwOf Ls (W 5)) (-1) n y m o (mskT (kfP W n y k) W) = F k := by rw [hF]
            rw [eF]
            have fr5 : FrT g1 g5 := fun z z1 z2 z3 => by rw [d1 z z1 (by omega) (by omega) (by omega) (by omega) (by omega) (by omega) (by omega), f5 z z1]; exact k1 z z1 z2 z3
            have e5 : g5 152 = g1 152 := by rw [d1 152 (by decide) (by decide) (by decide) (by decide) (by decide) (by decide) (by decide) (by decide), f5 152 (by decide)]; exact k2
            refine J_bipush (v := 100) hS dX7_fewest_86 (by decide) ?_
            refine J_imul hS dX7_fewest_88 ?_
            refine J_iload hS dX7_fewest_89 rfl ?_
            refine J_iload_n hS dX7_fewest_91 rfl ?_
            refine J_imul hS dX7_fewest_92 ?_
            refine J_icmp_lt (tgt := 99) hS dX7_fewest_93 (by decide) (fun c4 => ?_) (fun c4 => ?_)
            ·
              refine J_iinc (lt := fun i2 => [some (.ref 1), some (.int (nI y)), some (.int (nI m)), some (.int k0), some (.int (nI o)), some (.int (nI T)), some (.int i2)]) (v := 1) hS dX7_fewest_99 rfl (by decide) (fun _ => rfl) (fun i2 ei2 => ?_)
              refine J_goto (tgt := 50) hS dX7_fewest_102 (by decide) ?_
              refine ih (k + 1) i2 g5 (by omega) (by omega) (by rw [ei2]; exact nI_1 _) ?_ fr5 e5
              rw [hf]; show (if nI k * k0 ≤ nI (F k) * 100 then nI k else fwA F k0 (k + 1) r) = _
              rw [if_neg (Int32.not_le.mpr c4)]
            ·
              refine J_iload hS dX7_fewest_96 rfl ?_
              refine J_iret hS hZ hr dX7_fewest_98 (by omega) (by omega) ?_
              have fq := q2 g5 (fun z z1 z2 z3 => by rw [fr5 z z1 z2 z3, b1 z (by omega)])
              rw [hf, show fwA F k0 k (r + 1) = if nI k * k0 ≤ nI (F k) * 100 then nI k else fwA F k0 (k + 1) r from rfl, if_pos (Int32.not_lt.mp c4)] at fq; exact fq
      ·
        exact J_thAW hS hZ ht hR (by decide) (List.mem_of_getElem? (i := 34) rfl) rfl dX7_fewest_18 dX7_fewest_21 dX7_fewest_22 dX7_fewest_25 dX7_fewest_28 (by omega) (by omega) (x (Or.inr (Or.inr (Int32.not_le.mp c2))))
set_option maxRecDepth 10000 in
theorem c_needed {n : Nat} {y0 m0 o0 : Int32} {Ls : List (List Cls)} (hl : LawsC g Ls) (hv : isLw Ls.length (wv g 2 5)) (hw : WOk (wv g 2)) (hn : n ≤ 24) (hm : wv g 2 6 = nI n) (x : (ou 3 y0 ∨ ou 201 m0 ∨ ou 6 o0) → X eIA g)
    (q0 : ¬ (ou 3 y0 ∨ ou 201 m0 ∨ ou 6 o0) → wv g 2 5 = -1 → Q (some (.int 0)) g)
    (q : ∀ y m o, y < 3 → y0 = nI y → m < 201 → m0 = nI m → o < 6 → o0 = nI o → ∀ k L, k < Ls.length → wv g 2 5 = nI k → Ls[k]? = some L → ∀ g', FrT g g' → Q (some (.int (ndB (fun c => trC (some L) (nI c) n y m o (wv g 2)) (trC (some L) (-1) n y m o (wv g 2)) L.length))) g') : Ct l E lay NC 8 1 6 yX7_needed [.ref 1, .int y0, .int m0, .int o0] g Q X := by
  refine Ct_in k_yX7_needed (by decide) rfl (Nat.le_of_ble_eq_true rfl) rfl ?_
  intro S hS hZ hr ht hR
  show J S 0 0 (g) 0 [some (.ref 1), some (.int y0), some (.int m0), some (.int o0), none, none, none, none] []
  refine J_iload_n hS dX7_needed_0 rfl ?_
  refine J_iload_n hS dX7_needed_1 rfl ?_
  refine J_iload_n hS dX7_needed_2 rfl ?_
  by_cases hbb : (y0 < 0 ∨ nI 3 ≤ y0) ∨ (m0 < 0 ∨ nI 201 ≤ m0) ∨ (o0 < 0 ∨ nI 6 ≤ o0)
  ·
    refine J_callS3 hS dX7_needed_3 msX7_291 rfl (by decide) (by decide) (Nat.le_of_ble_eq_true rfl) ⟨Nat.le_trans (by decide) hR.1, Nat.le_trans (by decide) hR.2⟩ (fun _ _ q => q) (c_checkTrialBad hbb (JX_out hS hZ ht (by omega) (by omega) (x hbb)))
  · obtain ⟨y, hy, ey⟩ : ∃ y, y < 3 ∧ y0 = nI y := (in_or (by decide)).resolve_right (fun z => hbb (Or.inl z))
    obtain ⟨m, hm2, em⟩ : ∃ m, m < 201 ∧ m0 = nI m := (in_or (by decide)).resolve_right (fun z => hbb (Or.inr (Or.inl z)))
    obtain ⟨o, ho, eo⟩ : ∃ o, o < 6 ∧ o0 = nI o := (in_or (by decide)).resolve_right (fun z => hbb (Or.inr (Or.inr z)))
    subst ey; subst em; subst eo
    have hl6 := hl.1
    refine J_callS3 (X' := fun _ _ => False) hS dX7_needed_3 msX7_291 rfl (by decide) (by decide) (Nat.le_of_ble_eq_true rfl) ⟨Nat.le_trans (by decide) hR.1, Nat.le_trans (by decide) hR.2⟩ (fun _ _ q => q.elim) (c_checkTrialOk hy hm2 ho ?_)
    refine J_aload_n hS dX7_needed_6 rfl ?_
    refine J_aload_n hS dX7_needed_7 rfl ?_
    refine J_getR (t := 2) hS dX7_needed_8 flX7_10 ob1 rfl ?_
    refine J_getI hS dX7_needed_11 flX7_205 wo_now.ob rfl ?_
    show J S 0 0 (g) 14 [some (.ref 1), some (.int (nI y)), some (.int (nI m)), some (.int (nI o)), none, none, none, none] [.int _, .ref 1]
    rw [show g 2 5 = wv g 2 5 from rfl]
    refine J_callV1 (X' := fun _ _ => False) hS dX7_needed_14 mvX7_299 ob1 rfl (by decide) (by decide) (Nat.le_of_ble_eq_true rfl) ⟨Nat.le_trans (by decide) hR.1, Nat.le_trans (by decide) hR.2⟩ (fun _ _ q => q.elim) (c_lawOf hl hv (fun r xx h1 h2 h3 => ?_))
    rcases h3 with ⟨ev, ex⟩ | ⟨k, hk, ev, ex⟩
    · have er : r = .null := by rw [← h1, ex]; rfl
      subst er
      refine J_astoreN (lt := [some (.ref 1), some (.int (nI y)), some (.int (nI m)), some (.int (nI o)), some (.null), none, none, none]) hS dX7_needed_17 (Nat.le_of_ble_eq_true rfl) rfl ?_
      refine J_aloadN hS dX7_needed_19 rfl ?_
      refine J_ifnonnullN hS dX7_needed_21 ?_
      refine J_iconst (v := 0) hS dX7_needed_24 (by decide) ?_
      refine J_iret hS hZ hr dX7_needed_25 (by omega) (by omega) ?_
      exact q0 hbb ev
    · have er : r = .ref (107 + 6 * k) := by
        rw [← h1, ex]
        show (if nI (107 + 6 * k) = 0 then Value.null else .ref (nI (107 + 6 * k)).toNatClampNeg) = _
        rw [if_neg (fun z => absurd ((nI_eq (by omega) (by decide)).mp (z.trans n0)) (by omega)), nI_clamp (by omega)]
      subst er
      have hL : Lw (107 + 6 * k) := ⟨k, by omega, rfl⟩
      obtain ⟨L, hkl⟩ : ∃ L, Ls[k]? = some L := ⟨Ls[k], List.getElem?_eq_getElem hk⟩
      have hlc := hl.2.2 k L hkl
      obtain ⟨W, hW⟩ : ∃ W : Wr, W = wv g 2 := ⟨_, rfl⟩
      have q2 := q y m o hy rfl hm2 rfl ho rfl k L hk ev hkl
      rw [← hW] at hm hw q2
      obtain ⟨F, hF⟩ : ∃ F : Nat → Nat, F = fun c => trC (some L) (nI c) n y m o W := ⟨_, rfl⟩
      obtain ⟨wa, hwa⟩ : ∃ wa : Nat, wa = trC (some L) (-1) n y m o W := ⟨_, rfl⟩
      rw [← hF, ← hwa] at q2
      have elw : lwOf Ls (nI k) = some L := by
        unfold lwOf
        rw [if_neg (nI_nem1 (by omega)), nI_clamp (by omega)]; exact hkl
      have hab : ab 2 (nI (107 + 6 * k)) = .ref (107 + 6 * k) := by rw [← ex]; exact h1
      refine J_astore (lt := [some (.ref 1), some (.int (nI y)), some (.int (nI m)), some (.int (nI o)), some (.ref (107 + 6 * k)), none, none, none]) hS dX7_needed_17 (Nat.le_of_ble_eq_true rfl) rfl ?_
      refine J_aload hS dX7_needed_19 rfl ?_
      refine J_ifnonnull (tgt := 26) hS dX7_needed_21 (by decide) ?_
      refine J_aload_n hS dX7_needed_26 rfl ?_
      refine J_getR (t := 13) hS dX7_needed_27 flX7_16 ob1 rfl ?_
      refine J_aload_n hS dX7_needed_30 rfl ?_
      refine J_getR (t := 2) hS dX7_needed_31 flX7_10 ob1 rfl ?_
      refine J_callV1 (X' := fun _ _ => False) hS dX7_needed_34 mvX7_295 wo_copy.ob rfl (by decide) (by decide) (Nat.le_of_ble_eq_true rfl) ⟨Nat.le_trans (by decide) hR.1, Nat.le_trans (by decide) hR.2⟩ (fun _ _ q => q.elim) (c_become wo_copy wo_now (by decide) (fun g0 w0 f0 => ?_))
      rw [← hW] at w0
      have hl0 : LawsC g0 Ls := hl.fr (by rw [f0 1 (by decide)]) (fun a h1 h2 => f0 a (by omega))
      obtain ⟨g1, hg1⟩ : ∃ g1 : Mm, g1 = u2 (u2 g0 152 2 (nI (107 + 6 * k))) 152 3 (-1) := ⟨_, rfl⟩
      have f1 : ∀ z, z ≠ 152 → g1 z = g0 z := fun z hz => by rw [hg1, u2_ne z hz, u2_ne z hz]
      have w1 : wv g1 13 = W := by rw [← w0]; exact wv_fr (fun a h1 h2 => f1 a (by omega))
      have r1 : RuleC g1 (some L) := by rw [hg1, ← elw]; exact use_rule hl0 (Or.inr ⟨k, hk, rfl, rfl⟩)
      have e1 : g1 152 3 = -1 := by rw [hg1]; simp [u2]
      refine J_aload_n hS dX7_needed_37 rfl ?_
      refine J_getR (t := 152) hS dX7_needed_38 flX7_52 ob1 rfl ?_
      refine J_aload hS dX7_needed_41 rfl ?_
      refine J_iconst (v := (-1)) hS dX7_needed_43 (by decide) ?_
      refine J_callV2 (X' := fun _ _ => False) hS dX7_needed_44 mvX7_303 ob152 rfl (by decide) (by decide) (Nat.le_of_ble_eq_true rfl) ⟨Nat.le_trans (by decide) hR.1, Nat.le_trans (by decide) hR.2⟩ (fun _ _ q => q.elim) (c_use hab (Or.inr ⟨_, rfl⟩) ?_)
      rw [← hg1]
      refine J_aload_n hS dX7_needed_47 rfl ?_
      refine J_iload_n hS dX7_needed_48 rfl ?_
      refine J_iload_n hS dX7_needed_49 rfl ?_
      refine J_iload_n hS dX7_needed_50 rfl ?_
      refine J_callV3 (X' := fun _ _ => False) hS dX7_needed_51 mvX7_307 ob1 rfl (by decide) (by decide) (Nat.le_of_ble_eq_true rfl) ⟨Nat.le_trans (by decide) hR.1, Nat.le_trans (by decide) hR.2⟩ (fun _ _ q => q.elim) (c_tryOut hn (show g1 13 6 = nI n by rw [show g1 13 6 = wv g1 13 6 from rfl, w1]; exact hm) hy (show m < 2 ^ 31 by omega) ho r1 (fun c hc => by rw [w1]; exact hw.2.2 c hc) (fun g2 d1 => ?_))
      refine J_istore (lt := fun a1 => [some (.ref 1), some (.int (nI y)), some (.int (nI m)), some (.int (nI o)), some (.ref (107 + 6 * k)), some (.int a1), none, none]) hS dX7_needed_54 (Nat.le_of_ble_eq_true rfl) (fun _ => rfl) (fun a1 ea1 => ?_)
      refine J_iconst (v := 0) hS dX7_needed_56 (by decide) ?_
      refine J_istore (lt := fun b1 => [some (.ref 1), some (.int (nI y)), some (.int (nI m)), some (.int (nI o)), some (.ref (107 + 6 * k)), some (.int a1), some (.int b1), none]) hS dX7_needed_57 (Nat.le_of_ble_eq_true rfl) (fun _ => rfl) (fun b1 eb1 => ?_)
      refine J_iconst (v := 0) hS dX7_needed_59 (by decide) ?_
      refine J_istore (lt := fun i1 => [some (.ref 1), some (.int (nI y)), some (.int (nI m)), some (.int (nI o)), some (.ref (107 + 6 * k)), some (.int a1), some (.int b1), some (.int i1)]) hS dX7_needed_60 (Nat.le_of_ble_eq_true rfl) (fun _ => rfl) (fun i1 ei1 => ?_)
      rw [w1, e1, ← hwa] at ea1
      subst ea1
      suffices H : ∀ (r j : Nat) (b i : Int32) (g3 : Mm), j + r = L.length → i = nI j → b = ndB F wa j → FrT g g3 → J S 0 0 g3 62 [some (.ref 1), some (.int (nI y)), some (.int (nI m)), some (.int (nI o)), some (.ref (107 + 6 * k)), some (.int (nI wa)), some (.int b), some (.int i)] [] by
        exact H L.length 0 b1 i1 g2 (by omega) ei1 eb1 (fun z z1 z2 z3 => by rw [d1 z z1 (by omega) (by omega) (by omega) (by omega) (by omega) (by omega) (by omega), f1 z (by omega), f0 z (by omega)])
      have hl12 := hlc.1
      intro r
      induction r with
      | zero =>
        intro j b i g3 hj hi hb k1
        have e : j = L.length := by omega
        subst hi
        refine J_iload hS dX7_needed_62 rfl ?_
        refine J_aload hS dX7_needed_64 rfl ?_
        refine J_getI hS dX7_needed_66 flX7_316 hL.ob rfl ?_
        show J S 0 0 (g3) 69 [some (.ref 1), some (.int (nI y)), some (.int (nI m)), some (.int (nI o)), some (.ref (107 + 6 * k)), some (.int (nI wa)), some (.int b), some (.int (nI j))] [.int _, .int (nI j)]
        rw [show g3 (107 + 6 * k) 0 = nI L.length by rw [k1 _ (by omega) (by omega) (by omega)]; exact hlc.2.1]
        refine J_icmp_ge (tgt := 121) hS dX7_needed_69 (by decide) (fun c3 => ?_) (fun c3 => ?_)
        ·
          refine J_iload hS dX7_needed_121 rfl ?_
          refine J_iret hS hZ hr dX7_needed_123 (by omega) (by omega) ?_
          rw [hb, e]; exact q2 g3 k1
        · exact absurd (nI_le (show L.length ≤ j by omega) (by omega)) c3
      | succ r ih =>
        intro j b i g3 hj hi hb k1
        subst hi
        refine J_iload hS dX7_needed_62 rfl ?_
        refine J_aload hS dX7_needed_64 rfl ?_
        refine J_getI hS dX7_needed_66 flX7_316 hL.ob rfl ?_
        show J S 0 0 (g3) 69 [some (.ref 1), some (.int (nI y)), some (.int (nI m)), some (.int (nI o)), some (.ref (107 + 6 * k)), some (.int (nI wa)), some (.int b), some (.int (nI j))] [.int _, .int (nI j)]
        rw [show g3 (107 + 6 * k) 0 = nI L.length by rw [k1 _ (by omega) (by omega) (by omega)]; exact hlc.2.1]
        refine J_icmp_ge (tgt := 121) hS dX7_needed_69 (by decide) (fun c3 => ?_) (fun c3 => ?_)
        · exact absurd c3 (nI_ge (show j < L.length by omega) (by omega))
        ·
          refine J_aload_n hS dX7_needed_72 rfl ?_
          refine J_getR (t := 13) hS dX7_needed_73 flX7_16 ob1 rfl ?_
          refine J_aload_n hS dX7_needed_76 rfl ?_
          refine J_getR (t := 2) hS dX7_needed_77 flX7_10 ob1 rfl ?_
          refine J_callV1 (X' := fun _ _ => False) hS dX7_needed_80 mvX7_295 wo_copy.ob rfl (by decide) (by decide) (Nat.le_of_ble_eq_true rfl) ⟨Nat.le_trans (by decide) hR.1, Nat.le_trans (by decide) hR.2⟩ (fun _ _ q => q.elim) (c_become wo_copy wo_now (by decide) (fun g4 w4 f4 => ?_))
          have n3 : wv g3 2 = W := by rw [hW]; exact wv_fr (fun a h1 h2 => k1 a (by omega) (by omega) (by omega))
          rw [n3] at w4
          have hl4 : LawsC g4 Ls := hl.fr (by rw [f4 1 (by decide), k1 1 (by decide) (by decide) (by decide)]) (fun a h1 h2 => by rw [f4 a (by omega), k1 a (by omega) (by omega) (by omega)])
          obtain ⟨g5, hg5⟩ : ∃ g5 : Mm, g5 = u2 (u2 g4 152 2 (nI (107 + 6 * k))) 152 3 (nI j) := ⟨_, rfl⟩
          have f5 : ∀ z, z ≠ 152 → g5 z = g4 z := fun z hz => by rw [hg5, u2_ne z hz, u2_ne z hz]
          have w5 : wv g5 13 = W := by rw [← w4]; exact wv_fr (fun a h1 h2 => f5 a (by omega))
          have r5 : RuleC g5 (some L) := by rw [hg5, ← elw]; exact use_rule hl4 (Or.inr ⟨k, hk, rfl, rfl⟩)
          have e5 : g5 152 3 = nI j := by rw [hg5]; simp [u2]
          refine J_aload_n hS dX7_needed_83 rfl ?_
          refine J_getR (t := 152) hS dX7_needed_84 flX7_52 ob1 rfl ?_
          refine J_aload hS dX7_needed_87 rfl ?_
          refine J_iload hS dX7_needed_89 rfl ?_
          refine J_callV2 (X' := fun _ _ => False) hS dX7_needed_91 mvX7_303 ob152 rfl (by decide) (by decide) (Nat.le_of_ble_eq_true rfl) ⟨Nat.le_trans (by decide) hR.1, Nat.le_trans (by decide) hR.2⟩ (fun _ _ q => q.elim) (c_use hab (Or.inr ⟨_, rfl⟩) ?_)
          rw [← hg5]
          refine J_aload_n hS dX7_needed_94 rfl ?_
          refine J_iload_n hS dX7_needed_95 rfl ?_
          refine J_iload_n hS dX7_needed_96 rfl ?_
          refine J_iload_n hS dX7_needed_97 rfl ?_
          refine J_callV3 (X' := fun _ _ => False) hS dX7_needed_98 mvX7_307 ob1 rfl (by decide) (by decide) (Nat.le_of_ble_eq_true rfl) ⟨Nat.le_trans (by decide) hR.1, Nat.le_trans (by decide) hR.2⟩ (fun _ _ q => q.elim) (c_tryOut hn (show g5 13 6 = nI n by rw [show g5 13 6 = wv g5 13 6 from rfl, w5]; exact hm) hy (show m < 2 ^ 31 by omega) ho r5 (fun c hc => by rw [w5]; exact hw.2.2 c hc) (fun g6 d6 => ?_))
          rw [w5, e5]
          have eF : trC (some L) (nI j) n y m o W = F j := by rw [hF]
          rw [eF]
          have fr6 : FrT g g6 := fun z z1 z2 z3 => by rw [d6 z z1 (by omega) (by omega) (by omega) (by omega) (by omega) (by omega) (by omega), f5 z (by omega), f4 z (by omega)]; exact k1 z z1 z2 z3
          refine J_iload hS dX7_needed_101 rfl ?_
          refine J_icmp_ge (tgt := 115) hS dX7_needed_103 (by decide) (fun c4 => ?_) (fun c4 => ?_)
          ·
            refine J_iinc (lt := fun i2 => [some (.ref 1), some (.int (nI y)), some (.int (nI m)), some (.int (nI o)), some (.ref (107 + 6 * k)), some (.int (nI wa)), some (.int b), some (.int i2)]) (v := 1) hS dX7_needed_115 rfl (by decide) (fun _ => rfl) (fun i2 ei2 => ?_)
            refine J_goto (tgt := 62) hS dX7_needed_118 (by decide) ?_
            refine ih (j + 1) b i2 g6 (by omega) (by rw [ei2]; exact nI_1 _) ?_ fr6
            rw [hb]; show _ = if nI (F j) < nI wa then _ else _
            rw [if_neg (Int32.not_lt.mpr c4)]
          ·
            refine J_iload hS dX7_needed_106 rfl ?_
            refine J_iconst (v := 1) hS dX7_needed_108 (by decide) ?_
            refine J_iload hS dX7_needed_109 rfl ?_
            refine J_ishl hS dX7_needed_111 ?_
            refine J_ior hS dX7_needed_112 ?_
            refine J_istore (lt := fun b2 => [some (.ref 1), some (.int (nI y)), some (.int (nI m)), some (.int (nI o)), some (.ref (107 + 6 * k)), some (.int (nI wa)), some (.int b2), some (.int (nI j))]) hS dX7_needed_113 (Nat.le_of_ble_eq_true rfl) (fun _ => rfl) (fun b2 eb2 => ?_)
            refine J_iinc (lt := fun i2 => [some (.ref 1), some (.int (nI y)), some (.int (nI m)), some (.int (nI o)), some (.ref (107 + 6 * k)), some (.int (nI wa)), some (.int b2), some (.int i2)]) (v := 1) hS dX7_needed_115 rfl (by decide) (fun _ => rfl) (fun i2 ei2 => ?_)
            refine J_goto (tgt := 62) hS dX7_needed_118 (by decide) ?_
            refine ih (j + 1) b2 i2 g6 (by omega) (by rw [ei2]; exact nI_1 _) ?_ fr6
            rw [eb2, hb]; show _ = if nI (F j) < nI wa then _ else _
            rw [if_pos (Int32.not_le.mp c4)]
set_option maxRecDepth 10000 in
theorem c_meets {n : Nat} {a b : Int32} (hw : WOk (wv g 2)) (hn : n ≤ 24) (hm : wv g 2 6 = nI n) (x : ou n a ∨ ou n b → X eNS g) (xx : ¬ ou n a → ¬ ou n b → a = b → X eIA g)
    (q1 : ∀ i j, i < n → a = nI i → j < n → b = nI j → i ≠ j → ¬ togW (wv g 2) i j → Q (some (.int (-1))) g)
    (q : ∀ i j y, i < n → a = nI i → j < n → b = nI j → i ≠ j → togW (wv g 2) i j → y < 3 → wv g 2 (56 + 142 * i) = nI y → ∀ g', FrT g g' → Q (some (.int (nI (here (fun k => decide (tRt (wv g 2) i j y (mnK k) = 1)) 64).length))) g') : Ct l E lay NC 8 1 6 yX7_meets [.ref 1, .int a, .int b] g Q X := by
  have hgm : g 2 6 = nI n := hm
  refine Ct_in k_yX7_meets (by decide) rfl (Nat.le_of_ble_eq_true rfl) rfl ?_
  intro S hS hZ hr ht hR
  show J S 0 0 (g) 0 [some (.ref 1), some (.int a), some (.int b), none, none] []
  refine J_aload_n hS dX7_meets_0 rfl ?_
  refine J_iload_n hS dX7_meets_1 rfl ?_
  rcases in_or (y := a) (b := n) (by first | decide | omega) with ⟨i, hi, ei⟩ | hbi
  ·
    subst ei
    have ni := nou hi (by omega)
    refine J_callV1 (X' := fun _ _ => False) hS dX7_meets_2 mvX7_121 ob1 rfl (by decide) (by decide) (Nat.le_of_ble_eq_true rfl) ⟨Nat.le_trans (by decide) hR.1, Nat.le_trans (by decide) hR.2⟩ (fun _ _ q => q.elim) (c_checkChildOk hgm hn hi ?_)
    refine J_aload_n hS dX7_meets_5 rfl ?_
    refine J_iload_n hS dX7_meets_6 rfl ?_
    rcases in_or (y := b) (b := n) (by first | decide | omega) with ⟨j, hj, ej⟩ | hbj
    ·
      subst ej
      have nj := nou hj (by omega)
      refine J_callV1 (X' := fun _ _ => False) hS dX7_meets_7 mvX7_121 ob1 rfl (by decide) (by decide) (Nat.le_of_ble_eq_true rfl) ⟨Nat.le_trans (by decide) hR.1, Nat.le_trans (by decide) hR.2⟩ (fun _ _ q => q.elim) (c_checkChildOk hgm hn hj ?_)
      refine J_iload_n hS dX7_meets_10 rfl ?_
      refine J_iload_n hS dX7_meets_11 rfl ?_
      refine J_icmp_ne (tgt := 26) hS dX7_meets_12 (by decide) (fun c1 => ?_) (fun c1 => ?_)
      · have hij : i ≠ j := fun e => c1 (by rw [e])
        refine J_aload_n hS dX7_meets_26 rfl ?_
        refine J_getR (t := 2) hS dX7_meets_27 flX7_10 ob1 rfl ?_
        refine J_iload_n hS dX7_meets_30 rfl ?_
        refine J_iload_n hS dX7_meets_31 rfl ?_
        refine J_callV2 (X' := fun _ _ => False) hS dX7_meets_32 mvX7_217 wo_now.ob rfl (by decide) (by decide) (Nat.le_of_ble_eq_true rfl) ⟨Nat.le_trans (by decide) hR.1, Nat.le_trans (by decide) hR.2⟩ (fun _ _ q => q.elim) (c_areTogether wo_now (show i < 24 by omega) (show j < 24 by omega) ?_)
        have tg : (g (2 + 5) i = 1 ∧ g (2 + 5) j = 1 ∧ g (2 + 1) i = g (2 + 1) j) ↔ togW (wv g 2) i j := by
          unfold togW
          rw [wv_at (wx_there (show i < 24 by omega)), wv_at (wx_there (show j < 24 by omega)), wv_at (wx_yard (show i < 24 by omega)), wv_at (wx_yard (show j < 24 by omega))]
        refine J_if_ne (tgt := 40) hS dX7_meets_35 (by decide) (fun c6 => ?_) (fun c6 => ?_)
        · have ht1 : togW (wv g 2) i j := by
            refine tg.mp ?_
            by_cases e : g (2 + 5) i = 1 ∧ g (2 + 5) j = 1 ∧ g (2 + 1) i = g (2 + 1) j
            · exact e
            · exact absurd (b01_f e) c6
          obtain ⟨W, hW⟩ : ∃ W : Wr, W = wv g 2 := ⟨_, rfl⟩
          obtain ⟨y, hy, ey⟩ := hw.2.1 i (by omega)
          have q2 := q i j y hi rfl hj rfl hij ht1 hy ey
          rw [← hW] at hw ht1 ey q2
          obtain ⟨P, hP⟩ : ∃ P : Nat → Bool, P = fun k => decide (tRt W i j y (mnK k) = 1) := ⟨_, rfl⟩
          rw [← hP] at q2
          refine J_aload_n hS dX7_meets_40 rfl ?_
          refine J_getR (t := 13) hS dX7_meets_41 flX7_16 ob1 rfl ?_
          refine J_aload_n hS dX7_meets_44 rfl ?_
          refine J_getR (t := 2) hS dX7_meets_45 flX7_10 ob1 rfl ?_
          refine J_callV1 (X' := fun _ _ => False) hS dX7_meets_48 mvX7_295 wo_copy.ob rfl (by decide) (by decide) (Nat.le_of_ble_eq_true rfl) ⟨Nat.le_trans (by decide) hR.1, Nat.le_trans (by decide) hR.2⟩ (fun _ _ q => q.elim) (c_become wo_copy wo_now (by decide) (fun g0 w0 f0 => ?_))
          refine J_iconst (v := 0) hS dX7_meets_51 (by decide) ?_
          refine J_istore_n (lt := fun c1x => [some (.ref 1), some (.int (nI i)), some (.int (nI j)), some (.int c1x), none]) hS dX7_meets_52 (Nat.le_of_ble_eq_true rfl) (fun _ => rfl) (fun c1x ec1x => ?_)
          refine J_iconst (v := 0) hS dX7_meets_53 (by decide) ?_
          refine J_istore (lt := fun i1 => [some (.ref 1), some (.int (nI i)), some (.int (nI j)), some (.int c1x), some (.int i1)]) hS dX7_meets_54 (Nat.le_of_ble_eq_true rfl) (fun _ => rfl) (fun i1 ei1 => ?_)
          rw [← hW] at w0
          suffices H : ∀ (r k : Nat) (c v : Int32) (g1 : Mm), k + r = 64 → v = nI k → c = nI (here P k).length → FrT g g1 → (∀ z, (z < 8 ∨ 56 ≤ z) → z ≠ 1 → wv g1 13 z = W z) → J S 0 0 g1 56 [some (.ref 1), some (.int (nI i)), some (.int (nI j)), some (.int c), some (.int v)] [] by
            exact H 64 0 c1x i1 g0 (by omega) ei1 ec1x (fun z z1 _ _ => f0 z (by omega)) (fun z _ _ => by rw [w0])
          intro r
          induction r with
          | zero =>
            intro k c v g1 hk hv hc k1 k2
            have e : k = 64 := by omega
            subst hv
            refine J_iload hS dX7_meets_56 rfl ?_
            refine J_bipush (v := 64) hS dX7_meets_58 (by decide) ?_
            refine J_icmp_ge (tgt := 139) hS dX7_meets_60 (by decide) (fun c3 => ?_) (fun c3 => ?_)
            ·
              refine J_iload_n hS dX7_meets_139 rfl ?_
              refine J_iret hS hZ hr dX7_meets_140 (by omega) (by omega) ?_
              rw [hc, e]; exact q2 g1 k1
            · exact absurd (nI_le (show 64 ≤ k by omega) (by omega)) c3
          | succ r ih =>
            intro k c v g1 hk hv hc k1 k2
            subst hv
            have hk64 : k < 64 := by omega
            have hs := here_succ P k
            refine J_iload hS dX7_meets_56 rfl ?_
            refine J_bipush (v := 64) hS dX7_meets_58 (by decide) ?_
            refine J_icmp_ge (tgt := 139) hS dX7_meets_60 (by decide) (fun c3 => ?_) (fun c3 => ?_)
            · exact absurd c3 (nI_ge (show k < 64 by omega) (by decide))
            ·
              refine J_aload_n hS dX7_meets_63 rfl ?_
              refine J_getR (t := 13) hS dX7_meets_64 flX7_16 ob1 rfl ?_
              refine J_aload_n hS dX7_meets_67 rfl ?_
              refine J_getR (t := 2) hS dX7_meets_68 flX7_10 ob1 rfl ?_
              refine J_callV1 (X' := fun _ _ => False) hS dX7_meets_71 mvX7_327 wo_copy.ob rfl (by decide) (by decide) (Nat.le_of_ble_eq_true rfl) ⟨Nat.le_trans (by decide) hR.1, Nat.le_trans (by decide) hR.2⟩ (fun _ _ q => q.elim) (c_takeBackSaying wo_copy wo_now (by decide) (fun g2 w2 f2 => ?_))
              have n1 : wv g1 2 = W := by rw [hW]; exact wv_fr (fun a h1 h2 => k1 a (by omega) (by omega) (by omega))
              have w2' : wv g2 13 = W := by
                rw [w2, n1]
                funext z
                by_cases z1 : z = 1
                · subst z1; rfl
                · rw [if_neg z1]
                  by_cases z2 : 8 ≤ z ∧ z < 56
                  · rw [if_pos z2]
                  · rw [if_neg z2]; exact k2 z (by omega) z1
              refine J_aload_n hS dX7_meets_74 rfl ?_
              refine J_getR (t := 148) hS dX7_meets_75 flX7_45 ob1 rfl ?_
              refine J_iload_n hS dX7_meets_78 rfl ?_
              refine J_iload_n hS dX7_meets_79 rfl ?_
              refine J_iload hS dX7_meets_80 rfl ?_
              refine J_bipush (v := 16) hS dX7_meets_82 (by decide) ?_
              refine J_idiv hS dX7_meets_84 (by decide) ?_
              refine J_iload hS dX7_meets_85 rfl ?_
              refine J_iconst (v := 4) hS dX7_meets_87 (by decide) ?_
              refine J_idiv hS dX7_meets_88 (by decide) ?_
              refine J_iconst (v := 4) hS dX7_meets_89 (by decide) ?_
              refine J_irem hS dX7_meets_90 (by decide) ?_
              refine J_iload hS dX7_meets_91 rfl ?_
              refine J_iconst (v := 4) hS dX7_meets_93 (by decide) ?_
              refine J_irem hS dX7_meets_94 (by decide) ?_
              refine J_callV5 (X' := fun _ _ => False) hS dX7_meets_95 mvX7_221 ob148 rfl (by decide) (by decide) (Nat.le_of_ble_eq_true rfl) ⟨Nat.le_trans (by decide) hR.1, Nat.le_trans (by decide) hR.2⟩ (fun _ _ q => q.elim) (c_begin (fun g3 b1 b2 b3 b4 b5 b6 b7 => ?_))
              rw [show nI k / 16 = nI (mnK k 0) from pk_div (by omega) (by decide) (by decide)] at b5
              rw [show nI k / 4 - nI k / 4 / 4 * 4 = nI (mnK k 1) from (by rw [n4, pk_div (by omega) (by decide) (by decide)]; exact pk_rem (by omega) (by decide) (by decide))] at b6
              rw [show nI k - nI k / 4 * 4 = nI (mnK k 2) from pk_rem (by omega) (by decide) (by decide)] at b7
              have sp : SpC g3 i j (mnK k) := by
                refine ⟨by omega, by omega, b2, b3, fun r hr3 => ⟨mnK_lt hk64, ?_⟩⟩
                rcases (show r = 0 ∨ r = 1 ∨ r = 2 by omega) with e | e | e
                · subst e; exact b5
                · subst e; exact b6
                · subst e; exact b7
              have w3 : wv g3 13 = W := by rw [← w2']; exact wv_fr (fun a h1 h2 => b1 a (by omega) (by omega))
              refine J_aload_n hS dX7_meets_98 rfl ?_
              refine J_getR (t := 148) hS dX7_meets_99 flX7_45 ob1 rfl ?_
              refine J_aload_n hS dX7_meets_102 rfl ?_
              refine J_getR (t := 13) hS dX7_meets_103 flX7_16 ob1 rfl ?_
              refine J_callV1 (X' := fun _ _ => False) hS dX7_meets_106 mvX7_330 ob148 rfl (by decide) (by decide) (Nat.le_of_ble_eq_true rfl) ⟨Nat.le_trans (by decide) hR.1, Nat.le_trans (by decide) hR.2⟩ (fun _ _ q => q.elim) (c_sayIn wo_copy sp hy (by rw [w3]; exact ey) (fun g4 d1 d2 d3 d4 d5 => ?_))
              rw [w3] at d2 d3 d5
              have sp4 : SpC g4 i j (mnK k) := sp.fr (d4 0 (by decide)) (d4 1 (by decide)) (d1 149 (by decide) (by decide) (by decide))
              have sg4 : SgC g4 (sayS W i (mnK k)) := fun r hr3 => ⟨sayS_lt _ _ _ _, d5 r hr3⟩
              have eyj : W (56 + 142 * j) = nI y := by rw [← ht1.2.2]; exact ey
              refine J_aload_n hS dX7_meets_109 rfl ?_
              refine J_getR (t := 148) hS dX7_meets_110 flX7_45 ob1 rfl ?_
              refine J_aload_n hS dX7_meets_113 rfl ?_
              refine J_getR (t := 13) hS dX7_meets_114 flX7_16 ob1 rfl ?_
              refine J_callV1 (X' := fun _ _ => False) hS dX7_meets_117 mvX7_333 ob148 rfl (by decide) (by decide) (Nat.le_of_ble_eq_true rfl) ⟨Nat.le_trans (by decide) hR.1, Nat.le_trans (by decide) hR.2⟩ (fun _ _ q => q.elim) (c_takeIn wo_copy sp4 sg4 hy (by rw [d2, sayW_o hy (by omega) (by omega)]; exact eyj) (by rw [d2]; exact fun r h1 h2 => by rw [sayW_o hy (by omega) (by omega)]; exact hw.2.2 j (by omega) r h1 h2) (fun g5 t1 t2 t3 t4 t5 t6 t7 => ?_))
              rw [d2] at t2 t6
              have fr5 : FrT g g5 := fun z z1 z2 z3 => by
                rw [t1 z (by omega) (by omega) (by omega), d1 z (by omega) (by omega) (by omega), b1 z (by omega) (by omega), f2 z (by omega)]; exact k1 z z1 z2 z3
              have k5 : ∀ z, (z < 8 ∨ 56 ≤ z) → z ≠ 1 → wv g5 13 z = W z := by
                intro z z1 z2
                rw [t2]
                show upd (sayW W i y (mnK k)) 1 _ z = W z
                unfold upd
                rw [if_neg z2, sayW_o hy z1 z2]
              have hP2 : g5 148 7 = 1 ↔ P k = true := by
                rw [t6, hP]
                show (∀ r, r < 3 → tTk W i j y (mnK k) r = mnK k r) ↔ decide (rtI (tTk W i j y (mnK k)) (mnK k) = 1) = true
                unfold rtI
                by_cases e : tTk W i j y (mnK k) 0 = mnK k 0 ∧ tTk W i j y (mnK k) 1 = mnK k 1 ∧ tTk W i j y (mnK k) 2 = mnK k 2
                · rw [if_pos e]
                  refine ⟨fun _ => by decide, fun _ r hr3 => ?_⟩
                  rcases (show r = 0 ∨ r = 1 ∨ r = 2 by omega) with e1 | e1 | e1
                  · subst e1; exact e.1
                  · subst e1; exact e.2.1
                  · subst e1; exact e.2.2
                · rw [if_neg e]
                  refine ⟨fun z => absurd ⟨z 0 (by decide), z 1 (by decide), z 2 (by decide)⟩ e, fun z => absurd z (by decide)⟩
              refine J_aload_n hS dX7_meets_120 rfl ?_
              refine J_getR (t := 148) hS dX7_meets_121 flX7_45 ob1 rfl ?_
              refine J_getI hS dX7_meets_124 flX7_228 ob148 rfl ?_
              refine J_if_eq (tgt := 133) hS dX7_meets_127 (by decide) (fun c4 => ?_) (fun c4 => ?_)
              · have hno : P k = false := by
                  cases e : P k with
                  | false => rfl
                  | true => rw [hP2.mpr e] at c4; exact absurd c4 (by decide)
                refine J_iinc (lt := fun i2 => [some (.ref 1), some (.int (nI i)), some (.int (nI j)), some (.int c), some (.int i2)]) (v := 1) hS dX7_meets_133 rfl (by decide) (fun _ => rfl) (fun i2 ei2 => ?_)
                refine J_goto (tgt := 56) hS dX7_meets_136 (by decide) ?_
                exact ih (k + 1) c i2 g5 (by omega) (by rw [ei2]; exact nI_1 _) (by rw [hc, hs]; simp [hno]) fr5 k5
              · have hyes : P k = true := hP2.mp (t5.resolve_left c4)
                refine J_iinc (lt := fun c2 => [some (.ref 1), some (.int (nI i)), some (.int (nI j)), some (.int c2), some (.int (nI k))]) (v := 1) hS dX7_meets_130 rfl (by decide) (fun _ => rfl) (fun c2 ec2 => ?_)
                refine J_iinc (lt := fun i2 => [some (.ref 1), some (.int (nI i)), some (.int (nI j)), some (.int c2), some (.int i2)]) (v := 1) hS dX7_meets_133 rfl (by decide) (fun _ => rfl) (fun i2 ei2 => ?_)
                refine J_goto (tgt := 56) hS dX7_meets_136 (by decide) ?_
                exact ih (k + 1) c2 i2 g5 (by omega) (by rw [ei2]; exact nI_1 _) (by rw [ec2, hc, hs, nI_1]; simp [hyes]) fr5 k5
        ·
          refine J_iconst (v := (-1)) hS dX7_meets_38 (by decide) ?_
          refine J_iret hS hZ hr dX7_meets_39 (by omega) (by omega) ?_
          refine q1 i j hi rfl hj rfl hij (fun e => ?_)
          rw [b01_t (tg.mpr e)] at c6; exact absurd c6 (by decide)
      ·
        exact J_thAW hS hZ ht hR (by decide) (List.mem_of_getElem? (i := 35) rfl) rfl dX7_meets_15 dX7_meets_18 dX7_meets_19 dX7_meets_22 dX7_meets_25 (by omega) (by omega) (xx ni nj c1)
    ·
      refine J_callV1 hS dX7_meets_7 mvX7_121 ob1 rfl (by decide) (by decide) (Nat.le_of_ble_eq_true rfl) ⟨Nat.le_trans (by decide) hR.1, Nat.le_trans (by decide) hR.2⟩ (fun _ _ q => q) (c_checkChildBad (by rw [hgm]; exact hbj) (JX_out hS hZ ht (by omega) (by omega) (x (Or.inr hbj))))
  ·
    refine J_callV1 hS dX7_meets_2 mvX7_121 ob1 rfl (by decide) (by decide) (Nat.le_of_ble_eq_true rfl) ⟨Nat.le_trans (by decide) hR.1, Nat.le_trans (by decide) hR.2⟩ (fun _ _ q => q) (c_checkChildBad (by rw [hgm]; exact hbi) (JX_out hS hZ ht (by omega) (by omega) (x (Or.inl hbi))))
end ClsP3


/-! THE REFERENCE: run -/
section RefT4
variable {l : Launch} {E : Ey} {g : Mm} {Q : Option Value → Mm → Prop} {X : String → Mm → Prop} {n : Nat}
set_option maxRecDepth 10000 in
theorem m_run {y0 m0 : Int32} {z : Nz} {Ls : List (List Cls)} (hI : RI g z.w n) (hR0 : RelM g z) (hz : NzOk z) (hzi : NzI z) (hL : LawsM g Ls) (hv : isLw Ls.length (z.w 5)) (x : ou 3 y0 ∨ ou 201 m0 → ∀ g', FrZ g g' → g' 162 0 = 1 → Q (some (.int 0)) g')
    (q0 : ∀ y k, y < 3 → y0 = nI y → k < 201 → m0 = nI k → ¬ 2 ≤ (here (thrW z.w (nI y)) n).length → ∀ g', FrZ g g' → g' 162 0 = 0 → Q (some (.int 0)) g')
    (q : ∀ y k, y < 3 → y0 = nI y → k < 201 → m0 = nI k → 2 ≤ (here (thrW z.w (nI y)) n).length → ∀ g', (∀ z, z ≠ 162 → z ≠ 164 → z ≠ 191 → z ≠ 197 → z ≠ 198 → z ≠ 199 → z ≠ 201 → z ≠ 202 → z ≠ 203 → z ≠ 205 → z ≠ 211 → g' z = g z) → (∀ j, (j = 3 ∨ j = 4 ∨ j = 11 ∨ j = 12 ∨ j = 27 ∨ j = 45 ∨ j = 54) → g' 162 j = g 162 j) → g' 162 0 = 0 → RelM g' (rnK (lwOf Ls (z.w 5)) (-1) (here (thrW z.w (nI y)) n) y z (min k (1500 - z.m))) → Q (some (.int (nI (min k (1500 - z.m))))) g') : Ct l E lay NC 6 0 0 yX8_run [.ref 162, .int y0, .int m0] g Q X := by
  have hn := hI.hn
  refine Ct_in k_yX8_run (by decide) rfl (Nat.le_of_ble_eq_true rfl) rfl ?_
  intro S hS hZ hr ht hR
  show J S 0 0 (g) 0 [some (.ref 162), some (.int y0), some (.int m0), none] []
  refine J_aload_n hS dX8_run_0 rfl ?_
  refine J_iconst (v := 0) hS dX8_run_1 (by decide) ?_
  refine J_putI hS dX8_run_2 fpX8_1 ob162 rfl (fun g2 eg2 => ?_)
  have z2 : FrZ g g2 := by rw [eg2]; exact FrZ_thr
  have t2 : g2 162 0 = 0 := by rw [eg2, u2_self]
  have i2 := hI.fr z2
  have L2 := hL.z z2
  have bad : ou 3 y0 ∨ ou 201 m0 → J S 0 0 g2 28 [some (.ref 162), some (.int y0), some (.int m0), none] [.ref 162] := by
    intro b1
    refine J_iconst (v := 0) hS dX8_run_28 (by decide) ?_
    refine J_iconst (v := 1) hS dX8_run_29 (by decide) ?_
    refine J_callV2 (X' := fun _ _ => False) hS dX8_run_30 mvX8_110 ob162 rfl (by first | decide | omega) (by decide) (Nat.le_of_ble_eq_true rfl) ⟨Nat.le_trans (by decide) hR.1, Nat.le_trans (by decide) hR.2⟩ (fun _ _ q => q.elim) (m_mayN t2 (by decide) ?_)
    refine J_if_ne (tgt := 38) hS dX8_run_33 (by decide) (fun c2 => ?_) (fun c2 => ?_)
    · exact absurd rfl c2
    ·
      refine J_iconst (v := 0) hS dX8_run_36 (by decide) ?_
      refine J_iret hS hZ hr dX8_run_37 (by omega) (by omega) ?_
      exact x b1 _ (z2.trans FrZ_thr) (u2_self ..)
  rcases in_or (y := y0) (b := 3) (by first | decide | omega) with ⟨y, hy, ey⟩ | hby
  ·
    subst ey
    refine J_aload_n hS dX8_run_5 rfl ?_
    refine J_iload_n hS dX8_run_6 rfl ?_
    refine J_callS1 (X' := fun _ _ => False) hS dX8_run_7 msX8_117 rfl (by first | decide | omega) (by decide) (Nat.le_of_ble_eq_true rfl) ⟨Nat.le_trans (by decide) hR.1, Nat.le_trans (by decide) hR.2⟩ (fun _ _ q => q.elim) (m_yardY hy ?_)
    refine J_if_eq (tgt := 28) hS dX8_run_10 (by decide) (fun c1 => ?_) (fun c1 => ?_)
    · exact absurd c1 (by decide)
    ·
      rcases in_or (y := m0) (b := 201) (by first | decide | omega) with ⟨m1, hm1, em1⟩ | hbm1
      ·
        subst em1
        refine J_iload_n hS dX8_run_13 rfl ?_
        refine J_iconst (v := 0) hS dX8_run_14 (by decide) ?_
        refine J_sipush (v := 200) hS dX8_run_15 (by decide) ?_
        refine J_callS3 (X' := fun _ _ => False) hS dX8_run_18 msX8_106 rfl (by first | decide | omega) (by decide) (Nat.le_of_ble_eq_true rfl) ⟨Nat.le_trans (by decide) hR.1, Nat.le_trans (by decide) hR.2⟩ (fun _ _ q => q.elim) (m_ouY (m := 201) (by decide) (by decide) hm1 ?_)
        refine J_if_eq (tgt := 28) hS dX8_run_21 (by decide) (fun c2 => ?_) (fun c2 => ?_)
        · exact absurd c2 (by decide)
        ·
          refine J_iconst (v := 1) hS dX8_run_24 (by decide) ?_
          refine J_goto (tgt := 29) hS dX8_run_25 (by decide) ?_
          refine J_iconst (v := 1) hS dX8_run_29 (by decide) ?_
          refine J_callV2 (X' := fun _ _ => False) hS dX8_run_30 mvX8_110 ob162 rfl (by first | decide | omega) (by decide) (Nat.le_of_ble_eq_true rfl) ⟨Nat.le_trans (by decide) hR.1, Nat.le_trans (by decide) hR.2⟩ (fun _ _ q => q.elim) (m_mayY t2 (by decide) ?_)
          refine J_if_ne (tgt := 38) hS dX8_run_33 (by decide) (fun c3 => ?_) (fun c3 => ?_)
          · have R2 : RelM g2 z := hR0.fz z2
            have hm5 := hz.1
            obtain ⟨L, hLd0⟩ : ∃ L : List Nat, L = here (thrW z.w (nI y)) n := ⟨_, rfl⟩
            have hLn : L.length ≤ n := by rw [hLd0]; exact here_len _ _
            have hLd : L.Nodup := by rw [hLd0]; exact here_nodup _ _
            have hLm : ∀ j, j < L.length → L.getD j 0 < 24 ∧ z.w (56 + 142 * L.getD j 0) = nI y := by
              intro j hj
              obtain ⟨z1, z2⟩ := here_mem.mp (show L.getD j 0 ∈ here (thrW z.w (nI y)) n by rw [← hLd0]; exact getD_mem hj)
              exact ⟨by omega, (of_decide_eq_true z2).2⟩
            obtain ⟨lw, hlw⟩ : ∃ lw, lw = lwOf Ls (z.w 5) := ⟨_, rfl⟩
            refine J_aload_n hS dX8_run_38 rfl ?_
            refine J_iload_n hS dX8_run_39 rfl ?_
            refine J_callV1 (X' := fun _ _ => False) hS dX8_run_40 mvX8_344 ob162 rfl (by first | decide | omega) (by decide) (Nat.le_of_ble_eq_true rfl) ⟨Nat.le_trans (by decide) hR.1, Nat.le_trans (by decide) hR.2⟩ (fun _ _ q => q.elim) (m_findHere Rw4 i2.w3 hn i2.m6 (i2.tm (y := nI y)) (fun g3 b1 b2 b3 b4 => ?_))
            rw [← hLd0] at b3 b4
            have f3 : FrNM g2 g3 := ⟨fun c z1 _ _ _ _ _ _ _ _ za _ => b1 c z1 za, fun j hj => b2 j (by omega)⟩
            have z3 : FrZ g g3 := z2.trans ⟨fun c z1 _ _ _ _ _ z7 _ _ _ => b1 c z1 z7, fun j hj => b2 j (by omega)⟩
            have R3 : RelM g3 z := hR0.fz z3
            refine J_iconst (v := 0) hS dX8_run_43 (by decide) ?_
            refine J_istore_n (lt := fun x3 => [some (.ref 162), some (.int (nI y)), some (.int (nI m1)), some (.int x3)]) hS dX8_run_44 (Nat.le_of_ble_eq_true rfl) (fun _ => rfl) (fun x3 ex3 => ?_)
            by_cases h2 : 2 ≤ L.length
            · obtain ⟨u, hu⟩ : ∃ u : Nat, L.length = u + 1 := ⟨L.length - 1, by omega⟩
              suffices H : ∀ (r k : Nat) (i : Int32) (g4 : Mm), k + r = min m1 (1500 - z.m) → i = nI k → FrNM g2 g4 → RelM g4 (rnK lw (-1) L y z k) → g4 162 41 = nI L.length → (∀ j, j < L.length → g4 205 j = nI (L.getD j 0)) → J S 0 0 g4 45 [some (.ref 162), some (.int (nI y)), some (.int (nI m1)), some (.int i)] [] by
                exact H (min m1 (1500 - z.m)) 0 x3 g3 (by omega) ex3 f3 R3 b3 b4
              intro r
              induction r with
              | zero =>
                intro k i g4 hk hi f4 R4 k41 k205
                have hkm : k = min m1 (1500 - z.m) := by omega
                subst hi
                have fin : J S 0 0 g4 90 [some (.ref 162), some (.int (nI y)), some (.int (nI m1)), some (.int (nI k))] [] := by
                  refine J_iload_n hS dX8_run_90 rfl ?_
                  refine J_iret hS hZ hr dX8_run_91 (by omega) (by omega) ?_
                  have fq := q y m1 hy rfl hm1 rfl (by rw [← hLd0]; exact h2) g4 (fun c z1 z2' z3 z4 z5 z6 z7 z8 z9 za zb => by rw [f4.1 c z1 z2' z3 z4 z5 z6 z7 z8 z9 za zb, eg2, u2_ne c z1]) (fun j hj => by rw [f4.2 j (by omega), eg2, u2_at, if_neg (by omega)]) (by rw [f4.2 0 (by decide)]; exact t2) (by rw [← hLd0, ← hlw, ← hkm]; exact R4)
                  rw [← hkm] at fq; exact fq
                refine J_aload_n hS dX8_run_45 rfl ?_
                refine J_getI hS dX8_run_46 flX8_335 ob162 rfl ?_
                refine J_iconst (v := 2) hS dX8_run_49 (by decide) ?_
                show J S 0 0 (g4) 50 [some (.ref 162), some (.int (nI y)), some (.int (nI m1)), some (.int (nI k))] [.int 2, .int _]
                rw [k41]
                refine J_icmp_lt (tgt := 90) hS dX8_run_50 (by decide) (fun d1 => ?_) (fun d1 => ?_)
                · exact fin
                ·
                  refine J_iload_n hS dX8_run_53 rfl ?_
                  refine J_iload_n hS dX8_run_54 rfl ?_
                  refine J_icmp_ge (tgt := 90) hS dX8_run_55 (by decide) (fun d2 => ?_) (fun d2 => ?_)
                  · exact fin
                  ·
                    refine J_aload_n hS dX8_run_58 rfl ?_
                    refine J_getI hS dX8_run_59 flX8_329 ob162 rfl ?_
                    refine J_sipush (v := 1500) hS dX8_run_62 (by decide) ?_
                    show J S 0 0 (g4) 65 [some (.ref 162), some (.int (nI y)), some (.int (nI m1)), some (.int (nI k))] [.int 1500, .int _]
                    rw [R4.2.1, rnK_m]
                    refine J_icmp_ge (tgt := 90) hS dX8_run_65 (by decide) (fun d3 => ?_) (fun d3 => ?_)
                    · exact fin
                    · have e1 : k < m1 := by
                        rcases Nat.lt_or_ge k m1 with e | e
                        · exact e
                        · exact absurd (nI_le e (by omega)) d2
                      have e2 : z.m + k < 1500 := by
                        rcases Nat.lt_or_ge (z.m + k) 1500 with e | e
                        · exact e
                        · exact absurd (nI_le e (by omega)) d3
                      omega
              | succ r ih =>
                intro k i g4 hk hi f4 R4 k41 k205
                subst hi
                obtain ⟨v, hv2⟩ : ∃ v : Nz, v = rnK lw (-1) L y z k := ⟨_, rfl⟩
                have vm : v.m = z.m + k := by rw [hv2]; exact rnK_m k
                have vok : NzOk v := by rw [hv2]; exact rnK_ok hz k (by omega)
                have kq : Kq z.w v.w := by rw [hv2]; exact Kq_rnK hy k
                have vI : NzI v := by
                  rw [hv2]
                  have : ∀ k, z.m + k ≤ 1500 → NzI (rnK lw (-1) L y z k) := by
                    intro k
                    induction k with
                    | zero => intro _; exact hzi
                    | succ k ihk =>
                      intro hk
                      have hdi : dI ((rnK lw (-1) L y z k).w 0) L.length < L.length := by rw [hu]; exact dr_lt (by omega)
                      have hdj : dJ ((rnK lw (-1) L y z k).w 0) L.length < L.length := by
                        rw [hu]
                        have := dr_lt (x := adv (adv ((rnK lw (-1) L y z k).w 0))) (n := u) (by omega)
                        by_cases e : dr (adv (adv ((rnK lw (-1) L y z k).w 0))) u < dI ((rnK lw (-1) L y z k).w 0) (u + 1)
                        · rw [dJ_t e]; omega
                        · rw [dJ_f e]; omega
                      have j : NzI (nzD (rnK lw (-1) L y z k)) := ihk (by omega)
                      exact j.nt (hLm _ hdi).1 (hLm _ hdj).1 (by show (rnK lw (-1) L y z k).m < 1500; rw [rnK_m]; omega)
                  exact this k (by omega)
                rw [← hv2] at R4
                have hdi : dI (v.w 0) L.length < L.length := by rw [hu]; exact dr_lt (by omega)
                have hdj : dJ (v.w 0) L.length < L.length := by
                  rw [hu]
                  have := dr_lt (x := adv (adv (v.w 0))) (n := u) (by omega)
                  by_cases e : dr (adv (adv (v.w 0))) u < dI (v.w 0) (u + 1)
                  · rw [dJ_t e]; omega
                  · rw [dJ_f e]; omega
                have hyd : ∀ j, j < L.length → (nzD v).w (56 + 142 * L.getD j 0) = nI y := by
                  intro j hj
                  show upd v.w 0 _ _ = _
                  unfold upd
                  rw [if_neg (by omega)]
                  exact (kq.hd (r := 0) (by decide)).trans (hLm j hj).2
                have w4 : g4 162 3 = nI 164 := by rw [f4.2 3 (by decide)]; exact i2.w3
                refine J_aload_n hS dX8_run_45 rfl ?_
                refine J_getI hS dX8_run_46 flX8_335 ob162 rfl ?_
                refine J_iconst (v := 2) hS dX8_run_49 (by decide) ?_
                show J S 0 0 (g4) 50 [some (.ref 162), some (.int (nI y)), some (.int (nI m1)), some (.int (nI k))] [.int 2, .int _]
                rw [k41]
                refine J_icmp_lt (tgt := 90) hS dX8_run_50 (by decide) (fun d1 => ?_) (fun d1 => ?_)
                · exact absurd d1 (Int32.not_lt.mpr (nI_le h2 (by omega)))
                ·
                  refine J_iload_n hS dX8_run_53 rfl ?_
                  refine J_iload_n hS dX8_run_54 rfl ?_
                  refine J_icmp_ge (tgt := 90) hS dX8_run_55 (by decide) (fun d2 => ?_) (fun d2 => ?_)
                  · exact absurd d2 (nI_ge (show k < m1 by omega) (by omega))
                  ·
                    refine J_aload_n hS dX8_run_58 rfl ?_
                    refine J_getI hS dX8_run_59 flX8_329 ob162 rfl ?_
                    refine J_sipush (v := 1500) hS dX8_run_62 (by decide) ?_
                    show J S 0 0 (g4) 65 [some (.ref 162), some (.int (nI y)), some (.int (nI m1)), some (.int (nI k))] [.int 1500, .int _]
                    rw [R4.2.1, vm]
                    refine J_icmp_ge (tgt := 90) hS dX8_run_65 (by decide) (fun d3 => ?_) (fun d3 => ?_)
                    · exact absurd d3 (nI_ge (show z.m + k < 1500 by omega) (by decide))
                    · have M4 : RowM g4 164 v.w v.w := fun i hi => ⟨fun _ => R4.1 i hi, fun _ => R4.1 i hi⟩
                      refine J_aload_n hS dX8_run_68 rfl ?_
                      refine J_callV0 (X' := fun _ _ => False) hS dX8_run_69 mvX8_347 ob162 rfl (by first | decide | omega) (by decide) (Nat.le_of_ble_eq_true rfl) ⟨Nat.le_trans (by decide) hR.1, Nat.le_trans (by decide) hR.2⟩ (fun _ _ q => q.elim) (m_draws (m := u) (cr := fun j => L.getD j 0) Rw4 w4 M4 (by omega) (by omega) (by rw [k41, hu]) (fun j hj => k205 j (by omega)) (fun g5 e1 e2 e3 e4 e5 e6 => ?_))
                      rw [← hu] at e4 e5
                      have f5 : FrNM g2 g5 := f4.trans ⟨fun c z1 z2' _ z4 _ _ _ _ _ _ _ => e1 c z2' z1 z4, fun j hj => e2 j (by omega) (by omega)⟩
                      have R5 : RelM g5 (nzD v) := by
                        unfold RelM
                        rw [e1 201 (by decide) (by decide) (by decide), e1 202 (by decide) (by decide) (by decide), e1 203 (by decide) (by decide) (by decide), e1 211 (by decide) (by decide) (by decide), e2 37 (by decide) (by decide), e2 46 (by decide) (by decide)]
                        refine ⟨fun i hi => ?_, R4.2⟩
                        show _ = upd v.w 0 (adv5 (v.w 0)) i
                        by_cases h : Mk i
                        · exact e3.at hi h
                        · rw [e3.no hi h]; unfold upd; rw [if_neg (fun e => h (by rw [e]; exact Mk_lo (by decide) (by decide)))]
                      have M5 : RowM g5 164 (nzD v).w (nzD v).w := fun i hi => ⟨fun _ => R5.1 i hi, fun _ => R5.1 i hi⟩
                      have L5 : LawsM g5 Ls := FrNM.laws L2 f5
                      have v5 : (nzD v).w 5 = z.w 5 := by
                        show upd v.w 0 (adv5 (v.w 0)) 5 = _
                        unfold upd; rw [if_neg (by decide)]
                        exact kq.lo (by decide) (by decide) (by decide)
                      refine J_aload_n hS dX8_run_72 rfl ?_
                      refine J_aload_n hS dX8_run_73 rfl ?_
                      refine J_getI hS dX8_run_74 flX8_338 ob162 rfl ?_
                      refine J_aload_n hS dX8_run_77 rfl ?_
                      refine J_getI hS dX8_run_78 flX8_341 ob162 rfl ?_
                      show J S 0 0 (g5) 81 [some (.ref 162), some (.int (nI y)), some (.int (nI m1)), some (.int (nI k))] [.int _, .int _, .ref 162]
                      rw [e4, e5]
                      refine J_callV2 (X' := fun _ _ => False) hS dX8_run_81 mvX8_332 ob162 rfl (by first | decide | omega) (by decide) (Nat.le_of_ble_eq_true rfl) ⟨Nat.le_trans (by decide) hR.1, Nat.le_trans (by decide) hR.2⟩ (fun _ _ q => q.elim) (m_tells (lw := lw) (lo := -1) (mt := dM (v.w 0)) (y := y) (m := v.m) Rw4 (by rw [f5.2 3 (by decide)]; exact i2.w3) M5 (getD_ne hLd hdi hdj (by rw [hu]; exact dI_ne_dJ)) (hLm _ hdi).1 (hLm _ hdj).1 hy (hyd _ hdi) (fun _ => dM_lt) e6 ((Kq_upd0 (w := v.w)).wt (kq.wt (hI.ok.2.2 _ (hLm _ hdi).1))) ((Kq_upd0 (w := v.w)).wt (kq.wt (hI.ok.2.2 _ (hLm _ hdj).1))) (by rw [f5.2 27 (by decide)]; exact i2.lo) (by rw [hlw]; exact L5.rule (by rw [R5.1 5 (by decide)]; exact v5) hv) (by omega) R5.2.1 (tells_fl R5 vok) (fun g6 hT => ?_))
                      have R6 := TlM.rel (z := nzD v) hT R5 vok vI (show v.m < 1500 by omega) (hLm _ hdi).1 (hLm _ hdj).1 hy (fun _ => dM_lt)
                      have f6 : FrNM g2 g6 := f5.trans hT.frm
                      have q205 : g6 205 = g4 205 := by
                        rw [hT.1 205 (by decide) (by decide) (by decide) (by decide) (by decide) (by decide) (by decide) (by decide) (by decide), e1 205 (by decide) (by decide) (by decide)]
                      have q41 : g6 162 41 = g4 162 41 := by
                        rw [hT.2.1 41 (by decide) (by decide) (by decide), e2 41 (by decide) (by decide)]
                      refine J_iinc (lt := fun i2' => [some (.ref 162), some (.int (nI y)), some (.int (nI m1)), some (.int i2')]) (v := 1) hS dX8_run_84 rfl (by decide) (fun _ => rfl) (fun i2' ei2' => ?_)
                      refine J_goto (tgt := 45) hS dX8_run_87 (by decide) ?_
                      exact ih (k + 1) i2' g6 (by omega) (by rw [ei2']; exact nI_1 k) f6 (by show RelM g6 (rnS lw (-1) L y (rnK lw (-1) L y z k)); rw [← hv2]; exact R6) (by rw [q41]; exact k41) (fun j hj => by rw [q205]; exact k205 j hj)
            ·
              refine J_aload_n hS dX8_run_45 rfl ?_
              refine J_getI hS dX8_run_46 flX8_335 ob162 rfl ?_
              refine J_iconst (v := 2) hS dX8_run_49 (by decide) ?_
              show J S 0 0 (g3) 50 [some (.ref 162), some (.int (nI y)), some (.int (nI m1)), some (.int x3)] [.int 2, .int _]
              rw [b3]
              refine J_icmp_lt (tgt := 90) hS dX8_run_50 (by decide) (fun d1 => ?_) (fun d1 => ?_)
              ·
                refine J_iload_n hS dX8_run_90 rfl ?_
                refine J_iret hS hZ hr dX8_run_91 (by omega) (by omega) ?_
                rw [show x3 = 0 from ex3]
                exact q0 y m1 hy rfl hm1 rfl (by rw [← hLd0]; exact h2) g3 z3 (by rw [b2 0 (by decide)]; exact t2)
              · exact absurd (nI_lt (show L.length < 2 by omega) (by decide)) d1
          · exact absurd c3 (by decide)
      ·
        refine J_iload_n hS dX8_run_13 rfl ?_
        refine J_iconst (v := 0) hS dX8_run_14 (by decide) ?_
        refine J_sipush (v := 200) hS dX8_run_15 (by decide) ?_
        refine J_callS3 (X' := fun _ _ => False) hS dX8_run_18 msX8_106 rfl (by first | decide | omega) (by decide) (Nat.le_of_ble_eq_true rfl) ⟨Nat.le_trans (by decide) hR.1, Nat.le_trans (by decide) hR.2⟩ (fun _ _ q => q.elim) (m_ouN (m := 201) (by decide) (by decide) hbm1 ?_)
        refine J_if_eq (tgt := 28) hS dX8_run_21 (by decide) (fun c2 => ?_) (fun c2 => ?_)
        · exact bad (Or.inr hbm1)
        · exact absurd rfl c2
  ·
    refine J_aload_n hS dX8_run_5 rfl ?_
    refine J_iload_n hS dX8_run_6 rfl ?_
    refine J_callS1 (X' := fun _ _ => False) hS dX8_run_7 msX8_117 rfl (by first | decide | omega) (by decide) (Nat.le_of_ble_eq_true rfl) ⟨Nat.le_trans (by decide) hR.1, Nat.le_trans (by decide) hR.2⟩ (fun _ _ q => q.elim) (m_yardN hby ?_)
    refine J_if_eq (tgt := 28) hS dX8_run_10 (by decide) (fun c1 => ?_) (fun c1 => ?_)
    · exact bad (Or.inl hby)
    · exact absurd rfl c1
end RefT4


/-! THE CLASS: run -/
theorem here_nodup (p : Nat → Bool) (n : Nat) : (here p n).Nodup := List.Pairwise.filter _ List.nodup_range
theorem getD_ne {L : List Nat} (hL : L.Nodup) {i j : Nat} (hi : i < L.length) (hj : j < L.length) (h : i ≠ j) : L.getD i 0 ≠ L.getD j 0 := by
  rw [List.getD_eq_getElem?_getD, List.getElem?_eq_getElem hi, List.getD_eq_getElem?_getD, List.getElem?_eq_getElem hj]
  show L[i] ≠ L[j]
  rcases Nat.lt_or_gt_of_ne h with q | q
  · exact List.pairwise_iff_getElem.mp hL i j hi hj q
  · exact (List.pairwise_iff_getElem.mp hL j i hj hi q).symm
theorem dI_ne_dJ {s : Int32} {m : Nat} : dI s (m + 1) ≠ dJ s (m + 1) := by
  by_cases e : dr (adv (adv s)) m < dI s (m + 1)
  · rw [dJ_t e]; omega
  · rw [dJ_f e]; omega
theorem RelC.w' {g g' : Mm} {z : Nz} {w' : Wr} (h : RelC g z) (hw : wv g' 2 = w') (e : ∀ a, (a = 1 ∨ (101 ≤ a ∧ a ≤ 107) ∨ (143 ≤ a ∧ a < 148)) → g' a = g a) : RelC g' (w', z.2) := by
  obtain ⟨h1, h2, h3, h4, h5, h6, h7, h8⟩ := h
  exact ⟨hw, by rw [e 143 (by decide)]; exact h2, fun i hi => by rw [e 144 (by decide)]; exact h3 i hi, fun i hi => by rw [e 147 (by decide)]; exact h4 i hi, fun i hi => by rw [e 146 (by decide)]; exact h5 i hi, fun i hi => by rw [e 145 (by decide)]; exact h6 i hi, by rw [e 1 (by decide)]; exact h7, fun f hf => by rw [e _ (by omega)]; exact h8 f hf⟩
def nzD (z : Nz) : Nz := (upd z.w 0 (adv5 (z.w 0)), z.2)
/-- one drawn talk among the children of L in yard y, noted -/
def rnS (lw : Option (List Cls)) (lo : Int32) (L : List Nat) (y : Nat) (z : Nz) : Nz := nzT lw lo (L.getD (dI (z.w 0) L.length) 0) (L.getD (dJ (z.w 0) L.length) 0) y (dM (z.w 0)) (nzD z)
def rnK (lw : Option (List Cls)) (lo : Int32) (L : List Nat) (y : Nat) (z : Nz) : Nat → Nz
  | 0 => z
  | k + 1 => rnS lw lo L y (rnK lw lo L y z k)
theorem Kq_upd0 {w : Wr} {s : Int32} : Kq w (upd w 0 s) := ⟨fun i h0 _ => by unfold upd; rw [if_neg h0], fun i hi q => by unfold upd; rw [if_neg (by unfold wgI at hi; omega)]; exact q⟩
theorem Kq.tr {w v u : Wr} (a : Kq w v) (b : Kq v u) : Kq w u := ⟨fun i h0 hi => (b.1 i h0 hi).trans (a.1 i h0 hi), fun i hi q => b.2 i hi (a.2 i hi q)⟩
theorem Kq.ofKp {w v : Wr} (a : Kp w v) : Kq w v := ⟨fun i _ hi => a.1 i hi, a.2⟩
theorem Kq_rnS {lw : Option (List Cls)} {lo : Int32} {L : List Nat} {y : Nat} {z : Nz} (hy : y < 3) : Kq z.w (rnS lw lo L y z).w := Kq_upd0.tr (Kq.ofKp (Kp_tW6 hy (fun _ => dM_lt)))
theorem Kq_rnK {lw : Option (List Cls)} {lo : Int32} {L : List Nat} {y : Nat} {z : Nz} (hy : y < 3) : ∀ k, Kq z.w (rnK lw lo L y z k).w
  | 0 => ⟨fun _ _ _ => rfl, fun _ _ q => q⟩
  | k + 1 => (Kq_rnK hy k).tr (Kq_rnS hy)
theorem rnK_m {lw : Option (List Cls)} {lo : Int32} {L : List Nat} {y : Nat} {z : Nz} : ∀ k, (rnK lw lo L y z k).m = z.m + k
  | 0 => rfl
  | k + 1 => by show (rnK lw lo L y z k).m + 1 = z.m + (k + 1); rw [rnK_m k]; omega
theorem rnK_ok {lw : Option (List Cls)} {lo : Int32} {L : List Nat} {y : Nat} {z : Nz} (h : NzOk z) : ∀ k, z.m + k ≤ 1500 → NzOk (rnK lw lo L y z k)
  | 0, _ => h
  | k + 1, hk => by
    have i := rnK_ok (lw := lw) (lo := lo) (L := L) (y := y) h k (by omega)
    have j : NzOk (nzD (rnK lw lo L y z k)) := i
    exact j.nt (by show (rnK lw lo L y z k).m < 1500; rw [rnK_m]; omega)
section ClsR
variable {l : Launch} {E : Ey} {g : Mm} {Q : Option Value → Mm → Prop} {X : String → Mm → Prop} {h : Nat}
set_option maxRecDepth 10000 in
set_option maxHeartbeats 4000000 in
theorem c_run {n : Nat} {y0 m0 : Int32} {z : Nz} {Ls : List (List Cls)} (hC : RelC g z) (hz : NzOk z) (hw : WOk z.w) (hl : LawsC g Ls) (hv : isLw Ls.length (z.w 5)) (hn : n ≤ 24) (hm : z.w 6 = nI n) (x : ou 3 y0 ∨ ou 201 m0 → X eIA g)
    (q0 : ∀ y k, y < 3 → y0 = nI y → k < 201 → m0 = nI k → ¬ 2 ≤ (here (thrW z.w (nI y)) n).length → ∀ g', (∀ a, a ≠ 157 → g' a = g a) → Q (some (.int 0)) g')
    (q : ∀ y k, y < 3 → y0 = nI y → k < 201 → m0 = nI k → 2 ≤ (here (thrW z.w (nI y)) n).length → ∀ g', FrN g g' → RelC g' (rnK (lwOf Ls (z.w 5)) (-1) (here (thrW z.w (nI y)) n) y z (min k (1500 - z.m))) → Q (some (.int (nI (min k (1500 - z.m))))) g') : Ct l E lay NC 8 1 6 yX7_run [.ref 1, .int y0, .int m0] g Q X := by
  have hgm : g 2 6 = nI n := by rw [← hm, ← hC.1]; rfl
  refine Ct_in k_yX7_run (by decide) rfl (Nat.le_of_ble_eq_true rfl) rfl ?_
  intro S hS hZ hr ht hR
  show J S 0 0 (g) 0 [some (.ref 1), some (.int y0), some (.int m0), none, none] []
  refine J_iload_n hS dX7_run_0 rfl ?_
  rcases in_or (y := y0) (b := 3) (by first | decide | omega) with ⟨y, hy, ey⟩ | hby
  ·
    subst ey
    refine J_callS1 (X' := fun _ _ => False) hS dX7_run_1 msX7_103 rfl (by decide) (by decide) (Nat.le_of_ble_eq_true rfl) ⟨Nat.le_trans (by decide) hR.1, Nat.le_trans (by decide) hR.2⟩ (fun _ _ q => q.elim) (c_checkYardOk hy ?_)
    refine J_iload_n hS dX7_run_4 rfl ?_
    rcases in_or (y := m0) (b := 201) (by first | decide | omega) with ⟨m1, hm1, em1⟩ | hbm1
    ·
      subst em1
      have hth : here (thr g 2 (nI y)) n = here (thrW z.w (nI y)) n := here_congr (fun c hc => by rw [← hC.1]; exact (thrW_thr (by omega)).symm)
      obtain ⟨L, hL⟩ : ∃ L : List Nat, L = here (thrW z.w (nI y)) n := ⟨_, rfl⟩
      have hLn : L.length ≤ n := by rw [hL]; exact here_len _ _
      have hLd : L.Nodup := by rw [hL]; exact here_nodup _ _
      have hLm : ∀ j, j < L.length → L.getD j 0 < 24 ∧ z.w (56 + 142 * L.getD j 0) = nI y := by
        intro j hj
        obtain ⟨z1, z2⟩ := here_mem.mp (show L.getD j 0 ∈ here (thrW z.w (nI y)) n by rw [← hL]; exact getD_mem hj)
        exact ⟨by omega, (of_decide_eq_true z2).2⟩
      refine J_callS1 (X' := fun _ _ => False) hS dX7_run_5 msX7_232 rfl (by decide) (by decide) (Nat.le_of_ble_eq_true rfl) ⟨Nat.le_trans (by decide) hR.1, Nat.le_trans (by decide) hR.2⟩ (fun _ _ q => q.elim) (c_checkRunLengthOk hm1 ?_)
      refine J_aload_n hS dX7_run_8 rfl ?_
      refine J_getR (t := 2) hS dX7_run_9 flX7_10 ob1 rfl ?_
      refine J_iload_n hS dX7_run_12 rfl ?_
      refine J_aload_n hS dX7_run_13 rfl ?_
      refine J_getR (t := 157) hS dX7_run_14 flX7_67 ob1 rfl ?_
      refine J_callV2 (X' := fun _ _ => False) hS dX7_run_17 mvX7_235 wo_now.ob rfl (by decide) (by decide) (Nat.le_of_ble_eq_true rfl) ⟨Nat.le_trans (by decide) hR.1, Nat.le_trans (by decide) hR.2⟩ (fun _ _ q => q.elim) (c_gather wo_now hn hgm (fun g0 f0 c0 => ?_))
      refine J_istore_n (lt := fun x4 => [some (.ref 1), some (.int (nI y)), some (.int (nI m1)), some (.int x4), none]) hS dX7_run_20 (Nat.le_of_ble_eq_true rfl) (fun _ => rfl) (fun x4 ex4 => ?_)
      rw [hth, ← hL] at c0 ex4
      subst ex4
      refine J_iload_n hS dX7_run_21 rfl ?_
      refine J_iconst (v := 2) hS dX7_run_22 (by decide) ?_
      refine J_icmp_ge (tgt := 28) hS dX7_run_23 (by decide) (fun c1 => ?_) (fun c1 => ?_)
      · have hl2 : 2 ≤ L.length := by
          rcases Nat.lt_or_ge L.length 2 with e | e
          · exact absurd c1 (Int32.not_le.mpr (nI_lt e (by decide)))
          · exact e
        obtain ⟨u, hu⟩ : ∃ u : Nat, L.length = u + 1 := ⟨L.length - 1, by omega⟩
        have hl0 : LawsC g0 Ls := hl.fr (by rw [f0 1 (by decide)]) (fun a h1 h2 => f0 a (by omega))
        have hr0 : RelC g0 z := hC.fr (fun a ha => f0 a (by omega))
        refine J_aload_n hS dX7_run_28 rfl ?_
        refine J_callV0 (X' := fun _ _ => False) hS dX7_run_29 mvX7_167 ob1 rfl (by decide) (by decide) (Nat.le_of_ble_eq_true rfl) ⟨Nat.le_trans (by decide) hR.1, Nat.le_trans (by decide) hR.2⟩ (fun _ _ q => q.elim) (c_useLawInForce hl0 (by rw [hr0.1]; exact hv) (fun g1 d1 d2 d3 => ?_))
        refine J_iconst (v := 0) hS dX7_run_32 (by decide) ?_
        refine J_istore (lt := fun i1 => [some (.ref 1), some (.int (nI y)), some (.int (nI m1)), some (.int (nI L.length)), some (.int i1)]) hS dX7_run_33 (Nat.le_of_ble_eq_true rfl) (fun _ => rfl) (fun i1 ei1 => ?_)
        rw [hr0.1] at d2
        obtain ⟨lw, hlw⟩ : ∃ lw, lw = lwOf Ls (z.w 5) := ⟨_, rfl⟩
        rw [← hlw] at d2
        have hm5 := hz.1
        suffices H : ∀ (r k : Nat) (i : Int32) (g2 : Mm), k + r = min m1 (1500 - z.m) → i = nI k → FrN g g2 → RelC g2 (rnK lw (-1) L y z k) → g2 152 = g1 152 → (∀ j, j < L.length → g2 157 j = nI (L.getD j 0)) → J S 0 0 g2 35 [some (.ref 1), some (.int (nI y)), some (.int (nI m1)), some (.int (nI L.length)), some (.int i)] [] by
          exact H (min m1 (1500 - z.m)) 0 i1 g1 (by omega) ei1 (FrN.of (fun a h1 h2 => by rw [d1 a (by omega), f0 a h2])) (hr0.fr (fun a ha => d1 a (by omega))) rfl (fun j hj => by rw [d1 157 (by decide)]; exact c0 j hj)
        intro r
        induction r with
        | zero =>
          intro k i g2 hk hi k1 k2 k3 k4
          have hkm : k = min m1 (1500 - z.m) := by omega
          subst hi
          have fin : J S 0 0 g2 73 [some (.ref 1), some (.int (nI y)), some (.int (nI m1)), some (.int (nI L.length)), some (.int (nI k))] [] := by
            refine J_iload hS dX7_run_73 rfl ?_
            refine J_iret hS hZ hr dX7_run_75 (by omega) (by omega) ?_
            have fq := q y m1 hy rfl hm1 rfl (by rw [← hL]; exact hl2) g2 k1 (by rw [← hL, ← hlw, ← hkm]; exact k2)
            rw [← hkm] at fq; exact fq
          refine J_iload hS dX7_run_35 rfl ?_
          refine J_iload_n hS dX7_run_37 rfl ?_
          refine J_icmp_ge (tgt := 73) hS dX7_run_38 (by decide) (fun c2 => ?_) (fun c2 => ?_)
          · exact fin
          ·
            refine J_aload_n hS dX7_run_41 rfl ?_
            refine J_getR (t := 143) hS dX7_run_42 flX7_38 ob1 rfl ?_
            refine J_getI hS dX7_run_45 flX7_214 ob143 rfl ?_
            refine J_sipush (v := 1500) hS dX7_run_48 (by decide) ?_
            show J S 0 0 (g2) 51 [some (.ref 1), some (.int (nI y)), some (.int (nI m1)), some (.int (nI L.length)), some (.int (nI k))] [.int 1500, .int _]
            rw [k2.2.1, rnK_m]
            refine J_icmp_ge (tgt := 73) hS dX7_run_51 (by decide) (fun c3 => ?_) (fun c3 => ?_)
            · exact fin
            · have e1 : k < m1 := by
                rcases Nat.lt_or_ge k m1 with e | e
                · exact e
                · exact absurd (nI_le e (by omega)) c2
              have e2 : z.m + k < 1500 := by
                rcases Nat.lt_or_ge (z.m + k) 1500 with e | e
                · exact e
                · exact absurd (nI_le e (by omega)) c3
              omega
        | succ r ih =>
          intro k i g2 hk hi k1 k2 k3 k4
          subst hi
          obtain ⟨v, hv2⟩ : ∃ v : Nz, v = rnK lw (-1) L y z k := ⟨_, rfl⟩
          have vm : v.m = z.m + k := by rw [hv2]; exact rnK_m k
          have vok : NzOk v := by rw [hv2]; exact rnK_ok hz k (by omega)
          have kq : Kq z.w v.w := by rw [hv2]; exact Kq_rnK hy k
          rw [← hv2] at k2
          have hdi : dI (v.w 0) L.length < L.length := by rw [hu]; exact dr_lt (by omega)
          have hdj : dJ (v.w 0) L.length < L.length := by
            rw [hu]
            have := dr_lt (x := adv (adv (v.w 0))) (n := u) (by omega)
            by_cases e : dr (adv (adv (v.w 0))) u < dI (v.w 0) (u + 1)
            · rw [dJ_t e]; omega
            · rw [dJ_f e]; omega
          have hyd : ∀ j, j < L.length → (nzD v).w (56 + 142 * L.getD j 0) = nI y := by
            intro j hj
            show upd v.w 0 _ _ = _
            unfold upd
            rw [if_neg (by omega)]
            exact (kq.hd (r := 0) (by decide)).trans (hLm j hj).2
          refine J_iload hS dX7_run_35 rfl ?_
          refine J_iload_n hS dX7_run_37 rfl ?_
          refine J_icmp_ge (tgt := 73) hS dX7_run_38 (by decide) (fun c2 => ?_) (fun c2 => ?_)
          · exact absurd c2 (nI_ge (show k < m1 by omega) (by omega))
          ·
            refine J_aload_n hS dX7_run_41 rfl ?_
            refine J_getR (t := 143) hS dX7_run_42 flX7_38 ob1 rfl ?_
            refine J_getI hS dX7_run_45 flX7_214 ob143 rfl ?_
            refine J_sipush (v := 1500) hS dX7_run_48 (by decide) ?_
            show J S 0 0 (g2) 51 [some (.ref 1), some (.int (nI y)), some (.int (nI m1)), some (.int (nI L.length)), some (.int (nI k))] [.int 1500, .int _]
            rw [k2.2.1, vm]
            refine J_icmp_ge (tgt := 73) hS dX7_run_51 (by decide) (fun c3 => ?_) (fun c3 => ?_)
            · exact absurd c3 (nI_ge (show z.m + k < 1500 by omega) (by decide))
            ·
              refine J_aload_n hS dX7_run_54 rfl ?_
              refine J_aload_n hS dX7_run_55 rfl ?_
              refine J_getR (t := 2) hS dX7_run_56 flX7_10 ob1 rfl ?_
              refine J_iload_n hS dX7_run_59 rfl ?_
              show J S 0 0 (g2) 60 [some (.ref 1), some (.int (nI y)), some (.int (nI m1)), some (.int (nI L.length)), some (.int (nI k))] [.int (nI L.length), .ref (2), .ref 1]
              rw [hu]
              refine J_callV2 (X' := fun _ _ => False) hS dX7_run_60 mvX7_239 ob1 rfl (by decide) (by decide) (Nat.le_of_ble_eq_true rfl) ⟨Nat.le_trans (by decide) hR.1, Nat.le_trans (by decide) hR.2⟩ (fun _ _ q => q.elim) (c_drawTalk wo_now (m := u) (cr := fun j => L.getD j 0) (by omega) (by omega) (fun j hj => ⟨(hLm j (by omega)).1, k4 j (by omega)⟩) (fun g3 b1 b2 b3 => ?_))
              rw [k2.1] at b2 b3
              rw [← hu] at b3
              rw [← hu]
              have hr3 : RelC g3 (nzD v) := k2.w' b2 (fun a ha => b1 a (by omega) (by omega) (by omega))
              have fr3 : FrN g2 g3 := ⟨fun a z1 z2 z3 z4 z5 z6 z7 => b1 a (by omega) (by omega) (by omega), fun j _ => by rw [b1 1 (by decide) (by decide) (by decide)], fun f hf j _ => by rw [b1 _ (by omega) (by omega) (by omega)]⟩
              have e152 : g3 152 = g1 152 := by rw [b1 152 (by decide) (by decide) (by decide)]; exact k3
              have rul : RuleC g3 lw := d2.fr (fun a ha => by
                rcases ha with ha | ha
                · rw [fr3.1 a (by omega) (by omega) (by omega) (by omega) (by omega) (by omega) (by omega), k1.1 a (by omega) (by omega) (by omega) (by omega) (by omega) (by omega) (by omega), d1 a (by omega), f0 a (by omega)]
                · subst ha; exact e152)
              refine J_aload_n hS dX7_run_63 rfl ?_
              refine J_callV0 (X' := fun _ _ => False) hS dX7_run_64 mvX7_225 ob1 rfl (by decide) (by decide) (Nat.le_of_ble_eq_true rfl) ⟨Nat.le_trans (by decide) hR.1, Nat.le_trans (by decide) hR.2⟩ (fun _ _ q => q.elim) (c_makeNotedTalk (m := v.m) (getD_ne hLd hdi hdj (by rw [hu]; exact dI_ne_dJ)) (hLm _ hdi).1 (hLm _ hdj).1 b3 (fun _ => dM_lt) hy (by rw [hr3.1]; exact hyd _ hdi) (by rw [hr3.1]; exact hyd _ hdj) (by rw [hr3.1]; exact (Kq_upd0 (w := v.w)).wt (kq.wt (hw.2.2 _ (hLm _ hdj).1))) rul (by omega) hr3.2.1 (by rcases vok.2 with e | ⟨f, mn, f1, f2, f3, f4⟩; exact Or.inl (hr3.2.2.2.2.2.2.1.trans e); exact Or.inr ⟨f, mn, f1, f2, hr3.2.2.2.2.2.2.1.trans f3, (hr3.2.2.2.2.2.2.2 f f1).trans f4⟩) (fun g4 np => ?_))
              have np' : NtP lw g3 g4 (L.getD (dI (v.w 0) L.length) 0) (L.getD (dJ (v.w 0) L.length) 0) y (nzD v).m (dM (v.w 0)) := np
              have vok2 : NzOk (nzD v) := vok
              have rl := np'.rel hr3 vok2 (hLm _ hdi).1 (hLm _ hdj).1
              rw [e152, d3] at rl
              refine J_iinc (lt := fun i2 => [some (.ref 1), some (.int (nI y)), some (.int (nI m1)), some (.int (nI L.length)), some (.int i2)]) (v := 1) hS dX7_run_67 rfl (by decide) (fun _ => rfl) (fun i2 ei2 => ?_)
              refine J_goto (tgt := 35) hS dX7_run_70 (by decide) ?_
              refine ih (k + 1) i2 g4 (by omega) (by rw [ei2]; exact nI_1 k) ((k1.trans fr3).trans (np'.fr hr3 vok2)) ?_ ?_ (fun j hj => ?_)
              · show RelC g4 (rnS lw (-1) L y (rnK lw (-1) L y z k)); rw [← hv2]; exact rl
              · rw [np.1 152 (by decide) (by decide) (by decide) (by decide) (by decide) (by decide) (by decide) (by decide) (by decide) (by decide) (by decide) (by decide) (by decide)]; exact e152
              · rw [np.1 157 (by decide) (by decide) (by decide) (by decide) (by decide) (by decide) (by decide) (by decide) (by decide) (by decide) (by decide) (by decide) (by decide), b1 157 (by decide) (by decide) (by decide)]; exact k4 j hj
      · have hl2 : ¬ 2 ≤ L.length := fun e => c1 (nI_le e (by omega))
        refine J_iconst (v := 0) hS dX7_run_26 (by decide) ?_
        refine J_iret hS hZ hr dX7_run_27 (by omega) (by omega) ?_
        exact q0 y m1 hy rfl hm1 rfl (by rw [← hL]; exact hl2) g0 f0
    ·
      refine J_callS1 hS dX7_run_5 msX7_232 rfl (by decide) (by decide) (Nat.le_of_ble_eq_true rfl) ⟨Nat.le_trans (by decide) hR.1, Nat.le_trans (by decide) hR.2⟩ (fun _ _ q => q) (c_checkRunLengthBad hbm1 (JX_out hS hZ ht (by omega) (by omega) (x (Or.inr hbm1))))
  ·
    refine J_callS1 hS dX7_run_1 msX7_103 rfl (by decide) (by decide) (Nat.le_of_ble_eq_true rfl) ⟨Nat.le_trans (by decide) hR.1, Nat.le_trans (by decide) hR.2⟩ (fun _ _ q => q) (c_checkYardBad hby (JX_out hS hZ ht (by omega) (by omega) (x (Or.inl hby))))
end ClsR


/-! THE CLASS: tryOut -/
def trF (lw : Option (List Cls)) (lo : Int32) (n y m : Nat) (w : Wr) : Wr := if 2 ≤ (here (thrW w (nI y)) n).length then trK lw lo (fun j => (here (thrW w (nI y)) n).getD j 0) (here (thrW w (nI y)) n).length y w m else w
def trC (lw : Option (List Cls)) (lo : Int32) (n y m o : Nat) (w : Wr) : Nat := (here (fun c => thrW (trF lw lo n y m w) (nI y) c && hldB lw lo (trF lw lo n y m w) c o) n).length
theorem Kq_trF {lw : Option (List Cls)} {lo : Int32} {n y m : Nat} {w : Wr} (hy : y < 3) : Kq w (trF lw lo n y m w) := by
  unfold trF
  split
  · exact Kq_trK hy m
  · exact ⟨fun _ _ _ => rfl, fun _ _ q => q⟩
theorem getD_mem {L : List Nat} {j : Nat} (h : j < L.length) : L.getD j 0 ∈ L := by
  rw [List.getD_eq_getElem?_getD, List.getElem?_eq_getElem h]; exact List.getElem_mem h
section ClsX
variable {l : Launch} {E : Ey} {g : Mm} {Q : Option Value → Mm → Prop} {X : String → Mm → Prop} {h : Nat}
set_option maxRecDepth 10000 in
set_option maxHeartbeats 4000000 in
theorem c_tryOut {n y m o : Nat} {lw : Option (List Cls)} (hn : n ≤ 24) (hm : g 13 6 = nI n) (hy : y < 3) (hm2 : m < 2 ^ 31) (ho : o < 6) (hRl : RuleC g lw) (hwt : ∀ c, c < 24 → Wt (wv g 13) c)
    (q : ∀ g', (∀ z, (z < 13 ∨ 23 < z) → z ≠ 148 → z ≠ 149 → z ≠ 150 → z ≠ 151 → z ≠ 153 → z ≠ 154 → z ≠ 157 → g' z = g z) → Q (some (.int (nI (trC lw (g 152 3) n y m o (wv g 13))))) g') : Ct l E lay NC 6 0 0 yX7_tryOut [.ref 1, .int (nI y), .int (nI m), .int (nI o)] g Q X := by
  obtain ⟨w, hw⟩ : ∃ w : Wr, w = wv g 13 := ⟨_, rfl⟩
  have hth : here (thr g 13 (nI y)) n = here (thrW w (nI y)) n := here_congr (fun c hc => by rw [hw]; exact (thrW_thr (by omega)).symm)
  obtain ⟨L, hL⟩ : ∃ L : List Nat, L = here (thrW w (nI y)) n := ⟨_, rfl⟩
  have hLn : L.length ≤ n := by rw [hL]; exact here_len _ _
  have hLm : ∀ j, j < L.length → L.getD j 0 < 24 ∧ w (56 + 142 * L.getD j 0) = nI y := by
    intro j hj
    have z := getD_mem hj
    obtain ⟨z1, z2⟩ := here_mem.mp (show L.getD j 0 ∈ here (thrW w (nI y)) n by rw [← hL]; exact z)
    exact ⟨by omega, (of_decide_eq_true z2).2⟩
  rw [← hw] at q hwt
  refine Ct_in k_yX7_tryOut (by decide) rfl (Nat.le_of_ble_eq_true rfl) rfl ?_
  intro S hS hZ hr ht hR
  show J S 0 0 g 0 [some (.ref 1), some (.int (nI y)), some (.int (nI m)), some (.int (nI o)), none, none] []
  refine J_aload_n hS dX7_tryOut_0 rfl ?_
  refine J_getR (t := 13) hS dX7_tryOut_1 flX7_16 ob1 rfl ?_
  refine J_iload_n hS dX7_tryOut_4 rfl ?_
  refine J_aload_n hS dX7_tryOut_5 rfl ?_
  refine J_getR (t := 157) hS dX7_tryOut_6 flX7_67 ob1 rfl ?_
  refine J_callV2 (X' := fun _ _ => False) hS dX7_tryOut_9 mvX7_235 wo_copy.ob rfl (by decide) (by decide) (Nat.le_of_ble_eq_true rfl) hR (fun _ _ q => q.elim) (c_gather wo_copy hn hm (fun g0 f0 c0 => ?_))
  refine J_istore (lt := fun x4 => [some (.ref 1), some (.int (nI y)), some (.int (nI m)), some (.int (nI o)), some (.int x4), none]) hS dX7_tryOut_12 (Nat.le_of_ble_eq_true rfl) (fun _ => rfl) (fun x4 ex4 => ?_)
  rw [hth, ← hL] at c0 ex4
  subst ex4
  have fin : ∀ g1 : Mm, (∀ z, (z < 13 ∨ 23 < z) → z ≠ 148 → z ≠ 149 → z ≠ 150 → z ≠ 151 → z ≠ 153 → z ≠ 154 → z ≠ 157 → g1 z = g z) → wv g1 13 = trF lw (g 152 3) n y m w → J S 0 0 g1 60 [some (.ref 1), some (.int (nI y)), some (.int (nI m)), some (.int (nI o)), some (.int (nI L.length)), none] [] := by
    intro g1 f1 w1
    have k := Kq_trF (lw := lw) (lo := g 152 3) (n := n) (y := y) (m := m) (w := w) hy
    have hm1 : g1 13 6 = nI n := by
      rw [show g1 13 6 = wv g1 13 6 from rfl, w1, k.lo (by decide) (by decide) (by decide), hw]; exact hm
    have e152 : g1 152 = g 152 := f1 152 (by decide) (by decide) (by decide) (by decide) (by decide) (by decide) (by decide) (by decide)
    refine J_aload_n hS dX7_tryOut_60 rfl ?_
    refine J_aload_n hS dX7_tryOut_61 rfl ?_
    refine J_getR (t := 13) hS dX7_tryOut_62 flX7_16 ob1 rfl ?_
    refine J_iload_n hS dX7_tryOut_65 rfl ?_
    refine J_iload_n hS dX7_tryOut_66 rfl ?_
    refine J_callV3 (X' := fun _ _ => False) hS dX7_tryOut_67 mvX7_255 ob1 rfl (by decide) (by decide) (Nat.le_of_ble_eq_true rfl) hR (fun _ _ q => q.elim) (c_countHolders wo_copy hn hm1 ho (hRl.fr (fun a ha => f1 a (by omega) (by omega) (by omega) (by omega) (by omega) (by omega) (by omega) (by omega))) (fun g2 b1 => ?_))
    refine J_iret hS hZ hr dX7_tryOut_70 (by omega) (by omega) ?_
    have er : here (fun c => thr g1 13 (nI y) c && hldB lw (g1 152 3) (wv g1 13) c o) n = here (fun c => thrW (trF lw (g 152 3) n y m w) (nI y) c && hldB lw (g 152 3) (trF lw (g 152 3) n y m w) c o) n :=
      here_congr (fun c hc => by rw [← thrW_thr (by omega), w1, e152])
    rw [er]
    exact q g2 (fun z h1 h2 h3 h4 h5 h6 h7 h8 => by rw [b1 z h6 h7]; exact f1 z h1 h2 h3 h4 h5 h6 h7 h8)
  have w0 : wv g0 13 = w := by rw [hw]; exact wv_fr (fun z h1 h2 => f0 z (by omega))
  refine J_iload hS dX7_tryOut_14 rfl ?_
  refine J_iconst (v := 2) hS dX7_tryOut_16 (by decide) ?_
  refine J_icmp_lt (tgt := 60) hS dX7_tryOut_17 (by decide) (fun c1 => ?_) (fun c1 => ?_)
  · have hl2 : ¬ 2 ≤ L.length := fun z => absurd c1 (nI_nlt z (by omega))
    refine fin g0 (fun z _ _ _ _ _ _ _ h8 => f0 z h8) ?_
    rw [w0]; unfold trF; rw [← hL, if_neg hl2]
  · have hl2 : 2 ≤ L.length := by
      rcases Nat.lt_or_ge L.length 2 with z | z
      · exact absurd (nI_lt z (by decide)) c1
      · exact z
    obtain ⟨u, hu⟩ : ∃ u : Nat, L.length = u + 1 := ⟨L.length - 1, by omega⟩
    have eF : trF lw (g 152 3) n y m w = trK lw (g 152 3) (fun j => L.getD j 0) (u + 1) y w m := by unfold trF; rw [← hL, if_pos hl2, hu]
    refine J_iconst (v := 0) hS dX7_tryOut_20 (by decide) ?_
    refine J_istore (lt := fun i1 => [some (.ref 1), some (.int (nI y)), some (.int (nI m)), some (.int (nI o)), some (.int (nI L.length)), some (.int i1)]) hS dX7_tryOut_21 (Nat.le_of_ble_eq_true rfl) (fun _ => rfl) (fun i1 ei1 => ?_)
    suffices H : ∀ (r k : Nat) (i : Int32) (g1 : Mm), k + r = m → i = nI k → (∀ z, (z < 13 ∨ 23 < z) → z ≠ 148 → z ≠ 149 → z ≠ 150 → z ≠ 151 → z ≠ 153 → z ≠ 154 → z ≠ 157 → g1 z = g z) → wv g1 13 = trK lw (g 152 3) (fun j => L.getD j 0) (u + 1) y w k → (∀ j, j < L.length → g1 157 j = nI (L.getD j 0)) → J S 0 0 g1 23 [some (.ref 1), some (.int (nI y)), some (.int (nI m)), some (.int (nI o)), some (.int (nI L.length)), some (.int i)] [] by
      exact H m 0 i1 g0 (by omega) ei1 (fun z _ _ _ _ _ _ _ h8 => f0 z h8) w0 c0
    intro r
    induction r with
    | zero =>
      intro k i g1 hk hi f1 w1 t1
      have hkm : k = m := by omega
      subst hkm
      refine J_iload hS dX7_tryOut_23 rfl ?_
      refine J_iload_n hS dX7_tryOut_25 rfl ?_
      refine J_icmp_ge (tgt := 60) hS dX7_tryOut_26 (by decide) (fun c2 => ?_) (fun c2 => ?_)
      ·
        refine J_weak (ls' := [some (.ref 1), some (.int (nI y)), some (.int (nI k)), some (.int (nI o)), some (.int (nI L.length)), none]) ⟨Or.inr rfl, Or.inr rfl, Or.inr rfl, Or.inr rfl, Or.inr rfl, Or.inl rfl, trivial⟩ ?_
        exact fin g1 f1 (by rw [w1, eF])
      · exact absurd (by rw [hi]; exact Int32.le_refl _) c2
    | succ r ih =>
      intro k i g1 hk hi f1 w1 t1
      subst hi
      obtain ⟨v, hv⟩ : ∃ v : Wr, v = trK lw (g 152 3) (fun j => L.getD j 0) (u + 1) y w k := ⟨_, rfl⟩
      rw [← hv] at w1
      have kq : Kq w v := by rw [hv]; exact Kq_trK hy k
      have hyd : ∀ j, j < L.length → ∀ s : Int32, upd v 0 s (56 + 142 * L.getD j 0) = nI y := by
        intro j hj s
        unfold upd
        rw [if_neg (by omega)]
        exact (kq.hd (r := 0) (by decide)).trans (hLm j hj).2
      have hwv : ∀ c, c < 24 → ∀ s : Int32, Wt (upd v 0 s) c := by
        intro c hc s r h1 h2
        unfold upd
        rw [if_neg (by omega)]
        exact kq.wt (hwt c hc) r h1 h2
      have hdi : dI (v 0) (u + 1) < L.length := by rw [hu]; exact dr_lt (by omega)
      have hdj : dJ (v 0) (u + 1) < L.length := by
        have := dr_lt (x := adv (adv (v 0))) (n := u) (by omega)
        by_cases e : dr (adv (adv (v 0))) u < dI (v 0) (u + 1)
        · rw [dJ_t e]; omega
        · rw [dJ_f e]; omega
      refine J_iload hS dX7_tryOut_23 rfl ?_
      refine J_iload_n hS dX7_tryOut_25 rfl ?_
      refine J_icmp_ge (tgt := 60) hS dX7_tryOut_26 (by decide) (fun c2 => ?_) (fun c2 => ?_)
      · exact absurd c2 (nI_ge (show k < m by omega) (by omega))
      ·
        refine J_aload_n hS dX7_tryOut_29 rfl ?_
        refine J_aload_n hS dX7_tryOut_30 rfl ?_
        refine J_getR (t := 13) hS dX7_tryOut_31 flX7_16 ob1 rfl ?_
        refine J_iload hS dX7_tryOut_34 rfl ?_
        show J S 0 0 g1 36 [some (.ref 1), some (.int (nI y)), some (.int (nI m)), some (.int (nI o)), some (.int (nI L.length)), some (.int (nI k))] [.int (nI L.length), .ref (13), .ref 1]
        rw [hu]
        refine J_callV2 (X' := fun _ _ => False) hS dX7_tryOut_36 mvX7_239 ob1 rfl (by decide) (by decide) (Nat.le_of_ble_eq_true rfl) hR (fun _ _ q => q.elim) (c_drawTalk wo_copy (m := u) (cr := fun j => L.getD j 0) (by omega) (by omega) (fun j hj => ⟨(hLm j (by omega)).1, t1 j (by omega)⟩) (fun g2 b1 b2 b3 => ?_))
        rw [w1] at b2 b3
        rw [← hu]
        have f2 : ∀ z, (z < 13 ∨ 23 < z) → z ≠ 148 → z ≠ 149 → g2 z = g1 z := fun z h1 h2 h3 => b1 z (by omega) h2 h3
        have e152 : g2 152 = g 152 := by rw [f2 152 (by decide) (by decide) (by decide)]; exact f1 152 (by decide) (by decide) (by decide) (by decide) (by decide) (by decide) (by decide) (by decide)
        refine J_aload_n hS dX7_tryOut_39 rfl ?_
        refine J_getR (t := 148) hS dX7_tryOut_40 flX7_45 ob1 rfl ?_
        refine J_aload_n hS dX7_tryOut_43 rfl ?_
        refine J_getR (t := 13) hS dX7_tryOut_44 flX7_16 ob1 rfl ?_
        refine J_aload_n hS dX7_tryOut_47 rfl ?_
        refine J_getR (t := 152) hS dX7_tryOut_48 flX7_52 ob1 rfl ?_
        refine J_callV2 (X' := fun _ _ => False) hS dX7_tryOut_51 mvX7_399 ob148 rfl (by decide) (by decide) (Nat.le_of_ble_eq_true rfl) hR (fun _ _ q => q.elim) (c_makeIn wo_copy b3 (fun _ => dM_lt) hy (by rw [b2]; exact hyd _ hdi _) (by rw [b2]; exact hyd _ hdj _) (by rw [b2]; exact hwv _ (hLm _ hdj).1 _) (hRl.fr (fun a ha => by rw [f2 a (by omega) (by omega) (by omega)]; exact f1 a (by omega) (by omega) (by omega) (by omega) (by omega) (by omega) (by omega) (by omega))) (fun g3 d1 d2 _ _ _ _ _ _ _ _ => ?_))
        refine J_iinc (lt := fun i2 => [some (.ref 1), some (.int (nI y)), some (.int (nI m)), some (.int (nI o)), some (.int (nI L.length)), some (.int i2)]) (v := 1) hS dX7_tryOut_54 rfl (by decide) (fun _ => rfl) (fun i2 ei2 => ?_)
        refine J_goto (tgt := 23) hS dX7_tryOut_57 (by decide) ?_
        refine ih (k + 1) i2 g3 (by omega) (by rw [ei2]; exact nI_1 k) (fun z h1 h2 h3 h4 h5 h6 h7 h8 => ?_) ?_ (fun j hj => ?_)
        · rw [d1 z (by omega) h2 h4 h5 h6 h7, f2 z h1 h2 h3]; exact f1 z h1 h2 h3 h4 h5 h6 h7 h8
        · rw [d2, b2, e152]
          show _ = trS lw (g 152 3) (fun j => L.getD j 0) (u + 1) y (trK lw (g 152 3) (fun j => L.getD j 0) (u + 1) y w k)
          rw [← hv]; rfl
        · rw [d1 157 (by decide) (by decide) (by decide) (by decide) (by decide) (by decide), f2 157 (by decide) (by decide) (by decide)]; exact t1 j hj
end ClsX


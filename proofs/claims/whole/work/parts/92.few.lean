/-! THE REFERENCE: fewest, untaught, meets -/
theorem here_pre (P : Nat → Bool) (c : Nat) : ∀ d, ∃ M, here P (c + d) = here P c ++ M
  | 0 => ⟨[], by simp⟩
  | d + 1 => by
    obtain ⟨M, h⟩ := here_pre P c d
    exact ⟨M ++ (if P (c + d) then [c + d] else []), by rw [← Nat.add_assoc, here_succ, h, List.append_assoc]⟩
theorem here_ix {P : Nat → Bool} {n c : Nat} (hc : c < n) (hp : P c = true) : (here P c).length < (here P n).length ∧ (here P n).getD (here P c).length 0 = c := by
  obtain ⟨M, h⟩ := here_pre P (c + 1) (n - (c + 1))
  rw [show c + 1 + (n - (c + 1)) = n by omega, here_succ, hp, if_pos rfl] at h
  rw [h]
  refine ⟨by simp, ?_⟩
  rw [List.getD_eq_getElem?_getD, List.append_assoc, List.getElem?_append_right (Nat.le_refl _), Nat.sub_self]; rfl
theorem mskT_at {p : Nat → Bool} {w : Wr} {c : Nat} : mskT p w (56 + 142 * c + 3) = if p c = true then 0 else w (56 + 142 * c + 3) := by
  unfold mskT
  rw [show (56 + 142 * c + 3 - 56) / 142 = c by omega]
  by_cases h : p c = true
  · rw [if_pos ⟨by omega, by omega, h⟩, if_pos h]
  · rw [if_neg (fun z => h z.2.2), if_neg h]
theorem mskT_no {p : Nat → Bool} {w : Wr} {i : Nat} (h : ¬ (56 ≤ i ∧ (i - 56) % 142 = 3)) : mskT p w i = w i := by
  unfold mskT; rw [if_neg (fun z => h ⟨z.1, z.2.1⟩)]
theorem thrW_eq {w : Wr} {y : Int32} {c : Nat} : thrW w y c = true ↔ w (56 + 142 * c + 3) = 1 ∧ w (56 + 142 * c) = y := by unfold thrW; exact decide_eq_true_iff
/-- 'there' taken from those of the yard that q says -/
theorem ThM_msk {g : Mm} {w : Wr} {n y : Nat} {p q : Nat → Bool} (hn : n ≤ 24) (hth : ∀ c, c < 24 → w (56 + 142 * c + 3) = 0 ∨ w (56 + 142 * c + 3) = 1) (ha : ∀ i, i < 3464 → (∀ c, c < n → thrW w (nI y) c = true → q c = true → i ≠ 56 + 142 * c + 3) → g 165 i = w i) (hb : ∀ c, c < n → thrW w (nI y) c = true → q c = true → g 165 (56 + 142 * c + 3) = 0) (hp : ∀ c, c < n → thrW w (nI y) c = true → p c = q c) : ThM g 165 n (nI y) (thrW (mskT p w) (nI y)) := by
  intro c hc
  have e0 : g 165 (56 + 142 * c) = w (56 + 142 * c) := ha _ (by omega) (fun d _ _ _ => by omega)
  rw [thrW_eq, mskT_at, mskT_no (by omega), e0]
  by_cases h : thrW w (nI y) c = true
  · have h' := thrW_eq.mp h
    rw [hp c hc h]
    by_cases hq : q c = true
    · rw [if_pos hq, hb c hc h hq]; simp
    · rw [if_neg hq, ha _ (by omega) (fun d hd1 hd2 hd3 z => hq (by rw [show c = d by omega]; exact hd3)), h'.1]; simp
  · rw [ha _ (by omega) (fun d hd1 hd2 hd3 z => h (by rw [show c = d by omega]; exact hd2))]
    constructor
    · rintro ⟨h1, h2⟩
      split at h1
      · exact absurd h1 (by decide)
      · exact absurd (thrW_eq.mpr ⟨h1, h2⟩) h
    · rintro ⟨h1, h2⟩
      rcases hth c (by omega) with e | e
      · exact absurd e h1
      · exact absurd (thrW_eq.mpr ⟨e, h2⟩) h
section RefT2
variable {l : Launch} {E : Ey} {g : Mm} {Q : Option Value → Mm → Prop} {X : String → Mm → Prop} {w : Wr} {n : Nat}
/-- a trial's row out of its bits -/
theorem TrH_msk {g : Mm} {y : Nat} {p q : Nat → Bool} {lo : Int32} {Ls : List (List Cls)} (h3 : g 162 3 = nI 165) (hJ : RJ g w n) (hL : LawsM g Ls) (hv : isLw Ls.length (w 5)) (hlo : g 162 27 = lo) (hy : y < 3) (ha : ∀ i, i < 3464 → (∀ c, c < n → thrW w (nI y) c = true → q c = true → i ≠ 56 + 142 * c + 3) → g 165 i = w i) (hb : ∀ c, c < n → thrW w (nI y) c = true → q c = true → g 165 (56 + 142 * c + 3) = 0) (hp : ∀ c, c < n → thrW w (nI y) c = true → p c = q c) : TrH g (mskT p w) (g 165) n y (lwOf Ls (w 5)) lo := by
  have hn := hJ.2.1
  refine ⟨h3, fun i hi => ⟨fun z => ?_, fun _ => rfl⟩, hn, by rw [mskT_no (by omega)]; exact hJ.2.2.1, hy, ThM_msk hn hJ.2.2.2.2 ha hb hp, fun c hc => Wt_msk (hJ.2.2.2.1.2.2 c hc), hlo, hL.rule (ha 5 (by decide) (fun c _ _ _ => by omega)) hv⟩
  rw [mskT_no z.2]
  exact ha i hi (fun c _ _ _ e => z.2 (by omega))
set_option maxRecDepth 10000 in
theorem m_untaught {y0 m0 o0 : Int32} {Ls : List (List Cls)} (hI : RI g w n) (hL : LawsM g Ls) (hv : isLw Ls.length (w 5)) (x : (ou 3 y0 ∨ ou 201 m0 ∨ ou 6 o0) → ∀ g', FrZ g g' → g' 162 0 = 1 → Q (some (.int 0)) g') (q : ∀ y m o, y < 3 → y0 = nI y → m < 201 → m0 = nI m → o < 6 → o0 = nI o → ∀ g', FrZ g g' → g' 162 0 = 0 → Q (some (.int (nI (trC (lwOf Ls (w 5)) (-1) n y m o (mskT (fun c => decide (c < n) && (thrW w (nI y) c && decide (w (56 + 142 * c + 4) = 3))) w))))) g') : Ct l E lay NC 6 0 0 yX8_untaught [.ref 162, .int y0, .int m0, .int o0] g Q X := by
  have hn := hI.hn
  refine Ct_in k_yX8_untaught (by decide) rfl (Nat.le_of_ble_eq_true rfl) rfl ?_
  intro S hS hZ hr ht hR
  show J S 0 0 (g) 0 [some (.ref 162), some (.int y0), some (.int m0), some (.int o0), none] []
  refine J_aload_n hS dX8_untaught_0 rfl ?_
  refine J_iconst (v := 0) hS dX8_untaught_1 (by decide) ?_
  refine J_putI hS dX8_untaught_2 fpX8_1 ob162 rfl (fun g2 eg2 => ?_)
  refine J_aload_n hS dX8_untaught_5 rfl ?_
  have z2 : FrZ g g2 := by rw [eg2]; exact FrZ_thr
  have t2 : g2 162 0 = 0 := by rw [eg2, u2_self]
  have i2 := hI.fr z2
  have L2 := hL.z z2
  rcases run_or (y := y0) (m := m0) (o := o0) with ⟨a1, a2, a3⟩ | hbad
  · obtain ⟨y, hy, ey⟩ := ou_in (by decide) a1
    obtain ⟨m, hm, em⟩ := ou_in (by decide) a2
    obtain ⟨o, ho, eo⟩ := ou_in (by decide) a3
    subst ey
    subst em
    subst eo
    obtain ⟨P, hP⟩ : ∃ P : Nat → Bool, P = thrW w (nI y) := ⟨_, rfl⟩
    have hln := here_len P n
    have qq := q y m o hy rfl hm rfl ho rfl
    refine J_iload_n hS dX8_untaught_6 rfl ?_
    refine J_iload_n hS dX8_untaught_7 rfl ?_
    refine J_iload_n hS dX8_untaught_8 rfl ?_
    refine J_callS3 (X' := fun _ _ => False) hS dX8_untaught_9 msX8_374 rfl (by first | decide | omega) (by decide) (Nat.le_of_ble_eq_true rfl) ⟨Nat.le_trans (by decide) hR.1, Nat.le_trans (by decide) hR.2⟩ (fun _ _ q => q.elim) (m_runY hy hm ho ?_)
    refine J_iconst (v := 1) hS dX8_untaught_12 (by decide) ?_
    refine J_callV2 (X' := fun _ _ => False) hS dX8_untaught_13 mvX8_110 ob162 rfl (by first | decide | omega) (by decide) (Nat.le_of_ble_eq_true rfl) ⟨Nat.le_trans (by decide) hR.1, Nat.le_trans (by decide) hR.2⟩ (fun _ _ q => q.elim) (m_mayY t2 (by decide) ?_)
    refine J_if_ne (tgt := 21) hS dX8_untaught_16 (by decide) (fun c1 => ?_) (fun c1 => ?_)
    ·
      refine J_aload_n hS dX8_untaught_21 rfl ?_
      refine J_callV0 (X' := fun _ _ => False) hS dX8_untaught_22 mvX8_365 ob162 rfl (by first | decide | omega) (by decide) (Nat.le_of_ble_eq_true rfl) ⟨Nat.le_trans (by decide) hR.1, Nat.le_trans (by decide) hR.2⟩ (fun _ _ q => q.elim) (m_begins (fun g3 b1 b2 b3 b4 => ?_))
      have f3 : FrB g2 g3 := FrB.beg b1 b2
      have r3 : ∀ i, i < 3464 → g3 165 i = w i := fun i hi => by rw [b4 i hi]; exact i2.row i hi
      have M3 : RowM g3 165 w w := fun i hi => ⟨fun _ => r3 i hi, fun _ => r3 i hi⟩
      have T3 : ThM g3 165 n (nI y) P := by rw [hP]; exact ThM_b M3 hn (fun c hc => ⟨rfl, hI.th c (by omega)⟩)
      refine J_aload_n hS dX8_untaught_25 rfl ?_
      refine J_iload_n hS dX8_untaught_26 rfl ?_
      refine J_callV1 (X' := fun _ _ => False) hS dX8_untaught_27 mvX8_344 ob162 rfl (by first | decide | omega) (by decide) (Nat.le_of_ble_eq_true rfl) ⟨Nat.le_trans (by decide) hR.1, Nat.le_trans (by decide) hR.2⟩ (fun _ _ q => q.elim) (m_findHere Rw5 b3 hn (by rw [r3 6 (by decide)]; exact hI.mn) T3 (fun g4 k1 k2 k3 k4 => ?_))
      have f4 : FrB g2 g4 := f3.find k1 k2
      have w4 : g4 162 3 = nI 165 := by rw [k2 3 (by decide)]; exact b3
      have r4 : ∀ i, i < 3464 → g4 165 i = w i := fun i hi => by rw [k1 165 (by decide) (by decide)]; exact r3 i hi
      refine J_iconst (v := 0) hS dX8_untaught_30 (by decide) ?_
      refine J_istore (lt := fun x4 => [some (.ref 162), some (.int (nI y)), some (.int (nI m)), some (.int (nI o)), some (.int x4)]) hS dX8_untaught_31 (Nat.le_of_ble_eq_true rfl) (fun _ => rfl) (fun x4 ex4 => ?_)
      suffices H : ∀ (t k : Nat) (v : Int32) (g5 : Mm), k + t = (here P n).length → v = nI k → FrB g2 g5 → g5 162 3 = nI 165 → g5 162 41 = nI (here P n).length → (∀ j, j < (here P n).length → g5 205 j = nI ((here P n).getD j 0)) → (∀ i, i < 3464 → (∀ j, j < k → w (56 + 142 * (here P n).getD j 0 + 4) = 3 → i ≠ 56 + 142 * (here P n).getD j 0 + 3) → g5 165 i = w i) → (∀ j, j < k → w (56 + 142 * (here P n).getD j 0 + 4) = 3 → g5 165 (56 + 142 * (here P n).getD j 0 + 3) = 0) → J S 0 0 g5 33 [some (.ref 162), some (.int (nI y)), some (.int (nI m)), some (.int (nI o)), some (.int v)] [] by
        exact H (here P n).length 0 x4 g4 (by omega) ex4 f4 w4 k3 k4 (fun i hi _ => r4 i hi) (fun j hj => absurd hj (by omega))
      intro t
      induction t with
      | zero =>
        intro k v g5 hk hv' f5 w5 h41 h205 ha hb
        have e : k = (here P n).length := by omega
        subst hv'
        refine J_iload hS dX8_untaught_33 rfl ?_
        refine J_aload_n hS dX8_untaught_35 rfl ?_
        refine J_getI hS dX8_untaught_36 flX8_335 ob162 rfl ?_
        show J S 0 0 (g5) 39 [some (.ref 162), some (.int (nI y)), some (.int (nI m)), some (.int (nI o)), some (.int (nI k))] [.int _, .int (nI k)]
        rw [h41]
        refine J_icmp_ge (tgt := 87) hS dX8_untaught_39 (by decide) (fun c2 => ?_) (fun c2 => ?_)
        · have hT : TrH g5 (mskT (fun c => decide (c < n) && (thrW w (nI y) c && decide (w (56 + 142 * c + 4) = 3))) w) (g5 165) n y (lwOf Ls (w 5)) (-1) := by
            refine TrH_msk (q := fun c => decide (w (56 + 142 * c + 4) = 3)) w5 (i2.j.fb f5) (L2.fb f5) hv (by rw [f5.2 27 (by decide)]; exact i2.lo) hy (fun i hi h => ha i hi (fun j hj hk3 => ?_)) (fun c hc hp hq => ?_) (fun c hc hp => by rw [hp, decide_eq_true hc]; simp)
            · have hm := here_mem.mp (getD_mem (show j < (here P n).length by omega))
              exact h _ hm.1 (by rw [← hP]; exact hm.2) (decide_eq_true hk3)
            · rw [← hP] at hp
              obtain ⟨j1, j2⟩ := here_ix hc hp
              have := hb _ (show (here P c).length < k by omega) (by rw [j2]; exact of_decide_eq_true hq)
              rw [j2] at this; exact this
          refine J_aload_n hS dX8_untaught_87 rfl ?_
          refine J_iload_n hS dX8_untaught_88 rfl ?_
          refine J_iload_n hS dX8_untaught_89 rfl ?_
          refine J_callV2 (X' := fun _ _ => False) hS dX8_untaught_90 mvX8_368 ob162 rfl (by first | decide | omega) (by decide) (Nat.le_of_ble_eq_true rfl) ⟨Nat.le_trans (by decide) hR.1, Nat.le_trans (by decide) hR.2⟩ (fun _ _ q => q.elim) (m_triesH hT (by omega) (fun g6 x6 h6 => ?_))
          refine J_aload_n hS dX8_untaught_93 rfl ?_
          refine J_iload_n hS dX8_untaught_94 rfl ?_
          refine J_iload_n hS dX8_untaught_95 rfl ?_
          refine J_callV2 (X' := fun _ _ => False) hS dX8_untaught_96 mvX8_353 ob162 rfl (by first | decide | omega) (by decide) (Nat.le_of_ble_eq_true rfl) ⟨Nat.le_trans (by decide) hR.1, Nat.le_trans (by decide) hR.2⟩ (fun _ _ q => q.elim) (m_heldH h6 ho (fun g7 d1 d2 d3 => ?_))
          have f7 : FrB g2 g7 := (f5.trans (FrB.x x6)).held d1 d2
          refine J_istore (lt := fun x5 => [some (.ref 162), some (.int (nI y)), some (.int (nI m)), some (.int (nI o)), some (.int x5)]) hS dX8_untaught_99 (Nat.le_of_ble_eq_true rfl) (fun _ => rfl) (fun x5 ex5 => ?_)
          refine J_aload_n hS dX8_untaught_101 rfl ?_
          refine J_aload_n hS dX8_untaught_102 rfl ?_
          refine J_getR (t := 164) hS dX8_untaught_103 flX8_13 ob162 rfl ?_
          refine J_putD hS dX8_untaught_106 fpX8_20 (by first | exact Or.inl ⟨_, rfl⟩ | exact Or.inr ⟨_, rfl⟩) ob162 rfl Rw4.ab (by first | exact Or.inl rfl | exact Or.inr ⟨_, rfl⟩) (fun g106 eg106 => ?_)
          refine J_iload hS dX8_untaught_109 rfl ?_
          refine J_iret hS hZ hr dX8_untaught_111 (by omega) (by omega) ?_
          rw [ex5]
          exact qq g106 (z2.trans ((show FrB g2 g106 by rw [eg106]; exact f7.w).z i2.w3 (by rw [eg106, u2_self]))) (by rw [eg106, u2_at, if_neg (by decide), f7.2 0 (by decide)]; exact t2)
        · exact absurd (by rw [e]; exact Int32.le_refl _) c2
      | succ t ih =>
        intro k v g5 hk hv' f5 w5 h41 h205 ha hb
        subst hv'
        have hkL : k < (here P n).length := by omega
        have hm := here_mem.mp (getD_mem hkL)
        obtain ⟨c, hc⟩ : ∃ c, c = (here P n).getD k 0 := ⟨_, rfl⟩
        rw [← hc] at hm
        refine J_iload hS dX8_untaught_33 rfl ?_
        refine J_aload_n hS dX8_untaught_35 rfl ?_
        refine J_getI hS dX8_untaught_36 flX8_335 ob162 rfl ?_
        show J S 0 0 (g5) 39 [some (.ref 162), some (.int (nI y)), some (.int (nI m)), some (.int (nI o)), some (.int (nI k))] [.int _, .int (nI k)]
        rw [h41]
        refine J_icmp_ge (tgt := 87) hS dX8_untaught_39 (by decide) (fun c2 => ?_) (fun c2 => ?_)
        · exact absurd c2 (nI_ge hkL (by omega))
        ·
          refine J_aload_n hS dX8_untaught_42 rfl ?_
          refine J_getD (v := .ref 165) hS dX8_untaught_43 flX8_20 ob162 rfl (wI Rw5 w5) ?_
          refine J_aload_n hS dX8_untaught_46 rfl ?_
          refine J_getR (t := 205) hS dX8_untaught_47 flX8_74 ob162 rfl ?_
          refine J_iload hS dX8_untaught_50 rfl ?_
          refine J_ialdN hS (k) dX8_untaught_52 (show Ar lay NC .int 205 24 from arM 42 24 (by decide) (by decide) rfl) (by first | rfl | (simp only [n0, n1, n2, n3, n4, n5, n6, n7, n8, n9, n10, n11, n12, n13, n14, n15, n16, n17, n18, n19, n20, n24, n32, n56, n60, n64, n72, n99, n100, n128, n136, n142, n144, n200, n300, n999, n1000, n1500, n3464, nI_add, pk_mul] <;> first | rfl | (congr 1; omega))) (by omega) (by decide) ?_
          show J S 0 0 (g5) 53 [some (.ref 162), some (.int (nI y)), some (.int (nI m)), some (.int (nI o)), some (.int (nI k))] [.int _, .ref 165]
          rw [h205 k hkL, ← hc]
          refine J_callS1 (X' := fun _ _ => False) hS dX8_untaught_53 msX8_121 rfl (by first | decide | omega) (by decide) (Nat.le_of_ble_eq_true rfl) ⟨Nat.le_trans (by decide) hR.1, Nat.le_trans (by decide) hR.2⟩ (fun _ _ q => q.elim) (m_at ?_)
          refine J_iconst (v := 4) hS dX8_untaught_56 (by decide) ?_
          refine J_iadd hS dX8_untaught_57 ?_
          refine J_ialdN hS (56 + 142 * c + 4) dX8_untaught_58 Rw5.ar (by rw [n4, nI_add]) (by omega) (by decide) ?_
          show J S 0 0 (g5) 59 [some (.ref 162), some (.int (nI y)), some (.int (nI m)), some (.int (nI o)), some (.int (nI k))] [.int _]
          rw [ha (56 + 142 * c + 4) (by omega) (fun j _ _ => by omega)]
          refine J_iconst (v := 3) hS dX8_untaught_59 (by decide) ?_
          refine J_icmp_ne (tgt := 81) hS dX8_untaught_60 (by decide) (fun c3 => ?_) (fun c3 => ?_)
          ·
            refine J_iinc (lt := fun v2 => [some (.ref 162), some (.int (nI y)), some (.int (nI m)), some (.int (nI o)), some (.int v2)]) (v := 1) hS dX8_untaught_81 rfl (by decide) (fun _ => rfl) (fun v2 ev2 => ?_)
            refine J_goto (tgt := 33) hS dX8_untaught_84 (by decide) ?_
            refine ih (k + 1) v2 g5 (by omega) (by rw [ev2]; exact nI_1 k) f5 w5 h41 h205 (fun i hi h => ha i hi (fun j hj => h j (by omega))) (fun j hj h3 => ?_)
            by_cases e : j = k
            · subst e; rw [← hc] at h3; exact absurd h3 c3
            · exact hb j (by omega) h3
          ·
            refine J_aload_n hS dX8_untaught_63 rfl ?_
            refine J_getD (v := .ref 165) hS dX8_untaught_64 flX8_20 ob162 rfl (wI Rw5 w5) ?_
            refine J_aload_n hS dX8_untaught_67 rfl ?_
            refine J_getR (t := 205) hS dX8_untaught_68 flX8_74 ob162 rfl ?_
            refine J_iload hS dX8_untaught_71 rfl ?_
            refine J_ialdN hS (k) dX8_untaught_73 (show Ar lay NC .int 205 24 from arM 42 24 (by decide) (by decide) rfl) (by first | rfl | (simp only [n0, n1, n2, n3, n4, n5, n6, n7, n8, n9, n10, n11, n12, n13, n14, n15, n16, n17, n18, n19, n20, n24, n32, n56, n60, n64, n72, n99, n100, n128, n136, n142, n144, n200, n300, n999, n1000, n1500, n3464, nI_add, pk_mul] <;> first | rfl | (congr 1; omega))) (by omega) (by decide) ?_
            show J S 0 0 (g5) 74 [some (.ref 162), some (.int (nI y)), some (.int (nI m)), some (.int (nI o)), some (.int (nI k))] [.int _, .ref 165]
            rw [h205 k hkL, ← hc]
            refine J_callS1 (X' := fun _ _ => False) hS dX8_untaught_74 msX8_121 rfl (by first | decide | omega) (by decide) (Nat.le_of_ble_eq_true rfl) ⟨Nat.le_trans (by decide) hR.1, Nat.le_trans (by decide) hR.2⟩ (fun _ _ q => q.elim) (m_at ?_)
            refine J_iconst (v := 3) hS dX8_untaught_77 (by decide) ?_
            refine J_iadd hS dX8_untaught_78 ?_
            refine J_iconst (v := 0) hS dX8_untaught_79 (by decide) ?_
            refine J_iastN hS (56 + 142 * c + 3) dX8_untaught_80 Rw5.ar (by rw [n3, nI_add]) (by omega) (by decide) (fun g80 eg80 => ?_)
            refine J_iinc (lt := fun v2 => [some (.ref 162), some (.int (nI y)), some (.int (nI m)), some (.int (nI o)), some (.int v2)]) (v := 1) hS dX8_untaught_81 rfl (by decide) (fun _ => rfl) (fun v2 ev2 => ?_)
            refine J_goto (tgt := 33) hS dX8_untaught_84 (by decide) ?_
            refine ih (k + 1) v2 g80 (by omega) (by rw [ev2]; exact nI_1 k) (by rw [eg80]; exact f5.put) (by rw [eg80, u2_ne 162 (by decide)]; exact w5) (by rw [eg80, u2_ne 162 (by decide)]; exact h41) (fun j hj => by rw [eg80, u2_ne 205 (by decide)]; exact h205 j hj) (fun i hi h => ?_) (fun j hj h3 => ?_)
            · have := h k (by omega) (by rw [← hc]; exact c3)
              rw [← hc] at this
              rw [eg80, u2_at, if_neg this]; exact ha i hi (fun j hj => h j (by omega))
            · rw [eg80, u2_at]
              split
              · rfl
              · rename_i e
                by_cases e' : j = k
                · subst e'; rw [← hc] at e; exact absurd rfl e
                · exact hb j (by omega) h3
    · exact absurd c1 (by decide)
  ·
    refine J_iload_n hS dX8_untaught_6 rfl ?_
    refine J_iload_n hS dX8_untaught_7 rfl ?_
    refine J_iload_n hS dX8_untaught_8 rfl ?_
    refine J_callS3 (X' := fun _ _ => False) hS dX8_untaught_9 msX8_374 rfl (by first | decide | omega) (by decide) (Nat.le_of_ble_eq_true rfl) ⟨Nat.le_trans (by decide) hR.1, Nat.le_trans (by decide) hR.2⟩ (fun _ _ q => q.elim) (m_runN hbad ?_)
    refine J_iconst (v := 1) hS dX8_untaught_12 (by decide) ?_
    refine J_callV2 (X' := fun _ _ => False) hS dX8_untaught_13 mvX8_110 ob162 rfl (by first | decide | omega) (by decide) (Nat.le_of_ble_eq_true rfl) ⟨Nat.le_trans (by decide) hR.1, Nat.le_trans (by decide) hR.2⟩ (fun _ _ q => q.elim) (m_mayN t2 (by decide) ?_)
    refine J_if_ne (tgt := 21) hS dX8_untaught_16 (by decide) (fun c1 => ?_) (fun c1 => ?_)
    · exact absurd rfl c1
    ·
      refine J_iconst (v := 0) hS dX8_untaught_19 (by decide) ?_
      refine J_iret hS hZ hr dX8_untaught_20 (by omega) (by omega) ?_
      exact x hbad _ (z2.trans FrZ_thr) (u2_self ..)
set_option maxRecDepth 10000 in
theorem m_fewest {y0 m0 o0 k0 : Int32} {Ls : List (List Cls)} (hI : RI g w n) (hL : LawsM g Ls) (hv : isLw Ls.length (w 5)) (x : ((ou 3 y0 ∨ ou 201 m0 ∨ ou 6 o0) ∨ (k0 < 1 ∨ 100 < k0)) → ∀ g', FrZ g g' → g' 162 0 = 1 → Q (some (.int 0)) g') (q : ∀ y m o, y < 3 → y0 = nI y → m < 201 → m0 = nI m → o < 6 → o0 = nI o → 1 ≤ k0 → k0 ≤ 100 → ∀ g', FrZ g g' → g' 162 0 = 0 → Q (some (.int (fwA (fun k => trC (lwOf Ls (w 5)) (-1) n y m o (mskT (kfP w n y k) w)) k0 2 ((here (thrW w (nI y)) n).length - 1)))) g') : Ct l E lay NC 6 0 0 yX8_fewest [.ref 162, .int y0, .int m0, .int k0, .int o0] g Q X := by
  have hn := hI.hn
  refine Ct_in k_yX8_fewest (by decide) rfl (Nat.le_of_ble_eq_true rfl) rfl ?_
  intro S hS hZ hr ht hR
  show J S 0 0 (g) 0 [some (.ref 162), some (.int y0), some (.int m0), some (.int k0), some (.int o0), none, none, none] []
  refine J_aload_n hS dX8_fewest_0 rfl ?_
  refine J_iconst (v := 0) hS dX8_fewest_1 (by decide) ?_
  refine J_putI hS dX8_fewest_2 fpX8_1 ob162 rfl (fun g2 eg2 => ?_)
  refine J_aload_n hS dX8_fewest_5 rfl ?_
  have z2 : FrZ g g2 := by rw [eg2]; exact FrZ_thr
  have t2 : g2 162 0 = 0 := by rw [eg2, u2_self]
  have i2 := hI.fr z2
  have L2 := hL.z z2
  have bad : ((ou 3 y0 ∨ ou 201 m0 ∨ ou 6 o0) ∨ (k0 < 1 ∨ 100 < k0)) → J S 0 0 g2 30 [some (.ref 162), some (.int y0), some (.int m0), some (.int k0), some (.int o0), none, none, none] [.ref 162] := by
    intro b1
    refine J_iconst (v := 0) hS dX8_fewest_30 (by decide) ?_
    refine J_iconst (v := 1) hS dX8_fewest_31 (by decide) ?_
    refine J_callV2 (X' := fun _ _ => False) hS dX8_fewest_32 mvX8_110 ob162 rfl (by first | decide | omega) (by decide) (Nat.le_of_ble_eq_true rfl) ⟨Nat.le_trans (by decide) hR.1, Nat.le_trans (by decide) hR.2⟩ (fun _ _ q => q.elim) (m_mayN t2 (by decide) ?_)
    refine J_if_ne (tgt := 40) hS dX8_fewest_35 (by decide) (fun c2 => ?_) (fun c2 => ?_)
    · exact absurd rfl c2
    ·
      refine J_iconst (v := 0) hS dX8_fewest_38 (by decide) ?_
      refine J_iret hS hZ hr dX8_fewest_39 (by omega) (by omega) ?_
      exact x b1 _ (z2.trans FrZ_thr) (u2_self ..)
  rcases run_or (y := y0) (m := m0) (o := o0) with ⟨a1, a2, a3⟩ | hbad
  · obtain ⟨y, hy, ey⟩ := ou_in (by decide) a1
    obtain ⟨m, hm, em⟩ := ou_in (by decide) a2
    obtain ⟨o, ho, eo⟩ := ou_in (by decide) a3
    subst ey
    subst em
    subst eo
    refine J_iload_n hS dX8_fewest_6 rfl ?_
    refine J_iload_n hS dX8_fewest_7 rfl ?_
    refine J_iload hS dX8_fewest_8 rfl ?_
    refine J_callS3 (X' := fun _ _ => False) hS dX8_fewest_10 msX8_374 rfl (by first | decide | omega) (by decide) (Nat.le_of_ble_eq_true rfl) ⟨Nat.le_trans (by decide) hR.1, Nat.le_trans (by decide) hR.2⟩ (fun _ _ q => q.elim) (m_runY hy hm ho ?_)
    refine J_if_eq (tgt := 30) hS dX8_fewest_13 (by decide) (fun c1 => ?_) (fun c1 => ?_)
    · exact absurd c1 (by decide)
    · by_cases hk : k0 < 1 ∨ 100 < k0
      ·
        refine J_iload_n hS dX8_fewest_16 rfl ?_
        refine J_iconst (v := 1) hS dX8_fewest_17 (by decide) ?_
        refine J_bipush (v := 100) hS dX8_fewest_18 (by decide) ?_
        refine J_callS3 (X' := fun _ _ => False) hS dX8_fewest_20 msX8_106 rfl (by first | decide | omega) (by decide) (Nat.le_of_ble_eq_true rfl) ⟨Nat.le_trans (by decide) hR.1, Nat.le_trans (by decide) hR.2⟩ (fun _ _ q => q.elim) (m_winN (fun z => hk.elim (fun a => Int32.not_lt.mpr z.1 a) (fun a => Int32.not_lt.mpr z.2 a)) ?_)
        refine J_if_eq (tgt := 30) hS dX8_fewest_23 (by decide) (fun c2 => ?_) (fun c2 => ?_)
        · exact bad (Or.inr hk)
        · exact absurd rfl c2
      · have h1 : 1 ≤ k0 := Int32.not_lt.mp (fun z => hk (Or.inl z))
        have h100 : k0 ≤ 100 := Int32.not_lt.mp (fun z => hk (Or.inr z))
        refine J_iload_n hS dX8_fewest_16 rfl ?_
        refine J_iconst (v := 1) hS dX8_fewest_17 (by decide) ?_
        refine J_bipush (v := 100) hS dX8_fewest_18 (by decide) ?_
        refine J_callS3 (X' := fun _ _ => False) hS dX8_fewest_20 msX8_106 rfl (by first | decide | omega) (by decide) (Nat.le_of_ble_eq_true rfl) ⟨Nat.le_trans (by decide) hR.1, Nat.le_trans (by decide) hR.2⟩ (fun _ _ q => q.elim) (m_winY ⟨h1, h100⟩ ?_)
        refine J_if_eq (tgt := 30) hS dX8_fewest_23 (by decide) (fun c2 => ?_) (fun c2 => ?_)
        · exact absurd c2 (by decide)
        ·
          refine J_iconst (v := 1) hS dX8_fewest_26 (by decide) ?_
          refine J_goto (tgt := 31) hS dX8_fewest_27 (by decide) ?_
          refine J_iconst (v := 1) hS dX8_fewest_31 (by decide) ?_
          refine J_callV2 (X' := fun _ _ => False) hS dX8_fewest_32 mvX8_110 ob162 rfl (by first | decide | omega) (by decide) (Nat.le_of_ble_eq_true rfl) ⟨Nat.le_trans (by decide) hR.1, Nat.le_trans (by decide) hR.2⟩ (fun _ _ q => q.elim) (m_mayY t2 (by decide) ?_)
          refine J_if_ne (tgt := 40) hS dX8_fewest_35 (by decide) (fun c3 => ?_) (fun c3 => ?_)
          · obtain ⟨P, hP⟩ : ∃ P : Nat → Bool, P = thrW w (nI y) := ⟨_, rfl⟩
            obtain ⟨F, hF⟩ : ∃ F : Nat → Nat, F = fun k => trC (lwOf Ls (w 5)) (-1) n y m o (mskT (kfP w n y k) w) := ⟨_, rfl⟩
            have hln := here_len P n
            have qq := q y m o hy rfl hm rfl ho rfl h1 h100
            rw [← hF, ← hP] at qq
            obtain ⟨R, hR0⟩ : ∃ R : Int32, R = fwA F k0 2 ((here P n).length - 1) := ⟨_, rfl⟩
            rw [← hR0] at qq
            refine J_aload_n hS dX8_fewest_40 rfl ?_
            refine J_iload_n hS dX8_fewest_41 rfl ?_
            refine J_callV1 (X' := fun _ _ => False) hS dX8_fewest_42 mvX8_344 ob162 rfl (by first | decide | omega) (by decide) (Nat.le_of_ble_eq_true rfl) ⟨Nat.le_trans (by decide) hR.1, Nat.le_trans (by decide) hR.2⟩ (fun _ _ q => q.elim) (m_findHere (p := P) Rw4 i2.w3 hn i2.m6 (by rw [hP]; exact i2.tm) (fun g3 b1 b2 b3 b4 => ?_))
            have f3 : FrB g2 g3 := FrB.refl.find b1 b2
            have w3 : g3 162 3 = nI 164 := by rw [b2 3 (by decide)]; exact i2.w3
            refine J_aload_n hS dX8_fewest_45 rfl ?_
            refine J_getI hS dX8_fewest_46 flX8_335 ob162 rfl ?_
            show J S 0 0 (g3) 49 [some (.ref 162), some (.int (nI y)), some (.int (nI m)), some (.int k0), some (.int (nI o)), none, none, none] [.int _]
            rw [b3]
            refine J_istore (lt := fun x5 => [some (.ref 162), some (.int (nI y)), some (.int (nI m)), some (.int k0), some (.int (nI o)), some (.int x5), none, none]) hS dX8_fewest_49 (Nat.le_of_ble_eq_true rfl) (fun _ => rfl) (fun x5 ex5 => ?_)
            refine J_iconst (v := 2) hS dX8_fewest_51 (by decide) ?_
            refine J_istore (lt := fun x6 => [some (.ref 162), some (.int (nI y)), some (.int (nI m)), some (.int k0), some (.int (nI o)), some (.int x5), some (.int x6), none]) hS dX8_fewest_52 (Nat.le_of_ble_eq_true rfl) (fun _ => rfl) (fun x6 ex6 => ?_)
            rw [show x5 = nI (here P n).length from ex5]
            suffices H : ∀ (r k : Nat) (v : Int32) (v7 : Option Value) (g3 : Mm), 2 ≤ k → (k + r = (here P n).length + 1 ∨ (r = 0 ∧ (here P n).length < k)) → k ≤ 30 → v = nI k → fwA F k0 k r = R → FrB g2 g3 → g3 162 3 = nI 164 → J S 0 0 g3 54 [some (.ref 162), some (.int (nI y)), some (.int (nI m)), some (.int k0), some (.int (nI o)), some (.int (nI (here P n).length)), some (.int v), v7] [] by
              exact H ((here P n).length - 1) 2 x6 none g3 (by omega) (by omega) (by omega) ex6 hR0.symm f3 w3
            intro r
            induction r with
            | zero =>
              intro k v v7 g3 hk2 hkr hk30 hv' hfw f3 w3
              subst hv'
              have hlt : (here P n).length < k := by omega
              refine J_weak (ls' := [some (.ref 162), some (.int (nI y)), some (.int (nI m)), some (.int k0), some (.int (nI o)), some (.int (nI (here P n).length)), some (.int (nI k)), none]) ⟨Or.inr rfl, Or.inr rfl, Or.inr rfl, Or.inr rfl, Or.inr rfl, Or.inr rfl, Or.inr rfl, Or.inl rfl, trivial⟩ ?_
              refine J_iload hS dX8_fewest_54 rfl ?_
              refine J_iload hS dX8_fewest_56 rfl ?_
              refine J_icmp_gt (tgt := 149) hS dX8_fewest_58 (by decide) (fun d1 => ?_) (fun d1 => ?_)
              ·
                refine J_iconst (v := (-1)) hS dX8_fewest_149 (by decide) ?_
                refine J_iret hS hZ hr dX8_fewest_150 (by omega) (by omega) ?_
                rw [show (-1 : Int32) = R from hfw]
                exact qq g3 (z2.trans (f3.z i2.w3 w3)) (by rw [f3.2 0 (by decide)]; exact t2)
              · exact absurd (nI_lt hlt (by omega)) d1
            | succ r ih =>
              intro k v v7 g3 hk2 hkr hk30 hv' hfw f3 w3
              subst hv'
              have hkL : k ≤ (here P n).length := by omega
              have hfw' : (if nI k * k0 ≤ nI (F k) * 100 then nI k else fwA F k0 (k + 1) r) = R := hfw
              refine J_weak (ls' := [some (.ref 162), some (.int (nI y)), some (.int (nI m)), some (.int k0), some (.int (nI o)), some (.int (nI (here P n).length)), some (.int (nI k)), none]) ⟨Or.inr rfl, Or.inr rfl, Or.inr rfl, Or.inr rfl, Or.inr rfl, Or.inr rfl, Or.inr rfl, Or.inl rfl, trivial⟩ ?_
              refine J_iload hS dX8_fewest_54 rfl ?_
              refine J_iload hS dX8_fewest_56 rfl ?_
              refine J_icmp_gt (tgt := 149) hS dX8_fewest_58 (by decide) (fun d1 => ?_) (fun d1 => ?_)
              · exact absurd d1 (Int32.not_lt.mpr (nI_le hkL (by omega)))
              ·
                refine J_aload_n hS dX8_fewest_61 rfl ?_
                refine J_callV0 (X' := fun _ _ => False) hS dX8_fewest_62 mvX8_365 ob162 rfl (by first | decide | omega) (by decide) (Nat.le_of_ble_eq_true rfl) ⟨Nat.le_trans (by decide) hR.1, Nat.le_trans (by decide) hR.2⟩ (fun _ _ q => q.elim) (m_begins (fun g4 b1 b2 b3 b4 => ?_))
                have f4 : FrB g2 g4 := f3.trans (FrB.beg b1 b2)
                have r4 : ∀ i, i < 3464 → g4 165 i = w i := fun i hi => by rw [b4 i hi]; exact (i2.j.fb f3).1 i hi
                have M4 : RowM g4 165 w w := fun i hi => ⟨fun _ => r4 i hi, fun _ => r4 i hi⟩
                have T4 : ThM g4 165 n (nI y) P := by rw [hP]; exact ThM_b M4 hn (fun c hc => ⟨rfl, hI.th c (by omega)⟩)
                refine J_aload_n hS dX8_fewest_65 rfl ?_
                refine J_iload_n hS dX8_fewest_66 rfl ?_
                refine J_callV1 (X' := fun _ _ => False) hS dX8_fewest_67 mvX8_344 ob162 rfl (by first | decide | omega) (by decide) (Nat.le_of_ble_eq_true rfl) ⟨Nat.le_trans (by decide) hR.1, Nat.le_trans (by decide) hR.2⟩ (fun _ _ q => q.elim) (m_findHere Rw5 b3 hn (by rw [r4 6 (by decide)]; exact hI.mn) T4 (fun g5 k1 k2 k3 k4 => ?_))
                have f5 : FrB g2 g5 := f4.find k1 k2
                have w5 : g5 162 3 = nI 165 := by rw [k2 3 (by decide)]; exact b3
                have r5 : ∀ i, i < 3464 → g5 165 i = w i := fun i hi => by rw [k1 165 (by decide) (by decide)]; exact r4 i hi
                refine J_iload hS dX8_fewest_70 rfl ?_
                refine J_istore (lt := fun x7 => [some (.ref 162), some (.int (nI y)), some (.int (nI m)), some (.int k0), some (.int (nI o)), some (.int (nI (here P n).length)), some (.int (nI k)), some (.int x7)]) hS dX8_fewest_72 (Nat.le_of_ble_eq_true rfl) (fun _ => rfl) (fun x7 ex7 => ?_)
                suffices H2 : ∀ (t j : Nat) (v : Int32) (g6 : Mm), j + t = (here P n).length → k ≤ j → v = nI j → FrB g2 g6 → g6 162 3 = nI 165 → (∀ j, j < (here P n).length → g6 205 j = nI ((here P n).getD j 0)) → (∀ i, i < 3464 → (∀ i', k ≤ i' → i' < j → i ≠ 56 + 142 * (here P n).getD i' 0 + 3) → g6 165 i = w i) → (∀ i', k ≤ i' → i' < j → g6 165 (56 + 142 * (here P n).getD i' 0 + 3) = 0) → J S 0 0 g6 74 [some (.ref 162), some (.int (nI y)), some (.int (nI m)), some (.int k0), some (.int (nI o)), some (.int (nI (here P n).length)), some (.int (nI k)), some (.int v)] [] by
                  exact H2 ((here P n).length - k) k x7 g5 (by omega) (Nat.le_refl _) ex7 f5 w5 k4 (fun i hi _ => r5 i hi) (fun i' h1 h2 => absurd h2 (by omega))
                intro t
                induction t with
                | zero =>
                  intro j v g6 hj hkj hv' f6 w6 h205 ha hb
                  have e : j = (here P n).length := by omega
                  subst hv'
                  refine J_iload hS dX8_fewest_74 rfl ?_
                  refine J_iload hS dX8_fewest_76 rfl ?_
                  refine J_icmp_ge (tgt := 105) hS dX8_fewest_78 (by decide) (fun d2 => ?_) (fun d2 => ?_)
                  · have hT : TrH g6 (mskT (kfP w n y k) w) (g6 165) n y (lwOf Ls (w 5)) (-1) := by
                      refine TrH_msk (q := fun c => !decide ((here P c).length < k)) w6 (i2.j.fb f6) (L2.fb f6) hv (by rw [f6.2 27 (by decide)]; exact i2.lo) hy (fun i hi h => ha i hi (fun i' hi1 hi2 => ?_)) (fun c hc hp hq => ?_) (fun c hc hp => by unfold kfP; rw [decide_eq_true hc, hp, ← hP]; simp)
                      · have hm := here_mem.mp (getD_mem (show i' < (here P n).length by omega))
                        refine h _ hm.1 (by rw [← hP]; exact hm.2) ?_
                        obtain ⟨j1, j2⟩ := here_ix hm.1 hm.2
                        have : (here P ((here P n).getD i' 0)).length = i' := by
                          refine Decidable.byContradiction (fun z => getD_ne (here_nodup P n) j1 (show i' < (here P n).length by omega) z j2)
                        rw [this]; simp; omega
                      · rw [← hP] at hp
                        obtain ⟨j1, j2⟩ := here_ix hc hp
                        have hge : k ≤ (here P c).length := by simpa using hq
                        have := hb _ hge (by omega)
                        rw [j2] at this; exact this
                    refine J_aload_n hS dX8_fewest_105 rfl ?_
                    refine J_iload_n hS dX8_fewest_106 rfl ?_
                    refine J_iload_n hS dX8_fewest_107 rfl ?_
                    refine J_callV2 (X' := fun _ _ => False) hS dX8_fewest_108 mvX8_368 ob162 rfl (by first | decide | omega) (by decide) (Nat.le_of_ble_eq_true rfl) ⟨Nat.le_trans (by decide) hR.1, Nat.le_trans (by decide) hR.2⟩ (fun _ _ q => q.elim) (m_triesH hT (by omega) (fun g7 x7 h7 => ?_))
                    refine J_aload_n hS dX8_fewest_111 rfl ?_
                    refine J_iload_n hS dX8_fewest_112 rfl ?_
                    refine J_iload hS dX8_fewest_113 rfl ?_
                    refine J_callV2 (X' := fun _ _ => False) hS dX8_fewest_115 mvX8_353 ob162 rfl (by first | decide | omega) (by decide) (Nat.le_of_ble_eq_true rfl) ⟨Nat.le_trans (by decide) hR.1, Nat.le_trans (by decide) hR.2⟩ (fun _ _ q => q.elim) (m_heldH h7 ho (fun g8 e1 e2 e3 => ?_))
                    have f8 : FrB g2 g8 := (f6.trans (FrB.x x7)).held e1 e2
                    show J S 0 0 (g8) 118 [some (.ref 162), some (.int (nI y)), some (.int (nI m)), some (.int k0), some (.int (nI o)), some (.int (nI (here P n).length)), some (.int (nI k)), some (.int (nI j))] [.int (nI (trC (lwOf Ls (w 5)) (-1) n y m o (mskT (kfP w n y k) w)))]
                    rw [show trC (lwOf Ls (w 5)) (-1) n y m o (mskT (kfP w n y k) w) = F k by rw [hF]]
                    refine J_istore (lt := fun x8 => [some (.ref 162), some (.int (nI y)), some (.int (nI m)), some (.int k0), some (.int (nI o)), some (.int (nI (here P n).length)), some (.int (nI k)), some (.int x8)]) hS dX8_fewest_118 (Nat.le_of_ble_eq_true rfl) (fun _ => rfl) (fun x8 ex8 => ?_)
                    refine J_aload_n hS dX8_fewest_120 rfl ?_
                    refine J_aload_n hS dX8_fewest_121 rfl ?_
                    refine J_getR (t := 164) hS dX8_fewest_122 flX8_13 ob162 rfl ?_
                    refine J_putD hS dX8_fewest_125 fpX8_20 (by first | exact Or.inl ⟨_, rfl⟩ | exact Or.inr ⟨_, rfl⟩) ob162 rfl Rw4.ab (by first | exact Or.inl rfl | exact Or.inr ⟨_, rfl⟩) (fun g125 eg125 => ?_)
                    refine J_bipush (v := 100) hS dX8_fewest_128 (by decide) ?_
                    refine J_iload hS dX8_fewest_130 rfl ?_
                    refine J_imul hS dX8_fewest_132 ?_
                    refine J_iload hS dX8_fewest_133 rfl ?_
                    refine J_iload_n hS dX8_fewest_135 rfl ?_
                    refine J_imul hS dX8_fewest_136 ?_
                    have f9 : FrB g2 g125 := by rw [eg125]; exact f8.w
                    have w9 : g125 162 3 = nI 164 := by rw [eg125, u2_self]
                    show J S 0 0 (g125) 137 [some (.ref 162), some (.int (nI y)), some (.int (nI m)), some (.int k0), some (.int (nI o)), some (.int (nI (here P n).length)), some (.int (nI k)), some (.int x8)] [.int _, .int _]
                    rw [show x8 = nI (F k) from ex8, Int32.mul_comm 100]
                    refine J_icmp_lt (tgt := 143) hS dX8_fewest_137 (by decide) (fun d3 => ?_) (fun d3 => ?_)
                    · rw [if_neg (Int32.not_le.mpr d3)] at hfw'
                      refine J_iinc (lt := fun v2 => [some (.ref 162), some (.int (nI y)), some (.int (nI m)), some (.int k0), some (.int (nI o)), some (.int (nI (here P n).length)), some (.int v2), some (.int (nI (F k)))]) (v := 1) hS dX8_fewest_143 rfl (by decide) (fun _ => rfl) (fun v2 ev2 => ?_)
                      refine J_goto (tgt := 54) hS dX8_fewest_146 (by decide) ?_
                      exact ih (k + 1) v2 _ g125 (by omega) (by omega) (by omega) (by rw [ev2]; exact nI_1 k) hfw' f9 w9
                    · rw [if_pos (Int32.not_lt.mp d3)] at hfw'
                      refine J_iload hS dX8_fewest_140 rfl ?_
                      refine J_iret hS hZ hr dX8_fewest_142 (by omega) (by omega) ?_
                      rw [hfw']
                      exact qq g125 (z2.trans (f9.z i2.w3 w9)) (by rw [f9.2 0 (by decide)]; exact t2)
                  · exact absurd (by rw [e]; exact Int32.le_refl _) d2
                | succ t ih2 =>
                  intro j v g6 hj hkj hv' f6 w6 h205 ha hb
                  subst hv'
                  have hjL : j < (here P n).length := by omega
                  have hm := here_mem.mp (getD_mem hjL)
                  obtain ⟨c, hc⟩ : ∃ c, c = (here P n).getD j 0 := ⟨_, rfl⟩
                  rw [← hc] at hm
                  refine J_iload hS dX8_fewest_74 rfl ?_
                  refine J_iload hS dX8_fewest_76 rfl ?_
                  refine J_icmp_ge (tgt := 105) hS dX8_fewest_78 (by decide) (fun d2 => ?_) (fun d2 => ?_)
                  · exact absurd d2 (nI_ge hjL (by omega))
                  ·
                    refine J_aload_n hS dX8_fewest_81 rfl ?_
                    refine J_getD (v := .ref 165) hS dX8_fewest_82 flX8_20 ob162 rfl (wI Rw5 w6) ?_
                    refine J_aload_n hS dX8_fewest_85 rfl ?_
                    refine J_getR (t := 205) hS dX8_fewest_86 flX8_74 ob162 rfl ?_
                    refine J_iload hS dX8_fewest_89 rfl ?_
                    refine J_ialdN hS (j) dX8_fewest_91 (show Ar lay NC .int 205 24 from arM 42 24 (by decide) (by decide) rfl) (by first | rfl | (simp only [n0, n1, n2, n3, n4, n5, n6, n7, n8, n9, n10, n11, n12, n13, n14, n15, n16, n17, n18, n19, n20, n24, n32, n56, n60, n64, n72, n99, n100, n128, n136, n142, n144, n200, n300, n999, n1000, n1500, n3464, nI_add, pk_mul] <;> first | rfl | (congr 1; omega))) (by omega) (by decide) ?_
                    show J S 0 0 (g6) 92 [some (.ref 162), some (.int (nI y)), some (.int (nI m)), some (.int k0), some (.int (nI o)), some (.int (nI (here P n).length)), some (.int (nI k)), some (.int (nI j))] [.int _, .ref 165]
                    rw [h205 j hjL, ← hc]
                    refine J_callS1 (X' := fun _ _ => False) hS dX8_fewest_92 msX8_121 rfl (by first | decide | omega) (by decide) (Nat.le_of_ble_eq_true rfl) ⟨Nat.le_trans (by decide) hR.1, Nat.le_trans (by decide) hR.2⟩ (fun _ _ q => q.elim) (m_at ?_)
                    refine J_iconst (v := 3) hS dX8_fewest_95 (by decide) ?_
                    refine J_iadd hS dX8_fewest_96 ?_
                    refine J_iconst (v := 0) hS dX8_fewest_97 (by decide) ?_
                    refine J_iastN hS (56 + 142 * c + 3) dX8_fewest_98 Rw5.ar (by rw [n3, nI_add]) (by omega) (by decide) (fun g98 eg98 => ?_)
                    refine J_iinc (lt := fun v2 => [some (.ref 162), some (.int (nI y)), some (.int (nI m)), some (.int k0), some (.int (nI o)), some (.int (nI (here P n).length)), some (.int (nI k)), some (.int v2)]) (v := 1) hS dX8_fewest_99 rfl (by decide) (fun _ => rfl) (fun v2 ev2 => ?_)
                    refine J_goto (tgt := 74) hS dX8_fewest_102 (by decide) ?_
                    refine ih2 (j + 1) v2 g98 (by omega) (by omega) (by rw [ev2]; exact nI_1 j) (by rw [eg98]; exact f6.put) (by rw [eg98, u2_ne 162 (by decide)]; exact w6) (fun i hi => by rw [eg98, u2_ne 205 (by decide)]; exact h205 i hi) (fun i hi h => ?_) (fun i' h1 h2 => ?_)
                    · have := h j hkj (by omega)
                      rw [← hc] at this
                      rw [eg98, u2_at, if_neg this]; exact ha i hi (fun i' h1 h2 => h i' h1 (by omega))
                    · rw [eg98, u2_at]
                      split
                      · rfl
                      · rename_i e
                        by_cases e' : i' = j
                        · subst e'; rw [← hc] at e; exact absurd rfl e
                        · exact hb i' h1 (by omega)
          · exact absurd c3 (by decide)
  ·
    refine J_iload_n hS dX8_fewest_6 rfl ?_
    refine J_iload_n hS dX8_fewest_7 rfl ?_
    refine J_iload hS dX8_fewest_8 rfl ?_
    refine J_callS3 (X' := fun _ _ => False) hS dX8_fewest_10 msX8_374 rfl (by first | decide | omega) (by decide) (Nat.le_of_ble_eq_true rfl) ⟨Nat.le_trans (by decide) hR.1, Nat.le_trans (by decide) hR.2⟩ (fun _ _ q => q.elim) (m_runN hbad ?_)
    refine J_if_eq (tgt := 30) hS dX8_fewest_13 (by decide) (fun c1 => ?_) (fun c1 => ?_)
    · exact bad (Or.inl hbad)
    · exact absurd rfl c1
set_option maxRecDepth 10000 in
theorem m_meets {a b : Int32} (hI : RI g w n) (x : ou n a ∨ ou n b → ∀ g', FrZ g g' → g' 162 0 = 1 → Q (some (.int 0)) g') (x2 : ¬ ou n a → ¬ ou n b → a = b → ∀ g', FrZ g g' → g' 162 0 = 2 → Q (some (.int 0)) g')
    (q1 : ∀ i j, i < n → a = nI i → j < n → b = nI j → i ≠ j → ¬ togW w i j → ∀ g', FrZ g g' → g' 162 0 = 0 → Q (some (.int (-1))) g')
    (q : ∀ i j y, i < n → a = nI i → j < n → b = nI j → i ≠ j → togW w i j → y < 3 → w (56 + 142 * i) = nI y → ∀ g', FrZ g g' → g' 162 0 = 0 → Q (some (.int (nI (here (fun k => decide (tRt w i j y (mnK k) = 1)) 64).length))) g') : Ct l E lay NC 3 0 0 yX8_meets [.ref 162, .int a, .int b] g Q X := by
  have hn := hI.hn
  refine Ct_in k_yX8_meets (by decide) rfl (Nat.le_of_ble_eq_true rfl) rfl ?_
  intro S hS hZ hr ht hR
  show J S 0 0 (g) 0 [some (.ref 162), some (.int a), some (.int b), none, none] []
  refine J_aload_n hS dX8_meets_0 rfl ?_
  refine J_iconst (v := 0) hS dX8_meets_1 (by decide) ?_
  refine J_putI hS dX8_meets_2 fpX8_1 ob162 rfl (fun g2 eg2 => ?_)
  have z2 : FrZ g g2 := by rw [eg2]; exact FrZ_thr
  have t2 : g2 162 0 = 0 := by rw [eg2, u2_self]
  have i2 := hI.fr z2
  have zero : ∀ g' : Mm, Q (some (.int 0)) g' → J S 0 0 g' 39 [some (.ref 162), some (.int a), some (.int b), none, none] [] := by
    intro g' hq
    refine J_iconst (v := 0) hS dX8_meets_39 (by decide) ?_
    refine J_iret hS hZ hr dX8_meets_40 (by omega) (by omega) ?_
    exact hq
  rcases in_or (y := a) (b := n) (by first | decide | omega) with ⟨i, hi, ei⟩ | hbi
  ·
    subst ei
    refine J_aload_n hS dX8_meets_5 rfl ?_
    refine J_iload_n hS dX8_meets_6 rfl ?_
    refine J_callV1 (X' := fun _ _ => False) hS dX8_meets_7 mvX8_125 ob162 rfl (by first | decide | omega) (by decide) (Nat.le_of_ble_eq_true rfl) ⟨Nat.le_trans (by decide) hR.1, Nat.le_trans (by decide) hR.2⟩ (fun _ _ q => q.elim) (m_childY i2 t2 hi ?_)
    refine J_if_eq (tgt := 39) hS dX8_meets_10 (by decide) (fun c1 => ?_) (fun c1 => ?_)
    · exact absurd c1 (by decide)
    ·
      rcases in_or (y := b) (b := n) (by first | decide | omega) with ⟨j, hj, ej⟩ | hbj
      ·
        subst ej
        refine J_aload_n hS dX8_meets_13 rfl ?_
        refine J_iload_n hS dX8_meets_14 rfl ?_
        refine J_callV1 (X' := fun _ _ => False) hS dX8_meets_15 mvX8_125 ob162 rfl (by first | decide | omega) (by decide) (Nat.le_of_ble_eq_true rfl) ⟨Nat.le_trans (by decide) hR.1, Nat.le_trans (by decide) hR.2⟩ (fun _ _ q => q.elim) (m_childY i2 t2 hj ?_)
        refine J_if_eq (tgt := 39) hS dX8_meets_18 (by decide) (fun c2 => ?_) (fun c2 => ?_)
        · exact absurd c2 (by decide)
        ·
          refine J_aload_n hS dX8_meets_21 rfl ?_
          refine J_iload_n hS dX8_meets_22 rfl ?_
          refine J_iload_n hS dX8_meets_23 rfl ?_
          refine J_icmp_eq (tgt := 31) hS dX8_meets_24 (by decide) (fun c3 => ?_) (fun c3 => ?_)
          ·
            refine J_iconst (v := 0) hS dX8_meets_31 (by decide) ?_
            refine J_iconst (v := 2) hS dX8_meets_32 (by decide) ?_
            refine J_callV2 (X' := fun _ _ => False) hS dX8_meets_33 mvX8_110 ob162 rfl (by first | decide | omega) (by decide) (Nat.le_of_ble_eq_true rfl) ⟨Nat.le_trans (by decide) hR.1, Nat.le_trans (by decide) hR.2⟩ (fun _ _ q => q.elim) (m_mayN t2 (by decide) ?_)
            refine J_if_ne (tgt := 41) hS dX8_meets_36 (by decide) (fun c4 => ?_) (fun c4 => ?_)
            · exact absurd rfl c4
            · exact zero _ (x2 (nou hi (by omega)) (nou hj (by omega)) c3 _ (z2.trans FrZ_thr) (u2_self ..))
          · have hij : i ≠ j := fun z => c3 (by rw [z])
            refine J_iconst (v := 1) hS dX8_meets_27 (by decide) ?_
            refine J_goto (tgt := 32) hS dX8_meets_28 (by decide) ?_
            refine J_iconst (v := 2) hS dX8_meets_32 (by decide) ?_
            refine J_callV2 (X' := fun _ _ => False) hS dX8_meets_33 mvX8_110 ob162 rfl (by first | decide | omega) (by decide) (Nat.le_of_ble_eq_true rfl) ⟨Nat.le_trans (by decide) hR.1, Nat.le_trans (by decide) hR.2⟩ (fun _ _ q => q.elim) (m_mayY t2 (by decide) ?_)
            refine J_if_ne (tgt := 41) hS dX8_meets_36 (by decide) (fun c4 => ?_) (fun c4 => ?_)
            · obtain ⟨y, hy, ey⟩ := hI.ok.2.1 i (by omega)
              have noT : ¬ togW w i j → J S 0 0 g2 94 [some (.ref 162), some (.int (nI i)), some (.int (nI j)), none, none] [] := by
                intro h
                refine J_iconst (v := (-1)) hS dX8_meets_94 (by decide) ?_
                refine J_iret hS hZ hr dX8_meets_95 (by omega) (by omega) ?_
                exact q1 i j hi rfl hj rfl hij h g2 z2 t2
              refine J_aload_n hS dX8_meets_41 rfl ?_
              refine J_getR (t := 164) hS dX8_meets_42 flX8_13 ob162 rfl ?_
              refine J_iload_n hS dX8_meets_45 rfl ?_
              refine J_callS1 (X' := fun _ _ => False) hS dX8_meets_46 msX8_121 rfl (by first | decide | omega) (by decide) (Nat.le_of_ble_eq_true rfl) ⟨Nat.le_trans (by decide) hR.1, Nat.le_trans (by decide) hR.2⟩ (fun _ _ q => q.elim) (m_at ?_)
              refine J_iconst (v := 3) hS dX8_meets_49 (by decide) ?_
              refine J_iadd hS dX8_meets_50 ?_
              refine J_ialdN hS (56 + 142 * i + 3) dX8_meets_51 Rw4.ar (by rw [n3, nI_add]) (by omega) (by decide) ?_
              show J S 0 0 (g2) 52 [some (.ref 162), some (.int (nI i)), some (.int (nI j)), none, none] [.int _]
              rw [i2.row _ (by omega)]
              refine J_if_eq (tgt := 94) hS dX8_meets_52 (by decide) (fun c5 => ?_) (fun c5 => ?_)
              · exact noT (fun z => by rw [z.1] at c5; exact absurd c5 (by decide))
              ·
                refine J_aload_n hS dX8_meets_55 rfl ?_
                refine J_getR (t := 164) hS dX8_meets_56 flX8_13 ob162 rfl ?_
                refine J_iload_n hS dX8_meets_59 rfl ?_
                refine J_callS1 (X' := fun _ _ => False) hS dX8_meets_60 msX8_121 rfl (by first | decide | omega) (by decide) (Nat.le_of_ble_eq_true rfl) ⟨Nat.le_trans (by decide) hR.1, Nat.le_trans (by decide) hR.2⟩ (fun _ _ q => q.elim) (m_at ?_)
                refine J_iconst (v := 3) hS dX8_meets_63 (by decide) ?_
                refine J_iadd hS dX8_meets_64 ?_
                refine J_ialdN hS (56 + 142 * j + 3) dX8_meets_65 Rw4.ar (by rw [n3, nI_add]) (by omega) (by decide) ?_
                show J S 0 0 (g2) 66 [some (.ref 162), some (.int (nI i)), some (.int (nI j)), none, none] [.int _]
                rw [i2.row _ (by omega)]
                refine J_if_eq (tgt := 94) hS dX8_meets_66 (by decide) (fun c6 => ?_) (fun c6 => ?_)
                · exact noT (fun z => by rw [z.2.1] at c6; exact absurd c6 (by decide))
                ·
                  refine J_aload_n hS dX8_meets_69 rfl ?_
                  refine J_getR (t := 164) hS dX8_meets_70 flX8_13 ob162 rfl ?_
                  refine J_iload_n hS dX8_meets_73 rfl ?_
                  refine J_callS1 (X' := fun _ _ => False) hS dX8_meets_74 msX8_121 rfl (by first | decide | omega) (by decide) (Nat.le_of_ble_eq_true rfl) ⟨Nat.le_trans (by decide) hR.1, Nat.le_trans (by decide) hR.2⟩ (fun _ _ q => q.elim) (m_at ?_)
                  refine J_iconst (v := 0) hS dX8_meets_77 (by decide) ?_
                  refine J_iadd hS dX8_meets_78 ?_
                  refine J_ialdN hS (56 + 142 * i) dX8_meets_79 Rw4.ar (by rw [n0, nI_add]; rfl) (by omega) (by decide) ?_
                  refine J_aload_n hS dX8_meets_80 rfl ?_
                  refine J_getR (t := 164) hS dX8_meets_81 flX8_13 ob162 rfl ?_
                  refine J_iload_n hS dX8_meets_84 rfl ?_
                  refine J_callS1 (X' := fun _ _ => False) hS dX8_meets_85 msX8_121 rfl (by first | decide | omega) (by decide) (Nat.le_of_ble_eq_true rfl) ⟨Nat.le_trans (by decide) hR.1, Nat.le_trans (by decide) hR.2⟩ (fun _ _ q => q.elim) (m_at ?_)
                  refine J_iconst (v := 0) hS dX8_meets_88 (by decide) ?_
                  refine J_iadd hS dX8_meets_89 ?_
                  refine J_ialdN hS (56 + 142 * j) dX8_meets_90 Rw4.ar (by rw [n0, nI_add]; rfl) (by omega) (by decide) ?_
                  show J S 0 0 (g2) 91 [some (.ref 162), some (.int (nI i)), some (.int (nI j)), none, none] [.int _, .int _]
                  rw [i2.row _ (by omega), i2.row _ (by omega)]
                  refine J_icmp_eq (tgt := 96) hS dX8_meets_91 (by decide) (fun c7 => ?_) (fun c7 => ?_)
                  · have htg : togW w i j := ⟨(hI.th i (by omega)).resolve_left c5, (hI.th j (by omega)).resolve_left c6, c7⟩
                    have qq := q i j y hi rfl hj rfl hij htg hy ey
                    obtain ⟨P, hP⟩ : ∃ P : Nat → Bool, P = fun k => decide (tRt w i j y (mnK k) = 1) := ⟨_, rfl⟩
                    rw [← hP] at qq
                    refine J_iconst (v := 0) hS dX8_meets_96 (by decide) ?_
                    refine J_istore_n (lt := fun a3 => [some (.ref 162), some (.int (nI i)), some (.int (nI j)), some (.int a3), none]) hS dX8_meets_97 (Nat.le_of_ble_eq_true rfl) (fun _ => rfl) (fun a3 ea3 => ?_)
                    refine J_iconst (v := 0) hS dX8_meets_98 (by decide) ?_
                    refine J_istore (lt := fun k4 => [some (.ref 162), some (.int (nI i)), some (.int (nI j)), some (.int a3), some (.int k4)]) hS dX8_meets_99 (Nat.le_of_ble_eq_true rfl) (fun _ => rfl) (fun k4 ek4 => ?_)
                    suffices H : ∀ (t k : Nat) (f v : Int32) (g3 : Mm), k + t = 64 → v = nI k → f = nI (here P k).length → FrB g2 g3 → J S 0 0 g3 101 [some (.ref 162), some (.int (nI i)), some (.int (nI j)), some (.int f), some (.int v)] [] by
                      exact H 64 0 a3 k4 g2 (by omega) ek4 ea3 FrB.refl
                    intro t
                    induction t with
                    | zero =>
                      intro k f v g3 hk hv' hf f3
                      have e : k = 64 := by omega
                      subst e; subst hv'
                      refine J_iload hS dX8_meets_101 rfl ?_
                      refine J_bipush (v := 64) hS dX8_meets_103 (by decide) ?_
                      refine J_icmp_ge (tgt := 172) hS dX8_meets_105 (by decide) (fun d1 => ?_) (fun d1 => ?_)
                      ·
                        refine J_aload_n hS dX8_meets_172 rfl ?_
                        refine J_aload_n hS dX8_meets_173 rfl ?_
                        refine J_getR (t := 164) hS dX8_meets_174 flX8_13 ob162 rfl ?_
                        refine J_putD hS dX8_meets_177 fpX8_20 (by first | exact Or.inl ⟨_, rfl⟩ | exact Or.inr ⟨_, rfl⟩) ob162 rfl Rw4.ab (by first | exact Or.inl rfl | exact Or.inr ⟨_, rfl⟩) (fun g177 eg177 => ?_)
                        refine J_iload_n hS dX8_meets_180 rfl ?_
                        refine J_iret hS hZ hr dX8_meets_181 (by omega) (by omega) ?_
                        rw [hf]
                        exact qq g177 (z2.trans ((show FrB g2 g177 by rw [eg177]; exact f3.w).z i2.w3 (by rw [eg177, u2_self]))) (by rw [eg177, u2_at, if_neg (by decide), f3.2 0 (by decide)]; exact t2)
                      · exact absurd (by decide) d1
                    | succ t ih =>
                      intro k f v g3 hk hv' hf f3
                      subst hv'
                      have hk64 : k < 64 := by omega
                      refine J_iload hS dX8_meets_101 rfl ?_
                      refine J_bipush (v := 64) hS dX8_meets_103 (by decide) ?_
                      refine J_icmp_ge (tgt := 172) hS dX8_meets_105 (by decide) (fun d1 => ?_) (fun d1 => ?_)
                      · exact absurd d1 (nI_ge hk64 (by decide))
                      ·
                        refine J_aload_n hS dX8_meets_108 rfl ?_
                        refine J_callV0 (X' := fun _ _ => False) hS dX8_meets_109 mvX8_365 ob162 rfl (by first | decide | omega) (by decide) (Nat.le_of_ble_eq_true rfl) ⟨Nat.le_trans (by decide) hR.1, Nat.le_trans (by decide) hR.2⟩ (fun _ _ q => q.elim) (m_begins (fun g4 b1 b2 b3 b4 => ?_))
                        have f4 : FrB g2 g4 := f3.trans (FrB.beg b1 b2)
                        have r4 : ∀ i, i < 3464 → g4 165 i = w i := fun i hi => by rw [b4 i hi]; exact (i2.j.fb f3).1 i hi
                        have p4 : ∀ {g5 : Mm} {s : Nat} {v : Int32}, FrB g2 g5 → FrB g2 (u2 g5 197 s v) := fun {g5 s v} h => ⟨fun z z1 z2 z3 z4 z5 z6 z7 => by rw [u2_ne z z4]; exact h.1 z z1 z2 z3 z4 z5 z6 z7, fun j hj => by rw [u2_ne 162 (by decide)]; exact h.2 j hj⟩
                        refine J_aload_n hS dX8_meets_112 rfl ?_
                        refine J_getR (t := 197) hS dX8_meets_113 flX8_56 ob162 rfl ?_
                        refine J_iconst (v := 0) hS dX8_meets_116 (by decide) ?_
                        refine J_iload hS dX8_meets_117 rfl ?_
                        refine J_bipush (v := 16) hS dX8_meets_119 (by decide) ?_
                        refine J_idiv hS dX8_meets_121 (by decide) ?_
                        show J S 0 0 (g4) 122 [some (.ref 162), some (.int (nI i)), some (.int (nI j)), some (.int f), some (.int (nI k))] [.int _, .int 0, .ref (197)]
                        rw [n16, nI_div (by omega) (by decide) (by decide)]
                        refine J_iastN hS (0) dX8_meets_122 (show Ar lay NC .int 197 3 from arM 34 3 (by decide) (by decide) rfl) (by first | rfl | (simp only [n0, n1, n2, n3, n4, n5, n6, n7, n8, n9, n10, n11, n12, n13, n14, n15, n16, n17, n18, n19, n20, n24, n32, n56, n60, n64, n72, n99, n100, n128, n136, n142, n144, n200, n300, n999, n1000, n1500, n3464, nI_add, pk_mul] <;> first | rfl | (congr 1; omega))) (by decide) (by decide) (fun g122 eg122 => ?_)
                        refine J_aload_n hS dX8_meets_123 rfl ?_
                        refine J_getR (t := 197) hS dX8_meets_124 flX8_56 ob162 rfl ?_
                        refine J_iconst (v := 1) hS dX8_meets_127 (by decide) ?_
                        refine J_iload hS dX8_meets_128 rfl ?_
                        refine J_iconst (v := 4) hS dX8_meets_130 (by decide) ?_
                        refine J_idiv hS dX8_meets_131 (by decide) ?_
                        refine J_iconst (v := 4) hS dX8_meets_132 (by decide) ?_
                        refine J_irem hS dX8_meets_133 (by decide) ?_
                        show J S 0 0 (g122) 134 [some (.ref 162), some (.int (nI i)), some (.int (nI j)), some (.int f), some (.int (nI k))] [.int _, .int 1, .ref (197)]
                        rw [n4, nI_div (by omega) (by decide) (by decide), nI_rem (by omega) (by decide) (by decide)]
                        refine J_iastN hS (1) dX8_meets_134 (show Ar lay NC .int 197 3 from arM 34 3 (by decide) (by decide) rfl) (by first | rfl | (simp only [n0, n1, n2, n3, n4, n5, n6, n7, n8, n9, n10, n11, n12, n13, n14, n15, n16, n17, n18, n19, n20, n24, n32, n56, n60, n64, n72, n99, n100, n128, n136, n142, n144, n200, n300, n999, n1000, n1500, n3464, nI_add, pk_mul] <;> first | rfl | (congr 1; omega))) (by decide) (by decide) (fun g134 eg134 => ?_)
                        refine J_aload_n hS dX8_meets_135 rfl ?_
                        refine J_getR (t := 197) hS dX8_meets_136 flX8_56 ob162 rfl ?_
                        refine J_iconst (v := 2) hS dX8_meets_139 (by decide) ?_
                        refine J_iload hS dX8_meets_140 rfl ?_
                        refine J_iconst (v := 4) hS dX8_meets_142 (by decide) ?_
                        refine J_irem hS dX8_meets_143 (by decide) ?_
                        show J S 0 0 (g134) 144 [some (.ref 162), some (.int (nI i)), some (.int (nI j)), some (.int f), some (.int (nI k))] [.int _, .int 2, .ref (197)]
                        rw [n4, nI_rem (by omega) (by decide) (by decide)]
                        refine J_iastN hS (2) dX8_meets_144 (show Ar lay NC .int 197 3 from arM 34 3 (by decide) (by decide) rfl) (by first | rfl | (simp only [n0, n1, n2, n3, n4, n5, n6, n7, n8, n9, n10, n11, n12, n13, n14, n15, n16, n17, n18, n19, n20, n24, n32, n56, n60, n64, n72, n99, n100, n128, n136, n142, n144, n200, n300, n999, n1000, n1500, n3464, nI_add, pk_mul] <;> first | rfl | (congr 1; omega))) (by decide) (by decide) (fun g144 eg144 => ?_)
                        have f5 : FrB g2 g144 := by rw [eg144, eg134, eg122]; exact p4 (p4 (p4 f4))
                        have r5 : RowM g144 165 w w := fun i hi => by rw [eg144, u2_ne 165 (by decide), eg134, u2_ne 165 (by decide), eg122, u2_ne 165 (by decide)]; exact ⟨fun _ => r4 i hi, fun _ => r4 i hi⟩
                        have w5 : g144 162 3 = nI 165 := by rw [eg144, u2_ne 162 (by decide), eg134, u2_ne 162 (by decide), eg122, u2_ne 162 (by decide)]; exact b3
                        have m5 : ∀ r, r < 3 → g144 197 r = nI (mnK k r) := by
                          intro r hr
                          rw [eg144, u2_at, eg134, u2_at, eg122, u2_at]
                          have h3 : r = 0 ∨ r = 1 ∨ r = 2 := by omega
                          rcases h3 with e | e | e <;> subst e <;> rfl
                        refine J_aload_n hS dX8_meets_145 rfl ?_
                        refine J_iload_n hS dX8_meets_146 rfl ?_
                        refine J_iload_n hS dX8_meets_147 rfl ?_
                        refine J_callV2 (X' := fun _ _ => False) hS dX8_meets_148 mvX8_320 ob162 rfl (by first | decide | omega) (by decide) (Nat.le_of_ble_eq_true rfl) ⟨Nat.le_trans (by decide) hR.1, Nat.le_trans (by decide) hR.2⟩ (fun _ _ q => q.elim) (m_saysIt (b := j) (y := y) (mt := mnK k) Rw5 w5 r5 (by omega) (by omega) hy ey (fun r => mnK_lt hk64) m5 (hI.ok.2.2 i (by omega)) (hI.ok.2.2 j (by omega)) (fun g6 k1 k2 k3 k4 k5 k6 k7 k8 => ?_))
                        have f6 : FrB g2 g6 := f5.trans ⟨fun z z1 z2 _ _ z5 z6 _ => k1 z z2 z1 z5 z6, fun j hj => k2 j (by omega) (by omega) (by omega)⟩
                        have hst : tRt w i j y (mnK k) = 0 ∨ tRt w i j y (mnK k) = 1 := by unfold tRt rtI; split; exact Or.inr rfl; exact Or.inl rfl
                        refine J_iload_n hS dX8_meets_151 rfl ?_
                        refine J_aload_n hS dX8_meets_152 rfl ?_
                        refine J_getI hS dX8_meets_153 flX8_307 ob162 rfl ?_
                        show J S 0 0 (g6) 156 [some (.ref 162), some (.int (nI i)), some (.int (nI j)), some (.int f), some (.int (nI k))] [.int _, .int f]
                        rw [k8]
                        refine J_if_eq (tgt := 163) hS dX8_meets_156 (by decide) (fun d2 => ?_) (fun d2 => ?_)
                        ·
                          refine J_iconst (v := 0) hS dX8_meets_163 (by decide) ?_
                          refine J_iadd hS dX8_meets_164 ?_
                          refine J_istore_n (lt := fun f2 => [some (.ref 162), some (.int (nI i)), some (.int (nI j)), some (.int f2), some (.int (nI k))]) hS dX8_meets_165 (Nat.le_of_ble_eq_true rfl) (fun _ => rfl) (fun f2 ef2 => ?_)
                          refine J_iinc (lt := fun k2' => [some (.ref 162), some (.int (nI i)), some (.int (nI j)), some (.int f2), some (.int k2')]) (v := 1) hS dX8_meets_166 rfl (by decide) (fun _ => rfl) (fun k2' ek2' => ?_)
                          refine J_goto (tgt := 101) hS dX8_meets_169 (by decide) ?_
                          refine ih (k + 1) f2 k2' g6 (by omega) (by rw [ek2']; exact nI_1 k) ?_ f6
                          rw [ef2, hf]; refine hl_f ?_
                          rw [hP]; show ¬ decide _ = true; rw [decide_eq_true_iff, d2]; decide
                        ·
                          refine J_iconst (v := 1) hS dX8_meets_159 (by decide) ?_
                          refine J_goto (tgt := 164) hS dX8_meets_160 (by decide) ?_
                          refine J_iadd hS dX8_meets_164 ?_
                          refine J_istore_n (lt := fun f2 => [some (.ref 162), some (.int (nI i)), some (.int (nI j)), some (.int f2), some (.int (nI k))]) hS dX8_meets_165 (Nat.le_of_ble_eq_true rfl) (fun _ => rfl) (fun f2 ef2 => ?_)
                          refine J_iinc (lt := fun k2' => [some (.ref 162), some (.int (nI i)), some (.int (nI j)), some (.int f2), some (.int k2')]) (v := 1) hS dX8_meets_166 rfl (by decide) (fun _ => rfl) (fun k2' ek2' => ?_)
                          refine J_goto (tgt := 101) hS dX8_meets_169 (by decide) ?_
                          refine ih (k + 1) f2 k2' g6 (by omega) (by rw [ek2']; exact nI_1 k) ?_ f6
                          rw [ef2, hf]; refine hl_t ?_
                          rw [hP]; show decide _ = true; rw [decide_eq_true_iff]; exact hst.resolve_left d2
                  · exact noT (fun z => c7 z.2.2)
            · exact absurd c4 (by decide)
      ·
        refine J_aload_n hS dX8_meets_13 rfl ?_
        refine J_iload_n hS dX8_meets_14 rfl ?_
        refine J_callV1 (X' := fun _ _ => False) hS dX8_meets_15 mvX8_125 ob162 rfl (by first | decide | omega) (by decide) (Nat.le_of_ble_eq_true rfl) ⟨Nat.le_trans (by decide) hR.1, Nat.le_trans (by decide) hR.2⟩ (fun _ _ q => q.elim) (m_childN i2 t2 hbj ?_)
        refine J_if_eq (tgt := 39) hS dX8_meets_18 (by decide) (fun c2 => ?_) (fun c2 => ?_)
        · exact zero _ (x (Or.inr hbj) _ (z2.trans FrZ_thr) (u2_self ..))
        · exact absurd rfl c2
  ·
    refine J_aload_n hS dX8_meets_5 rfl ?_
    refine J_iload_n hS dX8_meets_6 rfl ?_
    refine J_callV1 (X' := fun _ _ => False) hS dX8_meets_7 mvX8_125 ob162 rfl (by first | decide | omega) (by decide) (Nat.le_of_ble_eq_true rfl) ⟨Nat.le_trans (by decide) hR.1, Nat.le_trans (by decide) hR.2⟩ (fun _ _ q => q.elim) (m_childN i2 t2 hbi ?_)
    refine J_if_eq (tgt := 39) hS dX8_meets_10 (by decide) (fun c1 => ?_) (fun c1 => ?_)
    · exact zero _ (x (Or.inl hbi) _ (z2.trans FrZ_thr) (u2_self ..))
    · exact absurd rfl c1
end RefT2


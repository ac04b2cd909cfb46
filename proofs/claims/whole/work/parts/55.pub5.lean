/-! THE CLASS: public methods, V -/
theorem ssum_skip {P : Nat → Bool} {v : Nat → Int32} {t : Nat} : ∀ {s : Nat}, (∀ i, t ≤ i → i < t + s → P i = false) → ssum P v (t + s) = ssum P v t
  | 0, _ => rfl
  | s + 1, h => by
    show (if P (t + s) = true then ssum P v (t + s) + v (t + s) else ssum P v (t + s)) = _
    rw [h (t + s) (by omega) (by omega), ssum_skip (s := s) (fun i h1 h2 => h i h1 (by omega))]; simp
def rgP (n : Wr) (c fr to : Int32) (t : Nat) : Bool := decide (fr ≤ nI t ∧ nI t ≤ to ∧ (n (t * 19 + 1) = c ∨ n (t * 19 + 2) = c))
def nrS (ok : Nat → Bool) (f : Nat → Int32) : Nat → Int32 × Int32
  | 0 => (-1, 10)
  | k + 1 => if ok k = true ∧ f k < (nrS ok f k).2 then (nI k, f k) else nrS ok f k
def rtA (f : Int32 → Int32) : Nat → Int32 → Int32 → Int32
  | 0, _, last => last
  | r + 1, came, last => if f last = -1 ∨ (came >>> (f last &&& 31)) &&& 1 = 1 then last else rtA f r (came ||| (1 <<< (f last &&& 31))) (f last)
theorem nI_ofNonneg {x : Int32} (h : 0 ≤ x) : ∃ n : Nat, n < 2 ^ 31 ∧ x = nI n := by
  rw [Int32.le_iff_toInt_le] at h
  have z : (0 : Int32).toInt = 0 := by decide
  have u := Int32.toInt_lt x
  refine ⟨x.toInt.toNat, by omega, ?_⟩
  apply Int32.toInt_inj.mp
  rw [nI_toInt (by omega)]
  omega
section ClsP5
variable {l : Launch} {E : Ey} {g : Mm} {Q : Option Value → Mm → Prop} {X : String → Mm → Prop} {h : Nat}
set_option maxRecDepth 10000 in
theorem c_right {n m : Nat} {c fr to : Int32} (hn : n ≤ 24) (hgm : g 2 6 = nI n) (hm : m ≤ 1500) (em : g 143 0 = nI m) (x : ou n c → X eNS g) (x2 : ¬ ou n c → ¬ fr ≤ to → X eIA g) (q : ¬ ou n c → fr ≤ to → Q (some (.int (if (here (rgP (g 144) c fr to) m).length = 0 then -1 else ssum (rgP (g 144) c fr to) (fun t => g 144 (t * 19 + 14)) m))) g) : Ct l E lay NC 8 1 6 yX7_right [.ref 1, .int c, .int fr, .int to] g Q X := by
  refine Ct_in k_yX7_right (by decide) rfl (Nat.le_of_ble_eq_true rfl) rfl ?_
  intro S hS hZ hr ht hR
  show J S 0 0 (g) 0 [some (.ref 1), some (.int c), some (.int fr), some (.int to), none, none, none] []
  refine J_aload_n hS dX7_right_0 rfl ?_
  refine J_iload_n hS dX7_right_1 rfl ?_
  rcases in_or (y := c) (b := n) (by first | decide | omega) with ⟨c1, hc1, ec1⟩ | hbc1
  ·
    subst ec1
    have nc := nou hc1 (by omega)
    refine J_callV1 (X' := fun _ _ => False) hS dX7_right_2 mvX7_121 ob1 rfl (by decide) (by decide) (Nat.le_of_ble_eq_true rfl) ⟨Nat.le_trans (by decide) hR.1, Nat.le_trans (by decide) hR.2⟩ (fun _ _ q => q.elim) (c_checkChildOk hgm hn hc1 ?_)
    refine J_iload_n hS dX7_right_5 rfl ?_
    refine J_iload_n hS dX7_right_6 rfl ?_
    refine J_icmp_le (tgt := 21) hS dX7_right_7 (by decide) (fun cc => ?_) (fun cc => ?_)
    · have q2 := q nc cc
      obtain ⟨P, hP⟩ : ∃ P : Nat → Bool, P = rgP (g 144) (nI c1) fr to := ⟨_, rfl⟩
      obtain ⟨v, hv⟩ : ∃ v : Nat → Int32, v = fun t => g 144 (t * 19 + 14) := ⟨_, rfl⟩
      rw [← hP, ← hv] at q2
      have pno : ∀ t, ¬ (fr ≤ nI t ∧ nI t ≤ to ∧ (g 144 (t * 19 + 1) = nI c1 ∨ g 144 (t * 19 + 2) = nI c1)) → P t = false := fun t z => by rw [hP]; exact decide_eq_false z
      have pyes : ∀ t, (fr ≤ nI t ∧ nI t ≤ to ∧ (g 144 (t * 19 + 1) = nI c1 ∨ g 144 (t * 19 + 2) = nI c1)) → P t = true := fun t z => by rw [hP]; exact decide_eq_true z
      have fin : ∀ (ow f t : Int32), ow = nI (here P m).length → f = ssum P v m → J S 0 0 g 105 [some (.ref 1), some (.int (nI c1)), some (.int fr), some (.int to), some (.int ow), some (.int f), some (.int t)] [] := by
        intro ow f t h1 h2
        have hlen := here_len P m
        refine J_iload hS dX7_right_105 rfl ?_
        refine J_if_ne (tgt := 114) hS dX7_right_107 (by decide) (fun c5 => ?_) (fun c5 => ?_)
        ·
          refine J_iload hS dX7_right_114 rfl ?_
          refine J_iret hS hZ hr dX7_right_116 (by omega) (by omega) ?_
          rw [if_neg (fun z => c5 (by rw [h1, z]; rfl))] at q2; rw [h2]; exact q2
        ·
          refine J_iconst (v := (-1)) hS dX7_right_110 (by decide) ?_
          refine J_goto (tgt := 116) hS dX7_right_111 (by decide) ?_
          refine J_iret hS hZ hr dX7_right_116 (by omega) (by omega) ?_
          rw [if_pos ((nI_eq (by omega) (by decide)).mp (h1.symm.trans c5))] at q2; exact q2
      have H : ∀ (r k : Nat) (ow f t : Int32), k + r = m → t = nI k → fr ≤ nI k → ow = nI (here P k).length → f = ssum P v k → J S 0 0 g 34 [some (.ref 1), some (.int (nI c1)), some (.int fr), some (.int to), some (.int ow), some (.int f), some (.int t)] [] := by
        intro r
        induction r with
        | zero =>
          intro k ow f t hk he hge how hf
          have e : k = m := by omega
          subst he
          refine J_iload hS dX7_right_34 rfl ?_
          refine J_aload_n hS dX7_right_36 rfl ?_
          refine J_getR (t := 143) hS dX7_right_37 flX7_38 ob1 rfl ?_
          refine J_getI hS dX7_right_40 flX7_214 ob143 rfl ?_
          show J S 0 0 (g) 43 [some (.ref 1), some (.int (nI c1)), some (.int fr), some (.int to), some (.int ow), some (.int f), some (.int (nI k))] [.int _, .int (nI k)]
          rw [em]
          refine J_icmp_ge (tgt := 105) hS dX7_right_43 (by decide) (fun c2 => ?_) (fun c2 => ?_)
          · exact fin ow f _ (by rw [how, e]) (by rw [hf, e])
          · exact absurd (nI_le (show m ≤ k by omega) (by omega)) c2
        | succ r ih =>
          intro k ow f t hk he hge how hf
          subst he
          have hs := here_succ P k
          have hss : ssum P v (k + 1) = if P k = true then ssum P v k + v k else ssum P v k := rfl
          refine J_iload hS dX7_right_34 rfl ?_
          refine J_aload_n hS dX7_right_36 rfl ?_
          refine J_getR (t := 143) hS dX7_right_37 flX7_38 ob1 rfl ?_
          refine J_getI hS dX7_right_40 flX7_214 ob143 rfl ?_
          show J S 0 0 (g) 43 [some (.ref 1), some (.int (nI c1)), some (.int fr), some (.int to), some (.int ow), some (.int f), some (.int (nI k))] [.int _, .int (nI k)]
          rw [em]
          refine J_icmp_ge (tgt := 105) hS dX7_right_43 (by decide) (fun c2 => ?_) (fun c2 => ?_)
          · exact absurd c2 (nI_ge (show k < m by omega) (by omega))
          ·
            refine J_iload hS dX7_right_46 rfl ?_
            refine J_iload_n hS dX7_right_48 rfl ?_
            refine J_icmp_gt (tgt := 105) hS dX7_right_49 (by decide) (fun c3 => ?_) (fun c3 => ?_)
            · have sk : ∀ i, k ≤ i → i < k + (m - k) → P i = false := fun i h1 h2 => pno i (fun z => absurd (Int32.lt_of_lt_of_le c3 (nI_le h1 (by omega))) (Int32.not_lt.mpr z.2.1))
              exact fin ow f _ (by rw [how, ← here_skip sk, show k + (m - k) = m by omega]) (by rw [hf, ← ssum_skip sk, show k + (m - k) = m by omega])
            · have hle : nI k ≤ to := Int32.not_lt.mp c3
              have yes : (g 144 (k * 19 + 1) = nI c1 ∨ g 144 (k * 19 + 2) = nI c1) → J S 0 0 g 80 [some (.ref 1), some (.int (nI c1)), some (.int fr), some (.int to), some (.int ow), some (.int f), some (.int (nI k))] [] := by
                intro z
                have hyes := pyes k ⟨hge, hle, z⟩
                refine J_iinc (lt := fun o2 => [some (.ref 1), some (.int (nI c1)), some (.int fr), some (.int to), some (.int o2), some (.int f), some (.int (nI k))]) (v := 1) hS dX7_right_80 rfl (by decide) (fun _ => rfl) (fun o2 eo2 => ?_)
                refine J_iload hS dX7_right_83 rfl ?_
                refine J_aload_n hS dX7_right_85 rfl ?_
                refine J_getR (t := 143) hS dX7_right_86 flX7_38 ob1 rfl ?_
                refine J_iload hS dX7_right_89 rfl ?_
                refine J_bipush (v := 14) hS dX7_right_91 (by decide) ?_
                refine J_callV2 (X' := fun _ _ => False) hS dX7_right_93 mvX7_248 ob143 rfl (by decide) (by decide) (Nat.le_of_ble_eq_true rfl) ⟨Nat.le_trans (by decide) hR.1, Nat.le_trans (by decide) hR.2⟩ (fun _ _ q => q.elim) (c_at (show k < 1500 by omega) (c := 14) (by decide) ?_)
                refine J_iadd hS dX7_right_96 ?_
                refine J_istore (lt := fun f2 => [some (.ref 1), some (.int (nI c1)), some (.int fr), some (.int to), some (.int o2), some (.int f2), some (.int (nI k))]) hS dX7_right_97 (Nat.le_of_ble_eq_true rfl) (fun _ => rfl) (fun f2 ef2 => ?_)
                refine J_iinc (lt := fun t2 => [some (.ref 1), some (.int (nI c1)), some (.int fr), some (.int to), some (.int o2), some (.int f2), some (.int t2)]) (v := 1) hS dX7_right_99 rfl (by decide) (fun _ => rfl) (fun t2 et2 => ?_)
                refine J_goto (tgt := 34) hS dX7_right_102 (by decide) ?_
                exact ih (k + 1) o2 f2 t2 (by omega) (by rw [et2]; exact nI_1 k) (Int32.le_trans hge (nI_le (show k ≤ k + 1 by omega) (by omega))) (by rw [eo2, how, hs, nI_1]; simp [hyes]) (by rw [ef2, hf, hss, if_pos hyes, hv])
              refine J_aload_n hS dX7_right_52 rfl ?_
              refine J_getR (t := 143) hS dX7_right_53 flX7_38 ob1 rfl ?_
              refine J_iload hS dX7_right_56 rfl ?_
              refine J_iconst (v := 1) hS dX7_right_58 (by decide) ?_
              refine J_callV2 (X' := fun _ _ => False) hS dX7_right_59 mvX7_248 ob143 rfl (by decide) (by decide) (Nat.le_of_ble_eq_true rfl) ⟨Nat.le_trans (by decide) hR.1, Nat.le_trans (by decide) hR.2⟩ (fun _ _ q => q.elim) (c_at (show k < 1500 by omega) (c := 1) (by decide) ?_)
              refine J_iload_n hS dX7_right_62 rfl ?_
              refine J_icmp_eq (tgt := 80) hS dX7_right_63 (by decide) (fun c4 => ?_) (fun c4 => ?_)
              · exact yes (Or.inl c4)
              ·
                refine J_aload_n hS dX7_right_66 rfl ?_
                refine J_getR (t := 143) hS dX7_right_67 flX7_38 ob1 rfl ?_
                refine J_iload hS dX7_right_70 rfl ?_
                refine J_iconst (v := 2) hS dX7_right_72 (by decide) ?_
                refine J_callV2 (X' := fun _ _ => False) hS dX7_right_73 mvX7_248 ob143 rfl (by decide) (by decide) (Nat.le_of_ble_eq_true rfl) ⟨Nat.le_trans (by decide) hR.1, Nat.le_trans (by decide) hR.2⟩ (fun _ _ q => q.elim) (c_at (show k < 1500 by omega) (c := 2) (by decide) ?_)
                refine J_iload_n hS dX7_right_76 rfl ?_
                refine J_icmp_ne (tgt := 99) hS dX7_right_77 (by decide) (fun c5 => ?_) (fun c5 => ?_)
                · have hno := pno k (fun z => z.2.2.elim c4 c5)
                  refine J_iinc (lt := fun t2 => [some (.ref 1), some (.int (nI c1)), some (.int fr), some (.int to), some (.int ow), some (.int f), some (.int t2)]) (v := 1) hS dX7_right_99 rfl (by decide) (fun _ => rfl) (fun t2 et2 => ?_)
                  refine J_goto (tgt := 34) hS dX7_right_102 (by decide) ?_
                  exact ih (k + 1) ow f t2 (by omega) (by rw [et2]; exact nI_1 k) (Int32.le_trans hge (nI_le (show k ≤ k + 1 by omega) (by omega))) (by rw [how, hs]; simp [hno]) (by rw [hf, hss, if_neg (by rw [hno]; decide)])
                · exact yes (Or.inr c5)
      refine J_iconst (v := 0) hS dX7_right_21 (by decide) ?_
      refine J_istore (lt := fun o1 => [some (.ref 1), some (.int (nI c1)), some (.int fr), some (.int to), some (.int o1), none, none]) hS dX7_right_22 (Nat.le_of_ble_eq_true rfl) (fun _ => rfl) (fun o1 eo1 => ?_)
      refine J_iconst (v := 0) hS dX7_right_24 (by decide) ?_
      refine J_istore (lt := fun f1 => [some (.ref 1), some (.int (nI c1)), some (.int fr), some (.int to), some (.int o1), some (.int f1), none]) hS dX7_right_25 (Nat.le_of_ble_eq_true rfl) (fun _ => rfl) (fun f1 ef1 => ?_)
      refine J_iload_n hS dX7_right_27 rfl ?_
      refine J_iconst (v := 0) hS dX7_right_28 (by decide) ?_
      refine J_mmax hS dX7_right_29 msX7_361.1 mm_max_st in_java_lang_Math mm_max_c rfl (by decide) (Nat.le_of_ble_eq_true rfl) ⟨Nat.le_trans (by decide) hR.1, Nat.le_trans (by decide) hR.2⟩ ?_
      refine J_istore (lt := fun t1 => [some (.ref 1), some (.int (nI c1)), some (.int fr), some (.int to), some (.int o1), some (.int f1), some (.int t1)]) hS dX7_right_32 (Nat.le_of_ble_eq_true rfl) (fun _ => rfl) (fun t1 et1 => ?_)
      have es : ∃ st : Nat, st < 2 ^ 31 ∧ t1 = nI st ∧ fr ≤ nI st ∧ ∀ i, i < st → i < 2 ^ 31 → ¬ fr ≤ nI i := by
        by_cases z : fr < 0
        · refine ⟨0, by decide, by rw [et1, if_pos z]; rfl, Int32.le_of_lt z, fun i hi => absurd hi (by omega)⟩
        · obtain ⟨st, h1, h2⟩ := nI_ofNonneg (Int32.not_lt.mp z)
          refine ⟨st, h1, by rw [et1, if_neg z]; exact h2, by rw [h2]; exact Int32.le_refl _, fun i hi _ => by rw [h2]; exact Int32.not_le.mpr (nI_lt hi h1)⟩
      obtain ⟨st, s1, s2, s3, s4⟩ := es
      have sk : ∀ b, b ≤ st → b ≤ m → ∀ i, 0 ≤ i → i < 0 + b → P i = false := fun b hb hb2 i _ h2 => pno i (fun z => s4 i (by omega) (by omega) z.1)
      rcases Nat.lt_or_ge st m with z | z
      · have hz := here_skip (sk st (Nat.le_refl _) (by omega))
        have hz2 := ssum_skip (v := v) (sk st (Nat.le_refl _) (by omega))
        rw [Nat.zero_add] at hz hz2
        exact H (m - st) st o1 f1 t1 (by omega) s2 s3 (by rw [hz]; exact eo1) (by rw [hz2]; exact ef1)
      · have hz := here_skip (sk m z (Nat.le_refl _))
        have hz2 := ssum_skip (v := v) (sk m z (Nat.le_refl _))
        rw [Nat.zero_add] at hz hz2
        refine J_iload hS dX7_right_34 rfl ?_
        refine J_aload_n hS dX7_right_36 rfl ?_
        refine J_getR (t := 143) hS dX7_right_37 flX7_38 ob1 rfl ?_
        refine J_getI hS dX7_right_40 flX7_214 ob143 rfl ?_
        show J S 0 0 (g) 43 [some (.ref 1), some (.int (nI c1)), some (.int fr), some (.int to), some (.int o1), some (.int f1), some (.int t1)] [.int _, .int t1]
        rw [em, s2]
        refine J_icmp_ge (tgt := 105) hS dX7_right_43 (by decide) (fun c2 => ?_) (fun c2 => ?_)
        · exact fin o1 f1 _ (by rw [hz]; exact eo1) (by rw [hz2]; exact ef1)
        · exact absurd (nI_le z (by omega)) c2
    ·
      exact J_thAW hS hZ ht hR (by decide) (List.mem_of_getElem? (i := 37) rfl) rfl dX7_right_10 dX7_right_13 dX7_right_14 dX7_right_17 dX7_right_20 (by omega) (by omega) (x2 nc cc)
  ·
    refine J_callV1 hS dX7_right_2 mvX7_121 ob1 rfl (by decide) (by decide) (Nat.le_of_ble_eq_true rfl) ⟨Nat.le_trans (by decide) hR.1, Nat.le_trans (by decide) hR.2⟩ (fun _ _ q => q) (c_checkChildBad (by rw [hgm]; exact hbc1) (JX_out hS hZ ht (by omega) (by omega) (x hbc1)))
set_option maxRecDepth 10000 in
theorem c_nearest {n : Nat} {y0 : Int32} (hn : n ≤ 24) (hm : g 2 6 = nI n) (x : ou 3 y0 → X eIA g) (q0 : ∀ y, y < 3 → y0 = nI y → (here (thr g 2 (nI y)) n).length = 0 → Q (some (.int (-1))) g)
    (q : ∀ y, y < 3 → y0 = nI y → ¬ (here (thr g 2 (nI y)) n).length = 0 → Q (some (.int (nrS (fun i => decide (i ≠ y ∧ ¬ (here (thr g 2 (nI i)) n).length = 0)) (fun j => nI ((if odY g 2 n (nI y) = odY g 2 n (nI j) then 0 else 1) + (here (fun p => decide (sgY g 2 n (nI y) p ≠ sgY g 2 n (nI j) p)) 8).length)) 3).1)) g) : Ct l E lay NC 8 1 6 yX7_nearest [.ref 1, .int y0] g Q X := by
  refine Ct_in k_yX7_nearest (by decide) rfl (Nat.le_of_ble_eq_true rfl) rfl ?_
  intro S hS hZ hr ht hR
  show J S 0 0 (g) 0 [some (.ref 1), some (.int y0), none, none, none, none] []
  refine J_iload_n hS dX7_nearest_0 rfl ?_
  rcases in_or (y := y0) (b := 3) (by first | decide | omega) with ⟨y, hy, ey⟩ | hby
  ·
    subst ey
    have hlen := here_len (thr g 2 (nI y)) n
    refine J_callS1 (X' := fun _ _ => False) hS dX7_nearest_1 msX7_103 rfl (by decide) (by decide) (Nat.le_of_ble_eq_true rfl) ⟨Nat.le_trans (by decide) hR.1, Nat.le_trans (by decide) hR.2⟩ (fun _ _ q => q.elim) (c_checkYardOk hy ?_)
    refine J_aload_n hS dX7_nearest_4 rfl ?_
    refine J_getR (t := 2) hS dX7_nearest_5 flX7_10 ob1 rfl ?_
    refine J_iload_n hS dX7_nearest_8 rfl ?_
    refine J_callV1 (X' := fun _ _ => False) hS dX7_nearest_9 mvX7_319 wo_now.ob rfl (by decide) (by decide) (Nat.le_of_ble_eq_true rfl) ⟨Nat.le_trans (by decide) hR.1, Nat.le_trans (by decide) hR.2⟩ (fun _ _ q => q.elim) (c_countThere wo_now hn hm ?_)
    refine J_if_ne (tgt := 17) hS dX7_nearest_12 (by decide) (fun c1 => ?_) (fun c1 => ?_)
    · have q2 := q y hy rfl (fun z => c1 (by rw [z]; rfl))
      obtain ⟨ok, hok⟩ : ∃ ok : Nat → Bool, ok = fun i => decide (i ≠ y ∧ ¬ (here (thr g 2 (nI i)) n).length = 0) := ⟨_, rfl⟩
      obtain ⟨F, hF⟩ : ∃ F : Nat → Int32, F = fun j => nI ((if odY g 2 n (nI y) = odY g 2 n (nI j) then 0 else 1) + (here (fun p => decide (sgY g 2 n (nI y) p ≠ sgY g 2 n (nI j) p)) 8).length) := ⟨_, rfl⟩
      rw [← hok, ← hF] at q2
      refine J_iconst (v := (-1)) hS dX7_nearest_17 (by decide) ?_
      refine J_istore_n (lt := fun b1 => [some (.ref 1), some (.int (nI y)), some (.int b1), none, none, none]) hS dX7_nearest_18 (Nat.le_of_ble_eq_true rfl) (fun _ => rfl) (fun b1 eb1 => ?_)
      refine J_bipush (v := 10) hS dX7_nearest_19 (by decide) ?_
      refine J_istore_n (lt := fun l1 => [some (.ref 1), some (.int (nI y)), some (.int b1), some (.int l1), none, none]) hS dX7_nearest_21 (Nat.le_of_ble_eq_true rfl) (fun _ => rfl) (fun l1 el1 => ?_)
      refine J_iconst (v := 0) hS dX7_nearest_22 (by decide) ?_
      refine J_istore (lt := fun i1 => [some (.ref 1), some (.int (nI y)), some (.int b1), some (.int l1), some (.int i1), none]) hS dX7_nearest_23 (Nat.le_of_ble_eq_true rfl) (fun _ => rfl) (fun i1 ei1 => ?_)
      refine J_weak (ls' := [some (.ref 1), some (.int (nI y)), some (.int b1), some (.int l1), some (.int i1), none]) ⟨Or.inr rfl, Or.inr rfl, Or.inr rfl, Or.inr rfl, Or.inr rfl, Or.inl rfl, trivial⟩ ?_
      suffices H : ∀ (r k : Nat) (b v i : Int32), k + r = 3 → i = nI k → (b, v) = nrS ok F k → J S 0 0 g 25 [some (.ref 1), some (.int (nI y)), some (.int b), some (.int v), some (.int i), none] [] by
        exact H 3 0 b1 l1 i1 (by omega) ei1 (by rw [eb1, el1]; rfl)
      intro r
      induction r with
      | zero =>
        intro k b v i hk hi hb
        have e : k = 3 := by omega
        subst hi
        refine J_iload hS dX7_nearest_25 rfl ?_
        refine J_iconst (v := 3) hS dX7_nearest_27 (by decide) ?_
        refine J_icmp_ge (tgt := 76) hS dX7_nearest_28 (by decide) (fun c2 => ?_) (fun c2 => ?_)
        ·
          refine J_iload_n hS dX7_nearest_76 rfl ?_
          refine J_iret hS hZ hr dX7_nearest_77 (by omega) (by omega) ?_
          rw [e] at hb; rw [show b = (nrS ok F 3).1 by rw [← hb]]; exact q2
        · exact absurd (nI_le (show 3 ≤ k by omega) (by omega)) c2
      | succ r ih =>
        intro k b v i hk hi hb
        subst hi
        have hst : nrS ok F (k + 1) = if ok k = true ∧ F k < v then (nI k, F k) else (b, v) := by
          show (if ok k = true ∧ F k < (nrS ok F k).2 then (nI k, F k) else nrS ok F k) = _
          rw [← hb]
        have hlenk := here_len (thr g 2 (nI k)) n
        have no : ∀ o : Option Value, ¬ (ok k = true ∧ F k < v) → J S 0 0 g 70 [some (.ref 1), some (.int (nI y)), some (.int b), some (.int v), some (.int (nI k)), o] [] := by
          intro o hno
          refine J_weak (ls' := [some (.ref 1), some (.int (nI y)), some (.int b), some (.int v), some (.int (nI k)), none]) ⟨Or.inr rfl, Or.inr rfl, Or.inr rfl, Or.inr rfl, Or.inr rfl, Or.inl rfl, trivial⟩ ?_
          refine J_iinc (lt := fun i2 => [some (.ref 1), some (.int (nI y)), some (.int b), some (.int v), some (.int i2), none]) (v := 1) hS dX7_nearest_70 rfl (by decide) (fun _ => rfl) (fun i2 ei2 => ?_)
          refine J_goto (tgt := 25) hS dX7_nearest_73 (by decide) ?_
          exact ih (k + 1) b v i2 (by omega) (by rw [ei2]; exact nI_1 k) (by rw [hst, if_neg hno])
        refine J_iload hS dX7_nearest_25 rfl ?_
        refine J_iconst (v := 3) hS dX7_nearest_27 (by decide) ?_
        refine J_icmp_ge (tgt := 76) hS dX7_nearest_28 (by decide) (fun c2 => ?_) (fun c2 => ?_)
        · exact absurd c2 (nI_ge (show k < 3 by omega) (by decide))
        ·
          refine J_iload hS dX7_nearest_31 rfl ?_
          refine J_iload_n hS dX7_nearest_33 rfl ?_
          refine J_icmp_eq (tgt := 70) hS dX7_nearest_34 (by decide) (fun c3 => ?_) (fun c3 => ?_)
          · have e : k = y := (nI_eq (by omega) (by omega)).mp c3
            exact no none (fun z => by rw [hok] at z; exact (of_decide_eq_true z.1).1 e)
          ·
            refine J_aload_n hS dX7_nearest_37 rfl ?_
            refine J_getR (t := 2) hS dX7_nearest_38 flX7_10 ob1 rfl ?_
            refine J_iload hS dX7_nearest_41 rfl ?_
            refine J_callV1 (X' := fun _ _ => False) hS dX7_nearest_43 mvX7_319 wo_now.ob rfl (by decide) (by decide) (Nat.le_of_ble_eq_true rfl) ⟨Nat.le_trans (by decide) hR.1, Nat.le_trans (by decide) hR.2⟩ (fun _ _ q => q.elim) (c_countThere wo_now hn hm ?_)
            refine J_if_le (tgt := 70) hS dX7_nearest_46 (by decide) (fun c4 => ?_) (fun c4 => ?_)
            · have e : (here (thr g 2 (nI k)) n).length = 0 := by
                rcases Nat.eq_zero_or_pos (here (thr g 2 (nI k)) n).length with z | z
                · exact z
                · exact absurd (show nI 0 < nI _ from nI_lt z (by omega)) (Int32.not_lt.mpr c4)
              exact no none (fun z => by rw [hok] at z; exact (of_decide_eq_true z.1).2 e)
            · have hok2 : ok k = true := by
                rw [hok]
                refine decide_eq_true ⟨fun e => c3 (by rw [e]), fun e => c4 (by rw [e]; exact Int32.le_refl _)⟩
              refine J_aload_n hS dX7_nearest_49 rfl ?_
              refine J_iload_n hS dX7_nearest_50 rfl ?_
              refine J_iload hS dX7_nearest_51 rfl ?_
              refine J_callV2 (X' := fun _ _ => False) hS dX7_nearest_53 mvX7_322 ob1 rfl (by decide) (by decide) (Nat.le_of_ble_eq_true rfl) ⟨Nat.le_trans (by decide) hR.1, Nat.le_trans (by decide) hR.2⟩ (fun _ _ q => q.elim) (c_countUnlike hn hm ?_)
              refine J_istore (lt := fun f1 => [some (.ref 1), some (.int (nI y)), some (.int b), some (.int v), some (.int (nI k)), some (.int f1)]) hS dX7_nearest_56 (Nat.le_of_ble_eq_true rfl) (fun _ => rfl) (fun f1 ef1 => ?_)
              refine J_iload hS dX7_nearest_58 rfl ?_
              refine J_iload_n hS dX7_nearest_60 rfl ?_
              have ef : f1 = F k := by rw [ef1, hF]
              refine J_icmp_ge (tgt := 70) hS dX7_nearest_61 (by decide) (fun c5 => ?_) (fun c5 => ?_)
              · exact no (some (.int f1)) (fun z => absurd z.2 (by rw [← ef]; exact Int32.not_lt.mpr c5))
              ·
                refine J_iload hS dX7_nearest_64 rfl ?_
                refine J_istore_n (lt := fun l2 => [some (.ref 1), some (.int (nI y)), some (.int b), some (.int l2), some (.int (nI k)), some (.int f1)]) hS dX7_nearest_66 (Nat.le_of_ble_eq_true rfl) (fun _ => rfl) (fun l2 el2 => ?_)
                refine J_iload hS dX7_nearest_67 rfl ?_
                refine J_istore_n (lt := fun b2 => [some (.ref 1), some (.int (nI y)), some (.int b2), some (.int l2), some (.int (nI k)), some (.int f1)]) hS dX7_nearest_69 (Nat.le_of_ble_eq_true rfl) (fun _ => rfl) (fun b2 eb2 => ?_)
                refine J_iinc (lt := fun i2 => [some (.ref 1), some (.int (nI y)), some (.int b2), some (.int l2), some (.int i2), some (.int f1)]) (v := 1) hS dX7_nearest_70 rfl (by decide) (fun _ => rfl) (fun i2 ei2 => ?_)
                refine J_goto (tgt := 25) hS dX7_nearest_73 (by decide) ?_
                refine J_weak (ls' := [some (.ref 1), some (.int (nI y)), some (.int b2), some (.int l2), some (.int i2), none]) ⟨Or.inr rfl, Or.inr rfl, Or.inr rfl, Or.inr rfl, Or.inr rfl, Or.inl rfl, trivial⟩ ?_
                exact ih (k + 1) b2 l2 i2 (by omega) (by rw [ei2]; exact nI_1 k) (by rw [hst, if_pos ⟨hok2, by rw [← ef]; exact Int32.not_le.mp c5⟩, eb2, el2, ef])
    ·
      refine J_iconst (v := (-1)) hS dX7_nearest_15 (by decide) ?_
      refine J_iret hS hZ hr dX7_nearest_16 (by omega) (by omega) ?_
      exact q0 y hy rfl ((nI_eq (by omega) (by decide)).mp c1)
  ·
    refine J_callS1 hS dX7_nearest_1 msX7_103 rfl (by decide) (by decide) (Nat.le_of_ble_eq_true rfl) ⟨Nat.le_trans (by decide) hR.1, Nat.le_trans (by decide) hR.2⟩ (fun _ _ q => q) (c_checkYardBad hby (JX_out hS hZ ht (by omega) (by omega) (x hby)))
end ClsP5


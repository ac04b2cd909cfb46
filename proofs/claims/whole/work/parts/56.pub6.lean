/-! THE CLASS: public methods, VI -/
section ClsP6
variable {l : Launch} {E : Ey} {g : Mm} {Q : Option Value → Mm → Prop} {X : String → Mm → Prop} {h : Nat}
set_option maxRecDepth 10000 in
theorem c_blurred {n : Nat} {y0 k : Int32} (hn : n ≤ 24) (hm : g 2 6 = nI n) (x : ou 3 y0 → X eIA g) (q0 : ∀ y, y < 3 → y0 = nI y → (here (thr g 2 (nI y)) n).length = 0 → Q (some (.int (-1))) g) {P : Nat → Nat → Bool} (hP : ∀ y, y < 3 → ∀ e, e < 64 → (P y e = true ↔ e / 8 < e % 8 ∧ e / 8 / 4 = e % 8 / 4 ∧ blr g 2 n y (e / 8) (e % 8)))
    (q : ∀ y, y < 3 → y0 = nI y → ¬ (here (thr g 2 (nI y)) n).length = 0 → Q (some (.int (bkA (P y) k 0 64))) g) : Ct l E lay NC 8 1 6 yX7_blurred [.ref 1, .int y0, .int k] g Q X := by
  refine Ct_in k_yX7_blurred (by decide) rfl (Nat.le_of_ble_eq_true rfl) rfl ?_
  intro S hS hZ hr ht hR
  show J S 0 0 (g) 0 [some (.ref 1), some (.int y0), some (.int k), none, none, none, none] []
  refine J_iload_n hS dX7_blurred_0 rfl ?_
  rcases in_or (y := y0) (b := 3) (by first | decide | omega) with ⟨y, hy, ey⟩ | hby
  ·
    subst ey
    have hlen := here_len (thr g 2 (nI y)) n
    refine J_callS1 (X' := fun _ _ => False) hS dX7_blurred_1 msX7_103 rfl (by decide) (by decide) (Nat.le_of_ble_eq_true rfl) ⟨Nat.le_trans (by decide) hR.1, Nat.le_trans (by decide) hR.2⟩ (fun _ _ q => q.elim) (c_checkYardOk hy ?_)
    refine J_aload_n hS dX7_blurred_4 rfl ?_
    refine J_getR (t := 2) hS dX7_blurred_5 flX7_10 ob1 rfl ?_
    refine J_iload_n hS dX7_blurred_8 rfl ?_
    refine J_callV1 (X' := fun _ _ => False) hS dX7_blurred_9 mvX7_319 wo_now.ob rfl (by decide) (by decide) (Nat.le_of_ble_eq_true rfl) ⟨Nat.le_trans (by decide) hR.1, Nat.le_trans (by decide) hR.2⟩ (fun _ _ q => q.elim) (c_countThere wo_now hn hm ?_)
    refine J_if_ne (tgt := 17) hS dX7_blurred_12 (by decide) (fun c1 => ?_) (fun c1 => ?_)
    · have q2 := q y hy rfl (fun z => c1 (by rw [z]; rfl))
      have hp := hP y hy
      obtain ⟨p, ep⟩ : ∃ p : Nat → Bool, p = P y := ⟨_, rfl⟩
      rw [← ep] at q2 hp
      have pno : ∀ e, e < 64 → ¬ (e / 8 < e % 8 ∧ e / 8 / 4 = e % 8 / 4) → p e = false := by
        intro e he hno
        cases z : p e with
        | false => rfl
        | true => exact absurd ⟨((hp e he).mp z).1, ((hp e he).mp z).2.1⟩ hno
      refine J_iconst (v := 0) hS dX7_blurred_17 (by decide) ?_
      refine J_istore_n (lt := fun f1 => [some (.ref 1), some (.int (nI y)), some (.int k), some (.int f1), none, none, none]) hS dX7_blurred_18 (Nat.le_of_ble_eq_true rfl) (fun _ => rfl) (fun f1 ef1 => ?_)
      refine J_iconst (v := 0) hS dX7_blurred_19 (by decide) ?_
      refine J_istore (lt := fun a1 => [some (.ref 1), some (.int (nI y)), some (.int k), some (.int f1), some (.int a1), none, none]) hS dX7_blurred_20 (Nat.le_of_ble_eq_true rfl) (fun _ => rfl) (fun a1 ea1 => ?_)
      refine J_weak (ls' := [some (.ref 1), some (.int (nI y)), some (.int k), some (.int f1), some (.int a1), none, none]) ⟨Or.inr rfl, Or.inr rfl, Or.inr rfl, Or.inr rfl, Or.inr rfl, Or.inl rfl, Or.inl rfl, trivial⟩ ?_
      suffices H : ∀ (r a : Nat) (f v : Int32), a + r = 8 → v = nI a → f = nI (here p (8 * a)).length → bkA p k 0 64 = bkA p k (8 * a) (64 - 8 * a) → J S 0 0 g 22 [some (.ref 1), some (.int (nI y)), some (.int k), some (.int f), some (.int v), none, none] [] by
        exact H 8 0 f1 a1 (by omega) ea1 ef1 rfl
      intro r
      induction r with
      | zero =>
        intro a f v ha hv hf hb
        have e : a = 8 := by omega
        subst hv
        refine J_iload hS dX7_blurred_22 rfl ?_
        refine J_bipush (v := 8) hS dX7_blurred_24 (by decide) ?_
        refine J_icmp_ge (tgt := 97) hS dX7_blurred_26 (by decide) (fun c2 => ?_) (fun c2 => ?_)
        ·
          refine J_iload_n hS dX7_blurred_97 rfl ?_
          refine J_iconst (v := (-1)) hS dX7_blurred_98 (by decide) ?_
          rw [hb, e] at q2
          rw [e] at hf
          refine J_icmp_ne (tgt := 106) hS dX7_blurred_99 (by decide) (fun c3 => ?_) (fun c3 => ?_)
          ·
            refine J_iconst (v := (-1)) hS dX7_blurred_106 (by decide) ?_
            refine J_iret hS hZ hr dX7_blurred_107 (by omega) (by omega) ?_
            rw [show bkA p k (8 * 8) (64 - 8 * 8) = if k = -1 then nI (here p (8 * 8)).length else -1 from rfl, if_neg c3] at q2; exact q2
          ·
            refine J_iload_n hS dX7_blurred_102 rfl ?_
            refine J_goto (tgt := 107) hS dX7_blurred_103 (by decide) ?_
            refine J_iret hS hZ hr dX7_blurred_107 (by omega) (by omega) ?_
            rw [show bkA p k (8 * 8) (64 - 8 * 8) = if k = -1 then nI (here p (8 * 8)).length else -1 from rfl, if_pos c3] at q2; rw [hf]; exact q2
        · exact absurd (nI_le (show 8 ≤ a by omega) (by omega)) c2
      | succ r ih =>
        intro a f v ha hv hf hb
        subst hv
        obtain ⟨bh, hbh⟩ : ∃ bh : Nat, bh = if a < 4 then 4 else 8 := ⟨_, rfl⟩
        have hbh8 : bh ≤ 8 ∧ a < bh := by rw [hbh]; split <;> omega
        have inner : ∀ (s b : Nat) (f v : Int32), b + s = bh → a + 1 ≤ b → v = nI b → f = nI (here p (8 * a + b)).length → bkA p k 0 64 = bkA p k (8 * a + b) (64 - (8 * a + b)) → J S 0 0 g 49 [some (.ref 1), some (.int (nI y)), some (.int k), some (.int f), some (.int (nI a)), some (.int (nI bh)), some (.int v)] [] := by
          intro s
          induction s with
          | zero =>
            intro b f v hb1 hb2 hv hf hb
            have e : b = bh := by omega
            subst hv
            refine J_iload hS dX7_blurred_49 rfl ?_
            refine J_iload hS dX7_blurred_51 rfl ?_
            refine J_icmp_ge (tgt := 91) hS dX7_blurred_53 (by decide) (fun c2 => ?_) (fun c2 => ?_)
            · have sk : ∀ i, 8 * a + b ≤ i → i < 8 * a + b + (8 - b) → p i = false := fun i h1 h2 => pno i (by omega) (fun z => by
                rw [hbh] at e
                by_cases z4 : a < 4
                · rw [if_pos z4] at e; omega
                · rw [if_neg z4] at e; omega)
              refine J_iinc (lt := fun a2 => [some (.ref 1), some (.int (nI y)), some (.int k), some (.int f), some (.int a2), some (.int (nI bh)), some (.int (nI b))]) (v := 1) hS dX7_blurred_91 rfl (by decide) (fun _ => rfl) (fun a2 ea2 => ?_)
              refine J_goto (tgt := 22) hS dX7_blurred_94 (by decide) ?_
              refine J_weak (ls' := [some (.ref 1), some (.int (nI y)), some (.int k), some (.int f), some (.int a2), none, none]) ⟨Or.inr rfl, Or.inr rfl, Or.inr rfl, Or.inr rfl, Or.inr rfl, Or.inl rfl, Or.inl rfl, trivial⟩ ?_
              refine ih (a + 1) f a2 (by omega) (by rw [ea2]; exact nI_1 a) ?_ ?_
              · rw [hf, ← here_skip sk, show 8 * a + b + (8 - b) = 8 * (a + 1) by omega]
              · rw [hb, show 64 - (8 * a + b) = (8 - b) + (64 - 8 * (a + 1)) by omega, bkA_skip sk, show 8 * a + b + (8 - b) = 8 * (a + 1) by omega]
            · exact absurd (nI_le (show bh ≤ b by omega) (by omega)) c2
          | succ s ih2 =>
            intro b f v hb1 hb2 hv hf hb
            subst hv
            have hs := here_succ p (8 * a + b)
            have d1 : (8 * a + b) / 8 = a := by omega
            have d2 : (8 * a + b) % 8 = b := by omega
            have hg : a < b ∧ a / 4 = b / 4 := by
              refine ⟨by omega, ?_⟩
              rw [hbh] at hb1
              by_cases z4 : a < 4
              · rw [if_pos z4] at hb1; omega
              · rw [if_neg z4] at hb1; omega
            have hpb : p (8 * a + b) = true ↔ blr g 2 n y a b := by
              rw [hp _ (by omega), d1, d2]
              exact ⟨fun z => z.2.2, fun z => ⟨hg.1, hg.2, z⟩⟩
            refine J_iload hS dX7_blurred_49 rfl ?_
            refine J_iload hS dX7_blurred_51 rfl ?_
            refine J_icmp_ge (tgt := 91) hS dX7_blurred_53 (by decide) (fun c2 => ?_) (fun c2 => ?_)
            · exact absurd c2 (nI_ge (show b < bh by omega) (by omega))
            ·
              refine J_aload_n hS dX7_blurred_56 rfl ?_
              refine J_iload_n hS dX7_blurred_57 rfl ?_
              refine J_iload hS dX7_blurred_58 rfl ?_
              refine J_iload hS dX7_blurred_60 rfl ?_
              refine J_callV3 (X' := fun _ _ => False) hS dX7_blurred_62 mvX7_345 ob1 rfl (by decide) (by decide) (Nat.le_of_ble_eq_true rfl) ⟨Nat.le_trans (by decide) hR.1, Nat.le_trans (by decide) hR.2⟩ (fun _ _ q => q.elim) (c_areBlurred hn hm hy (show a < 8 by omega) (show b < 8 by omega) (fun rr t1 t2 => ?_))
              have hu : bkA p k (8 * a + b) (64 - (8 * a + b)) = if p (8 * a + b) = true ∧ k = nI (here p (8 * a + b)).length then nI (8 * a + b) else bkA p k (8 * a + b + 1) (64 - (8 * a + b + 1)) := by
                rw [show 64 - (8 * a + b) = 64 - (8 * a + b + 1) + 1 by omega]; rfl
              refine J_if_eq (tgt := 85) hS dX7_blurred_65 (by decide) (fun c3 => ?_) (fun c3 => ?_)
              · have hno : p (8 * a + b) = false := by
                  cases z : p (8 * a + b) with
                  | false => rfl
                  | true => rw [t2.mpr (hpb.mp z)] at c3; exact absurd c3 (by decide)
                refine J_iinc (lt := fun v2 => [some (.ref 1), some (.int (nI y)), some (.int k), some (.int f), some (.int (nI a)), some (.int (nI bh)), some (.int v2)]) (v := 1) hS dX7_blurred_85 rfl (by decide) (fun _ => rfl) (fun v2 ev2 => ?_)
                refine J_goto (tgt := 49) hS dX7_blurred_88 (by decide) ?_
                exact ih2 (b + 1) f v2 (by omega) (by omega) (by rw [ev2]; exact nI_1 b) (by rw [show 8 * a + (b + 1) = 8 * a + b + 1 by omega, hf, hs]; simp [hno]) (by rw [hb, hu, if_neg (fun z => by rw [hno] at z; exact absurd z.1 (by decide))]; rfl)
              · have hyes : p (8 * a + b) = true := hpb.mpr (t2.mp (t1.resolve_left c3))
                refine J_iload_n hS dX7_blurred_68 rfl ?_
                refine J_iload_n hS dX7_blurred_69 rfl ?_
                refine J_icmp_ne (tgt := 82) hS dX7_blurred_70 (by decide) (fun c4 => ?_) (fun c4 => ?_)
                ·
                  refine J_iinc (lt := fun f2 => [some (.ref 1), some (.int (nI y)), some (.int k), some (.int f2), some (.int (nI a)), some (.int (nI bh)), some (.int (nI b))]) (v := 1) hS dX7_blurred_82 rfl (by decide) (fun _ => rfl) (fun f2 ef2 => ?_)
                  refine J_iinc (lt := fun v2 => [some (.ref 1), some (.int (nI y)), some (.int k), some (.int f2), some (.int (nI a)), some (.int (nI bh)), some (.int v2)]) (v := 1) hS dX7_blurred_85 rfl (by decide) (fun _ => rfl) (fun v2 ev2 => ?_)
                  refine J_goto (tgt := 49) hS dX7_blurred_88 (by decide) ?_
                  exact ih2 (b + 1) f2 v2 (by omega) (by omega) (by rw [ev2]; exact nI_1 b) (by rw [show 8 * a + (b + 1) = 8 * a + b + 1 by omega, ef2, hf, hs, nI_1]; simp [hyes]) (by rw [hb, hu, if_neg (fun z => c4 (by rw [hf]; exact z.2.symm))]; rfl)
                ·
                  refine J_bipush (v := 8) hS dX7_blurred_73 (by decide) ?_
                  refine J_iload hS dX7_blurred_75 rfl ?_
                  refine J_imul hS dX7_blurred_77 ?_
                  refine J_iload hS dX7_blurred_78 rfl ?_
                  refine J_iadd hS dX7_blurred_80 ?_
                  show J S 0 0 (g) 81 [some (.ref 1), some (.int (nI y)), some (.int k), some (.int f), some (.int (nI a)), some (.int (nI bh)), some (.int (nI b))] [.int _]
                  rw [show (8 : Int32) * nI a + nI b = nI (8 * a + b) by rw [n8, pk_mul, nI_add]]
                  refine J_iret hS hZ hr dX7_blurred_81 (by omega) (by omega) ?_
                  rw [hb, hu, if_pos ⟨hyes, by rw [← hf]; exact c4.symm⟩] at q2; exact q2
        have go2 : ∀ w : Int32, w = nI bh → J S 0 0 g 41 [some (.ref 1), some (.int (nI y)), some (.int k), some (.int f), some (.int (nI a)), none, none] [.int w] := by
          intro w hw
          have sk : ∀ i, 8 * a ≤ i → i < 8 * a + (a + 1) → p i = false := fun i h1 h2 => pno i (by omega) (fun z => by omega)
          refine J_istore (lt := fun w2 => [some (.ref 1), some (.int (nI y)), some (.int k), some (.int f), some (.int (nI a)), some (.int w2), none]) hS dX7_blurred_41 (Nat.le_of_ble_eq_true rfl) (fun _ => rfl) (fun w2 ew2 => ?_)
          refine J_iload hS dX7_blurred_43 rfl ?_
          refine J_iconst (v := 1) hS dX7_blurred_45 (by decide) ?_
          refine J_iadd hS dX7_blurred_46 ?_
          refine J_istore (lt := fun v2 => [some (.ref 1), some (.int (nI y)), some (.int k), some (.int f), some (.int (nI a)), some (.int w2), some (.int v2)]) hS dX7_blurred_47 (Nat.le_of_ble_eq_true rfl) (fun _ => rfl) (fun v2 ev2 => ?_)
          rw [show w2 = nI bh from ew2.trans hw]
          refine inner (bh - (a + 1)) (a + 1) f v2 (by omega) (by omega) (by rw [ev2]; exact nI_1 a) ?_ ?_
          · rw [hf, ← here_skip sk]
          · rw [hb, show 64 - 8 * a = (a + 1) + (64 - (8 * a + (a + 1))) by omega, bkA_skip sk]
        refine J_iload hS dX7_blurred_22 rfl ?_
        refine J_bipush (v := 8) hS dX7_blurred_24 (by decide) ?_
        refine J_icmp_ge (tgt := 97) hS dX7_blurred_26 (by decide) (fun c2 => ?_) (fun c2 => ?_)
        · exact absurd c2 (nI_ge (show a < 8 by omega) (by decide))
        ·
          refine J_iload hS dX7_blurred_29 rfl ?_
          refine J_iconst (v := 4) hS dX7_blurred_31 (by decide) ?_
          refine J_icmp_ge (tgt := 39) hS dX7_blurred_32 (by decide) (fun c3 => ?_) (fun c3 => ?_)
          ·
            refine J_bipush (v := 8) hS dX7_blurred_39 (by decide) ?_
            refine go2 8 ?_
            rw [hbh, if_neg (fun z => absurd c3 (nI_ge z (by decide)))]; rfl
          ·
            refine J_iconst (v := 4) hS dX7_blurred_35 (by decide) ?_
            refine J_goto (tgt := 41) hS dX7_blurred_36 (by decide) ?_
            refine go2 4 ?_
            rw [hbh, if_pos ?_]; rfl
            rcases Nat.lt_or_ge a 4 with z | z
            · exact z
            · exact absurd (nI_le z (by omega)) c3
    ·
      refine J_iconst (v := (-1)) hS dX7_blurred_15 (by decide) ?_
      refine J_iret hS hZ hr dX7_blurred_16 (by omega) (by omega) ?_
      exact q0 y hy rfl ((nI_eq (by omega) (by decide)).mp c1)
  ·
    refine J_callS1 hS dX7_blurred_1 msX7_103 rfl (by decide) (by decide) (Nat.le_of_ble_eq_true rfl) ⟨Nat.le_trans (by decide) hR.1, Nat.le_trans (by decide) hR.2⟩ (fun _ _ q => q) (c_checkYardBad hby (JX_out hS hZ ht (by omega) (by omega) (x hby)))
set_option maxRecDepth 10000 in
theorem c_root {n m : Nat} {sy : Nat → Nat} {c o : Int32} (hn : n ≤ 24) (hgm : g 2 6 = nI n) (hm : m ≤ 1500) (em : g 143 0 = nI m) (hsy : ∀ t, t < m → sy t < 24 ∧ g 144 (t * 19 + 1) = nI (sy t)) (x : ou n c → X eNS g) (x2 : ¬ ou n c → ou 6 o → X eIA g) (q : ¬ ou n c → ¬ ou 6 o → ∀ g', (∀ z, z ≠ 158 → g' z = g z) → Q (some (.int (rtA (fun b => (ftB (fun j => nI (ftN g sy b o j m)) 24).1) 24 (1 <<< (c &&& 31)) c))) g') : Ct l E lay NC 8 1 6 yX7_root [.ref 1, .int c, .int o] g Q X := by
  refine Ct_in k_yX7_root (by decide) rfl (Nat.le_of_ble_eq_true rfl) rfl ?_
  intro S hS hZ hr ht hR
  show J S 0 0 (g) 0 [some (.ref 1), some (.int c), some (.int o), none, none, none, none] []
  refine J_aload_n hS dX7_root_0 rfl ?_
  refine J_iload_n hS dX7_root_1 rfl ?_
  rcases in_or (y := c) (b := n) (by first | decide | omega) with ⟨c1, hc1, ec1⟩ | hbc1
  ·
    subst ec1
    have nc := nou hc1 (by omega)
    refine J_callV1 (X' := fun _ _ => False) hS dX7_root_2 mvX7_121 ob1 rfl (by decide) (by decide) (Nat.le_of_ble_eq_true rfl) ⟨Nat.le_trans (by decide) hR.1, Nat.le_trans (by decide) hR.2⟩ (fun _ _ q => q.elim) (c_checkChildOk hgm hn hc1 ?_)
    refine J_iload_n hS dX7_root_5 rfl ?_
    rcases in_or (y := o) (b := 6) (by first | decide | omega) with ⟨o1, ho1, eo1⟩ | hbo1
    ·
      subst eo1
      have q2 := q nc (nou ho1 (by decide))
      obtain ⟨F, hF⟩ : ∃ F : Int32 → Int32, F = fun b => (ftB (fun j => nI (ftN g sy b (nI o1) j m)) 24).1 := ⟨_, rfl⟩
      rw [← hF] at q2
      refine J_callS1 (X' := fun _ _ => False) hS dX7_root_6 msX7_161 rfl (by decide) (by decide) (Nat.le_of_ble_eq_true rfl) ⟨Nat.le_trans (by decide) hR.1, Nat.le_trans (by decide) hR.2⟩ (fun _ _ q => q.elim) (c_checkOrderOk ho1 ?_)
      refine J_iconst (v := 1) hS dX7_root_9 (by decide) ?_
      refine J_iload_n hS dX7_root_10 rfl ?_
      refine J_ishl hS dX7_root_11 ?_
      refine J_istore_n (lt := fun a1 => [some (.ref 1), some (.int (nI c1)), some (.int (nI o1)), some (.int a1), none, none, none]) hS dX7_root_12 (Nat.le_of_ble_eq_true rfl) (fun _ => rfl) (fun a1 ea1 => ?_)
      refine J_iload_n hS dX7_root_13 rfl ?_
      refine J_istore (lt := fun l1 => [some (.ref 1), some (.int (nI c1)), some (.int (nI o1)), some (.int a1), some (.int l1), none, none]) hS dX7_root_14 (Nat.le_of_ble_eq_true rfl) (fun _ => rfl) (fun l1 el1 => ?_)
      refine J_iconst (v := 0) hS dX7_root_16 (by decide) ?_
      refine J_istore (lt := fun i1 => [some (.ref 1), some (.int (nI c1)), some (.int (nI o1)), some (.int a1), some (.int l1), some (.int i1), none]) hS dX7_root_17 (Nat.le_of_ble_eq_true rfl) (fun _ => rfl) (fun i1 ei1 => ?_)
      refine J_weak (ls' := [some (.ref 1), some (.int (nI c1)), some (.int (nI o1)), some (.int a1), some (.int l1), some (.int i1), none]) ⟨Or.inr rfl, Or.inr rfl, Or.inr rfl, Or.inr rfl, Or.inr rfl, Or.inr rfl, Or.inl rfl, trivial⟩ ?_
      suffices H : ∀ (r k : Nat) (a v i : Int32) (g1 : Mm), k + r = 24 → i = nI k → (∀ z, z ≠ 158 → g1 z = g z) → rtA F 24 (1 <<< (nI c1 &&& 31)) (nI c1) = rtA F r a v → J S 0 0 g1 19 [some (.ref 1), some (.int (nI c1)), some (.int (nI o1)), some (.int a), some (.int v), some (.int i), none] [] by
        exact H 24 0 a1 l1 i1 g (by omega) ei1 (fun _ _ => rfl) (by rw [ea1, el1])
      intro r
      induction r with
      | zero =>
        intro k a v i g1 hk hi k1 hb
        have e : k = 24 := by omega
        subst hi
        refine J_iload hS dX7_root_19 rfl ?_
        refine J_bipush (v := 24) hS dX7_root_21 (by decide) ?_
        refine J_icmp_ge (tgt := 71) hS dX7_root_23 (by decide) (fun cc2 => ?_) (fun cc2 => ?_)
        ·
          refine J_iload hS dX7_root_71 rfl ?_
          refine J_iret hS hZ hr dX7_root_73 (by omega) (by omega) ?_
          rw [hb] at q2; exact q2 g1 k1
        · exact absurd (nI_le (show 24 ≤ k by omega) (by omega)) cc2
      | succ r ih =>
        intro k a v i g1 hk hi k1 hb
        subst hi
        have hu : rtA F (r + 1) a v = if F v = -1 ∨ (a >>> (F v &&& 31)) &&& 1 = 1 then v else rtA F r (a ||| (1 <<< (F v &&& 31))) (F v) := rfl
        refine J_iload hS dX7_root_19 rfl ?_
        refine J_bipush (v := 24) hS dX7_root_21 (by decide) ?_
        refine J_icmp_ge (tgt := 71) hS dX7_root_23 (by decide) (fun cc2 => ?_) (fun cc2 => ?_)
        · exact absurd cc2 (nI_ge (show k < 24 by omega) (by decide))
        ·
          refine J_aload_n hS dX7_root_26 rfl ?_
          refine J_iload hS dX7_root_27 rfl ?_
          refine J_iload_n hS dX7_root_29 rfl ?_
          refine J_callV2 (X' := fun _ _ => False) hS dX7_root_30 mvX7_351 ob1 rfl (by decide) (by decide) (Nat.le_of_ble_eq_true rfl) ⟨Nat.le_trans (by decide) hR.1, Nat.le_trans (by decide) hR.2⟩ (fun _ _ q => q.elim) (c_findTeacher hm (by rw [k1 143 (by decide)]; exact em) (fun t ht1 => by rw [k1 144 (by decide)]; exact hsy t ht1) (fun g2 d1 => ?_))
          refine J_istore (lt := fun x1 => [some (.ref 1), some (.int (nI c1)), some (.int (nI o1)), some (.int a), some (.int v), some (.int (nI k)), some (.int x1)]) hS dX7_root_33 (Nat.le_of_ble_eq_true rfl) (fun _ => rfl) (fun x1 ex1 => ?_)
          refine J_iload hS dX7_root_35 rfl ?_
          refine J_iconst (v := (-1)) hS dX7_root_37 (by decide) ?_
          have ex : x1 = F v := by
            rw [ex1, hF]
            show (ftB (fun j => nI (ftN g1 sy v (nI o1) j m)) 24).1 = (ftB (fun j => nI (ftN g sy v (nI o1) j m)) 24).1
            have : (fun j => nI (ftN g1 sy v (nI o1) j m)) = fun j => nI (ftN g sy v (nI o1) j m) := by
              funext j; unfold ftN; rw [k1 144 (by decide)]
            rw [this]
          have k2 : ∀ z, z ≠ 158 → g2 z = g z := fun z hz => by rw [d1 z hz, k1 z hz]
          have fin : (F v = -1 ∨ (a >>> (F v &&& 31)) &&& 1 = 1) → J S 0 0 g2 71 [some (.ref 1), some (.int (nI c1)), some (.int (nI o1)), some (.int a), some (.int v), some (.int (nI k)), some (.int x1)] [] := by
            intro z
            refine J_iload hS dX7_root_71 rfl ?_
            refine J_iret hS hZ hr dX7_root_73 (by omega) (by omega) ?_
            rw [hb, hu, if_pos z] at q2; exact q2 g2 k2
          refine J_icmp_eq (tgt := 71) hS dX7_root_38 (by decide) (fun c3 => ?_) (fun c3 => ?_)
          · exact fin (Or.inl (by rw [← ex]; exact c3))
          ·
            refine J_iload_n hS dX7_root_41 rfl ?_
            refine J_iload hS dX7_root_42 rfl ?_
            refine J_ishr hS dX7_root_44 ?_
            refine J_iconst (v := 1) hS dX7_root_45 (by decide) ?_
            refine J_iand hS dX7_root_46 ?_
            refine J_iconst (v := 1) hS dX7_root_47 (by decide) ?_
            refine J_icmp_ne (tgt := 54) hS dX7_root_48 (by decide) (fun c4 => ?_) (fun c4 => ?_)
            ·
              refine J_iload_n hS dX7_root_54 rfl ?_
              refine J_iconst (v := 1) hS dX7_root_55 (by decide) ?_
              refine J_iload hS dX7_root_56 rfl ?_
              refine J_ishl hS dX7_root_58 ?_
              refine J_ior hS dX7_root_59 ?_
              refine J_istore_n (lt := fun a2 => [some (.ref 1), some (.int (nI c1)), some (.int (nI o1)), some (.int a2), some (.int v), some (.int (nI k)), some (.int x1)]) hS dX7_root_60 (Nat.le_of_ble_eq_true rfl) (fun _ => rfl) (fun a2 ea2 => ?_)
              refine J_iload hS dX7_root_61 rfl ?_
              refine J_istore (lt := fun v2 => [some (.ref 1), some (.int (nI c1)), some (.int (nI o1)), some (.int a2), some (.int v2), some (.int (nI k)), some (.int x1)]) hS dX7_root_63 (Nat.le_of_ble_eq_true rfl) (fun _ => rfl) (fun v2 ev2 => ?_)
              refine J_iinc (lt := fun i2 => [some (.ref 1), some (.int (nI c1)), some (.int (nI o1)), some (.int a2), some (.int v2), some (.int i2), some (.int x1)]) (v := 1) hS dX7_root_65 rfl (by decide) (fun _ => rfl) (fun i2 ei2 => ?_)
              refine J_goto (tgt := 19) hS dX7_root_68 (by decide) ?_
              refine J_weak (ls' := [some (.ref 1), some (.int (nI c1)), some (.int (nI o1)), some (.int a2), some (.int v2), some (.int i2), none]) ⟨Or.inr rfl, Or.inr rfl, Or.inr rfl, Or.inr rfl, Or.inr rfl, Or.inr rfl, Or.inl rfl, trivial⟩ ?_
              refine ih (k + 1) a2 v2 i2 g2 (by omega) (by rw [ei2]; exact nI_1 k) k2 ?_
              rw [hb, hu, if_neg ?_, ea2, ev2, ex]
              rintro (z | z)
              · exact c3 (by rw [ex]; exact z)
              · exact c4 (by rw [ex]; exact z)
            ·
              refine J_goto (tgt := 71) hS dX7_root_51 (by decide) ?_
              exact fin (Or.inr (by rw [← ex]; exact c4))
    ·
      refine J_callS1 hS dX7_root_6 msX7_161 rfl (by decide) (by decide) (Nat.le_of_ble_eq_true rfl) ⟨Nat.le_trans (by decide) hR.1, Nat.le_trans (by decide) hR.2⟩ (fun _ _ q => q) (c_checkOrderBad hbo1 (JX_out hS hZ ht (by omega) (by omega) (x2 nc hbo1)))
  ·
    refine J_callV1 hS dX7_root_2 mvX7_121 ob1 rfl (by decide) (by decide) (Nat.le_of_ble_eq_true rfl) ⟨Nat.le_trans (by decide) hR.1, Nat.le_trans (by decide) hR.2⟩ (fun _ _ q => q) (c_checkChildBad (by rw [hgm]; exact hbc1) (JX_out hS hZ ht (by omega) (by omega) (x hbc1)))
theorem c_count {n : Nat} {w : Int32} (hn : n ≤ 24) (hm : g 2 6 = nI n) {f : Nat} (hf : ¬ g 1 16 = -1 → f < 3 ∧ g 1 16 = nI f) (q0 : w = 0 → Q (some (.int (g 2 2))) g) (q1 : w = 1 → Q (some (.int (g 2 6))) g) (q2 : w = 2 → Q (some (.int (nI (here (thr g 2 0) n).length + nI (here (thr g 2 1) n).length + nI (here (thr g 2 2) n).length))) g) (q3 : w = 3 → Q (some (.int (g 143 0))) g) (q4 : w = 4 → Q (some (.int (g 1 14))) g) (q5 : w = 5 → Q (some (.int (g 2 5))) g) (q6 : w = 6 → Q (some (.int (g 1 15))) g) (q7 : w = 7 → g 1 16 = -1 → Q (some (.int (-1))) g) (q7' : w = 7 → ¬ g 1 16 = -1 → Q (some (.int (g (101 + 2 * f) 3))) g) (q8 : w = 8 → Q (some (.int (g 1 17))) g) (q9 : w = 9 → Q (some (.int (g 1 12))) g) (q10 : w = 10 → Q (some (.int (g 2 1))) g) (q11 : w = 11 → Q (some (.int (g 2 0))) g) (q' : ou 12 w → Q (some (.int (-1))) g) : Ct l E lay NC 3 0 0 yX7_count [.ref 1, .int w] g Q X := by
  refine Ct_in k_yX7_count (by decide) rfl (Nat.le_of_ble_eq_true rfl) rfl ?_
  intro S hS hZ hr ht hR
  show J S 0 0 (g) 0 [some (.ref 1), some (.int w)] []
  refine J_iload_n hS dX7_count_0 rfl ?_
  rcases in_or (y := w) (b := 12) (by first | decide | omega) with ⟨j, hj, ej⟩ | hbj
  ·
    subst ej
    rcases (show j = 0 ∨ j = 1 ∨ j = 2 ∨ j = 3 ∨ j = 4 ∨ j = 5 ∨ j = 6 ∨ j = 7 ∨ j = 8 ∨ j = 9 ∨ j = 10 ∨ j = 11 by omega) with e | e | e | e | e | e | e | e | e | e | e | e
    · subst e
      refine J_tableIn (off := 63) (tgt := 64) hS dX7_count_1 (by decide) (by decide) rfl (by decide) ?_
      refine J_aload_n hS dX7_count_64 rfl ?_
      refine J_getR (t := 2) hS dX7_count_65 flX7_10 ob1 rfl ?_
      refine J_getI hS dX7_count_68 flX7_184 wo_now.ob rfl ?_
      refine J_iret hS hZ hr dX7_count_71 (by omega) (by omega) ?_
      exact q0 rfl
    · subst e
      refine J_tableIn (off := 71) (tgt := 72) hS dX7_count_1 (by decide) (by decide) rfl (by decide) ?_
      refine J_aload_n hS dX7_count_72 rfl ?_
      refine J_getR (t := 2) hS dX7_count_73 flX7_10 ob1 rfl ?_
      refine J_getI hS dX7_count_76 flX7_114 wo_now.ob rfl ?_
      refine J_iret hS hZ hr dX7_count_79 (by omega) (by omega) ?_
      exact q1 rfl
    · subst e
      refine J_tableIn (off := 79) (tgt := 80) hS dX7_count_1 (by decide) (by decide) rfl (by decide) ?_
      refine J_aload_n hS dX7_count_80 rfl ?_
      refine J_getR (t := 2) hS dX7_count_81 flX7_10 ob1 rfl ?_
      refine J_iconst (v := 0) hS dX7_count_84 (by decide) ?_
      refine J_callV1 (X' := fun _ _ => False) hS dX7_count_85 mvX7_319 wo_now.ob rfl (by decide) (by decide) (Nat.le_of_ble_eq_true rfl) ⟨Nat.le_trans (by decide) hR.1, Nat.le_trans (by decide) hR.2⟩ (fun _ _ q => q.elim) (c_countThere wo_now hn hm ?_)
      refine J_aload_n hS dX7_count_88 rfl ?_
      refine J_getR (t := 2) hS dX7_count_89 flX7_10 ob1 rfl ?_
      refine J_iconst (v := 1) hS dX7_count_92 (by decide) ?_
      refine J_callV1 (X' := fun _ _ => False) hS dX7_count_93 mvX7_319 wo_now.ob rfl (by decide) (by decide) (Nat.le_of_ble_eq_true rfl) ⟨Nat.le_trans (by decide) hR.1, Nat.le_trans (by decide) hR.2⟩ (fun _ _ q => q.elim) (c_countThere wo_now hn hm ?_)
      refine J_iadd hS dX7_count_96 ?_
      refine J_aload_n hS dX7_count_97 rfl ?_
      refine J_getR (t := 2) hS dX7_count_98 flX7_10 ob1 rfl ?_
      refine J_iconst (v := 2) hS dX7_count_101 (by decide) ?_
      refine J_callV1 (X' := fun _ _ => False) hS dX7_count_102 mvX7_319 wo_now.ob rfl (by decide) (by decide) (Nat.le_of_ble_eq_true rfl) ⟨Nat.le_trans (by decide) hR.1, Nat.le_trans (by decide) hR.2⟩ (fun _ _ q => q.elim) (c_countThere wo_now hn hm ?_)
      refine J_iadd hS dX7_count_105 ?_
      refine J_iret hS hZ hr dX7_count_106 (by omega) (by omega) ?_
      exact q2 rfl
    · subst e
      refine J_tableIn (off := 106) (tgt := 107) hS dX7_count_1 (by decide) (by decide) rfl (by decide) ?_
      refine J_aload_n hS dX7_count_107 rfl ?_
      refine J_getR (t := 143) hS dX7_count_108 flX7_38 ob1 rfl ?_
      refine J_getI hS dX7_count_111 flX7_214 ob143 rfl ?_
      refine J_iret hS hZ hr dX7_count_114 (by omega) (by omega) ?_
      exact q3 rfl
    · subst e
      refine J_tableIn (off := 114) (tgt := 115) hS dX7_count_1 (by decide) (by decide) rfl (by decide) ?_
      refine J_aload_n hS dX7_count_115 rfl ?_
      refine J_getI hS dX7_count_116 flX7_80 ob1 rfl ?_
      refine J_iret hS hZ hr dX7_count_119 (by omega) (by omega) ?_
      exact q4 rfl
    · subst e
      refine J_tableIn (off := 119) (tgt := 120) hS dX7_count_1 (by decide) (by decide) rfl (by decide) ?_
      refine J_aload_n hS dX7_count_120 rfl ?_
      refine J_getR (t := 2) hS dX7_count_121 flX7_10 ob1 rfl ?_
      refine J_getI hS dX7_count_124 flX7_205 wo_now.ob rfl ?_
      refine J_iret hS hZ hr dX7_count_127 (by omega) (by omega) ?_
      exact q5 rfl
    · subst e
      refine J_tableIn (off := 127) (tgt := 128) hS dX7_count_1 (by decide) (by decide) rfl (by decide) ?_
      refine J_aload_n hS dX7_count_128 rfl ?_
      refine J_getI hS dX7_count_129 flX7_83 ob1 rfl ?_
      refine J_iret hS hZ hr dX7_count_132 (by omega) (by omega) ?_
      exact q6 rfl
    · subst e
      refine J_tableIn (off := 132) (tgt := 133) hS dX7_count_1 (by decide) (by decide) rfl (by decide) ?_
      refine J_aload_n hS dX7_count_133 rfl ?_
      refine J_getI hS dX7_count_134 flX7_86 ob1 rfl ?_
      refine J_iconst (v := (-1)) hS dX7_count_137 (by decide) ?_
      refine J_icmp_ne (tgt := 145) hS dX7_count_138 (by decide) (fun c1 => ?_) (fun c1 => ?_)
      · obtain ⟨f3, ef⟩ := hf c1
        have hF : Fm (101 + 2 * f) := ⟨f, f3, rfl⟩
        refine J_aload_n hS dX7_count_145 rfl ?_
        refine J_getR (t := 160) hS dX7_count_146 flX7_25 ob1 rfl ?_
        refine J_aload_n hS dX7_count_149 rfl ?_
        refine J_getI hS dX7_count_150 flX7_86 ob1 rfl ?_
        show J S 0 0 (g) 153 [some (.ref 1), some (.int (nI 7))] [.int _, .ref (160)]
        rw [ef]
        refine J_aaldN (t0 := 4) (t := 101 + 2 * f) hS (f) dX7_count_153 aq160 (fun _ => rfl) (by first | rfl | (simp only [n0, n1, n2, n3, n4, n5, n6, n7, n8, n9, n10, n11, n12, n13, n14, n15, n16, n17, n18, n19, n20, n24, n32, n56, n60, n64, n72, n99, n100, n128, n136, n142, n144, n200, n300, n999, n1000, n1500, n3464, nI_add, pk_mul] <;> first | rfl | (congr 1; omega))) (by omega) (by decide) rfl ?_
        refine J_getI hS dX7_count_154 flX7_277 hF.ob rfl ?_
        refine J_iret hS hZ hr dX7_count_157 (by omega) (by omega) ?_
        exact q7' rfl c1
      ·
        refine J_iconst (v := (-1)) hS dX7_count_141 (by decide) ?_
        refine J_goto (tgt := 157) hS dX7_count_142 (by decide) ?_
        refine J_iret hS hZ hr dX7_count_157 (by omega) (by omega) ?_
        exact q7 rfl c1
    · subst e
      refine J_tableIn (off := 157) (tgt := 158) hS dX7_count_1 (by decide) (by decide) rfl (by decide) ?_
      refine J_aload_n hS dX7_count_158 rfl ?_
      refine J_getI hS dX7_count_159 flX7_89 ob1 rfl ?_
      refine J_iret hS hZ hr dX7_count_162 (by omega) (by omega) ?_
      exact q8 rfl
    · subst e
      refine J_tableIn (off := 162) (tgt := 163) hS dX7_count_1 (by decide) (by decide) rfl (by decide) ?_
      refine J_aload_n hS dX7_count_163 rfl ?_
      refine J_getI hS dX7_count_164 flX7_73 ob1 rfl ?_
      refine J_iret hS hZ hr dX7_count_167 (by omega) (by omega) ?_
      exact q9 rfl
    · subst e
      refine J_tableIn (off := 167) (tgt := 168) hS dX7_count_1 (by decide) (by decide) rfl (by decide) ?_
      refine J_aload_n hS dX7_count_168 rfl ?_
      refine J_getR (t := 2) hS dX7_count_169 flX7_10 ob1 rfl ?_
      refine J_getI hS dX7_count_172 flX7_97 wo_now.ob rfl ?_
      refine J_iret hS hZ hr dX7_count_175 (by omega) (by omega) ?_
      exact q10 rfl
    · subst e
      refine J_tableIn (off := 175) (tgt := 176) hS dX7_count_1 (by decide) (by decide) rfl (by decide) ?_
      refine J_aload_n hS dX7_count_176 rfl ?_
      refine J_getR (t := 2) hS dX7_count_177 flX7_10 ob1 rfl ?_
      refine J_getI hS dX7_count_180 flX7_94 wo_now.ob rfl ?_
      refine J_iret hS hZ hr dX7_count_183 (by omega) (by omega) ?_
      exact q11 rfl
  ·
    refine J_tableOut (tgt := 184) hS dX7_count_1 (by have z := ou_tab hbj (by decide); omega) (by decide) ?_
    refine J_iconst (v := (-1)) hS dX7_count_184 (by decide) ?_
    refine J_iret hS hZ hr dX7_count_185 (by omega) (by omega) ?_
    exact q' hbj
end ClsP6


/-! THE REFERENCE: talk and run -/
def RelM (g : Mm) (z : Nz) : Prop := (∀ i, i < 3464 → g 164 i = z.w i) ∧ g 162 37 = nI z.m ∧ (∀ t j, t < 1500 → j < 19 → g 201 (20 * t + j) = z.n (t * 19 + j)) ∧ (∀ i, i < 144 → g 203 i = z.s i) ∧ (∀ o, o < 6 → g 202 (2 * o + 1) = z.t o) ∧ (∀ o, o < 6 → g 202 (2 * o) = z.c o) ∧ g 162 46 = z.f ∧ ∀ f, f < 3 → g 211 f = z.k f
/-- the first holder is known when anybody held -/
def NzI (z : Nz) : Prop := ∀ o, o < 6 → (z.t o = -1 ↔ z.c o = -1) ∧ (z.t o = -1 → ∀ c, c < 24 → z.s (c * 6 + o) = -1)
theorem NzI.nw {z : Nz} (h : NzI z) {lw : Option (List Cls)} {lo : Int32} {W : Wr} {c o : Nat} (hc : c < 24) (ho : o < 6) (ht : z.t o = -1) : nwH lw lo W z.s c o = hldB lw lo W c o := by
  unfold nwH; rw [decide_eq_true ((h o ho).2 ht c hc), Bool.true_and]
theorem NzI.nt {z : Nz} (h : NzI z) {lw : Option (List Cls)} {lo : Int32} {a b y : Nat} {mt : Nat → Nat} (ha : a < 24) (hb : b < 24) (hm : z.m < 1500) : NzI (nzT lw lo a b y mt z) := by
  intro o ho
  obtain ⟨h1, h2⟩ := h o ho
  unfold nzT
  obtain ⟨V, hV⟩ : ∃ V : Wr, V = tW6 lw lo z.w a b y mt := ⟨_, rfl⟩
  rw [← hV]
  have nm : ¬ nI z.m = -1 := nI_nem1 (by omega)
  have na : ¬ nI a = -1 := nI_nem1 (by omega)
  have nb : ¬ nI b = -1 := nI_nem1 (by omega)
  show ((if (nwH lw lo V z.s b o = true ∨ nwH lw lo V z.s a o = true) ∧ z.t o = -1 then nI z.m else z.t o) = -1 ↔ (if z.t o = -1 then (if nwH lw lo V z.s b o = true then nI b else if nwH lw lo V z.s a o = true then nI a else z.c o) else z.c o) = -1) ∧ ((if (nwH lw lo V z.s b o = true ∨ nwH lw lo V z.s a o = true) ∧ z.t o = -1 then nI z.m else z.t o) = -1 → ∀ c, c < 24 → (if ((c * 6 + o) / 6 = a ∨ (c * 6 + o) / 6 = b) ∧ nwH lw lo V z.s ((c * 6 + o) / 6) ((c * 6 + o) % 6) = true then nI z.m else z.s (c * 6 + o)) = -1)
  by_cases ht : z.t o = -1
  · by_cases e1 : nwH lw lo V z.s b o = true
    · simp [ht, e1, nm, nb]
    · by_cases e2 : nwH lw lo V z.s a o = true
      · simp [ht, e1, e2, nm, na]
      · refine ⟨by simp [ht, e1, e2, h1.mp ht], fun _ c hc => ?_⟩
        rw [show (c * 6 + o) / 6 = c by omega, show (c * 6 + o) % 6 = o by omega, if_neg ?_]
        · exact h2 ht c hc
        · rintro ⟨e | e, e'⟩
          · subst e; exact e2 e'
          · subst e; exact e1 e'
  · have hc : ¬ z.c o = -1 := fun e => ht (h1.mpr e)
    refine ⟨by simp [ht, hc], fun e => ?_⟩
    simp [ht] at e
/-- what talks of the reference leave alone -/
def FrNM (g g' : Mm) : Prop := (∀ z, z ≠ 162 → z ≠ 164 → z ≠ 191 → z ≠ 197 → z ≠ 198 → z ≠ 199 → z ≠ 201 → z ≠ 202 → z ≠ 203 → z ≠ 205 → z ≠ 211 → g' z = g z) ∧ ∀ j, (j = 0 ∨ j = 3 ∨ j = 4 ∨ j = 11 ∨ j = 12 ∨ j = 27 ∨ j = 45 ∨ j = 54) → g' 162 j = g 162 j
theorem FrNM.refl {g : Mm} : FrNM g g := ⟨fun _ _ _ _ _ _ _ _ _ _ _ _ => rfl, fun _ _ => rfl⟩
theorem FrNM.trans {g g1 g2 : Mm} (a : FrNM g g1) (b : FrNM g1 g2) : FrNM g g2 := ⟨fun z z1 z2 z3 z4 z5 z6 z7 z8 z9 za zb => (b.1 z z1 z2 z3 z4 z5 z6 z7 z8 z9 za zb).trans (a.1 z z1 z2 z3 z4 z5 z6 z7 z8 z9 za zb), fun j hj => (b.2 j hj).trans (a.2 j hj)⟩
theorem FrNM.laws {g g' : Mm} {Ls : List (List Cls)} (h : LawsM g Ls) (e : FrNM g g') : LawsM g' Ls := h.fr (e.2 11 (by decide)) (fun z z1 z2 => e.1 z (by omega) (by omega) (by omega) (by omega) (by omega) (by omega) (by omega) (by omega) (by omega) (by omega) (by omega))
theorem row_full {g' : Mm} {w w' : Wr} (k : Kp w w') (h : RowM g' 164 w' w) : ∀ i, i < 3464 → g' 164 i = w' i := by
  intro i hi
  by_cases e : Mk i
  · exact h.at hi e
  · rw [h.no hi e]
    refine (k.1 i ?_).symm
    by_cases e5 : i = 5
    · subst e5; exact Or.inl ⟨by decide, by decide⟩
    · have : 56 ≤ i ∧ (i - 56) % 142 = 3 := Decidable.byContradiction (fun z => e ⟨e5, z⟩)
      exact Or.inr ⟨this.1, by omega⟩
theorem TlM.rel {g g' : Mm} {lw : Option (List Cls)} {lo : Int32} {a b y : Nat} {mt : Nat → Nat} {z : Nz} (h : TlM g g' 164 z.w z.w lw lo a b y z.m mt) (hr : RelM g z) (hz : NzOk z) (hi : NzI z) (hm : z.m < 1500) (ha : a < 24) (hb : b < 24) (hy : y < 3) (hmt : ∀ k, mt k < 4) : RelM g' (nzT lw lo a b y mt z) := by
  obtain ⟨-, -, t1, -, t2, t3, t4, t5, t6, t7, t8, t9⟩ := h
  obtain ⟨h1, h2, h3, h4, h5, h6, h7, h8⟩ := hr
  have row := row_full (Kp_tW6 hy hmt) t1
  obtain ⟨V, hV⟩ : ∃ V : Wr, V = tW6 lw lo z.w a b y mt := ⟨_, rfl⟩
  rw [← hV] at row t5 t6 t7
  have nw : ∀ c o, c < 24 → o < 6 → nwH lw lo V (g 203) c o = nwH lw lo V z.s c o := by
    intro c o hc ho; unfold nwH; rw [h4 _ (by omega)]
  unfold RelM nzT
  rw [← hV]
  refine ⟨row, t2, fun t j ht hj => ?_, fun i hi => ?_, fun o ho => ?_, fun o ho => ?_, ?_, fun f hf => ?_⟩
  · show _ = if _ then _ else _
    by_cases c : t = z.m
    · subst c
      rw [if_pos (by omega), t4 j hj]; congr 1; omega
    · rw [if_neg (by omega), t3 _ (by omega)]; exact h3 t j ht hj
  · show _ = if _ then _ else _
    rw [t5 i hi, nw _ _ (by omega) (by omega), h4 i hi]
  · show _ = if _ then _ else _
    rw [t7 o ho, h6 o ho, h5 o ho]
    by_cases ht : z.t o = -1
    · rw [hi.nw hb ho ht, hi.nw ha ho ht]
      simp [ht, (hi o ho).1.mp ht]
    · have hc : ¬ z.c o = -1 := fun e => ht ((hi o ho).1.mpr e)
      simp [ht, hc]
  · show _ = if _ then _ else _
    rw [t6 o ho, h6 o ho]
    by_cases ht : z.t o = -1
    · rw [hi.nw hb ho ht, hi.nw ha ho ht, if_pos ht, if_pos ((hi o ho).1.mp ht)]
    · have hc : ¬ z.c o = -1 := fun e => ht ((hi o ho).1.mpr e)
      rw [if_neg ht, if_neg hc]
  · show _ = if z.f = -1 then -1 else if z.k z.f.toNatClampNeg + 1 = 100 then -1 else z.f
    rcases hz.2 with e | ⟨f, mn, f1, f2, f3, f4⟩
    · rw [(t8 (h7.trans e)).1, if_pos e]
    · rw [(t9 f mn f1 f2 (h7.trans f3) ((h8 f f1).trans f4)).2.2, f3, if_neg (nI_nem1 (by omega)), nI_clamp (by omega), f4, nI_1]
      by_cases c : mn + 1 = 100
      · rw [if_pos c, c]; rfl
      · rw [if_neg c, if_neg (fun q => c ((nI_eq (by omega) (by decide)).mp (q.trans n100)))]
  · show _ = (if z.f = -1 then z.k else upd z.k z.f.toNatClampNeg (z.k z.f.toNatClampNeg + 1)) f
    rcases hz.2 with e | ⟨f', mn, f1, f2, f3, f4⟩
    · rw [(t8 (h7.trans e)).2, h8 f hf, if_pos e]
    · obtain ⟨e1, e2, -⟩ := t9 f' mn f1 f2 (h7.trans f3) ((h8 f' f1).trans f4)
      rw [f3, if_neg (nI_nem1 (by omega)), nI_clamp (by omega)]
      by_cases c : f = f'
      · subst c; rw [e1]; unfold upd; rw [if_pos rfl, f4, nI_1]
      · rw [e2 f c, h8 f hf]; unfold upd; rw [if_neg c]
theorem TlM.frm {g g' : Mm} {w bb : Wr} {lw : Option (List Cls)} {lo : Int32} {a b y m : Nat} {mt : Nat → Nat} (h : TlM g g' 164 w bb lw lo a b y m mt) : FrNM g g' := ⟨fun z z1 z2 z3 _ z5 z6 z7 z8 z9 _ zb => h.1 z z2 z1 z3 z5 z6 z7 z8 z9 zb, fun j hj => h.2.1 j (by omega) (by omega) (by omega)⟩
section RefT3
variable {l : Launch} {E : Ey} {g : Mm} {Q : Option Value → Mm → Prop} {X : String → Mm → Prop} {n : Nat}
theorem tells_fl {g : Mm} {z : Nz} (hr : RelM g z) (hz : NzOk z) : g 162 46 = -1 ∨ ∃ f mn : Nat, f < 3 ∧ mn < 100 ∧ g 162 46 = nI f ∧ g 211 f = nI mn := by
  rcases hz.2 with e | ⟨f, mn, f1, f2, f3, f4⟩
  · exact Or.inl (hr.2.2.2.2.2.2.1.trans e)
  · exact Or.inr ⟨f, mn, f1, f2, hr.2.2.2.2.2.2.1.trans f3, (hr.2.2.2.2.2.2.2 f f1).trans f4⟩
theorem RelM.fz {g g' : Mm} {z : Nz} (h : RelM g z) (e : FrZ g g') : RelM g' z := by
  have c : ∀ a, a = 164 ∨ a = 201 ∨ a = 202 ∨ a = 203 ∨ a = 211 → g' a = g a := fun a ha => e.1 a (by omega) (by omega) (by omega) (by omega) (by omega) (by omega) (by omega) (by omega) (by omega) (by omega)
  unfold RelM
  rw [c 164 (by decide), c 201 (by decide), c 202 (by decide), c 203 (by decide), c 211 (by decide), e.2 37 (by decide), e.2 46 (by decide)]
  exact h
set_option maxRecDepth 10000 in
theorem m_talk {a b x1 x2 x3 : Int32} {z : Nz} {Ls : List (List Cls)} (hI : RI g z.w n) (hR0 : RelM g z) (hz : NzOk z) (hzi : NzI z) (hL : LawsM g Ls) (hv : isLw Ls.length (z.w 5)) (x : ou n a ∨ ou n b → ∀ g', FrZ g g' → g' 162 0 = 1 → Q (some (.int 0)) g') (xx : ¬ ou n a → ¬ ou n b → (a = b ∨ ou 4 x1 ∨ ou 4 x2 ∨ ou 4 x3) → ∀ g', FrZ g g' → g' 162 0 = 2 → Q (some (.int 0)) g')
    (q0 : ∀ i j, i < n → a = nI i → j < n → b = nI j → i ≠ j → ¬ ou 4 x1 → ¬ ou 4 x2 → ¬ ou 4 x3 → z.m = 1500 → ∀ g', FrZ g g' → g' 162 0 = 0 → Q (some (.int (-1))) g')
    (q1 : ∀ i j, i < n → a = nI i → j < n → b = nI j → i ≠ j → ¬ ou 4 x1 → ¬ ou 4 x2 → ¬ ou 4 x3 → z.m < 1500 → ¬ togW z.w i j → ∀ g', FrZ g g' → g' 162 0 = 0 → Q (some (.int (-2))) g')
    (q : ∀ i j y, i < n → a = nI i → j < n → b = nI j → i ≠ j → ∀ mt : Nat → Nat, (∀ k, mt k < 4) → x1 = nI (mt 0) → x2 = nI (mt 1) → x3 = nI (mt 2) → z.m < 1500 → togW z.w i j → y < 3 → z.w (56 + 142 * i) = nI y → ∀ g', (∀ z, z ≠ 162 → z ≠ 164 → z ≠ 191 → z ≠ 197 → z ≠ 198 → z ≠ 199 → z ≠ 201 → z ≠ 202 → z ≠ 203 → z ≠ 205 → z ≠ 211 → g' z = g z) → (∀ j, (j = 3 ∨ j = 4 ∨ j = 11 ∨ j = 12 ∨ j = 27 ∨ j = 45 ∨ j = 54) → g' 162 j = g 162 j) → g' 162 0 = 0 → RelM g' (nzT (lwOf Ls (z.w 5)) (-1) i j y mt z) → Q (some (.int (tRt z.w i j y mt))) g') : Ct l E lay NC 6 0 0 yX8_talk [.ref 162, .int a, .int b, .int x1, .int x2, .int x3] g Q X := by
  have hn := hI.hn
  refine Ct_in k_yX8_talk (by decide) rfl (Nat.le_of_ble_eq_true rfl) rfl ?_
  intro S hS hZ hr ht hR
  show J S 0 0 (g) 0 [some (.ref 162), some (.int a), some (.int b), some (.int x1), some (.int x2), some (.int x3)] []
  refine J_aload_n hS dX8_talk_0 rfl ?_
  refine J_iconst (v := 0) hS dX8_talk_1 (by decide) ?_
  refine J_putI hS dX8_talk_2 fpX8_1 ob162 rfl (fun g2 eg2 => ?_)
  have z2 : FrZ g g2 := by rw [eg2]; exact FrZ_thr
  have t2 : g2 162 0 = 0 := by rw [eg2, u2_self]
  have i2 := hI.fr z2
  have L2 := hL.z z2
  have zero : ∀ g' : Mm, Q (some (.int 0)) g' → J S 0 0 g' 68 [some (.ref 162), some (.int a), some (.int b), some (.int x1), some (.int x2), some (.int x3)] [] := by
    intro g' hq
    refine J_iconst (v := 0) hS dX8_talk_68 (by decide) ?_
    refine J_iret hS hZ hr dX8_talk_69 (by omega) (by omega) ?_
    exact hq
  rcases in_or (y := a) (b := n) (by first | decide | omega) with ⟨i, hi, ei⟩ | hbi
  ·
    subst ei
    refine J_aload_n hS dX8_talk_5 rfl ?_
    refine J_iload_n hS dX8_talk_6 rfl ?_
    refine J_callV1 (X' := fun _ _ => False) hS dX8_talk_7 mvX8_125 ob162 rfl (by first | decide | omega) (by decide) (Nat.le_of_ble_eq_true rfl) ⟨Nat.le_trans (by decide) hR.1, Nat.le_trans (by decide) hR.2⟩ (fun _ _ q => q.elim) (m_childY i2 t2 hi ?_)
    refine J_if_eq (tgt := 68) hS dX8_talk_10 (by decide) (fun c1 => ?_) (fun c1 => ?_)
    · exact absurd c1 (by decide)
    ·
      rcases in_or (y := b) (b := n) (by first | decide | omega) with ⟨j, hj, ej⟩ | hbj
      ·
        subst ej
        refine J_aload_n hS dX8_talk_13 rfl ?_
        refine J_iload_n hS dX8_talk_14 rfl ?_
        refine J_callV1 (X' := fun _ _ => False) hS dX8_talk_15 mvX8_125 ob162 rfl (by first | decide | omega) (by decide) (Nat.le_of_ble_eq_true rfl) ⟨Nat.le_trans (by decide) hR.1, Nat.le_trans (by decide) hR.2⟩ (fun _ _ q => q.elim) (m_childY i2 t2 hj ?_)
        refine J_if_eq (tgt := 68) hS dX8_talk_18 (by decide) (fun c2 => ?_) (fun c2 => ?_)
        · exact absurd c2 (by decide)
        · have ni := nou hi (show n < 2 ^ 31 by omega)
          have nj := nou hj (show n < 2 ^ 31 by omega)
          have bad : (nI i = nI j ∨ ou 4 x1 ∨ ou 4 x2 ∨ ou 4 x3) → J S 0 0 g2 60 [some (.ref 162), some (.int (nI i)), some (.int (nI j)), some (.int x1), some (.int x2), some (.int x3)] [.ref 162] := by
            intro hb
            refine J_iconst (v := 0) hS dX8_talk_60 (by decide) ?_
            refine J_iconst (v := 2) hS dX8_talk_61 (by decide) ?_
            refine J_callV2 (X' := fun _ _ => False) hS dX8_talk_62 mvX8_110 ob162 rfl (by first | decide | omega) (by decide) (Nat.le_of_ble_eq_true rfl) ⟨Nat.le_trans (by decide) hR.1, Nat.le_trans (by decide) hR.2⟩ (fun _ _ q => q.elim) (m_mayN t2 (by decide) ?_)
            refine J_if_ne (tgt := 70) hS dX8_talk_65 (by decide) (fun c4 => ?_) (fun c4 => ?_)
            · exact absurd rfl c4
            · exact zero _ (xx ni nj hb _ (z2.trans FrZ_thr) (u2_self ..))
          refine J_aload_n hS dX8_talk_21 rfl ?_
          refine J_iload_n hS dX8_talk_22 rfl ?_
          refine J_iload_n hS dX8_talk_23 rfl ?_
          refine J_icmp_eq (tgt := 60) hS dX8_talk_24 (by decide) (fun c3 => ?_) (fun c3 => ?_)
          · exact bad (Or.inl c3)
          · have hij : i ≠ j := fun z => c3 (by rw [z])
            rcases in_or (y := x1) (b := 4) (by first | decide | omega) with ⟨k1, hk1, ek1⟩ | hbk1
            ·
              subst ek1
              refine J_iload_n hS dX8_talk_27 rfl ?_
              refine J_iconst (v := 0) hS dX8_talk_28 (by decide) ?_
              refine J_iconst (v := 3) hS dX8_talk_29 (by decide) ?_
              refine J_callS3 (X' := fun _ _ => False) hS dX8_talk_30 msX8_106 rfl (by first | decide | omega) (by decide) (Nat.le_of_ble_eq_true rfl) ⟨Nat.le_trans (by decide) hR.1, Nat.le_trans (by decide) hR.2⟩ (fun _ _ q => q.elim) (m_ouY (m := 4) (by decide) (by decide) hk1 ?_)
              refine J_if_eq (tgt := 60) hS dX8_talk_33 (by decide) (fun c4 => ?_) (fun c4 => ?_)
              · exact absurd c4 (by decide)
              ·
                rcases in_or (y := x2) (b := 4) (by first | decide | omega) with ⟨k2, hk2, ek2⟩ | hbk2
                ·
                  subst ek2
                  refine J_iload hS dX8_talk_36 rfl ?_
                  refine J_iconst (v := 0) hS dX8_talk_38 (by decide) ?_
                  refine J_iconst (v := 3) hS dX8_talk_39 (by decide) ?_
                  refine J_callS3 (X' := fun _ _ => False) hS dX8_talk_40 msX8_106 rfl (by first | decide | omega) (by decide) (Nat.le_of_ble_eq_true rfl) ⟨Nat.le_trans (by decide) hR.1, Nat.le_trans (by decide) hR.2⟩ (fun _ _ q => q.elim) (m_ouY (m := 4) (by decide) (by decide) hk2 ?_)
                  refine J_if_eq (tgt := 60) hS dX8_talk_43 (by decide) (fun c5 => ?_) (fun c5 => ?_)
                  · exact absurd c5 (by decide)
                  ·
                    rcases in_or (y := x3) (b := 4) (by first | decide | omega) with ⟨k3, hk3, ek3⟩ | hbk3
                    ·
                      subst ek3
                      refine J_iload hS dX8_talk_46 rfl ?_
                      refine J_iconst (v := 0) hS dX8_talk_48 (by decide) ?_
                      refine J_iconst (v := 3) hS dX8_talk_49 (by decide) ?_
                      refine J_callS3 (X' := fun _ _ => False) hS dX8_talk_50 msX8_106 rfl (by first | decide | omega) (by decide) (Nat.le_of_ble_eq_true rfl) ⟨Nat.le_trans (by decide) hR.1, Nat.le_trans (by decide) hR.2⟩ (fun _ _ q => q.elim) (m_ouY (m := 4) (by decide) (by decide) hk3 ?_)
                      refine J_if_eq (tgt := 60) hS dX8_talk_53 (by decide) (fun c6 => ?_) (fun c6 => ?_)
                      · exact absurd c6 (by decide)
                      ·
                        refine J_iconst (v := 1) hS dX8_talk_56 (by decide) ?_
                        refine J_goto (tgt := 61) hS dX8_talk_57 (by decide) ?_
                        refine J_iconst (v := 2) hS dX8_talk_61 (by decide) ?_
                        refine J_callV2 (X' := fun _ _ => False) hS dX8_talk_62 mvX8_110 ob162 rfl (by first | decide | omega) (by decide) (Nat.le_of_ble_eq_true rfl) ⟨Nat.le_trans (by decide) hR.1, Nat.le_trans (by decide) hR.2⟩ (fun _ _ q => q.elim) (m_mayY t2 (by decide) ?_)
                        have o1 := nou hk1 (show 4 < 2 ^ 31 by decide)
                        have o2 := nou hk2 (show 4 < 2 ^ 31 by decide)
                        have o3 := nou hk3 (show 4 < 2 ^ 31 by decide)
                        have R2 : RelM g2 z := hR0.fz z2
                        have hm5 := hz.1
                        refine J_if_ne (tgt := 70) hS dX8_talk_65 (by decide) (fun c7 => ?_) (fun c7 => ?_)
                        ·
                          refine J_aload_n hS dX8_talk_70 rfl ?_
                          refine J_getI hS dX8_talk_71 flX8_329 ob162 rfl ?_
                          refine J_sipush (v := 1500) hS dX8_talk_74 (by decide) ?_
                          show J S 0 0 (g2) 77 [some (.ref 162), some (.int (nI i)), some (.int (nI j)), some (.int (nI k1)), some (.int (nI k2)), some (.int (nI k3))] [.int 1500, .int _]
                          rw [R2.2.1]
                          refine J_icmp_ne (tgt := 82) hS dX8_talk_77 (by decide) (fun c8 => ?_) (fun c8 => ?_)
                          · have hm : z.m < 1500 := Nat.lt_of_le_of_ne hm5 (fun e => c8 (by rw [e]; rfl))
                            obtain ⟨y, hy, ey⟩ := hI.ok.2.1 i (by omega)
                            have noT : ¬ togW z.w i j → J S 0 0 g2 135 [some (.ref 162), some (.int (nI i)), some (.int (nI j)), some (.int (nI k1)), some (.int (nI k2)), some (.int (nI k3))] [] := by
                              intro h
                              refine J_bipush (v := (-2)) hS dX8_talk_135 (by decide) ?_
                              refine J_iret hS hZ hr dX8_talk_137 (by omega) (by omega) ?_
                              exact q1 i j hi rfl hj rfl hij o1 o2 o3 hm h g2 z2 t2
                            refine J_aload_n hS dX8_talk_82 rfl ?_
                            refine J_getR (t := 164) hS dX8_talk_83 flX8_13 ob162 rfl ?_
                            refine J_iload_n hS dX8_talk_86 rfl ?_
                            refine J_callS1 (X' := fun _ _ => False) hS dX8_talk_87 msX8_121 rfl (by first | decide | omega) (by decide) (Nat.le_of_ble_eq_true rfl) ⟨Nat.le_trans (by decide) hR.1, Nat.le_trans (by decide) hR.2⟩ (fun _ _ q => q.elim) (m_at ?_)
                            refine J_iconst (v := 3) hS dX8_talk_90 (by decide) ?_
                            refine J_iadd hS dX8_talk_91 ?_
                            refine J_ialdN hS (56 + 142 * i + 3) dX8_talk_92 Rw4.ar (by rw [n3, nI_add]) (by omega) (by decide) ?_
                            show J S 0 0 (g2) 93 [some (.ref 162), some (.int (nI i)), some (.int (nI j)), some (.int (nI k1)), some (.int (nI k2)), some (.int (nI k3))] [.int _]
                            rw [i2.row _ (by omega)]
                            refine J_if_eq (tgt := 135) hS dX8_talk_93 (by decide) (fun d1 => ?_) (fun d1 => ?_)
                            · exact noT (fun z => by rw [z.1] at d1; exact absurd d1 (by decide))
                            ·
                              refine J_aload_n hS dX8_talk_96 rfl ?_
                              refine J_getR (t := 164) hS dX8_talk_97 flX8_13 ob162 rfl ?_
                              refine J_iload_n hS dX8_talk_100 rfl ?_
                              refine J_callS1 (X' := fun _ _ => False) hS dX8_talk_101 msX8_121 rfl (by first | decide | omega) (by decide) (Nat.le_of_ble_eq_true rfl) ⟨Nat.le_trans (by decide) hR.1, Nat.le_trans (by decide) hR.2⟩ (fun _ _ q => q.elim) (m_at ?_)
                              refine J_iconst (v := 3) hS dX8_talk_104 (by decide) ?_
                              refine J_iadd hS dX8_talk_105 ?_
                              refine J_ialdN hS (56 + 142 * j + 3) dX8_talk_106 Rw4.ar (by rw [n3, nI_add]) (by omega) (by decide) ?_
                              show J S 0 0 (g2) 107 [some (.ref 162), some (.int (nI i)), some (.int (nI j)), some (.int (nI k1)), some (.int (nI k2)), some (.int (nI k3))] [.int _]
                              rw [i2.row _ (by omega)]
                              refine J_if_eq (tgt := 135) hS dX8_talk_107 (by decide) (fun d2 => ?_) (fun d2 => ?_)
                              · exact noT (fun z => by rw [z.2.1] at d2; exact absurd d2 (by decide))
                              ·
                                refine J_aload_n hS dX8_talk_110 rfl ?_
                                refine J_getR (t := 164) hS dX8_talk_111 flX8_13 ob162 rfl ?_
                                refine J_iload_n hS dX8_talk_114 rfl ?_
                                refine J_callS1 (X' := fun _ _ => False) hS dX8_talk_115 msX8_121 rfl (by first | decide | omega) (by decide) (Nat.le_of_ble_eq_true rfl) ⟨Nat.le_trans (by decide) hR.1, Nat.le_trans (by decide) hR.2⟩ (fun _ _ q => q.elim) (m_at ?_)
                                refine J_iconst (v := 0) hS dX8_talk_118 (by decide) ?_
                                refine J_iadd hS dX8_talk_119 ?_
                                refine J_ialdN hS (56 + 142 * i) dX8_talk_120 Rw4.ar (by rw [n0, nI_add]; rfl) (by omega) (by decide) ?_
                                refine J_aload_n hS dX8_talk_121 rfl ?_
                                refine J_getR (t := 164) hS dX8_talk_122 flX8_13 ob162 rfl ?_
                                refine J_iload_n hS dX8_talk_125 rfl ?_
                                refine J_callS1 (X' := fun _ _ => False) hS dX8_talk_126 msX8_121 rfl (by first | decide | omega) (by decide) (Nat.le_of_ble_eq_true rfl) ⟨Nat.le_trans (by decide) hR.1, Nat.le_trans (by decide) hR.2⟩ (fun _ _ q => q.elim) (m_at ?_)
                                refine J_iconst (v := 0) hS dX8_talk_129 (by decide) ?_
                                refine J_iadd hS dX8_talk_130 ?_
                                refine J_ialdN hS (56 + 142 * j) dX8_talk_131 Rw4.ar (by rw [n0, nI_add]; rfl) (by omega) (by decide) ?_
                                show J S 0 0 (g2) 132 [some (.ref 162), some (.int (nI i)), some (.int (nI j)), some (.int (nI k1)), some (.int (nI k2)), some (.int (nI k3))] [.int _, .int _]
                                rw [i2.row _ (by omega), i2.row _ (by omega)]
                                refine J_icmp_eq (tgt := 138) hS dX8_talk_132 (by decide) (fun d3 => ?_) (fun d3 => ?_)
                                · have htg : togW z.w i j := ⟨(hI.th i (by omega)).resolve_left d1, (hI.th j (by omega)).resolve_left d2, d3⟩
                                  obtain ⟨mt, hmt⟩ : ∃ mt : Nat → Nat, mt = fun r => if r = 0 then k1 else if r = 1 then k2 else k3 := ⟨_, rfl⟩
                                  have mt4 : ∀ r, mt r < 4 := fun r => by rw [hmt]; dsimp only; split; exact hk1; split; exact hk2; exact hk3
                                  have qq := q i j y hi rfl hj rfl hij mt mt4 (by rw [hmt]; rfl) (by rw [hmt]; rfl) (by rw [hmt]; rfl) hm htg hy ey
                                  refine J_aload_n hS dX8_talk_138 rfl ?_
                                  refine J_getR (t := 197) hS dX8_talk_139 flX8_56 ob162 rfl ?_
                                  refine J_iconst (v := 0) hS dX8_talk_142 (by decide) ?_
                                  refine J_iload_n hS dX8_talk_143 rfl ?_
                                  refine J_iastN hS (0) dX8_talk_144 (show Ar lay NC .int 197 3 from arM 34 3 (by decide) (by decide) rfl) (by first | rfl | (simp only [n0, n1, n2, n3, n4, n5, n6, n7, n8, n9, n10, n11, n12, n13, n14, n15, n16, n17, n18, n19, n20, n24, n32, n56, n60, n64, n72, n99, n100, n128, n136, n142, n144, n200, n300, n999, n1000, n1500, n3464, nI_add, pk_mul] <;> first | rfl | (congr 1; omega))) (by decide) (by decide) (fun g144 eg144 => ?_)
                                  refine J_aload_n hS dX8_talk_145 rfl ?_
                                  refine J_getR (t := 197) hS dX8_talk_146 flX8_56 ob162 rfl ?_
                                  refine J_iconst (v := 1) hS dX8_talk_149 (by decide) ?_
                                  refine J_iload hS dX8_talk_150 rfl ?_
                                  refine J_iastN hS (1) dX8_talk_152 (show Ar lay NC .int 197 3 from arM 34 3 (by decide) (by decide) rfl) (by first | rfl | (simp only [n0, n1, n2, n3, n4, n5, n6, n7, n8, n9, n10, n11, n12, n13, n14, n15, n16, n17, n18, n19, n20, n24, n32, n56, n60, n64, n72, n99, n100, n128, n136, n142, n144, n200, n300, n999, n1000, n1500, n3464, nI_add, pk_mul] <;> first | rfl | (congr 1; omega))) (by decide) (by decide) (fun g152 eg152 => ?_)
                                  refine J_aload_n hS dX8_talk_153 rfl ?_
                                  refine J_getR (t := 197) hS dX8_talk_154 flX8_56 ob162 rfl ?_
                                  refine J_iconst (v := 2) hS dX8_talk_157 (by decide) ?_
                                  refine J_iload hS dX8_talk_158 rfl ?_
                                  refine J_iastN hS (2) dX8_talk_160 (show Ar lay NC .int 197 3 from arM 34 3 (by decide) (by decide) rfl) (by first | rfl | (simp only [n0, n1, n2, n3, n4, n5, n6, n7, n8, n9, n10, n11, n12, n13, n14, n15, n16, n17, n18, n19, n20, n24, n32, n56, n60, n64, n72, n99, n100, n128, n136, n142, n144, n200, n300, n999, n1000, n1500, n3464, nI_add, pk_mul] <;> first | rfl | (congr 1; omega))) (by decide) (by decide) (fun g160 eg160 => ?_)
                                  have m5 : ∀ r, r < 3 → g160 197 r = nI (mt r) := by
                                    intro r hr
                                    rw [eg160, u2_at, eg152, u2_at, eg144, u2_at, hmt]
                                    have h3 : r = 0 ∨ r = 1 ∨ r = 2 := by omega
                                    rcases h3 with e | e | e <;> subst e <;> rfl
                                  have oth : ∀ c, c ≠ 197 → g160 c = g2 c := fun c hc => by rw [eg160, u2_ne c hc, eg152, u2_ne c hc, eg144, u2_ne c hc]
                                  have R5 : RelM g160 z := by
                                    unfold RelM
                                    rw [oth 164 (by decide), oth 162 (by decide), oth 201 (by decide), oth 202 (by decide), oth 203 (by decide), oth 211 (by decide)]
                                    exact R2
                                  have L5 : LawsM g160 Ls := L2.fr (by rw [oth 162 (by decide)]) (fun c h1 h2 => oth c (by omega))
                                  have M5 : RowM g160 164 z.w z.w := fun i hi => ⟨fun _ => R5.1 i hi, fun _ => R5.1 i hi⟩
                                  refine J_aload_n hS dX8_talk_161 rfl ?_
                                  refine J_iload_n hS dX8_talk_162 rfl ?_
                                  refine J_iload_n hS dX8_talk_163 rfl ?_
                                  refine J_callV2 (X' := fun _ _ => False) hS dX8_talk_164 mvX8_332 ob162 rfl (by first | decide | omega) (by decide) (Nat.le_of_ble_eq_true rfl) ⟨Nat.le_trans (by decide) hR.1, Nat.le_trans (by decide) hR.2⟩ (fun _ _ q => q.elim) (m_tells (lo := -1) (mt := mt) (y := y) (m := z.m) Rw4 (by rw [oth 162 (by decide)]; exact i2.w3) M5 hij (by omega) (by omega) hy ey mt4 m5 (hI.ok.2.2 i (by omega)) (hI.ok.2.2 j (by omega)) (by rw [oth 162 (by decide)]; exact i2.lo) (L5.rule (R5.1 5 (by decide)) hv) hm R5.2.1 (tells_fl R5 hz) (fun g6 hT => ?_))
                                  have R6 := TlM.rel hT R5 hz hzi hm (show i < 24 by omega) (show j < 24 by omega) hy mt4
                                  have fr := hT.frm
                                  have q6 := qq g6 (fun c z1 z2' z3 z4 z5 z6 z7 z8 z9 za zb => by rw [fr.1 c z1 z2' z3 z4 z5 z6 z7 z8 z9 za zb, oth c z4, eg2, u2_ne c z1]) (fun j hj => by rw [fr.2 j (by omega), oth 162 (by decide), eg2, u2_at, if_neg (by omega)]) (by rw [fr.2 0 (by decide), oth 162 (by decide)]; exact t2) R6
                                  have hst : tRt z.w i j y mt = 0 ∨ tRt z.w i j y mt = 1 := by unfold tRt rtI; split; exact Or.inr rfl; exact Or.inl rfl
                                  refine J_aload_n hS dX8_talk_167 rfl ?_
                                  refine J_getI hS dX8_talk_168 flX8_307 ob162 rfl ?_
                                  show J S 0 0 (g6) 171 [some (.ref 162), some (.int (nI i)), some (.int (nI j)), some (.int (nI k1)), some (.int (nI k2)), some (.int (nI k3))] [.int _]
                                  rw [hT.2.2.2.1]
                                  refine J_if_eq (tgt := 178) hS dX8_talk_171 (by decide) (fun d4 => ?_) (fun d4 => ?_)
                                  ·
                                    refine J_iconst (v := 0) hS dX8_talk_178 (by decide) ?_
                                    refine J_iret hS hZ hr dX8_talk_179 (by omega) (by omega) ?_
                                    rw [d4] at q6; exact q6
                                  ·
                                    refine J_iconst (v := 1) hS dX8_talk_174 (by decide) ?_
                                    refine J_goto (tgt := 179) hS dX8_talk_175 (by decide) ?_
                                    refine J_iret hS hZ hr dX8_talk_179 (by omega) (by omega) ?_
                                    rw [hst.resolve_left d4] at q6; exact q6
                                · exact noT (fun z => d3 z.2.2)
                          ·
                            refine J_iconst (v := (-1)) hS dX8_talk_80 (by decide) ?_
                            refine J_iret hS hZ hr dX8_talk_81 (by omega) (by omega) ?_
                            exact q0 i j hi rfl hj rfl hij o1 o2 o3 ((nI_eq (by omega) (by decide)).mp c8) g2 z2 t2
                        · exact absurd c7 (by decide)
                    ·
                      refine J_iload hS dX8_talk_46 rfl ?_
                      refine J_iconst (v := 0) hS dX8_talk_48 (by decide) ?_
                      refine J_iconst (v := 3) hS dX8_talk_49 (by decide) ?_
                      refine J_callS3 (X' := fun _ _ => False) hS dX8_talk_50 msX8_106 rfl (by first | decide | omega) (by decide) (Nat.le_of_ble_eq_true rfl) ⟨Nat.le_trans (by decide) hR.1, Nat.le_trans (by decide) hR.2⟩ (fun _ _ q => q.elim) (m_ouN (m := 4) (by decide) (by decide) hbk3 ?_)
                      refine J_if_eq (tgt := 60) hS dX8_talk_53 (by decide) (fun c6 => ?_) (fun c6 => ?_)
                      · exact bad (Or.inr (Or.inr (Or.inr hbk3)))
                      · exact absurd rfl c6
                ·
                  refine J_iload hS dX8_talk_36 rfl ?_
                  refine J_iconst (v := 0) hS dX8_talk_38 (by decide) ?_
                  refine J_iconst (v := 3) hS dX8_talk_39 (by decide) ?_
                  refine J_callS3 (X' := fun _ _ => False) hS dX8_talk_40 msX8_106 rfl (by first | decide | omega) (by decide) (Nat.le_of_ble_eq_true rfl) ⟨Nat.le_trans (by decide) hR.1, Nat.le_trans (by decide) hR.2⟩ (fun _ _ q => q.elim) (m_ouN (m := 4) (by decide) (by decide) hbk2 ?_)
                  refine J_if_eq (tgt := 60) hS dX8_talk_43 (by decide) (fun c5 => ?_) (fun c5 => ?_)
                  · exact bad (Or.inr (Or.inr (Or.inl hbk2)))
                  · exact absurd rfl c5
            ·
              refine J_iload_n hS dX8_talk_27 rfl ?_
              refine J_iconst (v := 0) hS dX8_talk_28 (by decide) ?_
              refine J_iconst (v := 3) hS dX8_talk_29 (by decide) ?_
              refine J_callS3 (X' := fun _ _ => False) hS dX8_talk_30 msX8_106 rfl (by first | decide | omega) (by decide) (Nat.le_of_ble_eq_true rfl) ⟨Nat.le_trans (by decide) hR.1, Nat.le_trans (by decide) hR.2⟩ (fun _ _ q => q.elim) (m_ouN (m := 4) (by decide) (by decide) hbk1 ?_)
              refine J_if_eq (tgt := 60) hS dX8_talk_33 (by decide) (fun c4 => ?_) (fun c4 => ?_)
              · exact bad (Or.inr (Or.inl hbk1))
              · exact absurd rfl c4
      ·
        refine J_aload_n hS dX8_talk_13 rfl ?_
        refine J_iload_n hS dX8_talk_14 rfl ?_
        refine J_callV1 (X' := fun _ _ => False) hS dX8_talk_15 mvX8_125 ob162 rfl (by first | decide | omega) (by decide) (Nat.le_of_ble_eq_true rfl) ⟨Nat.le_trans (by decide) hR.1, Nat.le_trans (by decide) hR.2⟩ (fun _ _ q => q.elim) (m_childN i2 t2 hbj ?_)
        refine J_if_eq (tgt := 68) hS dX8_talk_18 (by decide) (fun c2 => ?_) (fun c2 => ?_)
        · exact zero _ (x (Or.inr hbj) _ (z2.trans FrZ_thr) (u2_self ..))
        · exact absurd rfl c2
  ·
    refine J_aload_n hS dX8_talk_5 rfl ?_
    refine J_iload_n hS dX8_talk_6 rfl ?_
    refine J_callV1 (X' := fun _ _ => False) hS dX8_talk_7 mvX8_125 ob162 rfl (by first | decide | omega) (by decide) (Nat.le_of_ble_eq_true rfl) ⟨Nat.le_trans (by decide) hR.1, Nat.le_trans (by decide) hR.2⟩ (fun _ _ q => q.elim) (m_childN i2 t2 hbi ?_)
    refine J_if_eq (tgt := 68) hS dX8_talk_10 (by decide) (fun c1 => ?_) (fun c1 => ?_)
    · exact zero _ (x (Or.inl hbi) _ (z2.trans FrZ_thr) (u2_self ..))
    · exact absurd rfl c1
end RefT3


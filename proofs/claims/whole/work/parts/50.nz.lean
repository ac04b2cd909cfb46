/-! THE CLASS: what talks change, as one pure state: the row, how many notes, notes, since, first talk, first child, the film that runs, the films' lengths -/
abbrev Nz : Type := Wr × Nat × Wr × Wr × Wr × Wr × Int32 × Wr
abbrev Nz.w (s : Nz) : Wr := s.1
abbrev Nz.m (s : Nz) : Nat := s.2.1
abbrev Nz.n (s : Nz) : Wr := s.2.2.1
abbrev Nz.s (s : Nz) : Wr := s.2.2.2.1
abbrev Nz.t (s : Nz) : Wr := s.2.2.2.2.1
abbrev Nz.c (s : Nz) : Wr := s.2.2.2.2.2.1
abbrev Nz.f (s : Nz) : Int32 := s.2.2.2.2.2.2.1
abbrev Nz.k (s : Nz) : Wr := s.2.2.2.2.2.2.2
def nzT (lw : Option (List Cls)) (lo : Int32) (a b y : Nat) (mt : Nat → Nat) (z : Nz) : Nz :=
  (tW6 lw lo z.w a b y mt, z.m + 1, fun i => if z.m * 19 ≤ i ∧ i < z.m * 19 + 19 then ntV lw lo z.w a b y mt (i - z.m * 19) else z.n i,
   fun i => if (i / 6 = a ∨ i / 6 = b) ∧ nwH lw lo (tW6 lw lo z.w a b y mt) z.s (i / 6) (i % 6) = true then nI z.m else z.s i,
   fun o => if (nwH lw lo (tW6 lw lo z.w a b y mt) z.s b o = true ∨ nwH lw lo (tW6 lw lo z.w a b y mt) z.s a o = true) ∧ z.t o = -1 then nI z.m else z.t o,
   fun o => if z.t o = -1 then (if nwH lw lo (tW6 lw lo z.w a b y mt) z.s b o = true then nI b else if nwH lw lo (tW6 lw lo z.w a b y mt) z.s a o = true then nI a else z.c o) else z.c o,
   if z.f = -1 then -1 else if z.k z.f.toNatClampNeg + 1 = 100 then -1 else z.f,
   if z.f = -1 then z.k else upd z.k z.f.toNatClampNeg (z.k z.f.toNatClampNeg + 1))
def RelC (g : Mm) (z : Nz) : Prop := wv g 2 = z.w ∧ g 143 0 = nI z.m ∧ (∀ i, i < 28500 → g 144 i = z.n i) ∧ (∀ i, i < 144 → g 147 i = z.s i) ∧ (∀ o, o < 6 → g 146 o = z.t o) ∧ (∀ o, o < 6 → g 145 o = z.c o) ∧ g 1 16 = z.f ∧ ∀ f, f < 3 → g (101 + 2 * f) 3 = z.k f
def NzOk (z : Nz) : Prop := z.m ≤ 1500 ∧ (z.f = -1 ∨ ∃ f mn : Nat, f < 3 ∧ mn < 100 ∧ z.f = nI f ∧ z.k f = nI mn)
/-- the cells that talks leave alone -/
def FrN (g g' : Mm) : Prop := (∀ z, z ≠ 1 → (z < 2 ∨ 12 < z) → z ≠ 101 → z ≠ 103 → z ≠ 105 → (z < 143 ∨ 154 < z) → z ≠ 157 → g' z = g z) ∧ (∀ j, j ≠ 16 → g' 1 j = g 1 j) ∧ ∀ f, f < 3 → ∀ j, j ≠ 3 → g' (101 + 2 * f) j = g (101 + 2 * f) j
theorem FrN.refl {g : Mm} : FrN g g := ⟨fun _ _ _ _ _ _ _ _ => rfl, fun _ _ => rfl, fun _ _ _ _ => rfl⟩
theorem FrN.trans {g g1 g2 : Mm} (h : FrN g g1) (h' : FrN g1 g2) : FrN g g2 :=
  ⟨fun z a b c d e f i => (h'.1 z a b c d e f i).trans (h.1 z a b c d e f i), fun j hj => (h'.2.1 j hj).trans (h.2.1 j hj), fun f hf j hj => (h'.2.2 f hf j hj).trans (h.2.2 f hf j hj)⟩
theorem FrN.of {g g' : Mm} (h : ∀ z, (z < 143 ∨ 154 < z) → z ≠ 157 → g' z = g z) : FrN g g' :=
  ⟨fun z _ _ _ _ _ a b => h z a b, fun j _ => by rw [h 1 (by decide) (by decide)], fun f hf j _ => by rw [h _ (by omega) (by omega)]⟩
theorem RelC.fr {g g' : Mm} {z : Nz} (h : RelC g z) (e : ∀ a, (a ≤ 107 ∨ (143 ≤ a ∧ a < 148)) → g' a = g a) : RelC g' z := by
  obtain ⟨h1, h2, h3, h4, h5, h6, h7, h8⟩ := h
  refine ⟨by rw [← h1]; exact wv_fr (fun a x y => e a (by omega)), by rw [e 143 (by decide)]; exact h2, fun i hi => by rw [e 144 (by decide)]; exact h3 i hi, fun i hi => by rw [e 147 (by decide)]; exact h4 i hi, fun i hi => by rw [e 146 (by decide)]; exact h5 i hi, fun i hi => by rw [e 145 (by decide)]; exact h6 i hi, by rw [e 1 (by decide)]; exact h7, fun f hf => by rw [e _ (by omega)]; exact h8 f hf⟩
theorem NtP.fr {lw : Option (List Cls)} {g g' : Mm} {a b y m : Nat} {mt : Nat → Nat} (h : NtP lw g g' a b y m mt) {z : Nz} (hr : RelC g z) (hz : NzOk z) : FrN g g' := by
  obtain ⟨k1, -, -, -, -, -, -, -, -, k2, k3⟩ := h
  rcases hz.2 with e | ⟨f, mn, f1, f2, f3, f4⟩
  · obtain ⟨e1, e2⟩ := k2 (hr.2.2.2.2.2.2.1.trans e)
    refine ⟨fun z z1 z2 z3 z4 z5 z6 z7 => ?_, fun j _ => by rw [e1], fun f hf j _ => by rw [e2 _ (by omega) (by omega)]⟩
    rcases (show (101 ≤ z ∧ z < 107) ∨ (z < 101 ∨ 107 ≤ z) by omega) with y1 | y1
    · exact e2 z y1.1 y1.2
    · exact k1 z z1 z2 y1 (by omega) (by omega) (by omega) (by omega) (by omega) (by omega) (by omega) (by omega) (by omega) (by omega)
  · obtain ⟨e1, e2, e3, e4, e5⟩ := k3 f mn f1 f2 (hr.2.2.2.2.2.2.1.trans f3) ((hr.2.2.2.2.2.2.2 f f1).trans f4)
    refine ⟨fun z z1 z2 z3 z4 z5 z6 z7 => ?_, e5, fun f' hf j hj => ?_⟩
    · rcases (show (101 ≤ z ∧ z < 107) ∨ (z < 101 ∨ 107 ≤ z) by omega) with y1 | y1
      · exact e1 z y1.1 y1.2 (by omega)
      · exact k1 z z1 z2 y1 (by omega) (by omega) (by omega) (by omega) (by omega) (by omega) (by omega) (by omega) (by omega) (by omega)
    · by_cases ef : f' = f
      · subst ef; exact e3 j hj
      · rw [e1 _ (by omega) (by omega) (by omega)]
theorem NtP.rel {lw : Option (List Cls)} {g g' : Mm} {a b y : Nat} {mt : Nat → Nat} {z : Nz} (h : NtP lw g g' a b y z.m mt) (hr : RelC g z) (hz : NzOk z) (ha : a < 24) (hb : b < 24) : RelC g' (nzT lw (g 152 3) a b y mt z) := by
  obtain ⟨-, n1, -, n2, n3, n4, n5, n6, n7, n8, n9⟩ := h
  obtain ⟨h1, h2, h3, h4, h5, h6, h7, h8⟩ := hr
  obtain ⟨V, hV⟩ : ∃ V : Wr, V = tW6 lw (g 152 3) z.w a b y mt := ⟨_, rfl⟩
  rw [h1] at n1 n3 n5 n6 n7
  rw [← hV] at n1 n5 n6 n7
  have nw : ∀ c o, c < 24 → o < 6 → nwH lw (g 152 3) V (g 147) c o = nwH lw (g 152 3) V z.s c o := by
    intro c o hc ho; unfold nwH; rw [h4 _ (by omega)]
  unfold RelC nzT
  rw [← hV]
  refine ⟨n1, n2, fun i hi => ?_, fun i hi => ?_, fun o ho => ?_, fun o ho => ?_, ?_, fun f hf => ?_⟩
  · show _ = if _ then _ else _
    by_cases c : z.m * 19 ≤ i ∧ i < z.m * 19 + 19
    · rw [if_pos c]
      have := n3 (i - z.m * 19) (by omega)
      rw [show z.m * 19 + (i - z.m * 19) = i by omega] at this
      exact this
    · rw [if_neg c, n4 i (by omega)]; exact h3 i hi
  · show _ = if _ then _ else _
    rw [n5 i hi, nw _ _ (by omega) (by omega), h4 i hi]
  · show _ = if _ then _ else _
    rw [n6 o ho, nw b o hb ho, nw a o ha ho, h5 o ho]
  · show _ = if _ then _ else _
    rw [n7 o ho, nw b o hb ho, nw a o ha ho, h5 o ho, h6 o ho]
  · show _ = if z.f = -1 then -1 else if z.k z.f.toNatClampNeg + 1 = 100 then -1 else z.f
    rcases hz.2 with e | ⟨f, mn, f1, f2, f3, f4⟩
    · rw [(n8 (h7.trans e)).1, h7, if_pos e, e]
    · rw [(n9 f mn f1 f2 (h7.trans f3) ((h8 f f1).trans f4)).2.2.2.1, f3, if_neg (nI_nem1 (by omega)), nI_clamp (by omega), f4, nI_1]
      by_cases c : mn + 1 = 100
      · rw [if_pos c, c]; rfl
      · rw [if_neg c, if_neg (fun q => c ((nI_eq (by omega) (by decide)).mp (q.trans n100)))]
  · show _ = (if z.f = -1 then z.k else upd z.k z.f.toNatClampNeg (z.k z.f.toNatClampNeg + 1)) f
    rcases hz.2 with e | ⟨f', mn, f1, f2, f3, f4⟩
    · rw [(n8 (h7.trans e)).2 _ (by omega) (by omega), h8 f hf, if_pos e]
    · obtain ⟨e1, e2, -⟩ := n9 f' mn f1 f2 (h7.trans f3) ((h8 f' f1).trans f4)
      rw [f3, if_neg (nI_nem1 (by omega)), nI_clamp (by omega)]
      by_cases c : f = f'
      · subst c; rw [e2]; unfold upd; rw [if_pos rfl, f4, nI_1]
      · rw [e1 _ (by omega) (by omega) (by omega), h8 f hf]; unfold upd; rw [if_neg c]
theorem NzOk.nt {lw : Option (List Cls)} {lo : Int32} {a b y : Nat} {mt : Nat → Nat} {z : Nz} (h : NzOk z) (hm : z.m < 1500) : NzOk (nzT lw lo a b y mt z) := by
  refine ⟨by show z.m + 1 ≤ 1500; omega, ?_⟩
  show (if z.f = -1 then -1 else if z.k z.f.toNatClampNeg + 1 = 100 then -1 else z.f) = -1 ∨ ∃ f mn : Nat, f < 3 ∧ mn < 100 ∧ (if z.f = -1 then -1 else if z.k z.f.toNatClampNeg + 1 = 100 then -1 else z.f) = nI f ∧ (if z.f = -1 then z.k else upd z.k z.f.toNatClampNeg (z.k z.f.toNatClampNeg + 1)) f = nI mn
  rcases h.2 with e | ⟨f, mn, f1, f2, f3, f4⟩
  · rw [if_pos e]; exact Or.inl rfl
  · rw [f3, if_neg (nI_nem1 (by omega)), if_neg (nI_nem1 (by omega)), nI_clamp (by omega), f4, nI_1]
    by_cases c : mn + 1 = 100
    · rw [if_pos (by rw [c]; rfl)]; exact Or.inl rfl
    · rw [if_neg (fun q => c ((nI_eq (by omega) (by decide)).mp (q.trans n100)))]
      exact Or.inr ⟨f, mn + 1, f1, by omega, rfl, by unfold upd; rw [if_pos rfl]⟩
/-- what a world must be for talks -/
def WOk (w : Wr) : Prop := (∃ n : Nat, n ≤ 24 ∧ w 6 = nI n) ∧ (∀ c, c < 24 → ∃ y : Nat, y < 3 ∧ w (56 + 142 * c) = nI y) ∧ ∀ c, c < 24 → Wt w c
theorem WOk.kp {w w' : Wr} (k : Kp w w') (h : WOk w) : WOk w' :=
  ⟨by obtain ⟨n, h1, h2⟩ := h.1; exact ⟨n, h1, (k.lo (by decide) (by decide)).trans h2⟩, fun c hc => by obtain ⟨y, h1, h2⟩ := h.2.1 c hc; exact ⟨y, h1, (k.hd (r := 0) (by decide)).trans h2⟩, fun c hc => k.wt (h.2.2 c hc)⟩
theorem WOk.kq {w w' : Wr} (k : Kq w w') (h : WOk w) : WOk w' :=
  ⟨by obtain ⟨n, h1, h2⟩ := h.1; exact ⟨n, h1, (k.lo (by decide) (by decide) (by decide)).trans h2⟩, fun c hc => by obtain ⟨y, h1, h2⟩ := h.2.1 c hc; exact ⟨y, h1, (k.hd (r := 0) (by decide)).trans h2⟩, fun c hc => k.wt (h.2.2 c hc)⟩
section ClsT
variable {l : Launch} {E : Ey} {g : Mm} {Q : Option Value → Mm → Prop} {X : String → Mm → Prop} {h : Nat}
def togW (w : Wr) (a b : Nat) : Prop := w (56 + 142 * a + 3) = 1 ∧ w (56 + 142 * b + 3) = 1 ∧ w (56 + 142 * a) = w (56 + 142 * b)
set_option maxRecDepth 10000 in
set_option maxHeartbeats 4000000 in
theorem c_talk {n : Nat} {a b x1 x2 x3 : Int32} {z : Nz} {Ls : List (List Cls)} (hC : RelC g z) (hz : NzOk z) (hw : WOk z.w) (hl : LawsC g Ls) (hv : isLw Ls.length (z.w 5)) (hn : n ≤ 24) (hm : z.w 6 = nI n) (x : ou n a ∨ ou n b → X eNS g) (xx : ¬ ou n a → ¬ ou n b → (a = b ∨ ou 4 x1 ∨ ou 4 x2 ∨ ou 4 x3) → X eIA g)
    (q0 : ∀ i j, i < n → a = nI i → j < n → b = nI j → i ≠ j → ¬ ou 4 x1 → ¬ ou 4 x2 → ¬ ou 4 x3 → z.m = 1500 → Q (some (.int (-1))) g)
    (q1 : ∀ i j, i < n → a = nI i → j < n → b = nI j → i ≠ j → ¬ ou 4 x1 → ¬ ou 4 x2 → ¬ ou 4 x3 → z.m < 1500 → ¬ togW z.w i j → Q (some (.int (-2))) g)
    (q : ∀ i j y, i < n → a = nI i → j < n → b = nI j → i ≠ j → ∀ mt : Nat → Nat, (∀ k, mt k < 4) → x1 = nI (mt 0) → x2 = nI (mt 1) → x3 = nI (mt 2) → z.m < 1500 → togW z.w i j → y < 3 → z.w (56 + 142 * i) = nI y → ∀ g', FrN g g' → RelC g' (nzT (lwOf Ls (z.w 5)) (-1) i j y mt z) → Q (some (.int (tRt z.w i j y mt))) g') : Ct l E lay NC 8 1 6 yX7_talk [.ref 1, .int a, .int b, .int x1, .int x2, .int x3] g Q X := by
  have hgm : g 2 6 = nI n := by rw [← hm, ← hC.1]; rfl
  refine Ct_in k_yX7_talk (by decide) rfl (Nat.le_of_ble_eq_true rfl) rfl ?_
  intro S hS hZ hr ht hR
  show J S 0 0 (g) 0 [some (.ref 1), some (.int a), some (.int b), some (.int x1), some (.int x2), some (.int x3)] []
  refine J_aload_n hS dX7_talk_0 rfl ?_
  refine J_iload_n hS dX7_talk_1 rfl ?_
  rcases in_or (y := a) (b := n) (by first | decide | omega) with ⟨i, hi, ei⟩ | hbi
  ·
    subst ei
    have ni := nou hi (by omega)
    refine J_callV1 (X' := fun _ _ => False) hS dX7_talk_2 mvX7_121 ob1 rfl (by decide) (by decide) (Nat.le_of_ble_eq_true rfl) ⟨Nat.le_trans (by decide) hR.1, Nat.le_trans (by decide) hR.2⟩ (fun _ _ q => q.elim) (c_checkChildOk hgm hn hi ?_)
    refine J_aload_n hS dX7_talk_5 rfl ?_
    refine J_iload_n hS dX7_talk_6 rfl ?_
    rcases in_or (y := b) (b := n) (by first | decide | omega) with ⟨j, hj, ej⟩ | hbj
    ·
      subst ej
      have nj := nou hj (by omega)
      refine J_callV1 (X' := fun _ _ => False) hS dX7_talk_7 mvX7_121 ob1 rfl (by decide) (by decide) (Nat.le_of_ble_eq_true rfl) ⟨Nat.le_trans (by decide) hR.1, Nat.le_trans (by decide) hR.2⟩ (fun _ _ q => q.elim) (c_checkChildOk hgm hn hj ?_)
      refine J_iload_n hS dX7_talk_10 rfl ?_
      refine J_iload_n hS dX7_talk_11 rfl ?_
      have xt : ∀ (r : nI i = nI j ∨ ou 4 x1 ∨ ou 4 x2 ∨ ou 4 x3), J S 0 0 g 38 [some (.ref 1), some (.int (nI i)), some (.int (nI j)), some (.int x1), some (.int x2), some (.int x3)] [] := by
        intro r
        exact J_thA hS hZ ht hR (by decide) (List.mem_of_getElem? (i := 28) rfl) rfl dX7_talk_38 dX7_talk_41 dX7_talk_42 dX7_talk_44 dX7_talk_47 (by omega) (by omega) (xx ni nj r)
      refine J_icmp_eq (tgt := 38) hS dX7_talk_12 (by decide) (fun c1 => ?_) (fun c1 => ?_)
      · exact xt (Or.inl c1)
      · have hij : i ≠ j := fun e => c1 (by rw [e])
        refine J_iload_n hS dX7_talk_15 rfl ?_
        refine J_callS1 (X' := fun _ _ => False) hS dX7_talk_16 msX7_208 rfl (by decide) (by decide) (Nat.le_of_ble_eq_true rfl) ⟨Nat.le_trans (by decide) hR.1, Nat.le_trans (by decide) hR.2⟩ (fun _ _ q => q.elim) (c_isOfFour ?_)
        have o4 : ∀ v : Int32, b01 (¬ v < 0 ∧ ¬ 4 ≤ v) = 0 ↔ ou 4 v := by
          intro v
          unfold b01 ou
          by_cases k1 : v < 0
          · simp [k1]
          · by_cases k2 : (4 : Int32) ≤ v
            · simp [k1, k2, show nI 4 = 4 from rfl]
            · simp [k1, k2, show nI 4 = 4 from rfl]
        refine J_if_eq (tgt := 38) hS dX7_talk_19 (by decide) (fun c2 => ?_) (fun c2 => ?_)
        · exact xt (Or.inr (Or.inl ((o4 _).mp c2)))
        ·
          refine J_iload hS dX7_talk_22 rfl ?_
          refine J_callS1 (X' := fun _ _ => False) hS dX7_talk_24 msX7_208 rfl (by decide) (by decide) (Nat.le_of_ble_eq_true rfl) ⟨Nat.le_trans (by decide) hR.1, Nat.le_trans (by decide) hR.2⟩ (fun _ _ q => q.elim) (c_isOfFour ?_)
          refine J_if_eq (tgt := 38) hS dX7_talk_27 (by decide) (fun c3 => ?_) (fun c3 => ?_)
          · exact xt (Or.inr (Or.inr (Or.inl ((o4 _).mp c3))))
          ·
            refine J_iload hS dX7_talk_30 rfl ?_
            refine J_callS1 (X' := fun _ _ => False) hS dX7_talk_32 msX7_208 rfl (by decide) (by decide) (Nat.le_of_ble_eq_true rfl) ⟨Nat.le_trans (by decide) hR.1, Nat.le_trans (by decide) hR.2⟩ (fun _ _ q => q.elim) (c_isOfFour ?_)
            have n1 : ¬ ou 4 x1 := fun e => c2 ((o4 _).mpr e)
            have n2 : ¬ ou 4 x2 := fun e => c3 ((o4 _).mpr e)
            refine J_if_ne (tgt := 48) hS dX7_talk_35 (by decide) (fun c4 => ?_) (fun c4 => ?_)
            · have n3 : ¬ ou 4 x3 := fun e => c4 ((o4 _).mpr e)
              refine J_aload_n hS dX7_talk_48 rfl ?_
              refine J_getR (t := 143) hS dX7_talk_49 flX7_38 ob1 rfl ?_
              refine J_getI hS dX7_talk_52 flX7_214 ob143 rfl ?_
              refine J_sipush (v := 1500) hS dX7_talk_55 (by decide) ?_
              show J S 0 0 (g) 58 [some (.ref 1), some (.int (nI i)), some (.int (nI j)), some (.int x1), some (.int x2), some (.int x3)] [.int 1500, .int _]
              rw [hC.2.1]
              refine J_icmp_lt (tgt := 63) hS dX7_talk_58 (by decide) (fun c5 => ?_) (fun c5 => ?_)
              · have m5 : z.m < 1500 := by
                  rcases Nat.lt_or_ge z.m 1500 with e | e
                  · exact e
                  · exact absurd c5 (nI_nlt e (by have := hz.1; omega))
                refine J_aload_n hS dX7_talk_63 rfl ?_
                refine J_getR (t := 2) hS dX7_talk_64 flX7_10 ob1 rfl ?_
                refine J_iload_n hS dX7_talk_67 rfl ?_
                refine J_iload_n hS dX7_talk_68 rfl ?_
                refine J_callV2 (X' := fun _ _ => False) hS dX7_talk_69 mvX7_217 wo_now.ob rfl (by decide) (by decide) (Nat.le_of_ble_eq_true rfl) ⟨Nat.le_trans (by decide) hR.1, Nat.le_trans (by decide) hR.2⟩ (fun _ _ q => q.elim) (c_areTogether wo_now (show i < 24 by omega) (show j < 24 by omega) ?_)
                have tg : (g (2 + 5) i = 1 ∧ g (2 + 5) j = 1 ∧ g (2 + 1) i = g (2 + 1) j) ↔ togW z.w i j := by
                  unfold togW
                  rw [← hC.1, wv_at (wx_there (show i < 24 by omega)), wv_at (wx_there (show j < 24 by omega)), wv_at (wx_yard (show i < 24 by omega)), wv_at (wx_yard (show j < 24 by omega))]
                refine J_if_ne (tgt := 78) hS dX7_talk_72 (by decide) (fun c6 => ?_) (fun c6 => ?_)
                · have ht1 : togW z.w i j := by
                    refine tg.mp ?_
                    by_cases e : g (2 + 5) i = 1 ∧ g (2 + 5) j = 1 ∧ g (2 + 1) i = g (2 + 1) j
                    · exact e
                    · exact absurd (b01_f e) c6
                  rcases in_or (y := x1) (b := 4) (by decide) with ⟨y1, k1, e1⟩ | e
                  · rcases in_or (y := x2) (b := 4) (by decide) with ⟨y2, k2, e2⟩ | e
                    · rcases in_or (y := x3) (b := 4) (by decide) with ⟨y3, k3, e3⟩ | e
                      · obtain ⟨mt, hmt⟩ : ∃ mt : Nat → Nat, mt = fun k => if k = 0 then y1 else if k = 1 then y2 else y3 := ⟨_, rfl⟩
                        have hmt4 : ∀ k, mt k < 4 := by intro k; rw [hmt]; show (if k = 0 then y1 else if k = 1 then y2 else y3) < 4; split; exact k1; split; exact k2; exact k3
                        obtain ⟨y, hy, ey⟩ := hw.2.1 i (by omega)
                        refine J_aload_n hS dX7_talk_78 rfl ?_
                        refine J_getR (t := 148) hS dX7_talk_79 flX7_45 ob1 rfl ?_
                        refine J_iload_n hS dX7_talk_82 rfl ?_
                        refine J_iload_n hS dX7_talk_83 rfl ?_
                        refine J_iload_n hS dX7_talk_84 rfl ?_
                        refine J_iload hS dX7_talk_85 rfl ?_
                        refine J_iload hS dX7_talk_87 rfl ?_
                        refine J_callV5 (X' := fun _ _ => False) hS dX7_talk_89 mvX7_221 ob148 rfl (by decide) (by decide) (Nat.le_of_ble_eq_true rfl) ⟨Nat.le_trans (by decide) hR.1, Nat.le_trans (by decide) hR.2⟩ (fun _ _ q => q.elim) (c_begin (fun g1 b1 b2 b3 b4 b5 b6 b7 => ?_))
                        have hr1 : RelC g1 z := hC.fr (fun z hz => b1 z (by omega) (by omega))
                        have hl1 : LawsC g1 Ls := hl.fr (by rw [b1 1 (by decide) (by decide)]) (fun z h1 h2 => b1 z (by omega) (by omega))
                        refine J_aload_n hS dX7_talk_92 rfl ?_
                        refine J_callV0 (X' := fun _ _ => False) hS dX7_talk_93 mvX7_167 ob1 rfl (by decide) (by decide) (Nat.le_of_ble_eq_true rfl) ⟨Nat.le_trans (by decide) hR.1, Nat.le_trans (by decide) hR.2⟩ (fun _ _ q => q.elim) (c_useLawInForce hl1 (by rw [hr1.1]; exact hv) (fun g2 d1 d2 d3 => ?_))
                        have hr2 : RelC g2 z := hr1.fr (fun z hz => d1 z (by omega))
                        rw [hr1.1] at d2
                        have sp : SpC g2 i j mt := by
                          rw [show SpC g2 i j mt = (i < 24 ∧ j < 24 ∧ g2 148 0 = nI i ∧ g2 148 1 = nI j ∧ ∀ r, r < 3 → mt r < 4 ∧ g2 149 r = nI (mt r)) from rfl, d1 148 (by decide), d1 149 (by decide)]
                          refine ⟨by omega, by omega, b2, b3, fun r hr3 => ⟨hmt4 r, ?_⟩⟩
                          rcases (show r = 0 ∨ r = 1 ∨ r = 2 by omega) with e | e | e
                          · subst e; rw [b5, e1, hmt]; rfl
                          · subst e; rw [b6, e2, hmt]; rfl
                          · subst e; rw [b7, e3, hmt]; rfl
                        refine J_aload_n hS dX7_talk_96 rfl ?_
                        refine J_callV0 (X' := fun _ _ => False) hS dX7_talk_97 mvX7_225 ob1 rfl (by decide) (by decide) (Nat.le_of_ble_eq_true rfl) ⟨Nat.le_trans (by decide) hR.1, Nat.le_trans (by decide) hR.2⟩ (fun _ _ q => q.elim) (c_makeNotedTalk hij (show i < 24 by omega) (show j < 24 by omega) sp hmt4 hy (by rw [hr2.1]; exact ey) (by rw [hr2.1, ← ht1.2.2]; exact ey) (by rw [hr2.1]; exact hw.2.2 j (by omega)) d2 m5 hr2.2.1 (by rcases hz.2 with e | ⟨f, mn, f1, f2, f3, f4⟩; exact Or.inl (hr2.2.2.2.2.2.2.1.trans e); exact Or.inr ⟨f, mn, f1, f2, hr2.2.2.2.2.2.2.1.trans f3, (hr2.2.2.2.2.2.2.2 f f1).trans f4⟩) (fun g3 np => ?_))
                        have rl := np.rel hr2 hz (by omega) (by omega)
                        rw [d3] at rl
                        have fr : FrN g g3 := (FrN.of (fun z z1 z2 => by rw [d1 z (by omega), b1 z (by omega) (by omega)])).trans (np.fr hr2 hz)
                        have ans := np.2.2.1
                        rw [hr2.1] at ans
                        have fq := q i j y hi rfl hj rfl hij mt hmt4 (by rw [e1, hmt]; rfl) (by rw [e2, hmt]; rfl) (by rw [e3, hmt]; rfl) m5 ht1 hy ey g3 fr rl
                        have r01 : tRt z.w i j y mt = 0 ∨ tRt z.w i j y mt = 1 := by unfold tRt rtI; split <;> simp
                        refine J_aload_n hS dX7_talk_100 rfl ?_
                        refine J_getR (t := 148) hS dX7_talk_101 flX7_45 ob1 rfl ?_
                        refine J_getI hS dX7_talk_104 flX7_228 ob148 rfl ?_
                        show J S 0 0 (g3) 107 [some (.ref 1), some (.int (nI i)), some (.int (nI j)), some (.int x1), some (.int x2), some (.int x3)] [.int _]
                        rw [ans]
                        refine J_if_eq (tgt := 114) hS dX7_talk_107 (by decide) (fun c7 => ?_) (fun c7 => ?_)
                        ·
                          refine J_iconst (v := 0) hS dX7_talk_114 (by decide) ?_
                          refine J_iret hS hZ hr dX7_talk_115 (by omega) (by omega) ?_
                          rw [c7] at fq; exact fq
                        ·
                          refine J_iconst (v := 1) hS dX7_talk_110 (by decide) ?_
                          refine J_goto (tgt := 115) hS dX7_talk_111 (by decide) ?_
                          refine J_iret hS hZ hr dX7_talk_115 (by omega) (by omega) ?_
                          rcases r01 with e | e
                          · exact absurd e c7
                          · rw [e] at fq; exact fq
                      · exact absurd e n3
                    · exact absurd e n2
                  · exact absurd e n1
                ·
                  refine J_bipush (v := (-2)) hS dX7_talk_75 (by decide) ?_
                  refine J_iret hS hZ hr dX7_talk_77 (by omega) (by omega) ?_
                  refine q1 i j hi rfl hj rfl hij n1 n2 n3 m5 (fun e => ?_)
                  rw [b01_t (tg.mpr e)] at c6; exact absurd c6 (by decide)
              ·
                refine J_iconst (v := (-1)) hS dX7_talk_61 (by decide) ?_
                refine J_iret hS hZ hr dX7_talk_62 (by omega) (by omega) ?_
                refine q0 i j hi rfl hj rfl hij n1 n2 n3 ?_
                rcases Nat.lt_or_ge z.m 1500 with e | e
                · exact absurd (nI_lt e (by decide)) c5
                · have := hz.1; omega
            · exact xt (Or.inr (Or.inr (Or.inr ((o4 _).mp c4))))
    ·
      refine J_callV1 hS dX7_talk_7 mvX7_121 ob1 rfl (by decide) (by decide) (Nat.le_of_ble_eq_true rfl) ⟨Nat.le_trans (by decide) hR.1, Nat.le_trans (by decide) hR.2⟩ (fun _ _ q => q) (c_checkChildBad (by rw [hgm]; exact hbj) (JX_out hS hZ ht (by omega) (by omega) (x (Or.inr hbj))))
  ·
    refine J_callV1 hS dX7_talk_2 mvX7_121 ob1 rfl (by decide) (by decide) (Nat.le_of_ble_eq_true rfl) ⟨Nat.le_trans (by decide) hR.1, Nat.le_trans (by decide) hR.2⟩ (fun _ _ q => q) (c_checkChildBad (by rw [hgm]; exact hbi) (JX_out hS hZ ht (by omega) (by omega) (x (Or.inl hbi))))
end ClsT


/-! THE INVARIANT: what stays between the calls; pure words first -/
/-- the block of the child c stays -/
def Kc (c : Nat) (w w' : Wr) : Prop := ∀ r, r < 142 → w' (56 + 142 * c + r) = w (56 + 142 * c + r)
theorem Kc.refl {c : Nat} (w : Wr) : Kc c w w := fun _ _ => rfl
theorem Kc.trans {c : Nat} {w w' w'' : Wr} (a : Kc c w w') (b : Kc c w' w'') : Kc c w w'' := fun r hr => (b r hr).trans (a r hr)
theorem Kc_lo {c i : Nat} {w : Wr} {v : Int32} (h : i < 56) : Kc c w (upd w i v) := fun r _ => by unfold upd; rw [if_neg (by omega)]
theorem Kc_up {c d r : Nat} {w : Wr} {v : Int32} (h : c ≠ d) (hr : r < 142) : Kc c w (upd w (56 + 142 * d + r) v) := fun r' hr' => by unfold upd; rw [if_neg (by omega)]
theorem Kc_row {w : Wr} {c d r n : Nat} {F : Nat → Int32} (h : c ≠ d) (hn : r + n ≤ 142) : Kc c w (fun i => if 56 + 142 * d + r ≤ i ∧ i < 56 + 142 * d + r + n then F i else w i) := fun r' hr' => by
  dsimp only
  rw [if_neg (by omega)]
theorem Kc_useK {c : Nat} {w : Wr} {y : Nat} {s : Nat → Nat} (hy : y < 3) (hs : ∀ k, s k < 16) : ∀ k, Kc c w (useK w y s k)
  | 0 => Kc.refl w
  | k + 1 => (Kc_useK hy hs k).trans (Kc_lo (by have := hs k; omega))
theorem Kc_sayK {c : Nat} {w : Wr} {a : Nat} {mt : Nat → Nat} : ∀ k, Kc c w (sayK w a mt k)
  | 0 => Kc_lo (by decide)
  | k + 1 => (Kc_sayK k).trans (Kc_lo (by decide))
theorem Kc_sayW {c : Nat} {w : Wr} {a y : Nat} {mt : Nat → Nat} (hy : y < 3) : Kc c w (sayW w a y mt) := (Kc_sayK 3).trans (Kc_useK hy (sayS_lt w a mt) 3)
theorem Kc_lrnS {c : Nat} {w : Wr} {y b its k : Nat} {s part : Nat → Nat} {V : Nat → Int32 → Int32} (h : c ≠ b) (hp : ∀ r, part r < 4) : Kc c w (lrnS w y b its s part V k) := by
  unfold lrnS
  have := con_lt (r := rN (its * 3 + k)) (hp (rN (its * 3 + k)))
  rw [sgB_r]
  exact Kc_row h (by omega)
theorem Kc_lrnK {c : Nat} {w : Wr} {y b its : Nat} {s part : Nat → Nat} {V : Nat → Int32 → Int32} (h : c ≠ b) (hp : ∀ r, part r < 4) : ∀ k, Kc c w (lrnK w y b its s part V k)
  | 0 => Kc.refl w
  | k + 1 => (Kc_lrnK h hp k).trans (Kc_lrnS h hp)
theorem Kc_mkR {c : Nat} {w : Wr} {b its : Nat} {V3 : Int32 → Int32} (h : c ≠ b) : Kc c w (mkR w b its V3) := by
  unfold mkR
  split
  · rw [odB_r]; exact Kc_row h (by decide)
  · exact Kc.refl w
theorem Kc_lrnW {c : Nat} {w : Wr} {y b its : Nat} {s part : Nat → Nat} {V : Nat → Int32 → Int32} (h : c ≠ b) (hp : ∀ r, part r < 4) : Kc c w (lrnW w y b its s part V) := by
  unfold lrnW
  split
  · exact Kc_lrnK h hp 3
  · have h1 : Kc c w (lrnK w y b its s part V 3) := Kc_lrnK h hp 3
    have h2 : Kc c (lrnK w y b its s part V 3) (lrn (lrnK w y b its s part V 3) (odB b) 6 its (V 1) (V 2)) := by rw [odB_r]; exact Kc_row h (by decide)
    exact (h1.trans h2).trans (Kc_mkR h)
theorem Kc_lrnF {c : Nat} {w : Wr} {y b its : Nat} {s part : Nat → Nat} {V : Nat → Int32 → Int32} (h : c ≠ b) (hp : ∀ r, part r < 4) : Kc c w (lrnF w y b its s part V) := by
  unfold lrnF
  split
  · exact Kc.refl w
  · exact Kc_lrnW h hp
theorem Kc_strK {c : Nat} {w : Wr} {a o : Nat} {s mt : Nat → Nat} (h : c ≠ a) (hs : ∀ k, s k < 16) (hm : ∀ r, mt r < 4) : ∀ k, Kc c w (strK w a o s mt k)
  | 0 => Kc.refl w
  | k + 1 => (Kc_strK h hs hm k).trans (by
      have h1 := con_lt (r := rN (o * 3 + k)) (hm (rN (o * 3 + k)))
      have h2 := hs k
      show Kc c _ (st1 _ _)
      rw [sgB_r, Nat.add_assoc (56 + 142 * a)]
      exact Kc_up h (by omega))
theorem Kc_strW {c : Nat} {w : Wr} {a o : Nat} {s mt : Nat → Nat} (h : c ≠ a) (ho : o < 6) (hs : ∀ k, s k < 16) (hm : ∀ r, mt r < 4) : Kc c w (strW w a o s mt) := by
  unfold strW
  split
  · exact Kc.refl w
  · split
    · exact Kc_strK h hs hm 3
    · have h1 : Kc c w (strK w a o s mt 3) := Kc_strK h hs hm 3
      have h2 : Kc c (strK w a o s mt 3) (st1 (strK w a o s mt 3) (odB a + o)) := by
        rw [odB_r, Nat.add_assoc (56 + 142 * a)]
        exact Kc_up h (by omega)
      exact h1.trans h2
theorem Kc_tW6 {lw : Option (List Cls)} {lo : Int32} {w : Wr} {c a b y : Nat} {mt : Nat → Nat} (ha : c ≠ a) (hb : c ≠ b) (hy : y < 3) (hm : ∀ r, mt r < 4) : Kc c w (tW6 lw lo w a b y mt) := by
  have h3 : Kc c w (tW3 w a b y mt) := ((Kc_sayW hy).trans (Kc_lo (by decide))).trans (Kc_lo (by decide))
  have hp : ∀ r, tPt w a b y mt r < 4 := fun r => by unfold tPt; split; exact tTk_lt; exact hm r
  have h4 : Kc c w (tW4 lw lo w a b y mt) := h3.trans (Kc_lrnF hb hp)
  have h5 : Kc c w (tW5 lw lo w a b y mt) := by
    unfold tW5
    split
    · exact h4
    · exact h4.trans (Kc_strW ha (sayO_lt w a) (sayS_lt w a mt) hm)
  exact (h5.trans (Kc_up hb (by decide))).trans (Kc_up ha (by decide))
/-- the film f in pure words: fr its first talk, wf its image -/
def FzE (z : Nz) (f fr : Nat) (wf : Wr) : Prop := ∃ (mn : Nat) (na nb ny : Nat → Nat) (nm : Nat → Nat → Nat),
  z.k f = nI mn ∧ mn ≤ 100 ∧ fr + mn ≤ z.m ∧ (∀ i, ny i < 3) ∧ (∀ i r, nm i r < 4) ∧
  (∀ i, i < mn → na i < 24 ∧ nb i < 24 ∧ z.n ((fr + i) * 19 + 1) = nI (na i) ∧ z.n ((fr + i) * 19 + 2) = nI (nb i) ∧ ∀ k, k < 3 → z.n ((fr + i) * 19 + 3 + k) = nI (nm i k)) ∧
  (∀ i, i < mn → wf (56 + 142 * na i) = nI (ny i) ∧ wf (56 + 142 * nb i) = nI (ny i)) ∧
  (z.f = nI f → fr + mn = z.m ∧ ∀ c, c < 24 → wf (56 + 142 * c) = z.w (56 + 142 * c))
theorem nzT_n {lw : Option (List Cls)} {lo : Int32} {a b y : Nat} {mt : Nat → Nat} {z : Nz} {t j : Nat} (ht : t < z.m) (hj : j < 19) : (nzT lw lo a b y mt z).n (t * 19 + j) = z.n (t * 19 + j) := by
  show (if z.m * 19 ≤ t * 19 + j ∧ t * 19 + j < z.m * 19 + 19 then ntV lw lo z.w a b y mt (t * 19 + j - z.m * 19) else z.n (t * 19 + j)) = _
  rw [if_neg (by omega)]
theorem nzT_nm {lw : Option (List Cls)} {lo : Int32} {a b y : Nat} {mt : Nat → Nat} {z : Nz} {j : Nat} (hj : j < 19) : (nzT lw lo a b y mt z).n (z.m * 19 + j) = ntV lw lo z.w a b y mt j := by
  show (if z.m * 19 ≤ z.m * 19 + j ∧ z.m * 19 + j < z.m * 19 + 19 then ntV lw lo z.w a b y mt (z.m * 19 + j - z.m * 19) else z.n (z.m * 19 + j)) = _
  rw [if_pos (by omega), show z.m * 19 + j - z.m * 19 = j by omega]
theorem ntV_1 {lw : Option (List Cls)} {lo : Int32} {W : Wr} {a b y : Nat} {mt : Nat → Nat} : ntV lw lo W a b y mt 1 = nI a := rfl
theorem ntV_2 {lw : Option (List Cls)} {lo : Int32} {W : Wr} {a b y : Nat} {mt : Nat → Nat} : ntV lw lo W a b y mt 2 = nI b := rfl
theorem ntV_3 {lw : Option (List Cls)} {lo : Int32} {W : Wr} {a b y : Nat} {mt : Nat → Nat} {k : Nat} (h : k < 3) : ntV lw lo W a b y mt (3 + k) = nI (mt k) := by
  rcases (show k = 0 ∨ k = 1 ∨ k = 2 by omega) with e | e | e <;> subst e <;> rfl
theorem FzE.nt {lw : Option (List Cls)} {lo : Int32} {a b y f fr : Nat} {mt : Nat → Nat} {z : Nz} {wf : Wr} (h : FzE z f fr wf) (hf : f < 3) (hz : NzOk z) (ha : a < 24) (hb : b < 24) (hy : y < 3) (hmt : ∀ k, mt k < 4) (ya : z.w (56 + 142 * a) = nI y) (yb : z.w (56 + 142 * b) = nI y) : FzE (nzT lw lo a b y mt z) f fr wf := by
  obtain ⟨mn, na, nb, ny, nm, h1, h2, h3, h4, h5, h6, h7, h8⟩ := h
  have kp : Kp z.w (tW6 lw lo z.w a b y mt) := Kp_tW6 hy hmt
  have kf : (nzT lw lo a b y mt z).k f = (if z.f = -1 then z.k else upd z.k z.f.toNatClampNeg (z.k z.f.toNatClampNeg + 1)) f := rfl
  have ff : (nzT lw lo a b y mt z).f = (if z.f = -1 then -1 else if z.k z.f.toNatClampNeg + 1 = 100 then -1 else z.f) := rfl
  have fm : (nzT lw lo a b y mt z).m = z.m + 1 := rfl
  have fw : (nzT lw lo a b y mt z).w = tW6 lw lo z.w a b y mt := rfl
  by_cases on : z.f = nI f
  · obtain ⟨o1, o2⟩ := h8 on
    have mlt : mn < 100 := by
      rcases hz.2 with e | ⟨f', mn', e1, e2, e3, e4⟩
      · rw [on] at e; exact absurd e (nI_nem1 (by omega))
      · have : f' = f := (nI_eq (by omega) (by omega)).mp (e3.symm.trans on)
        subst this
        have := (nI_eq (by omega) (by omega)).mp (h1.symm.trans e4)
        omega
    refine ⟨mn + 1, fun i => if i = mn then a else na i, fun i => if i = mn then b else nb i, fun i => if i = mn then y else ny i, fun i => if i = mn then mt else nm i, ?_, by omega, by rw [fm]; omega, fun i => ?_, fun i r => ?_, fun i hi => ?_, fun i hi => ?_, fun e => ?_⟩
    · rw [kf, on, if_neg (nI_nem1 (by omega)), nI_clamp (by omega)]
      unfold upd
      rw [if_pos rfl, h1, nI_1]
    · dsimp only; split
      · exact hy
      · exact h4 i
    · dsimp only; split
      · exact hmt r
      · exact h5 i r
    · dsimp only
      by_cases e : i = mn
      · subst e
        rw [if_pos rfl, if_pos rfl, if_pos rfl, o1]
        refine ⟨ha, hb, ?_, ?_, fun k hk => ?_⟩
        · rw [nzT_nm (by decide)]; exact ntV_1
        · rw [nzT_nm (by decide)]; exact ntV_2
        · rw [show z.m * 19 + 3 + k = z.m * 19 + (3 + k) by omega, nzT_nm (by omega)]; exact ntV_3 hk
      · rw [if_neg e, if_neg e, if_neg e]
        obtain ⟨q1, q2, q3, q4, q5⟩ := h6 i (by omega)
        refine ⟨q1, q2, ?_, ?_, fun k hk => ?_⟩
        · rw [nzT_n (by omega) (by decide)]; exact q3
        · rw [nzT_n (by omega) (by decide)]; exact q4
        · rw [show (fr + i) * 19 + 3 + k = (fr + i) * 19 + (3 + k) by omega, nzT_n (by omega) (by omega), show (fr + i) * 19 + (3 + k) = (fr + i) * 19 + 3 + k by omega]; exact q5 k hk
    · dsimp only
      by_cases e : i = mn
      · rw [if_pos e, if_pos e, if_pos e, o2 a ha, o2 b hb]; exact ⟨ya, yb⟩
      · rw [if_neg e, if_neg e, if_neg e]; exact h7 i (by omega)
    · refine ⟨by rw [fm]; omega, fun c hc => ?_⟩
      rw [o2 c hc, fw]; exact (kp.hd (r := 0) (by decide)).symm
  · refine ⟨mn, na, nb, ny, nm, ?_, h2, by rw [fm]; omega, h4, h5, fun i hi => ?_, h7, fun e => ?_⟩
    · rw [kf, ← h1]
      by_cases e : z.f = -1
      · rw [if_pos e]
      · rw [if_neg e]
        rcases hz.2 with e' | ⟨f', mn', e1, e2, e3, e4⟩
        · exact absurd e' e
        · rw [e3, nI_clamp (by omega)]
          unfold upd
          rw [if_neg (fun q => on (by rw [e3, q]))]
    · obtain ⟨q1, q2, q3, q4, q5⟩ := h6 i hi
      refine ⟨q1, q2, ?_, ?_, fun k hk => ?_⟩
      · rw [nzT_n (by omega) (by decide)]; exact q3
      · rw [nzT_n (by omega) (by decide)]; exact q4
      · rw [show (fr + i) * 19 + 3 + k = (fr + i) * 19 + (3 + k) by omega, nzT_n (by omega) (by omega), show (fr + i) * 19 + (3 + k) = (fr + i) * 19 + 3 + k by omega]; exact q5 k hk
    · exfalso
      rw [ff] at e
      by_cases e1 : z.f = -1
      · rw [if_pos e1] at e; exact nI_nem1 (n := f) (by omega) e.symm
      · rw [if_neg e1] at e
        by_cases e2 : z.k z.f.toNatClampNeg + 1 = 100
        · rw [if_pos e2] at e; exact nI_nem1 (n := f) (by omega) e.symm
        · rw [if_neg e2] at e; exact on e
/-- who says, in each note -/
def SyE (z : Nz) : Prop := ∀ t, t < z.m → ∃ s : Nat, s < 24 ∧ z.n (t * 19 + 1) = nI s
theorem SyE.nt {lw : Option (List Cls)} {lo : Int32} {a b y : Nat} {mt : Nat → Nat} {z : Nz} (h : SyE z) (ha : a < 24) : SyE (nzT lw lo a b y mt z) := by
  intro t ht
  have ht' : t < z.m + 1 := ht
  by_cases e : t = z.m
  · subst e; exact ⟨a, ha, by rw [nzT_nm (by decide)]; exact ntV_1⟩
  · obtain ⟨s, h1, h2⟩ := h t (by omega)
    exact ⟨s, h1, by rw [nzT_n (by omega) (by decide)]; exact h2⟩
def PZ (z : Nz) (fc : Nat) (fr : Nat → Nat) (wf : Nat → Wr) : Prop := NzOk z ∧ NzI z ∧ SyE z ∧ (∀ f, f < fc → FzE z f (fr f) (wf f)) ∧ (z.f = -1 ∨ ∃ f : Nat, f < fc ∧ z.f = nI f) ∧ fc ≤ 3
theorem PZ.nt {lw : Option (List Cls)} {lo : Int32} {a b y fc : Nat} {mt : Nat → Nat} {z : Nz} {fr : Nat → Nat} {wf : Nat → Wr} (h : PZ z fc fr wf) (hm : z.m < 1500) (ha : a < 24) (hb : b < 24) (hy : y < 3) (hmt : ∀ k, mt k < 4) (ya : z.w (56 + 142 * a) = nI y) (yb : z.w (56 + 142 * b) = nI y) : PZ (nzT lw lo a b y mt z) fc fr wf := by
  obtain ⟨h1, h2, h3, h4, h5, h6⟩ := h
  refine ⟨h1.nt hm, h2.nt ha hb hm, h3.nt ha, fun f hf => (h4 f hf).nt (by omega) h1 ha hb hy hmt ya yb, ?_, h6⟩
  show (if z.f = -1 then -1 else if z.k z.f.toNatClampNeg + 1 = 100 then -1 else z.f) = -1 ∨ ∃ f : Nat, f < fc ∧ (if z.f = -1 then -1 else if z.k z.f.toNatClampNeg + 1 = 100 then -1 else z.f) = nI f
  by_cases e1 : z.f = -1
  · rw [if_pos e1]; exact Or.inl rfl
  · rw [if_neg e1]
    by_cases e2 : z.k z.f.toNatClampNeg + 1 = 100
    · rw [if_pos e2]; exact Or.inl rfl
    · rw [if_neg e2]; exact h5
/-- another row in which the yards are the same -/
theorem PZ.w' {fc : Nat} {z : Nz} {w' : Wr} {fr : Nat → Nat} {wf : Nat → Wr} (h : PZ z fc fr wf) (e : ∀ c, c < 24 → w' (56 + 142 * c) = z.w (56 + 142 * c)) : PZ (w', z.2) fc fr wf := by
  obtain ⟨h1, h2, h3, h4, h5, h6⟩ := h
  refine ⟨h1, h2, h3, fun f hf => ?_, h5, h6⟩
  obtain ⟨mn, na, nb, ny, nm, q1, q2, q3, q4, q5, q6, q7, q8⟩ := h4 f hf
  exact ⟨mn, na, nb, ny, nm, q1, q2, q3, q4, q5, q6, q7, fun on => ⟨(q8 on).1, fun c hc => ((q8 on).2 c hc).trans (e c hc).symm⟩⟩
/-- the film stopped: any row -/
theorem PZ.stop {fc : Nat} {z : Nz} {w' : Wr} {fr : Nat → Nat} {wf : Nat → Wr} (h : PZ z fc fr wf) : PZ (w', z.m, z.n, z.s, z.t, z.c, -1, z.k) fc fr wf := by
  obtain ⟨h1, h2, h3, h4, h5, h6⟩ := h
  refine ⟨⟨h1.1, Or.inl rfl⟩, h2, h3, fun f hf => ?_, Or.inl rfl, h6⟩
  obtain ⟨mn, na, nb, ny, nm, q1, q2, q3, q4, q5, q6, q7, q8⟩ := h4 f hf
  exact ⟨mn, na, nb, ny, nm, q1, q2, q3, q4, q5, q6, q7, fun on => absurd (show (-1 : Int32) = nI f from on).symm (nI_nem1 (by omega))⟩
/-- a world in pure words -/
def PW (w : Wr) (n m : Nat) : Prop := n ≤ 24 ∧ w 6 = nI n ∧ WOk w ∧ (∀ c, c < 24 → w (56 + 142 * c + 3) = 0 ∨ w (56 + 142 * c + 3) = 1) ∧ isLw m (w 5) ∧ ∀ c, n ≤ c → c < 24 → ∀ r, r < 142 → w (56 + 142 * c + r) = 0
theorem PW.kq {w w' : Wr} {n m : Nat} (k : Kq w w') (kc : ∀ c, n ≤ c → c < 24 → Kc c w w') (h : PW w n m) : PW w' n m :=
  ⟨h.1, (k.lo (by decide) (by decide) (by decide)).trans h.2.1, h.2.2.1.kq k, fun c hc => by rw [k.hd (r := 3) (by decide)]; exact h.2.2.2.1 c hc, by rw [k.lo (by decide) (by decide) (by decide)]; exact h.2.2.2.2.1, fun c h1 h2 r hr => (kc c h1 h2 r hr).trans (h.2.2.2.2.2 c h1 h2 r hr)⟩
theorem isLw.mono {m m' : Nat} {v : Int32} (h : isLw m v) (hm : m ≤ m') : isLw m' v := h.imp id (fun ⟨k, h1, h2⟩ => ⟨k, by omega, h2⟩)
theorem PW.mono {w : Wr} {n m m' : Nat} (h : PW w n m) (hm : m ≤ m') : PW w n m' := ⟨h.1, h.2.1, h.2.2.1, h.2.2.2.1, h.2.2.2.2.1.mono hm, h.2.2.2.2.2⟩
/-- a world of which a few words have changed -/
theorem PW.gen {w w' : Wr} {n m m' : Nat} (h : PW w n m) (e6 : w' 6 = w 6) (e0 : ∀ c, c < 24 → w' (56 + 142 * c) = w (56 + 142 * c) ∨ ∃ y : Nat, y < 3 ∧ w' (56 + 142 * c) = nI y) (e3 : ∀ c, c < 24 → w' (56 + 142 * c + 3) = w (56 + 142 * c + 3) ∨ w' (56 + 142 * c + 3) = 0) (eW : ∀ c, c < 24 → ∀ r, 8 ≤ r → r < 142 → w' (56 + 142 * c + r) = w (56 + 142 * c + r)) (e5 : isLw m' (w' 5)) (eZ : ∀ c, n ≤ c → c < 24 → ∀ r, r < 142 → w' (56 + 142 * c + r) = w (56 + 142 * c + r)) : PW w' n m' :=
  ⟨h.1, e6.trans h.2.1, ⟨⟨n, h.1, e6.trans h.2.1⟩, fun c hc => (e0 c hc).elim (fun e => by rw [e]; exact h.2.2.1.2.1 c hc) id, fun c hc r h1 h2 => by rw [eW c hc r h1 h2]; exact h.2.2.1.2.2 c hc r h1 h2⟩, fun c hc => (e3 c hc).elim (fun e => by rw [e]; exact h.2.2.2.1 c hc) Or.inl, e5, fun c h1 h2 r hr => (eZ c h1 h2 r hr).trans (h.2.2.2.2.2 c h1 h2 r hr)⟩
theorem here_m {P : Nat → Bool} {n i : Nat} (h : i < (here P n).length) : (here P n).getD i 0 < n ∧ P ((here P n).getD i 0) = true := by
  have hm : (here P n).getD i 0 ∈ here P n := by
    rw [List.getD_eq_getElem?_getD, List.getElem?_eq_getElem h]
    exact List.getElem_mem h
  have := List.mem_filter.mp hm
  exact ⟨List.mem_range.mp this.1, this.2⟩
theorem dI_lt {s : Int32} {n : Nat} (h : 0 < n) : dI s n < n := by unfold dI; exact dr_lt h
theorem dJ_lt {s : Int32} {n : Nat} (h : 2 ≤ n) : dJ s n < n := by
  have h1 : dr (adv (adv s)) (n - 1) < n - 1 := dr_lt (by omega)
  unfold dJ; split <;> omega
theorem PZ.rn {lw : Option (List Cls)} {lo : Int32} {n y fc : Nat} {z : Nz} {fr : Nat → Nat} {wf : Nat → Wr} (h : PZ z fc fr wf) (hn : n ≤ 24) (hy : y < 3) (hL : 2 ≤ (here (thrW z.w (nI y)) n).length) : ∀ k, z.m + k ≤ 1500 → PZ (rnK lw lo (here (thrW z.w (nI y)) n) y z k) fc fr wf
  | 0, _ => h
  | k + 1, hk => by
    have ih := PZ.rn (lw := lw) (lo := lo) h hn hy hL k (by omega)
    have kq := Kq_rnK (lw := lw) (lo := lo) (L := here (thrW z.w (nI y)) n) (z := z) hy k
    have hm := rnK_m (lw := lw) (lo := lo) (L := here (thrW z.w (nI y)) n) (y := y) (z := z) k
    obtain ⟨v, hv⟩ : ∃ v, v = rnK lw lo (here (thrW z.w (nI y)) n) y z k := ⟨_, rfl⟩
    show PZ (rnS lw lo (here (thrW z.w (nI y)) n) y (rnK lw lo (here (thrW z.w (nI y)) n) y z k)) fc fr wf
    rw [← hv] at ih kq hm ⊢
    have hA : ∀ i, i < (here (thrW z.w (nI y)) n).length → (here (thrW z.w (nI y)) n).getD i 0 < 24 ∧ (nzD v).w (56 + 142 * (here (thrW z.w (nI y)) n).getD i 0) = nI y := by
      intro i hi
      obtain ⟨a1, a2⟩ := here_m hi
      refine ⟨by omega, ?_⟩
      have : z.w (56 + 142 * (here (thrW z.w (nI y)) n).getD i 0) = nI y := by
        unfold thrW at a2
        exact (of_decide_eq_true a2).2
      refine Eq.trans ?_ this
      show upd v.w 0 (adv5 (v.w 0)) _ = _
      unfold upd
      rw [if_neg (by omega)]
      exact kq.hd (r := 0) (by decide)
    have iD : PZ (nzD v) fc fr wf := ih.w' (fun c hc => by unfold upd; rw [if_neg (by omega)])
    have l1 := hA (dI (v.w 0) (here (thrW z.w (nI y)) n).length) (dI_lt (by omega))
    have l2 := hA (dJ (v.w 0) (here (thrW z.w (nI y)) n).length) (dJ_lt hL)
    exact iD.nt (by show v.m < 1500; omega) l1.1 l2.1 hy (fun _ => dM_lt) l1.2 l2.2
theorem Kc_rnK {lw : Option (List Cls)} {lo : Int32} {n y c : Nat} {z : Nz} (hc : n ≤ c) (hy : y < 3) (hL : 2 ≤ (here (thrW z.w (nI y)) n).length) : ∀ k, Kc c z.w (rnK lw lo (here (thrW z.w (nI y)) n) y z k).w
  | 0 => Kc.refl _
  | k + 1 => (Kc_rnK hc hy hL k).trans (by
      obtain ⟨v, hv⟩ : ∃ v, v = rnK lw lo (here (thrW z.w (nI y)) n) y z k := ⟨_, rfl⟩
      show Kc c _ (rnS lw lo (here (thrW z.w (nI y)) n) y (rnK lw lo (here (thrW z.w (nI y)) n) y z k)).w
      rw [← hv]
      have l1 := (here_m (P := thrW z.w (nI y)) (n := n) (i := dI (v.w 0) (here (thrW z.w (nI y)) n).length) (dI_lt (by omega))).1
      have l2 := (here_m (P := thrW z.w (nI y)) (n := n) (i := dJ (v.w 0) (here (thrW z.w (nI y)) n).length) (dJ_lt hL)).1
      have s0 : Kc c v.w (nzD v).w := Kc_lo (by decide)
      exact s0.trans (Kc_tW6 (by omega) (by omega) hy (fun _ => dM_lt)))

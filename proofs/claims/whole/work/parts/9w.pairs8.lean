/-! PAIRS: talks -/
theorem rN_3 (j : Nat) : rN j < 3 := by
  by_cases h : j < 18
  · exact (rN_ok j h).2
  · unfold rN
    rw [List.getD_eq_getElem?_getD, List.getElem?_eq_none (show 18 ≤ j by omega)]
    decide
theorem say1_cg {w : Wr} {a o k : Nat} {mt mt' : Nat → Nat} (h : ∀ r, r < 3 → mt r = mt' r) : say1 w a o mt k = say1 w a o mt' k := by
  unfold say1; rw [h _ (rN_3 _)]
theorem sayK_cg {w : Wr} {a : Nat} {mt mt' : Nat → Nat} (h : ∀ r, r < 3 → mt r = mt' r) : ∀ k, sayK w a mt k = sayK w a mt' k
  | 0 => rfl
  | k + 1 => by
    show (say1 (sayK w a mt k) a (sayO w a) mt k).2 = (say1 (sayK w a mt' k) a (sayO w a) mt' k).2
    rw [sayK_cg h k, say1_cg h]
theorem sayS_cg {w : Wr} {a : Nat} {mt mt' : Nat → Nat} (h : ∀ r, r < 3 → mt r = mt' r) : sayS w a mt = sayS w a mt' := funext (fun k => by unfold sayS; rw [sayK_cg h, say1_cg h])
theorem sayW_cg {w : Wr} {a y : Nat} {mt mt' : Nat → Nat} (h : ∀ r, r < 3 → mt r = mt' r) : sayW w a y mt = sayW w a y mt' := by unfold sayW; rw [sayK_cg h, sayS_cg h]
theorem lrnK_cg {w : Wr} {y b its : Nat} {s p p' : Nat → Nat} {V : Nat → Int32 → Int32} (h : ∀ r, r < 3 → p r = p' r) : ∀ k, lrnK w y b its s p V k = lrnK w y b its s p' V k
  | 0 => rfl
  | k + 1 => by
    show lrnS (lrnK w y b its s p V k) y b its s p V k = lrnS (lrnK w y b its s p' V k) y b its s p' V k
    rw [lrnK_cg h k]
    unfold lrnS
    rw [h _ (rN_3 _)]
theorem lrnF_cg {w : Wr} {y b its : Nat} {s p p' : Nat → Nat} {V : Nat → Int32 → Int32} (h : ∀ r, r < 3 → p r = p' r) : lrnF w y b its s p V = lrnF w y b its s p' V := by unfold lrnF lrnW; rw [lrnK_cg h]
theorem strK_cg {w : Wr} {a o : Nat} {s mt mt' : Nat → Nat} (h : ∀ r, r < 3 → mt r = mt' r) : ∀ k, strK w a o s mt k = strK w a o s mt' k
  | 0 => rfl
  | k + 1 => by
    show st1 (strK w a o s mt k) (sgB a (con (rN (o * 3 + k)) (mt (rN (o * 3 + k)))) + s k) = st1 (strK w a o s mt' k) (sgB a (con (rN (o * 3 + k)) (mt' (rN (o * 3 + k)))) + s k)
    rw [strK_cg h k, h _ (rN_3 _)]
theorem strW_cg {w : Wr} {a o : Nat} {s mt mt' : Nat → Nat} (h : ∀ r, r < 3 → mt r = mt' r) : strW w a o s mt = strW w a o s mt' := by unfold strW; rw [strK_cg h]
section CgT
variable {lw : Option (List Cls)} {lo : Int32} {w : Wr} {a b y : Nat} {mt mt' : Nat → Nat}
theorem tTk_cg (h : ∀ r, r < 3 → mt r = mt' r) : tTk w a b y mt = tTk w a b y mt' := by unfold tTk; rw [sayW_cg h, sayS_cg h]
theorem tRt_cg (h : ∀ r, r < 3 → mt r = mt' r) : tRt w a b y mt = tRt w a b y mt' := by unfold tRt rtI; rw [tTk_cg h, h 0 (by decide), h 1 (by decide), h 2 (by decide)]
theorem tW2_cg (h : ∀ r, r < 3 → mt r = mt' r) : tW2 w a b y mt = tW2 w a b y mt' := by unfold tW2; rw [sayW_cg h]
theorem tW3_cg (h : ∀ r, r < 3 → mt r = mt' r) : tW3 w a b y mt = tW3 w a b y mt' := by unfold tW3; rw [tW2_cg h]
theorem tSh_cg (h : ∀ r, r < 3 → mt r = mt' r) : tSh w a b y mt = tSh w a b y mt' := by unfold tSh; rw [tW2_cg h]
theorem tO_cg (h : ∀ r, r < 3 → mt r = mt' r) : tO' w a b y mt = tO' w a b y mt' := by unfold tO'; rw [sayW_cg h]
theorem tIts_cg (h : ∀ r, r < 3 → mt r = mt' r) : tIts w a b y mt = tIts w a b y mt' := by unfold tIts; rw [tSh_cg h, tO_cg h]
theorem tPt_cg (h : ∀ r, r < 3 → mt r = mt' r) : ∀ r, r < 3 → tPt w a b y mt r = tPt w a b y mt' r := by
  intro r hr
  unfold tPt
  rw [tSh_cg h, tTk_cg h]
  split
  · rfl
  · exact h r hr
theorem tW4_cg (h : ∀ r, r < 3 → mt r = mt' r) : tW4 lw lo w a b y mt = tW4 lw lo w a b y mt' := by
  unfold tW4
  rw [tW3_cg h, tIts_cg h, sayS_cg h, tRt_cg h, tSh_cg h]
  exact lrnF_cg (tPt_cg h)
theorem tW5_cg (h : ∀ r, r < 3 → mt r = mt' r) : tW5 lw lo w a b y mt = tW5 lw lo w a b y mt' := by unfold tW5; rw [tRt_cg h, tW4_cg h, sayS_cg h, strW_cg h]
theorem tW6_cg (h : ∀ r, r < 3 → mt r = mt' r) : tW6 lw lo w a b y mt = tW6 lw lo w a b y mt' := by unfold tW6; rw [tW5_cg h]
theorem tLn_cg (h : ∀ r, r < 3 → mt r = mt' r) : tLn w a b y mt = tLn w a b y mt' := by unfold tLn; rw [tW3_cg h, tIts_cg h]
theorem ntV_cg (h : ∀ r, r < 3 → mt r = mt' r) : ntV lw lo w a b y mt = ntV lw lo w a b y mt' := by
  unfold ntV
  rw [tW6_cg h, tO_cg h, tRt_cg h, tSh_cg h, tLn_cg h, sayS_cg h, tTk_cg h]
  funext j
  rcases (show j = 3 ∨ j = 4 ∨ j = 5 ∨ j = 0 ∨ j = 1 ∨ j = 2 ∨ 6 ≤ j by omega) with e | e | e | e | e | e | e
  · subst e; show nI (mt 0) = nI (mt' 0); rw [h 0 (by decide)]
  · subst e; show nI (mt 1) = nI (mt' 1); rw [h 1 (by decide)]
  · subst e; show nI (mt 2) = nI (mt' 2); rw [h 2 (by decide)]
  · subst e; rfl
  · subst e; rfl
  · subst e; rfl
  · have c : ¬ j < 6 := by omega
    unfold ntF
    simp only [if_neg c]
theorem nzT_cg {z : Nz} (h : ∀ r, r < 3 → mt r = mt' r) : nzT lw lo a b y mt z = nzT lw lo a b y mt' z := by unfold nzT; rw [tW6_cg h, ntV_cg h]
end CgT
section IvT
variable {g G G0 g' : Mm} {z z' : Nz} {n : Nat} {Ls : List (List Cls)} {tb fc ic : Nat} {fr : Nat → Nat} {wf : Nat → Wr}
/-- the notes may be those of the memory -/
theorem iv_mk (hA : IA g z n Ls.length) (hB : LawsC g Ls ∧ LawsM g Ls) (hT : IT g tb) (hI : II g ic Ls.length) (hF : IFi g fc fr wf) (hP : PZ z fc fr wf) : Iv g := by
  obtain ⟨a1, a2, a3, a4, a5⟩ := hA
  obtain ⟨r1, r2, r3, r4, r5, r6, r7, r8⟩ := a1
  obtain ⟨s1, s2, s3, s4, s5, s6, s7, s8⟩ := a2
  obtain ⟨p1, p2, p3, p4, p5, p6⟩ := hP
  have hm := p1.1
  refine ⟨(z.w, z.m, g 144, z.s, z.t, z.c, z.f, z.k), n, Ls, tb, fc, ic, fr, wf, ⟨⟨r1, r2, fun _ _ => rfl, r4, r5, r6, r7, r8⟩, ⟨s1, s2, fun t j ht hj => ?_, s4, s5, s6, s7, s8⟩, a3, a4, a5⟩, hB, hT, hI, hF, ⟨p1, p2, fun t ht => ?_, fun f hf => ?_, p5, p6⟩, rfl⟩
  · rw [s3 t j ht hj]; exact (r3 _ (by omega)).symm
  · obtain ⟨s, q1, q2⟩ := p3 t ht
    have ht' : t < z.m := ht
    exact ⟨s, q1, (r3 _ (by omega)).trans q2⟩
  · obtain ⟨mn, na, nb, ny, nm, q1, q2, q3, q4, q5, q6, q7, q8⟩ := p4 f hf
    refine ⟨mn, na, nb, ny, nm, q1, q2, q3, q4, q5, fun i hi => ?_, q7, q8⟩
    obtain ⟨u1, u2, u3, u4, u5⟩ := q6 i hi
    exact ⟨u1, u2, (r3 _ (by omega)).trans u3, (r3 _ (by omega)).trans u4, fun k hk => (r3 _ (by omega)).trans (u5 k hk)⟩
/-- the reference's frame of talks -/
def FrTM (g g' : Mm) : Prop := (∀ z, z ≠ 162 → z ≠ 164 → z ≠ 191 → z ≠ 197 → z ≠ 198 → z ≠ 199 → z ≠ 201 → z ≠ 202 → z ≠ 203 → z ≠ 205 → z ≠ 211 → g' z = g z) ∧ ∀ j, (j = 3 ∨ j = 4 ∨ j = 11 ∨ j = 12 ∨ j = 27 ∨ j = 45 ∨ j = 54) → g' 162 j = g 162 j
theorem Ivx.tk {v : Int32} (h : Ivx g z n Ls tb fc ic fr wf) (c : FrN g G) (f : FrTM (u2 G 219 0 v) g') (rc : RelC G z') (rm : RelM g' z') (pw : PW z'.w n Ls.length) (pz : PZ z' fc fr wf) : Iv g' := by
  obtain ⟨⟨a1, a2, a3, a4, a5⟩, ⟨b1, b2⟩, c1, d1, f1, p1, n1⟩ := h
  have kG : ∀ a, (a < 162 ∨ (175 < a ∧ a < 191) ∨ (205 < a ∧ a < 211) ∨ (211 < a ∧ a < 219)) → g' a = G a := fun a ha => by
    rw [f.1 a (by omega) (by omega) (by omega) (by omega) (by omega) (by omega) (by omega) (by omega) (by omega) (by omega) (by omega), u2_ne a (by omega)]
  have k : ∀ a, ((12 < a ∧ a < 101) ∨ a = 102 ∨ a = 104 ∨ a = 106 ∨ (106 < a ∧ a < 143) ∨ a = 156 ∨ (175 < a ∧ a < 191) ∨ (205 < a ∧ a < 211) ∨ (211 < a ∧ a < 219)) → g' a = g a := fun a ha => by
    rw [kG a (by omega)]
    exact c.1 a (by omega) (by omega) (by omega) (by omega) (by omega) (by omega) (by omega)
  have k1 : ∀ j, j ≠ 16 → g' 1 j = g 1 j := fun j hj => by rw [kG 1 (by decide)]; exact c.2.1 j hj
  have k2 : ∀ j, (j = 3 ∨ j = 4 ∨ j = 11 ∨ j = 12 ∨ j = 27 ∨ j = 45 ∨ j = 54) → g' 162 j = g 162 j := fun j hj => by
    rw [f.2 j hj, u2_ne 162 (by decide), c.1 162 (by decide) (by decide) (by decide) (by decide) (by decide) (by decide) (by decide)]
  exact iv_mk (z := z') (n := n) (Ls := Ls) (tb := tb) (fc := fc) (ic := ic) (fr := fr) (wf := wf) ⟨rc.fr (fun a ha => kG a (by omega)), rm, by rw [k2 3 (by decide)]; exact a3, by rw [k2 27 (by decide)]; exact a4, pw⟩ ⟨b1.fr (k1 14 (by decide)) (fun a x y => k a (by omega)), b2.fr (k2 11 (by decide)) (fun a x y => k a (by omega))⟩ (c1.fr (k1 12 (by decide)) (k1 13 (by decide)) (k2 4 (by decide)) (k2 12 (by decide)) (k 156 (by decide)) (k 176 (by decide))) (d1.fr (Nat.le_refl _) (k1 17 (by decide)) (k2 54 (by decide)) (fun a x y => k a (by omega)) (k 218 (by decide))) (f1.fr p1.2.2.2.2.2 (k1 15 (by decide)) (k2 45 (by decide)) (fun a x y => k a (by omega)) (fun f hf => by rw [kG _ (by omega)]; exact c.2.2 f hf 2 (by decide)) (fun f hf => k _ (by omega)) (fun a ha => k a (by omega))) pz
/-- behind the class's talk: what the reference begins with -/
theorem Ivx.tkM {v : Int32} (h : Ivx g z n Ls tb fc ic fr wf) (c : FrN g G) : RI (u2 G 219 0 v) z.w n ∧ RelM (u2 G 219 0 v) z ∧ LawsM (u2 G 219 0 v) Ls := by
  have k : ∀ a, (157 < a ∧ a ≠ 219) → u2 G 219 0 v a = g a := fun a ha => by
    rw [u2_ne a ha.2]
    exact c.1 a (by omega) (by omega) (by omega) (by omega) (by omega) (by omega) (by omega)
  exact ⟨h.riG (k 162 (by decide)) (k 164 (by decide)), h.1.2.1.fr' (fun a ha => k a (by omega)) (by rw [k 162 (by decide)]) (by rw [k 162 (by decide)]), h.2.1.2.fr (by rw [k 162 (by decide)]) (fun a x y => k a (by omega))⟩
end IvT
section Pairs
variable {l : Launch} {E : Ey} {g : Mm} {Q : Option Value → Mm → Prop} {X : String → Mm → Prop}
theorem p_talk {a b x1 x2 x3 : Int32} (hI : Iv g) (q : ∀ k' G, Nx l E 6 yX8_talk [.ref 162, .int a, .int b, .int x1, .int x2, .int x3] k' G → Q (some (.int k')) G) : Ct l E lay NC 9 1 6 yL_talk [.ref 1, .int a, .int b, .int x1, .int x2, .int x3, .ref 219] g Q X := by
  obtain ⟨z, n, Ls, tb, fc, ic, fr, wf, h⟩ := hI
  have hn := h.hn
  have P : PZ z fc fr wf := h.2.2.2.2.2.1
  have hz := P.1
  have hzi := P.2.1
  have bad : ∀ i j, i < n → a = nI i → j < n → b = nI j → i ≠ j → ¬ ou 4 x1 → ¬ ou 4 x2 → ¬ ou 4 x3 → ¬ (a = b ∨ ou 4 x1 ∨ ou 4 x2 ∨ ou 4 x3) := fun i j hi hc hj hp ne o1 o2 o3 e => e.elim (fun e => ne (ieq hc (e.trans hp) (by omega) (by omega))) (fun e => e.elim o1 (fun e => e.elim o2 o3))
  have nm : ∀ {mt : Nat → Nat} {x : Int32} {k : Nat}, (∀ k, mt k < 4) → x = nI (mt k) → ¬ ou 4 x := fun hm e => nu (hm _) (by decide) e
  refine w_talk (c_talk h.1.1 hz h.ok h.2.1.1 h.lw h.hn h.w6 (fun e => Or.inl ⟨rfl, q 1 g (fun Q' X' q' => m_talk h.ri h.1.2.1 hz hzi h.2.1.2 h.lw (fun _ g' f t => q' g' _ (iv_z h f) t k1) (fun e1 e2 _ => absurd e (fun e => e.elim e1 e2)) (fun i j hi hc hj hp => absurd e (nu2 hi hc hj hp (by omega) (by omega))) (fun i j hi hc hj hp => absurd e (nu2 hi hc hj hp (by omega) (by omega))) (fun i j y hi hc hj hp => absurd e (nu2 hi hc hj hp (by omega) (by omega))))⟩)
    (fun e1 e2 e3 => Or.inr ⟨rfl, q 2 g (fun Q' X' q' => m_talk h.ri h.1.2.1 hz hzi h.2.1.2 h.lw (fun e => absurd e (fun e => e.elim e1 e2)) (fun _ _ _ g' f t => q' g' _ (iv_z h f) t k2) (fun i j hi hc hj hp ne o1 o2 o3 => absurd e3 (bad i j hi hc hj hp ne o1 o2 o3)) (fun i j hi hc hj hp ne o1 o2 o3 => absurd e3 (bad i j hi hc hj hp ne o1 o2 o3)) (fun i j y hi hc hj hp ne mt hm b1 b2 b3 => absurd e3 (bad i j hi hc hj hp ne (nm hm b1) (nm hm b2) (nm hm b3))))⟩)
    (fun i j hi hc hj hp ne o1 o2 o3 em => ⟨_, rfl, q 0 _ (fun Q' X' q' => ?_)⟩) (fun i j hi hc hj hp ne o1 o2 o3 em nt => ⟨_, rfl, q 0 _ (fun Q' X' q' => ?_)⟩) (fun i j y hi hc hj hp ne mt hm b1 b2 b3 em tg hy ey G hG hR => ⟨_, rfl, q 0 _ (fun Q' X' q' => ?_)⟩))
  · have h2 := h.ask (FrQ2.o (v := -1))
    exact m_talk h2.ri h2.1.2.1 hz hzi h2.2.1.2 h2.lw (fun e => absurd e (nu2 hi hc hj hp (by omega) (by omega))) (fun _ _ e => absurd e (bad i j hi hc hj hp ne o1 o2 o3)) (fun i' j' _ _ _ _ _ _ _ _ _ g' f t => q' g' _ (iv_z h2 f) t (fun _ => (o219 f).symm)) (fun i' j' _ _ _ _ _ _ _ _ em' => absurd em (by omega)) (fun i' j' y' _ _ _ _ _ mt' _ _ _ _ em' => absurd em (by omega))
  · have h2 := h.ask (FrQ2.o (v := -2))
    refine m_talk h2.ri h2.1.2.1 hz hzi h2.2.1.2 h2.lw (fun e => absurd e (nu2 hi hc hj hp (by omega) (by omega))) (fun _ _ e => absurd e (bad i j hi hc hj hp ne o1 o2 o3)) (fun i' j' _ _ _ _ _ _ _ _ em' => absurd em (by omega)) (fun i' j' _ _ _ _ _ _ _ _ _ _ g' f t => q' g' _ (iv_z h2 f) t (fun _ => (o219 f).symm)) (fun i' j' y' hi' hc' hj' hp' _ mt' _ _ _ _ em' tg' => ?_)
    rw [← ieq hc hc' (by omega) (by omega), ← ieq hp hp' (by omega) (by omega)] at tg'
    exact absurd tg' nt
  · obtain ⟨s1, s2, s3⟩ := h.tkM (v := tRt z.w i j y mt) hG
    refine m_talk s1 s2 hz hzi s3 h.lw (fun e => absurd e (nu2 hi hc hj hp (by omega) (by omega))) (fun _ _ e => absurd e (bad i j hi hc hj hp ne (nm hm b1) (nm hm b2) (nm hm b3))) (fun i' j' _ _ _ _ _ _ _ _ em' => absurd em (by omega)) (fun i' j' hi' hc' hj' hp' _ _ _ _ _ nt' => ?_) (fun i' j' y' hi' hc' hj' hp' _ mt' hm' c1 c2 c3 _ _ hy' ey' g' f1 f2 t rm => ?_)
    · rw [← ieq hc hc' (by omega) (by omega), ← ieq hp hp' (by omega) (by omega)] at nt'
      exact absurd tg nt'
    · have ei : i = i' := ieq hc hc' (by omega) (by omega)
      have ej : j = j' := ieq hp hp' (by omega) (by omega)
      subst ei; subst ej
      have eyy : y = y' := ieq ey ey' (by omega) (by omega)
      subst eyy
      have em3 : ∀ r, r < 3 → mt' r = mt r := fun r hr => by
        have l1 := hm
        have l2 := hm'
        rcases (show r = 0 ∨ r = 1 ∨ r = 2 by omega) with e | e | e <;> subst e
        · exact ieq c1 b1 (by have := l2 0; omega) (by have := l1 0; omega)
        · exact ieq c2 b2 (by have := l2 1; omega) (by have := l1 1; omega)
        · exact ieq c3 b3 (by have := l2 2; omega) (by have := l1 2; omega)
      rw [nzT_cg em3] at rm
      refine q' g' _ (h.tk hG ⟨f1, f2⟩ hR rm (h.pw.kq (Kq.ofKp (Kp_tW6 hy hm)) (fun c h1 _ => Kc_tW6 (by omega) (by omega) hy hm)) (P.nt em (by omega) (by omega) hy hm ey (by rw [← tg.2.2]; exact ey))) t (fun _ => ?_)
      rw [f1 219 (by decide) (by decide) (by decide) (by decide) (by decide) (by decide) (by decide) (by decide) (by decide) (by decide) (by decide), u2_self, tRt_cg em3]
theorem p_run {y0 m0 : Int32} (hI : Iv g) (q : ∀ k' G, Nx l E 6 yX8_run [.ref 162, .int y0, .int m0] k' G → Q (some (.int k')) G) : Ct l E lay NC 9 1 6 yL_run [.ref 1, .int y0, .int m0, .ref 219] g Q X := by
  obtain ⟨z, n, Ls, tb, fc, ic, fr, wf, h⟩ := hI
  have hn := h.hn
  have hmm := h.m
  have P : PZ z fc fr wf := h.2.2.2.2.2.1
  have hz := P.1
  have hzi := P.2.1
  refine w_run (c_run h.1.1 hz h.ok h.2.1.1 h.lw h.hn h.w6 (fun e => ⟨rfl, q 1 g (fun Q' X' q' => m_run h.ri h.1.2.1 hz hzi h.2.1.2 h.lw (fun _ g' f t => q' g' _ (iv_z h f) t k1) (fun y k hy ey hk ek => absurd e (nu2 hy ey hk ek (by decide) (by decide))) (fun y k hy ey hk ek => absurd e (nu2 hy ey hk ek (by decide) (by decide))))⟩) (fun y k hy ey hk ek nl G hG => ⟨_, rfl, q 0 _ (fun Q' X' q' => ?_)⟩) (fun y k hy ey hk ek hl G hG hR => ⟨_, rfl, q 0 _ (fun Q' X' q' => ?_)⟩))
  · have h2 := (h.ask (FrQ2.c (g' := G) (fun z z1 z2 z3 z4 => hG z z3))).ask (FrQ2.o (v := 0))
    refine m_run h2.ri h2.1.2.1 hz hzi h2.2.1.2 h2.lw (fun e => absurd e (nu2 hy ey hk ek (by decide) (by decide))) (fun y' k' _ _ _ _ _ g' f t => q' g' _ (iv_z h2 f) t (fun _ => (o219 f).symm)) (fun y' k' hy' ey' hk' ek' hl' => ?_)
    rw [← ieq ey ey' (by omega) (by omega)] at hl'
    exact absurd hl' nl
  · obtain ⟨s1, s2, s3⟩ := h.tkM (v := nI (min k (1500 - z.m))) hG
    refine m_run s1 s2 hz hzi s3 h.lw (fun e => absurd e (nu2 hy ey hk ek (by decide) (by decide))) (fun y' k' hy' ey' hk' ek' nl' => ?_) (fun y' k' hy' ey' hk' ek' _ g' f1 f2 t rm => ?_)
    · rw [← ieq ey ey' (by omega) (by omega)] at nl'
      exact absurd hl nl'
    · have e1 : y = y' := ieq ey ey' (by omega) (by omega)
      have e2 : k = k' := ieq ek ek' (by omega) (by omega)
      subst e1; subst e2
      refine q' g' _ (h.tk hG ⟨f1, f2⟩ hR rm (h.pw.kq (Kq_rnK hy _) (fun c h1 _ => Kc_rnK h1 hy hl _)) (P.rn hn hy hl _ (by omega))) t (fun _ => ?_)
      rw [f1 219 (by decide) (by decide) (by decide) (by decide) (by decide) (by decide) (by decide) (by decide) (by decide) (by decide) (by decide), u2_self]
end Pairs

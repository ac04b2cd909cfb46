/-! CONSTRUCTORS: worlds that grow -/
/-- E' knows more cells than E -/
def Ext (E E' : Ey) (N : List Nat) : Prop := E'.1 = E.1 ∧ E'.2.1 = E.2.1 ∧ E'.2.2.2 = E.2.2.2 ∧ (∀ a ∈ N, E'.ad a = E.ad a) ∧ ∀ a, 1000 ≤ a → E'.ad a = E.ad a
theorem Ext.refl {E : Ey} {N : List Nat} : Ext E E N := ⟨rfl, rfl, rfl, fun _ _ => rfl, fun _ _ => rfl⟩
theorem Ext.trans {E E1 E2 : Ey} {N N' : List Nat} (a : Ext E E1 N) (b : Ext E1 E2 N') (h : ∀ x ∈ N, x ∈ N') : Ext E E2 N :=
  ⟨b.1.trans a.1, b.2.1.trans a.2.1, b.2.2.1.trans a.2.2.1, fun x hx => (b.2.2.2.1 x (h x hx)).trans (a.2.2.2.1 x hx), fun x hx => (b.2.2.2.2 x hx).trans (a.2.2.2.2 x hx)⟩
theorem Ext.A {E E' : Ey} {N : List Nat} (x : Ext E E' N) : E'.A = E.A := by
  show (fun q => E'.2.2.2 ≤ q) = fun q => E.2.2.2 ≤ q
  rw [x.2.2.1]
theorem Ext.ro {E E' : Ey} {N : List Nat} {U : State} {H : Heap} (x : Ext E E' N) (h : Ro E U H) : Ro E' U H := by
  have e := x.2.2.2.2
  unfold Ro at h ⊢
  rw [x.A, e 1001 (by decide), e 1002 (by decide), e 1003 (by decide), e 1400 (by decide), show (fun i => E'.ad (1100 + i)) = fun i => E.ad (1100 + i) from funext fun i => e _ (by omega), show (fun i => E'.ad (1200 + i)) = fun i => E.ad (1200 + i) from funext fun i => e _ (by omega)]
  exact h
theorem srL_big : ∀ q ∈ srL, 1000 ≤ q.2.2.2 := by decide
theorem Ext.vw {E E' : Ey} {N : List Nat} {U : State} (x : Ext E E' N) (h : Vw E U) : Vw E' U :=
  ⟨h.1, fun q hq => by rw [x.2.2.2.2 _ (srL_big q hq)]; exact h.2.1 q hq, h.2.2⟩
/-- all references lead to cells that are there -/
def Cl (L : Nat → Ly) (N : List Nat) (g : Mm) : Prop := ∀ b ∈ N, (∀ ci m kd, L b = (.inl ci, m, kd) → ∀ k, k < m → ∀ c, ab (kd k) (g b k) = .ref c → c ∈ N) ∧ ∀ ty m kd, L b = (.inr ty, m, kd) → (kd 0 = 0 ∨ kd 0 = 1) ∨ (kd 0 = 2 ∧ ∀ j, g b j = 0 ∨ (g b j).toNatClampNeg ∈ N)
theorem ce_nul {E : Ey} {ty : FieldType} {m : Nat} {kd : Nat → Nat} {r : Nat → Int32} (h : kd 0 = 2) : ce E (.inr ty, m, kd) r = .inl (E.cA ty, m, .inr (.inr (.inr (.inr fun j => if r j = 0 then none else some (E.ad (r j).toNatClampNeg))))) := by simp [ce, h]
theorem Cl.same {L : Nat → Ly} {N : List Nat} {g : Mm} {E E' : Ey} (h : Cl L N g) (x : Ext E E' N) {b : Nat} (hb : b ∈ N) : ce E' (L b) (g b) = ce E (L b) (g b) := by
  obtain ⟨h1, h2⟩ := h b hb
  have hcA : E'.cA = E.cA := x.2.1
  have had := x.2.2.2.1
  rcases hL : L b with ⟨c | ty, m, kd⟩
  · show (Sum.inr (c, (List.range m).map fun k => mv E'.ad (ab (kd k) (g b k))) : va_E) = .inr (c, (List.range m).map fun k => mv E.ad (ab (kd k) (g b k)))
    have e : ((List.range m).map fun k => mv E'.ad (ab (kd k) (g b k))) = (List.range m).map fun k => mv E.ad (ab (kd k) (g b k)) := by
      apply List.map_congr_left
      intro k hk
      have hkm := List.mem_range.mp hk
      have hh := h1 c m kd hL k hkm
      cases hv : ab (kd k) (g b k) with
      | ref c => show Value.ref (E'.ad c) = .ref (E.ad c); rw [had c (hh c hv)]
      | _ => rfl
    rw [e]
  · rcases h2 ty m kd hL with (e0 | e0) | ⟨e0, hj⟩
    · rw [ce_int e0, ce_int e0, hcA]
    · rw [ce_lng e0, ce_lng e0, hcA]
    · rw [ce_nul e0, ce_nul e0, hcA]
      have e : (fun j => if g b j = 0 then none else some (E'.ad (g b j).toNatClampNeg)) = fun j => if g b j = 0 then none else some (E.ad (g b j).toNatClampNeg) := by
        funext j
        rcases hj j with z | z
        · rw [if_pos z, if_pos z]
        · rw [had _ z]
      rw [e]
theorem Wd.ext {E E' : Ey} {L : Nat → Ly} {N : List Nat} {g : Mm} {U : State} {H : Heap} (h : Wd E L N g U H) (hc : Cl L N g) (x : Ext E E' N) : Wd E' L N g U H := by
  obtain ⟨h1, h2, h3, h4, h5⟩ := h
  have e : wl E' L N g = wl E L N g := List.map_congr_left (fun b hb => by rw [x.2.2.2.1 b hb, hc.same x hb])
  have hD : E'.D = E.D := x.1
  have hcA : E'.cA = E.cA := x.2.1
  refine ⟨by rw [e, hD]; exact h1, by rw [hD]; unfold tyl; rw [hcA]; exact h2, ⟨h3.1, fun i hi j hj q => h3.2.1 i hi j hj (by rw [← x.2.2.2.1 i hi, ← x.2.2.2.1 j hj]; exact q), fun i hi => by show E'.2.2.2 ≤ E'.ad i; rw [x.2.2.1, x.2.2.2.1 i hi]; exact h3.2.2 i hi⟩, by show E'.2.2.2 ≤ _; rw [x.2.2.1]; exact h4, x.ro h5⟩
def Ey.up (E : Ey) (a q : Nat) : Ey := (E.1, E.2.1, (fun b => if b = a then q else E.ad b), E.2.2.2)
theorem Ey.up_ext {E : Ey} {N : List Nat} {a q : Nat} (ha : a ∉ N) (ha2 : a < 1000) : Ext E (E.up a q) N :=
  ⟨rfl, rfl, rfl, fun b hb => by show (if b = a then q else E.ad b) = _; rw [if_neg (fun z => ha (by rw [← z]; exact hb))], fun b hb => by show (if b = a then q else E.ad b) = _; rw [if_neg (by omega)]⟩
/-- a new cell, all 0 -/
def zrM (g : Mm) (a : Nat) : Mm := fun b => if b = a then fun _ => 0 else g b
theorem zrM_at {g : Mm} {a : Nat} : zrM g a a = fun _ => 0 := by unfold zrM; rw [if_pos rfl]
theorem zrM_ne {g : Mm} {a b : Nat} (h : b ≠ a) : zrM g a b = g b := by unfold zrM; rw [if_neg h]
theorem Wd.new1 {E : Ey} {L : Nat → Ly} {N : List Nat} {g : Mm} {U : State} {H H1 : Heap} {a q : Nat} {cell : va_E} (hW : Wd E L N g U H) (hcl : Cl L N g) (ha : a ∉ N) (ha2 : a < 1000) (hP : va_P E.D vwCl (wl E L N g ++ [(q, cell)]) H1) (hD : va_D E.A (wl E L N g ++ [(q, cell)])) (hce : ce (E.up a q) (L a) (fun _ => 0) = cell) (hsz : E.N0 ≤ H1.size) (hro : Ro E U H1) : Wd (E.up a q) L (N ++ [a]) (zrM g a) U H1 := by
  have x : Ext E (E.up a q) N := Ey.up_ext ha ha2
  have eq : (E.up a q).ad a = q := by show (if a = a then q else E.ad a) = q; rw [if_pos rfl]
  have ew : wl (E.up a q) L (N ++ [a]) (zrM g a) = wl E L N g ++ [(q, cell)] := by
    unfold wl
    rw [List.map_append]
    congr 1
    · apply List.map_congr_left
      intro b hb
      rw [zrM_ne (fun z => ha (by rw [← z]; exact hb)), x.2.2.2.1 b hb, hcl.same x hb]
    · show [((E.up a q).ad a, ce (E.up a q) (L a) (zrM g a a))] = _
      rw [zrM_at, eq, hce]
  have pos : ∀ b ∈ N ++ [a], ∃ k : Nat, (N ++ [a])[k]? = some b := fun b hb => List.mem_iff_getElem?.mp hb
  have hnd : (N ++ [a]).Nodup := by
    rw [List.nodup_append]
    exact ⟨hW.2.2.1.1, by simp, fun u hu v hv => by rw [List.mem_singleton.mp hv]; exact fun z => ha (by rw [← z]; exact hu)⟩
  have at' : ∀ (k b : Nat), (N ++ [a])[k]? = some b → (wl E L N g ++ [(q, cell)])[k]? = some ((E.up a q).ad b, ce (E.up a q) (L b) (zrM g a b)) := fun k b hk => by rw [← ew]; exact wl_at hk
  refine ⟨by rw [ew]; exact hP, hW.2.1, ⟨hnd, fun i hi j hj e => ?_, fun i hi => ?_⟩, hsz, x.ro hro⟩
  · obtain ⟨ki, hki⟩ := pos i hi
    obtain ⟨kj, hkj⟩ := pos j hj
    have := hD.1 ki kj _ _ (at' ki i hki) (at' kj j hkj) e
    subst this
    rw [hki] at hkj
    exact Option.some.inj hkj
  · obtain ⟨ki, hki⟩ := pos i hi
    exact hD.2 ki _ (at' ki i hki)
/-- closedness kept -/
theorem Cl.putI {L : Nat → Ly} {N : List Nat} {g : Mm} {a k m ci : Nat} {kd : Nat → Nat} {v : Int32} (h : Cl L N g) (hL : L a = (.inl ci, m, kd)) (hk : kd k = 0) : Cl L N (u2 g a k v) := by
  intro b hb
  obtain ⟨h1, h2⟩ := h b hb
  refine ⟨fun ci' m' kd' hL' j hj c hc => ?_, fun ty m' kd' hL' => ?_⟩
  · by_cases e : b = a ∧ j = k
    · rw [e.1, hL] at hL'
      cases hL'
      rw [e.2, hk] at hc
      cases hc
    · unfold u2 at hc; rw [if_neg e] at hc; exact h1 ci' m' kd' hL' j hj c hc
  · have : b ≠ a := fun e => by rw [e, hL] at hL'; cases hL'
    rw [u2_ne b this]; exact h2 ty m' kd' hL'
theorem Cl.putR {L : Nat → Ly} {N : List Nat} {g : Mm} {a k m ci t : Nat} {kd : Nat → Nat} (h : Cl L N g) (hL : L a = (.inl ci, m, kd)) (hk : kd k = 2) (ht : t ∈ N) (ht2 : t < 2 ^ 31) : Cl L N (u2 g a k (nI t)) := by
  intro b hb
  obtain ⟨h1, h2⟩ := h b hb
  refine ⟨fun ci' m' kd' hL' j hj c hc => ?_, fun ty m' kd' hL' => ?_⟩
  · by_cases e : b = a ∧ j = k
    · rw [e.1, hL] at hL'
      cases hL'
      rw [e.2, hk] at hc
      rw [e.1] at hc
      rw [u2_self] at hc
      unfold ab at hc
      dsimp only at hc
      split at hc
      · cases hc
      · cases hc
        rw [nI_clamp ht2]; exact ht
    · unfold u2 at hc; rw [if_neg e] at hc; exact h1 ci' m' kd' hL' j hj c hc
  · have : b ≠ a := fun e => by rw [e, hL] at hL'; cases hL'
    rw [u2_ne b this]; exact h2 ty m' kd' hL'
theorem Cl.putN {L : Nat → Ly} {N : List Nat} {g : Mm} {a k m ci : Nat} {kd : Nat → Nat} (h : Cl L N g) (hL : L a = (.inl ci, m, kd)) (hk : kd k = 2) : Cl L N (u2 g a k 0) := by
  intro b hb
  obtain ⟨h1, h2⟩ := h b hb
  refine ⟨fun ci' m' kd' hL' j hj c hc => ?_, fun ty m' kd' hL' => ?_⟩
  · by_cases e : b = a ∧ j = k
    · rw [e.1, hL] at hL'
      cases hL'
      rw [e.2, hk] at hc
      rw [e.1] at hc
      rw [u2_self] at hc
      unfold ab at hc
      dsimp only at hc
      rw [if_pos rfl] at hc
      cases hc
    · unfold u2 at hc; rw [if_neg e] at hc; exact h1 ci' m' kd' hL' j hj c hc
  · have : b ≠ a := fun e => by rw [e, hL] at hL'; cases hL'
    rw [u2_ne b this]; exact h2 ty m' kd' hL'
theorem Cl.putA {L : Nat → Ly} {N : List Nat} {g : Mm} {a k m : Nat} {ty : FieldType} {kd : Nat → Nat} {v : Int32} (h : Cl L N g) (hL : L a = (.inr ty, m, kd)) (hk : kd 0 = 0) : Cl L N (u2 g a k v) := by
  intro b hb
  obtain ⟨h1, h2⟩ := h b hb
  refine ⟨fun ci' m' kd' hL' j hj c hc => ?_, fun ty' m' kd' hL' => ?_⟩
  · have : b ≠ a := fun e => by rw [e, hL] at hL'; cases hL'
    rw [u2_ne b this] at hc; exact h1 ci' m' kd' hL' j hj c hc
  · by_cases e : b = a
    · rw [e, hL] at hL'; cases hL'; exact Or.inl (Or.inl hk)
    · rw [u2_ne b e]; exact h2 ty' m' kd' hL'
theorem Cl.putQ {L : Nat → Ly} {N : List Nat} {g : Mm} {a k m t : Nat} {ty : FieldType} {kd : Nat → Nat} (h : Cl L N g) (hL : L a = (.inr ty, m, kd)) (hk : kd 0 = 2) (ht : t ∈ N) (ht2 : t < 2 ^ 31) : Cl L N (u2 g a k (nI t)) := by
  intro b hb
  obtain ⟨h1, h2⟩ := h b hb
  refine ⟨fun ci' m' kd' hL' j hj c hc => ?_, fun ty' m' kd' hL' => ?_⟩
  · have : b ≠ a := fun e => by rw [e, hL] at hL'; cases hL'
    rw [u2_ne b this] at hc; exact h1 ci' m' kd' hL' j hj c hc
  · by_cases e : b = a
    · subst e
      rcases h2 ty' m' kd' hL' with z | ⟨z, hj⟩
      · exact Or.inl z
      · refine Or.inr ⟨z, fun j => ?_⟩
        rw [u2_at]
        split
        · exact Or.inr (by rw [nI_clamp ht2]; exact ht)
        · exact hj j
    · rw [u2_ne b e]; exact h2 ty' m' kd' hL'
theorem Cl.new {L : Nat → Ly} {N : List Nat} {g : Mm} {a : Nat} (h : Cl L N g) (ha : a ∉ N) (h1 : ∀ ci m kd, L a = (.inl ci, m, kd) → ∀ k, k < m → kd k = 0 ∨ kd k = 2) (h2 : ∀ ty m kd, L a = (.inr ty, m, kd) → kd 0 ≤ 2) : Cl L (N ++ [a]) (zrM g a) := by
  intro b hb
  rcases List.mem_append.mp hb with z | z
  · have e : b ≠ a := fun y => ha (by rw [← y]; exact z)
    obtain ⟨y1, y2⟩ := h b z
    rw [zrM_ne e]
    refine ⟨fun ci m kd hL k hk c hc => List.mem_append_left _ (y1 ci m kd hL k hk c hc), fun ty m kd hL => ?_⟩
    rcases y2 ty m kd hL with w | ⟨w, hj⟩
    · exact Or.inl w
    · exact Or.inr ⟨w, fun j => (hj j).imp id (fun u => List.mem_append_left _ u)⟩
  · rw [List.mem_singleton.mp z, zrM_at]
    refine ⟨fun ci m kd hL k hk c hc => ?_, fun ty m kd hL => ?_⟩
    · rcases h1 ci m kd hL k hk with e | e <;> rw [e] at hc <;> cases hc
    · have := h2 ty m kd hL
      by_cases e : kd 0 = 2
      · exact Or.inr ⟨e, fun _ => Or.inl rfl⟩
      · exact Or.inl (by omega)
/-- the references among locals and stack are of cells that are there -/
def rin (N : List Nat) : Value → Prop
  | .ref b => b ∈ N
  | _ => True
theorem mv_ext {E E' : Ey} {N : List Nat} (x : Ext E E' N) {v : Value} (h : rin N v) : mv E'.ad v = mv E.ad v := by
  cases v with
  | ref b => show Value.ref (E'.ad b) = .ref (E.ad b); rw [x.2.2.2.1 b h]
  | _ => rfl
theorem Lo.ext {E E' : Ey} {N : List Nat} {la : Array Slot} {ls : List (Option Value)} (h : Lo E.ad la ls) (x : Ext E E' N) (hr : ∀ v, some v ∈ ls → rin N v) : Lo E'.ad la ls :=
  ⟨h.1, h.2.1, fun i v hv => by rw [mv_ext x (hr v (List.mem_of_getElem? hv))]; exact h.2.2.1 i v hv, h.2.2.2⟩
theorem st_ext {E E' : Ey} {N : List Nat} (x : Ext E E' N) {st : List Value} (hr : ∀ v ∈ st, rin N v) : st.map (mv E'.ad) = st.map (mv E.ad) := List.map_congr_left (fun v hv => mv_ext x (hr v hv))
def Qg (E : Ey) (L : Nat → Ly) (N : List Nat) (Q : Ey → List Nat → Mm → Prop) : Array Value → State → Outcome → State → Prop := fun _ _ o t => o = .returned none ∧ ∃ (E' : Ey) (N' : List Nat) (g : Mm), Ext E E' N ∧ Q E' N' g ∧ Wd E' L N' g t t.heap
/-- a constructor's contract -/
def CtG (l : Launch) (E : Ey) (L : Nat → Ly) (N : List Nat) (d mc ms : Nat) (y : MethodName) (b : Nat) (g : Mm) (Px : State → Prop) (Q : Ey → List Nat → Mm → Prop) : Prop :=
  l.stackTraces = false → vx_Met l y gw (rmD d mc ms) (fun v U => v = #[Value.ref (E.ad b)] ∧ Wd E L N g U U.heap ∧ Vw E U ∧ Px U) (Qg E L N Q) (fun _ _ _ => False) mc ms E.A
/-- what is fixed in a constructor's walk -/
def Kg (S : Sx) (l : Launch) (E : Ey) (L : Nat → Ly) (N : List Nat) (cc : ByteArray) (own : String) (nL d mc ms : Nat) (Px : State → Prop) (E0 : Ey) (N0 : List Nat) (Q : Ey → List Nat → Mm → Prop) : Prop :=
  Kx S l E L N cc own nL d ∧ S.meth.sig.returnType = none ∧ S.meth.name = "<init>" ∧ (mc ≤ S.R.cells ∧ ms ≤ S.R.slots) ∧ Px S.s ∧ Ext E0 E N0 ∧ (∀ x ∈ N0, x ∈ N) ∧ S.Z = vx_MQ S.below (Qg E0 L N0 Q) (fun _ _ _ => False) S.args S.s mc ms E0.A
def Sx.re (S : Sx) (E : Ey) (N : List Nat) : Sx := (S.1, S.2.1, (E, S.L, N), S.Z)
section Grow
variable {S : Sx} {k n : Nat} {g : Mm} {pc : Nat} {ls : List (Option Value)} {st : List Value} {cc : ByteArray} {own : String} {nL d mc ms : Nat} {l : Launch} {E E0 : Ey} {L : Nat → Ly} {N N0 : List Nat} {Px : State → Prop} {Q : Ey → List Nat → Mm → Prop}
theorem Kg.re (h : Kg S l E L N cc own nL d mc ms Px E0 N0 Q) {E' : Ey} {N' : List Nat} (x : Ext E E' N) (hN : ∀ a ∈ N, a ∈ N') : Kg (S.re E' N') l E' L N' cc own nL d mc ms Px E0 N0 Q := by
  obtain ⟨hS, h1, h2, h3, h4, h5, h6, h7⟩ := h
  have hE := hS.E_eq
  obtain ⟨a1, a2, a3, a4, a5, a6, a7, a8, a9, a10, a11, a12, a13, a14, a15, a16⟩ := hS
  rw [hE] at a7 a8 a10
  exact ⟨⟨a1, a2, a3, a4, a5, a6, x.ro a7, x.vw a8, a9, by show E'.2.2.2 ≤ _; rw [x.2.2.1]; exact a10, a11, a12, a13, rfl, rfl, a16⟩, h1, h2, h3, h4, h5.trans x h6, fun y hy => hN y (h6 y hy), h7⟩
/-- behind something that made cells: go on in the larger world -/
theorem J_re (hG : Kg S l E L N cc own nL d mc ms Px E0 N0 Q) {k' n' : Nat} {g' : Mm} {E' : Ey} {N' : List Nat} {H1 : Heap} {locs1 : List Loc} {la : Array Slot} {pc' : Nat} {st' : List Value} (x : Ext E E' N) (hN : ∀ a ∈ N, a ∈ N') (hls : ∀ v, some v ∈ ls → rin N v) (hla : Lo S.E.ad la ls) (hW : Wd E' L N' g' S.s H1) (hV : va_S S.E.A S.s.heap H1 locs1)
    (h : ∀ S : Sx, Kg S l E' L N' cc own nL d mc ms Px E0 N0 Q → J S k' n' g' pc' ls st') : W S.p S.l S.e S.R S.s S.m S.args S.below S.meth S.c H1 locs1 k' n' S.Z (F0 S.m pc' la (st'.map (mv E'.ad))) := by
  have hE := hG.1.E_eq
  have hLq := hG.1.L_eq
  have K := h (S.re E' N') (hG.re x hN)
  refine K H1 locs1 la ?_ ?_ ?_
  · show Wd E' S.L N' g' S.s H1
    rw [hLq]; exact hW
  · show va_S E'.A S.s.heap H1 locs1
    rw [x.A, ← hE]; exact hV
  · show Lo E'.ad la ls
    rw [hE] at hla
    exact hla.ext x hls
theorem J_newO (hG : Kg S l E L N cc own nL d mc ms Px E0 N0 Q) (hcl : Cl L N g) {idx ci m : Nat} {C : String} {T : u_T} {kd : Nat → Nat} (a : Nat) (ha : a ∉ N) (ha2 : a < 1000) (hd : decode cc pc = .ok (.new idx, 3)) (hc : vwCl[ci]? = some (C, T, m)) (hin : ∀ w ∈ u_ws C T m, w ∈ gw) (ty : Nat → FieldType) (hty : ∀ k, k < m → parseFieldDescriptor (T k).2.2.1 = some (ty k)) (hlink : Cond.classLink own idx C ∈ gw) (hinst : Cond.instantiable C m ∈ gw) (hini : Cond.initialized C ∈ gw) (hL : L a = (.inl ci, m, kd)) (hdf : ∀ j, j < m → (kd j = 0 ∨ kd j = 2) ∧ defaultValue (ty j) = ab (kd j) 0) (hls : ∀ v, some v ∈ ls → rin N v) (hst : ∀ v ∈ st, rin N v) (hk : k + 1 ≤ mc) (hn : n + m ≤ ms)
    (h : ∀ (S : Sx) (E : Ey), Kg S l E L (N ++ [a]) cc own nL d mc ms Px E0 N0 Q → Cl L (N ++ [a]) (zrM g a) → J S (k + 1) (n + m) (zrM g a) (pc + 3) ls (.ref a :: st)) : J S k n g pc ls st := by
  have hcl' : Cl L (N ++ [a]) (zrM g a) := hcl.new ha (fun ci' m' kd' e j hj => by rw [hL] at e; cases e; exact (hdf j hj).1) (fun ty m kd e => by rw [hL] at e; cases e)
  intro H locs la hW hV hl
  have hS := hG.1
  have hE := hS.E_eq
  have hLq := hS.L_eq
  have hNq := hS.N_eq
  have hW' : Wd E L N g S.s H := by rw [hE, hLq, hNq] at hW; exact hW
  obtain ⟨fs, hfs⟩ : ∃ fs : List Value, fs = (List.range m).map (fun j => ab (kd j) 0) := ⟨_, rfl⟩
  have hR := hG.2.2.2.1
  refine va_new hS.1 hS.2.1 hS.2.2.2.1 hin ty hty hS.2.2.1 (hS.2.2.2.1 _ hlink) (hS.2.2.2.1 _ hinst) (hS.2.2.2.1 _ hini) hW'.2.1 hW'.1 (wl_D hW'.2.2.1) (by rw [← hE]; exact hV) (fun q hq => Nat.le_trans (by have := hS.2.2.2.2.2.2.2.2.2.1; rw [hE] at this; exact this) hq) hc (fs := fs) (fun j hj => by rw [(hdf j hj).2, hfs]; simp [vp_V, hj]) (by omega) (by omega) hd ?_
  intro q H1 hP hD hV1
  have x : Ext E (E.up a q) N := Ey.up_ext ha ha2
  have hro : Ro E S.s H1 := by
    have := hS.2.2.2.2.2.2.1
    rw [hE] at this
    exact this.kept hV1.2.1
  have hW1 : Wd (E.up a q) L (N ++ [a]) (zrM g a) S.s H1 := by
    refine hW'.new1 hcl ha ha2 hP hD ?_ ?_ hro
    · rw [hL, ce_obj, hfs]
      congr 2
      apply List.map_congr_left
      intro j hj
      have hjm := List.mem_range.mp hj
      rcases (hdf j hjm).1 with e | e <;> rw [e] <;> rfl
    · have := hS.2.2.2.2.2.2.2.2.2.1
      rw [hE] at this
      exact Nat.le_trans this hV1.1
  have K := J_re hG (k' := k + 1) (n' := n + m) (pc' := pc + 3) (st' := .ref a :: st) x (fun b hb => List.mem_append_left _ hb) hls hl hW1 (by rw [hE]; exact hV1) (fun S' hS' => h S' _ hS' hcl')
  rw [List.map_cons, st_ext x hst, show mv (E.up a q).ad (.ref a) = .ref q by show Value.ref (if a = a then q else E.ad a) = _; rw [if_pos rfl], ← hE] at K
  exact K
end Grow

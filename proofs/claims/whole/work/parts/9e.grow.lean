/-! CONSTRUCTORS: worlds that grow -/
/-- E' knows more cells than E -/
def Ext (E E' : Ey) (N : List Nat) : Prop := E'.1 = E.1 ∧ E'.2.1 = E.2.1 ∧ E'.2.2.2 = E.2.2.2 ∧ (∀ a ∈ N, E'.ad a = E.ad a) ∧ ∀ a, 1000 ≤ a → E'.ad a = E.ad a
theorem Ext.refl {E : Ey} {N : List Nat} : Ext E E N := ⟨rfl, rfl, rfl, fun _ _ => rfl, fun _ _ => rfl⟩
theorem Ext.trans {E E1 E2 : Ey} {N N' : List Nat} (a : Ext E E1 N) (b : Ext E1 E2 N') (h : ∀ x ∈ N, x ∈ N') : Ext E E2 N :=
  ⟨b.1.trans a.1, b.2.1.trans a.2.1, b.2.2.1.trans a.2.2.1, fun x hx => (b.2.2.2.1 x (h x hx)).trans (a.2.2.2.1 x hx), fun x hx => (b.2.2.2.2 x hx).trans (a.2.2.2.2 x hx)⟩
theorem Ext.A {E E' : Ey} {N : List Nat} (x : Ext E E' N) : E'.A = E.A := by
  show (fun q => E'.2.2.2 ≤ q) = fun q => E.2.2.2 ≤ q
  rw [x.2.2.1]
theorem Ext.ro {E E' : Ey} {N : List Nat} {U : State} {H : Heap} (x : Ext E E' N) (h : Ro E U H) : Ro E' U H := by
  have e := x.2.2.2.2
  unfold Ro at h ⊢
  rw [x.A, e 1001 (by decide), e 1002 (by decide), e 1003 (by decide), e 1400 (by decide), show (fun i => E'.ad (1100 + i)) = fun i => E.ad (1100 + i) from funext fun i => e _ (by omega), show (fun i => E'.ad (1200 + i)) = fun i => E.ad (1200 + i) from funext fun i => e _ (by omega)]
  exact h
theorem srL_big : ∀ q ∈ srL, 1000 ≤ q.2.2.2 := by decide
theorem Ext.vw {E E' : Ey} {N : List Nat} {U : State} (x : Ext E E' N) (h : Vw E U) : Vw E' U :=
  ⟨h.1, fun q hq => by rw [x.2.2.2.2 _ (srL_big q hq)]; exact h.2.1 q hq, h.2.2⟩
/-- all references lead to cells that are there -/
def Cl (L : Nat → Ly) (N : List Nat) (g : Mm) : Prop := ∀ b ∈ N, (∀ ci m kd, L b = (.inl ci, m, kd) → ∀ k, k < m → ∀ c, ab (kd k) (g b k) = .ref c → c ∈ N) ∧ ∀ ty m kd, L b = (.inr ty, m, kd) → (kd 0 = 0 ∨ kd 0 = 1) ∨ (kd 0 = 2 ∧ ∀ j, g b j = 0 ∨ (g b j).toNatClampNeg ∈ N)
theorem ce_nul {E : Ey} {ty : FieldType} {m : Nat} {kd : Nat → Nat} {r : Nat → Int32} (h : kd 0 = 2) : ce E (.inr ty, m, kd) r = .inl (E.cA ty, m, .inr (.inr (.inr (.inr fun j => if r j = 0 then none else some (E.ad (r j).toNatClampNeg))))) := by simp [ce, h]
theorem Cl.same {L : Nat → Ly} {N : List Nat} {g : Mm} {E E' : Ey} (h : Cl L N g) (x : Ext E E' N) {b : Nat} (hb : b ∈ N) : ce E' (L b) (g b) = ce E (L b) (g b) := by
  obtain ⟨h1, h2⟩ := h b hb
  have hcA : E'.cA = E.cA := x.2.1
  have had := x.2.2.2.1
  rcases hL : L b with ⟨c | ty, m, kd⟩
  · show (Sum.inr (c, (List.range m).map fun k => mv E'.ad (ab (kd k) (g b k))) : va_E) = .inr (c, (List.range m).map fun k => mv E.ad (ab (kd k) (g b k)))
    have e : ((List.range m).map fun k => mv E'.ad (ab (kd k) (g b k))) = (List.range m).map fun k => mv E.ad (ab (kd k) (g b k)) := by
      apply List.map_congr_left
      intro k hk
      have hkm := List.mem_range.mp hk
      have hh := h1 c m kd hL k hkm
      cases hv : ab (kd k) (g b k) with
      | ref c => show Value.ref (E'.ad c) = .ref (E.ad c); rw [had c (hh c hv)]
      | _ => rfl
    rw [e]
  · rcases h2 ty m kd hL with (e0 | e0) | ⟨e0, hj⟩
    · rw [ce_int e0, ce_int e0, hcA]
    · rw [ce_lng e0, ce_lng e0, hcA]
    · rw [ce_nul e0, ce_nul e0, hcA]
      have e : (fun j => if g b j = 0 then none else some (E'.ad (g b j).toNatClampNeg)) = fun j => if g b j = 0 then none else some (E.ad (g b j).toNatClampNeg) := by
        funext j
        rcases hj j with z | z
        · rw [if_pos z, if_pos z]
        · rw [had _ z]
      rw [e]
theorem Wd.ext {E E' : Ey} {L : Nat → Ly} {N : List Nat} {g : Mm} {U : State} {H : Heap} (h : Wd E L N g U H) (hc : Cl L N g) (x : Ext E E' N) : Wd E' L N g U H := by
  obtain ⟨h1, h2, h3, h4, h5⟩ := h
  have e : wl E' L N g = wl E L N g := List.map_congr_left (fun b hb => by rw [x.2.2.2.1 b hb, hc.same x hb])
  have hD : E'.D = E.D := x.1
  have hcA : E'.cA = E.cA := x.2.1
  refine ⟨by rw [e, hD]; exact h1, by rw [hD]; unfold tyl; rw [hcA]; exact h2, ⟨h3.1, fun i hi j hj q => h3.2.1 i hi j hj (by rw [← x.2.2.2.1 i hi, ← x.2.2.2.1 j hj]; exact q), fun i hi => by show E'.2.2.2 ≤ E'.ad i; rw [x.2.2.1, x.2.2.2.1 i hi]; exact h3.2.2 i hi⟩, by show E'.2.2.2 ≤ _; rw [x.2.2.1]; exact h4, x.ro h5⟩
def Ey.up (E : Ey) (a q : Nat) : Ey := (E.1, E.2.1, (fun b => if b = a then q else E.ad b), E.2.2.2)
theorem Ey.up_ext {E : Ey} {N : List Nat} {a q : Nat} (ha : a ∉ N) (ha2 : a < 1000) : Ext E (E.up a q) N :=
  ⟨rfl, rfl, rfl, fun b hb => by show (if b = a then q else E.ad b) = _; rw [if_neg (fun z => ha (by rw [← z]; exact hb))], fun b hb => by show (if b = a then q else E.ad b) = _; rw [if_neg (by omega)]⟩
/-- a new cell, all 0 -/
def zrM (g : Mm) (a : Nat) : Mm := fun b => if b = a then fun _ => 0 else g b
theorem zrM_at {g : Mm} {a : Nat} : zrM g a a = fun _ => 0 := by unfold zrM; rw [if_pos rfl]
theorem zrM_ne {g : Mm} {a b : Nat} (h : b ≠ a) : zrM g a b = g b := by unfold zrM; rw [if_neg h]
theorem Wd.new1 {E : Ey} {L : Nat → Ly} {N : List Nat} {g : Mm} {U : State} {H H1 : Heap} {a q : Nat} {cell : va_E} (hW : Wd E L N g U H) (hcl : Cl L N g) (ha : a ∉ N) (ha2 : a < 1000) (hP : va_P E.D vwCl (wl E L N g ++ [(q, cell)]) H1) (hD : va_D E.A (wl E L N g ++ [(q, cell)])) (hce : ce (E.up a q) (L a) (fun _ => 0) = cell) (hsz : E.N0 ≤ H1.size) (hro : Ro E U H1) : Wd (E.up a q) L (N ++ [a]) (zrM g a) U H1 := by
  have x : Ext E (E.up a q) N := Ey.up_ext ha ha2
  have eq : (E.up a q).ad a = q := by show (if a = a then q else E.ad a) = q; rw [if_pos rfl]
  have ew : wl (E.up a q) L (N ++ [a]) (zrM g a) = wl E L N g ++ [(q, cell)] := by
    unfold wl
    rw [List.map_append]
    congr 1
    · apply List.map_congr_left
      intro b hb
      rw [zrM_ne (fun z => ha (by rw [← z]; exact hb)), x.2.2.2.1 b hb, hcl.same x hb]
    · show [((E.up a q).ad a, ce (E.up a q) (L a) (zrM g a a))] = _
      rw [zrM_at, eq, hce]
  have pos : ∀ b ∈ N ++ [a], ∃ k : Nat, (N ++ [a])[k]? = some b := fun b hb => List.mem_iff_getElem?.mp hb
  have hnd : (N ++ [a]).Nodup := by
    rw [List.nodup_append]
    exact ⟨hW.2.2.1.1, by simp, fun u hu v hv => by rw [List.mem_singleton.mp hv]; exact fun z => ha (by rw [← z]; exact hu)⟩
  have at' : ∀ (k b : Nat), (N ++ [a])[k]? = some b → (wl E L N g ++ [(q, cell)])[k]? = some ((E.up a q).ad b, ce (E.up a q) (L b) (zrM g a b)) := fun k b hk => by rw [← ew]; exact wl_at hk
  refine ⟨by rw [ew]; exact hP, hW.2.1, ⟨hnd, fun i hi j hj e => ?_, fun i hi => ?_⟩, hsz, x.ro hro⟩
  · obtain ⟨ki, hki⟩ := pos i hi
    obtain ⟨kj, hkj⟩ := pos j hj
    have := hD.1 ki kj _ _ (at' ki i hki) (at' kj j hkj) e
    subst this
    rw [hki] at hkj
    exact Option.some.inj hkj
  · obtain ⟨ki, hki⟩ := pos i hi
    exact hD.2 ki _ (at' ki i hki)
/-- closedness kept -/
theorem Cl.putI {L : Nat → Ly} {N : List Nat} {g : Mm} {a k m ci : Nat} {kd : Nat → Nat} {v : Int32} (h : Cl L N g) (hL : L a = (.inl ci, m, kd)) (hk : kd k = 0) : Cl L N (u2 g a k v) := by
  intro b hb
  obtain ⟨h1, h2⟩ := h b hb
  refine ⟨fun ci' m' kd' hL' j hj c hc => ?_, fun ty m' kd' hL' => ?_⟩
  · by_cases e : b = a ∧ j = k
    · rw [e.1, hL] at hL'
      cases hL'
      rw [e.2, hk] at hc
      cases hc
    · unfold u2 at hc; rw [if_neg e] at hc; exact h1 ci' m' kd' hL' j hj c hc
  · have : b ≠ a := fun e => by rw [e, hL] at hL'; cases hL'
    rw [u2_ne b this]; exact h2 ty m' kd' hL'
theorem Cl.putR {L : Nat → Ly} {N : List Nat} {g : Mm} {a k m ci t : Nat} {kd : Nat → Nat} (h : Cl L N g) (hL : L a = (.inl ci, m, kd)) (hk : kd k = 2) (ht : t ∈ N) (ht2 : t < 2 ^ 31) : Cl L N (u2 g a k (nI t)) := by
  intro b hb
  obtain ⟨h1, h2⟩ := h b hb
  refine ⟨fun ci' m' kd' hL' j hj c hc => ?_, fun ty m' kd' hL' => ?_⟩
  · by_cases e : b = a ∧ j = k
    · rw [e.1, hL] at hL'
      cases hL'
      rw [e.2, hk] at hc
      rw [e.1] at hc
      rw [u2_self] at hc
      unfold ab at hc
      dsimp only at hc
      split at hc
      · cases hc
      · cases hc
        rw [nI_clamp ht2]; exact ht
    · unfold u2 at hc; rw [if_neg e] at hc; exact h1 ci' m' kd' hL' j hj c hc
  · have : b ≠ a := fun e => by rw [e, hL] at hL'; cases hL'
    rw [u2_ne b this]; exact h2 ty m' kd' hL'
theorem Cl.putN {L : Nat → Ly} {N : List Nat} {g : Mm} {a k m ci : Nat} {kd : Nat → Nat} (h : Cl L N g) (hL : L a = (.inl ci, m, kd)) (hk : kd k = 2) : Cl L N (u2 g a k 0) := by
  intro b hb
  obtain ⟨h1, h2⟩ := h b hb
  refine ⟨fun ci' m' kd' hL' j hj c hc => ?_, fun ty m' kd' hL' => ?_⟩
  · by_cases e : b = a ∧ j = k
    · rw [e.1, hL] at hL'
      cases hL'
      rw [e.2, hk] at hc
      rw [e.1] at hc
      rw [u2_self] at hc
      unfold ab at hc
      dsimp only at hc
      rw [if_pos rfl] at hc
      cases hc
    · unfold u2 at hc; rw [if_neg e] at hc; exact h1 ci' m' kd' hL' j hj c hc
  · have : b ≠ a := fun e => by rw [e, hL] at hL'; cases hL'
    rw [u2_ne b this]; exact h2 ty m' kd' hL'
theorem Cl.putA {L : Nat → Ly} {N : List Nat} {g : Mm} {a k m : Nat} {ty : FieldType} {kd : Nat → Nat} {v : Int32} (h : Cl L N g) (hL : L a = (.inr ty, m, kd)) (hk : kd 0 = 0) : Cl L N (u2 g a k v) := by
  intro b hb
  obtain ⟨h1, h2⟩ := h b hb
  refine ⟨fun ci' m' kd' hL' j hj c hc => ?_, fun ty' m' kd' hL' => ?_⟩
  · have : b ≠ a := fun e => by rw [e, hL] at hL'; cases hL'
    rw [u2_ne b this] at hc; exact h1 ci' m' kd' hL' j hj c hc
  · by_cases e : b = a
    · rw [e, hL] at hL'; cases hL'; exact Or.inl (Or.inl hk)
    · rw [u2_ne b e]; exact h2 ty' m' kd' hL'
theorem Cl.putQ {L : Nat → Ly} {N : List Nat} {g : Mm} {a k m t : Nat} {ty : FieldType} {kd : Nat → Nat} (h : Cl L N g) (hL : L a = (.inr ty, m, kd)) (hk : kd 0 = 2) (ht : t ∈ N) (ht2 : t < 2 ^ 31) : Cl L N (u2 g a k (nI t)) := by
  intro b hb
  obtain ⟨h1, h2⟩ := h b hb
  refine ⟨fun ci' m' kd' hL' j hj c hc => ?_, fun ty' m' kd' hL' => ?_⟩
  · have : b ≠ a := fun e => by rw [e, hL] at hL'; cases hL'
    rw [u2_ne b this] at hc; exact h1 ci' m' kd' hL' j hj c hc
  · by_cases e : b = a
    · subst e
      rcases h2 ty' m' kd' hL' with z | ⟨z, hj⟩
      · exact Or.inl z
      · refine Or.inr ⟨z, fun j => ?_⟩
        rw [u2_at]
        split
        · exact Or.inr (by rw [nI_clamp ht2]; exact ht)
        · exact hj j
    · rw [u2_ne b e]; exact h2 ty' m' kd' hL'
theorem Cl.new {L : Nat → Ly} {N : List Nat} {g : Mm} {a : Nat} (h : Cl L N g) (ha : a ∉ N) (h1 : ∀ ci m kd, L a = (.inl ci, m, kd) → ∀ k, k < m → kd k = 0 ∨ kd k = 2) (h2 : ∀ ty m kd, L a = (.inr ty, m, kd) → kd 0 ≤ 2) : Cl L (N ++ [a]) (zrM g a) := by
  intro b hb
  rcases List.mem_append.mp hb with z | z
  · have e : b ≠ a := fun y => ha (by rw [← y]; exact z)
    obtain ⟨y1, y2⟩ := h b z
    rw [zrM_ne e]
    refine ⟨fun ci m kd hL k hk c hc => List.mem_append_left _ (y1 ci m kd hL k hk c hc), fun ty m kd hL => ?_⟩
    rcases y2 ty m kd hL with w | ⟨w, hj⟩
    · exact Or.inl w
    · exact Or.inr ⟨w, fun j => (hj j).imp id (fun u => List.mem_append_left _ u)⟩
  · rw [List.mem_singleton.mp z, zrM_at]
    refine ⟨fun ci m kd hL k hk c hc => ?_, fun ty m kd hL => ?_⟩
    · rcases h1 ci m kd hL k hk with e | e <;> rw [e] at hc <;> cases hc
    · have := h2 ty m kd hL
      by_cases e : kd 0 = 2
      · exact Or.inr ⟨e, fun _ => Or.inl rfl⟩
      · exact Or.inl (by omega)
/-- the references among locals and stack are of cells that are there -/
def rin (N : List Nat) : Value → Prop
  | .ref b => b ∈ N
  | _ => True
theorem mv_ext {E E' : Ey} {N : List Nat} (x : Ext E E' N) {v : Value} (h : rin N v) : mv E'.ad v = mv E.ad v := by
  cases v with
  | ref b => show Value.ref (E'.ad b) = .ref (E.ad b); rw [x.2.2.2.1 b h]
  | _ => rfl
theorem Lo.ext {E E' : Ey} {N : List Nat} {la : Array Slot} {ls : List (Option Value)} (h : Lo E.ad la ls) (x : Ext E E' N) (hr : ∀ v, some v ∈ ls → rin N v) : Lo E'.ad la ls :=
  ⟨h.1, h.2.1, fun i v hv => by rw [mv_ext x (hr v (List.mem_of_getElem? hv))]; exact h.2.2.1 i v hv, h.2.2.2⟩
theorem st_ext {E E' : Ey} {N : List Nat} (x : Ext E E' N) {st : List Value} (hr : ∀ v ∈ st, rin N v) : st.map (mv E'.ad) = st.map (mv E.ad) := List.map_congr_left (fun v hv => mv_ext x (hr v hv))
/-- a constructor's end: a larger world -/
def Qg (E : Ey) (L : Nat → Ly) (N : List Nat) (Q : List Nat → Mm → Prop) : Array Value → State → Outcome → State → Prop := fun _ _ o t => o = .returned none ∧ ∃ (E' : Ey) (N' : List Nat) (g : Mm), Ext E E' N ∧ (∀ a ∈ N, a ∈ N') ∧ Q N' g ∧ Cl L N' g ∧ Wd E' L N' g t t.heap
/-- a constructor's contract -/
def CtG (l : Launch) (E : Ey) (L : Nat → Ly) (N : List Nat) (d mc ms : Nat) (y : MethodName) (b : Nat) (g : Mm) (Px : State → Prop) (Q : List Nat → Mm → Prop) : Prop :=
  l.stackTraces = false → Cl L N g → b ∈ N → vx_Met l y gw (rmD d mc ms) (fun v U => v = #[Value.ref (E.ad b)] ∧ Wd E L N g U U.heap ∧ Vw E U ∧ Px U) (Qg E L N Q) (fun _ _ _ => False) mc ms E.A
def Sx.re (S : Sx) (E : Ey) (N : List Nat) : Sx := (S.1, S.2.1, (E, S.L, N), S.Z)
/-- what is fixed in a walk in which the world grows -/
def Kg (S0 S : Sx) (l : Launch) (E : Ey) (L : Nat → Ly) (N : List Nat) (cc : ByteArray) (own : String) (nL d mc ms : Nat) (E0 : Ey) (N0 : List Nat) : Prop :=
  Kx S l E L N cc own nL d ∧ S = S0.re E N ∧ (mc ≤ S0.R.cells ∧ ms ≤ S0.R.slots) ∧ Ext E0 E N0 ∧ ∀ x ∈ N0, x ∈ N
/-- an object of the class ci may be made by the entry idx of 'own' -/
def NO (own : String) (idx ci m : Nat) (kd : Nat → Nat) : Prop := ∃ (C : String) (T : u_T) (ty : Nat → FieldType), vwCl[ci]? = some (C, T, m) ∧ (∀ w ∈ u_ws C T m, w ∈ gw) ∧ (∀ k, k < m → parseFieldDescriptor (T k).2.2.1 = some (ty k)) ∧ Cond.classLink own idx C ∈ gw ∧ Cond.instantiable C m ∈ gw ∧ Cond.initialized C ∈ gw ∧ ∀ j, j < m → (kd j = 0 ∨ kd j = 2) ∧ defaultValue (ty j) = ab (kd j) 0
/-- a final field of the own class -/
def FF (own : String) (idx ci f m : Nat) (ty : FieldType) : Prop := ∃ (C : String) (T : u_T), vwCl[ci]? = some (C, T, m) ∧ f < m ∧ Cond.fieldLink own idx (T f).1 (T f).2.1 (T f).2.2.1 ∈ gw ∧ (∀ w ∈ u_ws C T m, w ∈ gw) ∧ (T f).2.2.2 = true ∧ (T f).1 = own ∧ parseFieldDescriptor (T f).2.2.1 = some ty ∧ (∃ ty0 : Nat → FieldType, ∀ k, k < m → parseFieldDescriptor (T k).2.2.1 = some (ty0 k)) ∧ ∀ a, a < m → ∀ b, b < m → a ≠ b → (T a).2.1 ≠ (T b).2.1
/-- a constructor without parameters -/
def MI (own : String) (idx : Nat) (y : MethodName) (bytes : ByteArray) (maxL : Nat) : Prop :=
  (Cond.methodLink own idx y ∈ gw ∨ ∃ host : String, (own, idx, y, host) ∈ nsL) ∧ y.name = "<init>" ∧ Cond.instanceMethod y ∈ gw ∧ Cond.initialized y.cls ∈ gw ∧ Cond.code y bytes maxL none ∈ gw ∧ (y.cls ≠ "java/lang/invoke/MethodHandle" ∧ y.cls ≠ "java/lang/invoke/VarHandle") ∧ (parseMethodDescriptor y.desc).map (fun d => d.parameters.length) = some 0
theorem va_RA_nm {U : State} {c : ClassId} {ty : FieldType} (h : va_RA U c ty) : U.vm.findClass ("[" ++ ty.toString) = some c := by
  cases ty with
  | object C => obtain ⟨_, _, _, _, _, h⟩ := h; exact h
  | _ => exact h
section Grow
variable {S0 S : Sx} {k n : Nat} {g : Mm} {pc : Nat} {ls : List (Option Value)} {st : List Value} {cc : ByteArray} {own : String} {nL d mc ms : Nat} {l : Launch} {E E0 : Ey} {L : Nat → Ly} {N N0 : List Nat} {Px : State → Prop} {Q : List Nat → Mm → Prop}
theorem Kg.re (h : Kg S0 S l E L N cc own nL d mc ms E0 N0) {E' : Ey} {N' : List Nat} (x : Ext E E' N) (hN : ∀ a ∈ N, a ∈ N') : Kg S0 (S.re E' N') l E' L N' cc own nL d mc ms E0 N0 := by
  obtain ⟨hS, h1, h3, h5, h6⟩ := h
  have hE := hS.E_eq
  obtain ⟨a1, a2, a3, a4, a5, a6, a7, a8, a9, a10, a11, a12, a13, a14, a15, a16⟩ := hS
  rw [hE] at a7 a8 a10
  exact ⟨⟨a1, a2, a3, a4, a5, a6, x.ro a7, x.vw a8, a9, by show E'.2.2.2 ≤ _; rw [x.2.2.1]; exact a10, a11, a12, a13, rfl, rfl, a16⟩, by rw [h1]; rfl, h3, h5.trans x h6, fun y hy => hN y (h6 y hy)⟩
theorem Kg.R (h : Kg S0 S l E L N cc own nL d mc ms E0 N0) : mc ≤ S.R.cells ∧ ms ≤ S.R.slots := by rw [h.2.1]; exact h.2.2.1
/-- behind something that made cells: go on in the larger world -/
theorem J_re (hG : Kg S0 S l E L N cc own nL d mc ms E0 N0) {k' n' : Nat} {g' : Mm} {E' : Ey} {N' : List Nat} {H1 : Heap} {locs1 : List Loc} {la : Array Slot} {pc' : Nat} {st' : List Value} (x : Ext E E' N) (hN : ∀ a ∈ N, a ∈ N') (hls : ∀ v, some v ∈ ls → rin N v) (hla : Lo S.E.ad la ls) (hW : Wd E' L N' g' S.s H1) (hV : va_S S.E.A S.s.heap H1 locs1)
    (h : ∀ S : Sx, Kg S0 S l E' L N' cc own nL d mc ms E0 N0 → J S k' n' g' pc' ls st') : W S.p S.l S.e S.R S.s S.m S.args S.below S.meth S.c H1 locs1 k' n' S.Z (F0 S.m pc' la (st'.map (mv E'.ad))) := by
  have hE := hG.1.E_eq
  have hLq := hG.1.L_eq
  have K := h (S.re E' N') (hG.re x hN)
  refine K H1 locs1 la ?_ ?_ ?_
  · show Wd E' S.L N' g' S.s H1
    rw [hLq]; exact hW
  · show va_S E'.A S.s.heap H1 locs1
    rw [x.A, ← hE]; exact hV
  · show Lo E'.ad la ls
    rw [hE] at hla
    exact hla.ext x hls
theorem J_newO (hG : Kg S0 S l E L N cc own nL d mc ms E0 N0) (hcl : Cl L N g) {idx ci m : Nat} {kd : Nat → Nat} (a : Nat) (ha : a ∉ N) (ha2 : a < 1000) (hd : decode cc pc = .ok (.new idx, 3)) (ho : NO own idx ci m kd) (hL : L a = (.inl ci, m, kd)) (hls : ∀ v, some v ∈ ls → rin N v) (hst : ∀ v ∈ st, rin N v) (hk : k + 1 ≤ mc) (hn : n + m ≤ ms)
    (h : ∀ (S : Sx) (E : Ey), Kg S0 S l E L (N ++ [a]) cc own nL d mc ms E0 N0 → Cl L (N ++ [a]) (zrM g a) → J S (k + 1) (n + m) (zrM g a) (pc + 3) ls (.ref a :: st)) : J S k n g pc ls st := by
  obtain ⟨C, T, ty, hc, hin, hty, hlink, hinst, hini, hdf⟩ := ho
  have hcl' : Cl L (N ++ [a]) (zrM g a) := hcl.new ha (fun ci' m' kd' e j hj => by rw [hL] at e; cases e; exact (hdf j hj).1) (fun ty m kd e => by rw [hL] at e; cases e)
  intro H locs la hW hV hl
  have hS := hG.1
  have hE := hS.E_eq
  have hLq := hS.L_eq
  have hNq := hS.N_eq
  have hW' : Wd E L N g S.s H := by rw [hE, hLq, hNq] at hW; exact hW
  obtain ⟨fs, hfs⟩ : ∃ fs : List Value, fs = (List.range m).map (fun j => ab (kd j) 0) := ⟨_, rfl⟩
  have hR := hG.R
  refine va_new hS.1 hS.2.1 hS.2.2.2.1 hin ty hty hS.2.2.1 (hS.2.2.2.1 _ hlink) (hS.2.2.2.1 _ hinst) (hS.2.2.2.1 _ hini) hW'.2.1 hW'.1 (wl_D hW'.2.2.1) (by rw [← hE]; exact hV) (fun q hq => Nat.le_trans (by have := hS.2.2.2.2.2.2.2.2.2.1; rw [hE] at this; exact this) hq) hc (fs := fs) (fun j hj => by rw [(hdf j hj).2, hfs]; simp [vp_V, hj]) (by omega) (by omega) hd ?_
  intro q H1 hP hD hV1
  have x : Ext E (E.up a q) N := Ey.up_ext ha ha2
  have hro : Ro E S.s H1 := by
    have := hS.2.2.2.2.2.2.1
    rw [hE] at this
    exact this.kept hV1.2.1
  have hW1 : Wd (E.up a q) L (N ++ [a]) (zrM g a) S.s H1 := by
    refine hW'.new1 hcl ha ha2 hP hD ?_ ?_ hro
    · rw [hL, ce_obj, hfs]
      congr 2
      apply List.map_congr_left
      intro j hj
      have hjm := List.mem_range.mp hj
      rcases (hdf j hjm).1 with e | e <;> rw [e] <;> rfl
    · have := hS.2.2.2.2.2.2.2.2.2.1
      rw [hE] at this
      exact Nat.le_trans this hV1.1
  have K := J_re hG (k' := k + 1) (n' := n + m) (pc' := pc + 3) (st' := .ref a :: st) x (fun b hb => List.mem_append_left _ hb) hls hl hW1 (by rw [hE]; exact hV1) (fun S' hS' => h S' _ hS' hcl')
  rw [List.map_cons, st_ext x hst, show mv (E.up a q).ad (.ref a) = .ref q by show Value.ref (if a = a then q else E.ad a) = _; rw [if_pos rfl], ← hE] at K
  exact K
/-- behind a new array -/
theorem J_newX (hG : Kg S0 S l E L N cc own nL d mc ms E0 N0) (hcl : Cl L N g) {a q pc' : Nat} {ty : FieldType} {m : Nat} {kd : Nat → Nat} {cA : ClassId} {a0 : vp_A} {H H1 : Heap} {locs : List Loc} {la : Array Slot} (ha : a ∉ N) (ha2 : a < 1000) (hW : Wd E L N g S.s H) (hl : Lo S.E.ad la ls) (hK : va_K E.D vwCl (tyl E ++ [(cA, ty)]) S.s) (hP : va_P E.D vwCl (wl E L N g ++ [(q, .inl (cA, a0))]) H1) (hD : va_D E.A (wl E L N g ++ [(q, .inl (cA, a0))])) (hV1 : va_S E.A S.s.heap H1 locs) (hL : L a = (.inr ty, m, kd)) (hk0 : kd 0 ≤ 2) {t0 : Nat} (ht0 : t0 < 6) (ht : (tyl E)[t0]? = some (E.cA ty, ty)) (hce : ∀ E' : Ey, ce E' (.inr ty, m, kd) (fun _ => 0) = .inl (E'.cA ty, a0)) (hls : ∀ v, some v ∈ ls → rin N v) (hst : ∀ v ∈ st, rin N v)
    (h : ∀ (S : Sx) (E : Ey), Kg S0 S l E L (N ++ [a]) cc own nL d mc ms E0 N0 → Cl L (N ++ [a]) (zrM g a) → J S (k + 1) (n + m) (zrM g a) pc' ls (.ref a :: st)) : W S.p S.l S.e S.R S.s S.m S.args S.below S.meth S.c H1 locs (k + 1) (n + m) S.Z (F0 S.m pc' la (.ref q :: st.map (mv S.E.ad))) := by
  have hcl' : Cl L (N ++ [a]) (zrM g a) := hcl.new ha (fun ci' m' kd' e j hj => by rw [hL] at e; cases e) (fun ty m kd e => by rw [hL] at e; cases e; exact hk0)
  have hS := hG.1
  have hE := hS.E_eq
  have hc : cA = E.cA ty := by
    have h1 := va_RA_nm (hK.2 6 (cA, ty) rfl).2
    have h2 := va_RA_nm (hK.2 t0 (E.cA ty, ty) (by rw [List.getElem?_append_left (show t0 < (tyl E).length from ht0)]; exact ht)).2
    exact Option.some.inj (h1.symm.trans h2)
  subst hc
  have x : Ext E (E.up a q) N := Ey.up_ext ha ha2
  have hro : Ro E S.s H1 := by
    have := hS.2.2.2.2.2.2.1
    rw [hE] at this
    exact this.kept hV1.2.1
  have hW1 : Wd (E.up a q) L (N ++ [a]) (zrM g a) S.s H1 := by
    refine hW.new1 hcl ha ha2 hP hD ?_ ?_ hro
    · rw [hL, hce]; rfl
    · have := hS.2.2.2.2.2.2.2.2.2.1
      rw [hE] at this
      exact Nat.le_trans this hV1.1
  have K := J_re hG (k' := k + 1) (n' := n + m) (pc' := pc') (st' := .ref a :: st) x (fun b hb => List.mem_append_left _ hb) hls hl hW1 (by rw [hE]; exact hV1) (fun S' hS' => h S' _ hS' hcl')
  rw [List.map_cons, st_ext x hst, show mv (E.up a q).ad (.ref a) = .ref q by show Value.ref (if a = a then q else E.ad a) = _; rw [if_pos rfl], ← hE] at K
  exact K
/-- newarray: int, boolean, long -/
theorem J_newA (hG : Kg S0 S l E L N cc own nL d mc ms E0 N0) (hcl : Cl L N g) {atype : ArrayType} {ty : FieldType} {m : Nat} {kd : Nat → Nat} {x : Int32} (a : Nat) (ha : a ∉ N) (ha2 : a < 1000) (hd : decode cc pc = .ok (.newarray atype, 2)) (hty : newarray.typeOf atype = ty) (hw : Cond.arrayClass ty ∈ gw) (hL : L a = (.inr ty, m, kd)) (hkd : (kd 0 = 0 ∧ (ty = .int ∨ ty = .boolean)) ∨ (kd 0 = 1 ∧ ty = .long)) (hx0 : ¬ x < 0) (hx : x.toNatClampNeg = m) (hm : m ≤ 100000) (hls : ∀ v, some v ∈ ls → rin N v) (hst : ∀ v ∈ st, rin N v) (hk : k + 1 ≤ mc) (hn : n + m ≤ ms)
    (h : ∀ (S : Sx) (E : Ey), Kg S0 S l E L (N ++ [a]) cc own nL d mc ms E0 N0 → Cl L (N ++ [a]) (zrM g a) → J S (k + 1) (n + m) (zrM g a) (pc + 2) ls (.ref a :: st)) : J S k n g pc ls (.int x :: st) := by
  intro H locs la hW hV hl
  have hS := hG.1
  have hE := hS.E_eq
  have hLq := hS.L_eq
  have hNq := hS.N_eq
  have hW' : Wd E L N g S.s H := by rw [hE, hLq, hNq] at hW; exact hW
  have hR := hG.R
  have hA : ∀ q, S.s.heap.size ≤ q → E.A q := fun q hq => Nat.le_trans (by have := hS.2.2.2.2.2.2.2.2.2.1; rw [hE] at this; exact this) hq
  have harr : (Cond.arrayClass (newarray.typeOf atype)).before S.args S.s = true := by rw [hty]; exact hS.2.2.2.1 _ hw
  rcases hkd with ⟨e0, ht | ht⟩ | ⟨e0, ht⟩
  · subst ht
    refine va_newa hS.1 hS.2.1 harr hty hW'.2.1 hW'.1 (wl_D hW'.2.2.1) (by rw [← hE]; exact hV) hA (a0 := (m, .inl fun _ => 0)) (fun cA => by rw [vp_cell_i]; rfl) hx0 hx (by show m * 4 ≤ _; omega) (by omega) (by omega) hd ?_
    intro q cA H1 hK hP hD hV1
    exact J_newX hG hcl ha ha2 hW' hl hK hP hD hV1 hL (by omega) (t0 := 0) (by decide) rfl (fun E' => ce_int e0) hls hst h
  · subst ht
    refine va_newa hS.1 hS.2.1 harr hty hW'.2.1 hW'.1 (wl_D hW'.2.2.1) (by rw [← hE]; exact hV) hA (a0 := (m, .inl fun _ => 0)) (fun cA => by rw [vp_cell_i]; rfl) hx0 hx (by show m * 1 ≤ _; omega) (by omega) (by omega) hd ?_
    intro q cA H1 hK hP hD hV1
    exact J_newX hG hcl ha ha2 hW' hl hK hP hD hV1 hL (by omega) (t0 := 1) (by decide) rfl (fun E' => ce_int e0) hls hst h
  · subst ht
    refine va_newa hS.1 hS.2.1 harr hty hW'.2.1 hW'.1 (wl_D hW'.2.2.1) (by rw [← hE]; exact hV) hA (a0 := (m, .inr (.inl fun _ => (0 : Int32).toInt64))) (fun cA => by rw [vp_cell_l]; rfl) hx0 hx (by show m * 8 ≤ _; omega) (by omega) (by omega) hd ?_
    intro q cA H1 hK hP hD hV1
    exact J_newX hG hcl ha ha2 hW' hl hK hP hD hV1 hL (by omega) (t0 := 2) (by decide) rfl (fun E' => ce_lng e0) hls hst h
/-- anewarray -/
theorem J_newQ (hG : Kg S0 S l E L N cc own nL d mc ms E0 N0) (hcl : Cl L N g) {C : String} {idx m t0 : Nat} {kd : Nat → Nat} {x : Int32} (a : Nat) (ha : a ∉ N) (ha2 : a < 1000) (hd : decode cc pc = .ok (.anewarray idx, 3)) (hw : Cond.classLink own idx C ∈ gw) (ho : va_AO C S.s) (hL : L a = (.inr (.object C), m, kd)) (hkd : kd 0 = 2) (ht0 : t0 < 6) (ht : ∀ E : Ey, (tyl E)[t0]? = some (E.cA (.object C), .object C)) (hx0 : ¬ x < 0) (hx : x.toNatClampNeg = m) (hm : m ≤ 100000) (hls : ∀ v, some v ∈ ls → rin N v) (hst : ∀ v ∈ st, rin N v) (hk : k + 1 ≤ mc) (hn : n + m ≤ ms)
    (h : ∀ (S : Sx) (E : Ey), Kg S0 S l E L (N ++ [a]) cc own nL d mc ms E0 N0 → Cl L (N ++ [a]) (zrM g a) → J S (k + 1) (n + m) (zrM g a) (pc + 3) ls (.ref a :: st)) : J S k n g pc ls (.int x :: st) := by
  intro H locs la hW hV hl
  have hS := hG.1
  have hE := hS.E_eq
  have hLq := hS.L_eq
  have hNq := hS.N_eq
  have hW' : Wd E L N g S.s H := by rw [hE, hLq, hNq] at hW; exact hW
  have hR := hG.R
  have hA : ∀ q, S.s.heap.size ≤ q → E.A q := fun q hq => Nat.le_trans (by have := hS.2.2.2.2.2.2.2.2.2.1; rw [hE] at this; exact this) hq
  refine va_newq hS.1 hS.2.1 hS.2.2.1 (hS.2.2.2.1 _ hw) ho hW'.2.1 hW'.1 (wl_D hW'.2.2.1) (by rw [← hE]; exact hV) hA hx0 hx (by omega) (by omega) (by omega) hd ?_
  intro q cA H1 hK hP hD hV1
  exact J_newX hG hcl ha ha2 hW' hl hK hP hD hV1 hL (by omega) ht0 (ht _) (fun E' => by rw [ce_nul hkd]; rfl) hls hst h
/-- a final field, in the constructor -/
theorem J_putF (hS : Kx S l E L N cc own nL d) (hnm : S.meth.name = "<init>") {a idx ci f m : Nat} {kd : Nat → Nat} {ty : FieldType} {v : Value} {x : Int32} (hd : decode cc pc = .ok (.putfield idx, 3)) (hf : FF own idx ci f m ty) (ho : Ob L N ci a m kd) (hv : ab (kd f) x = v) (hn : narrow ty (mv E.ad v) = mv E.ad v) (ht : fits ty (mv E.ad v) = true) (h : ∀ g', g' = u2 g a f x → J S k n g' (pc + 3) ls st) : J S k n g pc ls (v :: .ref a :: st) := by
  intro H locs la hW hV hl
  obtain ⟨C, T, h1, h2, h3, h4, h5, h9, h6, ⟨ty0, h7⟩, h8⟩ := hf
  obtain ⟨i0, hi0, e⟩ := hS.at (g := g) ho.1
  rw [ho.2, ce_obj] at e
  have hE := hS.E_eq
  refine va_putF hS.1 hS.2.1 hS.2.2.2.1 h4 ty0 h7 h8 hS.2.2.1 hW.2.1 hW.1 (wl_D hW.2.2.1) hV i0 e h1 f h2 (hS.2.2.2.1 _ h3) (fun _ q => q) h5 hnm h9 (v := mv S.E.ad v) h6 (by rw [hE]; exact hn) (by rw [hE]; exact ht) (by simp [h2]) hd ?_
  intro H1 locs1 hP hD hV1
  refine h _ rfl H1 locs1 la ⟨?_, hW.2.1, hW.2.2.1, Nat.le_trans hS.2.2.2.2.2.2.2.2.2.1 hV1.1, hS.2.2.2.2.2.2.1.kept hV1.2.1⟩ hV1 hl
  have e2 : (wl S.E S.L S.N g).set i0 (S.E.ad a, ce S.E (S.L a) (u2 g a f x a)) = wl S.E S.L S.N (u2 g a f x) := wl_set hW.2.2.1.1 hi0 (fun b hb => u2_ne b hb)
  rw [← e2, hS.L_eq, ho.2, ce_obj, u2_row, ← ce_put, hv, ← hS.L_eq]
  exact hP
theorem nI_nz {t : Nat} (h : t < 2 ^ 31) (h0 : t ≠ 0) : nI t ≠ 0 := fun e => h0 (by have := congrArg Int32.toNatClampNeg e; rw [nI_clamp h] at this; exact this)
theorem ab2 {t : Nat} (h : t < 2 ^ 31) (h0 : t ≠ 0) : ab 2 (nI t) = .ref t := by
  show (if nI t = 0 then Value.null else .ref (nI t).toNatClampNeg) = _
  rw [if_neg (nI_nz h h0), nI_clamp h]
/-- a reference into a final field -/
theorem J_putFR (hS : Kx S l E L N cc own nL d) (hnm : S.meth.name = "<init>") {a idx ci f m t : Nat} {kd : Nat → Nat} {ty : FieldType} (hd : decode cc pc = .ok (.putfield idx, 3)) (hf : FF own idx ci f m ty) (hy : (∃ C, ty = .object C) ∨ ∃ t, ty = .array t) (ho : Ob L N ci a m kd) (hk : kd f = 2) (h1 : t < 2 ^ 31) (h2 : t ≠ 0) (h : ∀ g', g' = u2 g a f (nI t) → J S k n g' (pc + 3) ls st) : J S k n g pc ls (.ref t :: .ref a :: st) :=
  J_putF hS hnm hd hf ho (x := nI t) (by rw [hk]; exact ab2 h1 h2) (by rcases hy with ⟨C, e⟩ | ⟨t, e⟩ <;> subst e <;> rfl) (by rcases hy with ⟨C, e⟩ | ⟨t, e⟩ <;> subst e <;> rfl) h
/-- aastore of an object that stands in the world -/
theorem J_astQ (hS : Kx S l E L N cc own nL d) {a len t0 t ci m : Nat} {C : String} {T : u_T} {kd kd2 : Nat → Nat} {i : Int32} (hd : decode cc pc = .ok (.aastore, 1)) (ha : a ∈ N) (hL : L a = (.inr (.object C), len, kd)) (hkd : kd 0 = 2) (ht : ∀ E : Ey, (tyl E)[t0]? = some (E.cA (.object C), .object C)) (hc : vwCl[ci]? = some (C, T, m)) (ho : Ob L N ci t m kd2) (h1 : t < 2 ^ 31) (h2 : t ≠ 0) (hin : vp_in i len) (h : ∀ g', g' = u2 g a i.toNatClampNeg (nI t) → J S k n g' (pc + 1) ls st) : J S k n g pc ls (.ref t :: .int i :: .ref a :: st) := by
  intro H locs la hW hV hl
  obtain ⟨i0, hi0, e⟩ := hS.at (g := g) ha
  obtain ⟨i1, hi1, e1⟩ := hS.at (g := g) ho.1
  rw [hL, ce_nul hkd] at e
  rw [ho.2, ce_obj] at e1
  refine va_astq (r := (C, T, m)) hS.1 hS.2.1 hW.2.1 hW.1 (wl_D hW.2.2.1) hV i0 t0 i1 ci e (ht _) e1 hc hin hd ?_
  intro H1 locs1 hP hD hV1
  refine h _ rfl H1 locs1 la ⟨?_, hW.2.1, hW.2.2.1, Nat.le_trans hS.2.2.2.2.2.2.2.2.2.1 hV1.1, hS.2.2.2.2.2.2.1.kept hV1.2.1⟩ hV1 hl
  have e2 : (wl S.E S.L S.N g).set i0 (S.E.ad a, ce S.E (S.L a) (u2 g a i.toNatClampNeg (nI t) a)) = wl S.E S.L S.N (u2 g a i.toNatClampNeg (nI t)) := wl_set hW.2.2.1.1 hi0 (fun b hb => u2_ne b hb)
  have e3 : (fun j => if u2 g a i.toNatClampNeg (nI t) a j = 0 then none else some (S.E.ad (u2 g a i.toNatClampNeg (nI t) a j).toNatClampNeg)) = va_up (fun j => if g a j = 0 then none else some (S.E.ad (g a j).toNatClampNeg)) i.toNatClampNeg (some (S.E.ad t)) := by
    funext j
    rw [u2_row]
    by_cases hj : j = i.toNatClampNeg
    · subst hj
      simp [upd, va_up, nI_nz h1 h2, nI_clamp h1]
    · simp [upd, va_up, hj]
  rw [← e2, hS.L_eq, hL, ce_nul hkd, e3, ← hS.L_eq]
  exact hP
/-- Object.<init> -/
theorem J_obj (hS : Kx S l E L N cc own nL d) {idx b : Nat} (hd : decode cc pc = .ok (.invokespecial idx, 3)) (hm : Cond.methodLink own idx Lib.objectInit ∈ gw) (hi : Cond.instanceMethod Lib.objectInit ∈ gw) (hc : Cond.code Lib.objectInit ⟨#[0xb1]⟩ 1 none ∈ gw) (hn : nL = ls.length) (h1 : 1 ≤ d) (hst : (st.map fun v => v.category).sum ≤ 8) (h : J S k n g (pc + 3) ls st) : J S k n g pc ls (.ref b :: st) := by
  intro H locs la hW hV hl
  have hlc := hS.2.2.2.2.2.2.2.2.2.2.2.1
  have hfr := hS.2.2.2.2.2.2.2.2.2.2.1
  refine W.objInit hS.1 hS.2.1 hS.2.2.1 (hS.2.2.2.1 _ hm) (hS.2.2.2.1 _ hi) (hS.2.2.2.1 _ hc) rfl (by show la.size = _; rw [hl.1, hS.2.2.2.2.1, hn]) rfl hd (Nat.le_trans h1 hfr) ?_ (h H locs la hW hV hl)
  show 2 * 0 + _ + 12 ≤ S.R.locals
  rw [cat_sum]; omega
/-- a constructor called -/
theorem J_callI (hG : Kg S0 S l E L N cc own nL d mc ms E0 N0) (hcl : Cl L N g) {idx maxL dC mc1 ms1 b : Nat} {y : MethodName} {bytes : ByteArray} {Q1 : List Nat → Mm → Prop} (hd : decode cc pc = .ok (.invokespecial idx, 3)) (hm : MI own idx y bytes maxL) (hb : b ∈ N) (hnl : nL = ls.length) (hdc : dC + 1 ≤ d) (hml : maxL ≤ 45) (hst : (st.map fun v => v.category).sum ≤ 8) (hk : k + mc1 ≤ mc) (hn : n + ms1 ≤ ms) (hls : ∀ v, some v ∈ ls → rin N v) (hst2 : ∀ v ∈ st, rin N v) (hpx : Px S.s) (hpm : ∀ u U : State, u.vm.Alike U.vm → Px u → Px U)
    (hc : CtG l E L N dC mc1 ms1 y b g Px Q1)
    (h : ∀ (S : Sx) (E : Ey) (N' : List Nat) (g' : Mm), Kg S0 S l E L N' cc own nL d mc ms E0 N0 → (∀ a ∈ N, a ∈ N') → Cl L N' g' → Q1 N' g' → J S (k + mc1) (n + ms1) g' (pc + 3) ls st) : J S k n g pc ls (.ref b :: st) := by
  intro H locs la hW hV hl
  have hS := hG.1
  have hE := hS.E_eq
  have hLq := hS.L_eq
  have hNq := hS.N_eq
  have hlq := hS.l_eq
  have hR := hG.R
  obtain ⟨m0, m1, m2, m3, m4, m5, m6⟩ := hm
  have hlc := hS.2.2.2.2.2.2.2.2.2.2.2.1
  have hfr := hS.2.2.2.2.2.2.2.2.2.2.1
  have hts := hS.2.2.2.1
  have hc' := hc (by rw [← hlq]; exact hS.2.2.2.2.2.2.2.2.1) hcl hb
  have hM : Met l y gw (rmD dC mc1 ms1) (fun v U => v = #[Value.ref (E.ad b)] ∧ Wd E L N g U U.heap ∧ Vw E U ∧ Px U) (Qg E L N Q1) mc1 ms1 E.A := by
    intro p e h1 h2 h3 s m args below h4 h5 h6 h7
    obtain ⟨n9, o, q1, q2, q3, q4⟩ := hc' p e h1 h2 h3 s m args below h4 h5 h6 h7
    refine ⟨n9, o, q1, q2, q3, ?_⟩
    rcases q4 with q4 | ⟨q, -, E9, ce, L9, q9, -⟩
    · exact q4
    · exact q9.elim
  have hbl : FrameBlind (fun (v : Array Value) (U : State) => v = #[Value.ref (E.ad b)] ∧ Wd E L N g U U.heap ∧ Vw E U ∧ Px U) :=
    fun a U gf mk h => ⟨h.1, h.2.1.moved (u := U) (U := U.calling gf mk a) (Vm.Alike.refl U.vm), h.2.2.1.same (u := U) (U := U.calling gf mk a) rfl, hpm U (U.calling gf mk a) (Vm.Alike.refl U.vm) h.2.2.2⟩
  have hpre : PreS S.s H (fun (v : Array Value) (U : State) => v = #[Value.ref (E.ad b)] ∧ Wd E L N g U U.heap ∧ Vw E U ∧ Px U) (.ref (E.ad b) :: []) := by
    refine ⟨hbl, fun U hU hWm => ⟨rfl, ?_, ?_, hpm _ _ hWm.alike hpx⟩⟩
    · rw [hU]; rw [hE, hLq, hNq] at hW; exact hW.moved hWm.alike
    · have := hS.2.2.2.2.2.2.2.1; rw [hE] at this; exact this.warm hWm
  have hrun : va_Run S.p S.l S.e S.R S.s S.m S.args S.below S.meth S.c H locs k n mc1 ms1 (F0 S.m pc la ((.ref b :: st).map (mv S.E.ad))) (st.map (mv S.E.ad)) (Qg E L N Q1 (Value.ref (E.ad b) :: []).toArray) E.A := by
    have hstk : (F0 S.m pc la ((.ref b :: st).map (mv S.E.ad))).stack = ([] : List Value).reverse ++ .ref (E.ad b) :: st.map (mv S.E.ad) := by rw [hE]; rfl
    have hcat : 2 * (F0 S.m pc la ((.ref b :: st).map (mv S.E.ad))).monitorRoom + ((st.map (mv S.E.ad)).map fun v => v.category).sum ≤ 8 := by
      show 2 * 0 + _ ≤ 8
      rw [cat_sum]; omega
    have hsz : (F0 S.m pc la ((.ref b :: st).map (mv S.E.ad))).locals.size = nL := by
      show la.size = nL
      rw [hl.1, hnl]
    have hroom : k + mc1 ≤ S.R.cells ∧ n + ms1 ≤ S.R.slots := ⟨by omega, by omega⟩
    rw [← hlq] at hM
    rcases m0 with m0 | ⟨host, m0⟩
    · refine va_runI (As := []) (n := 0) (Ts := gw) ⟨hS.1, hS.2.1, hS.2.2.2.2.1, hS.2.2.1, hts⟩ hM ⟨⟨rfl, rfl, Nat.le_trans hdc hfr, ?_, pay_in hts gw_good, m4, hts _ m4, hts _ m3, m5, len_of m6, hts _ m0⟩, m1, hts _ m2⟩ hpre rfl rfl hsz hstk hcat hd hroom
      show 8 + (maxL + 11) + 64 * dC ≤ S.R.locals
      omega
    · refine va_runIN (As := []) (n := 0) (Ts := gw) (host := host) ⟨hS.1, hS.2.1, hS.2.2.2.2.1, hS.2.2.1, hts⟩ hM ⟨⟨⟨rfl, rfl, Nat.le_trans hdc hfr, ?_, pay_in hts gw_good, m4⟩, hts _ m4, hts _ m3, m5, len_of m6, (hS.2.2.2.2.2.2.2.1.1 _ m0).use rfl⟩, m1, hts _ m2⟩ hpre rfl rfl hsz hstk hcat hd hroom
      show 8 + (maxL + 11) + 64 * dC ≤ S.R.locals
      omega
  intro T hT X
  obtain ⟨v, st₀, t, T', Lc, h0, X', hLc, e1, e2, ⟨ev, E', N', g', x, hN, hq, hcl2, hw⟩, stp⟩ := hrun T hT X
  have ev' : v = none := by injection ev
  subst ev'
  have hA : ∀ z ∈ locs ++ Lc, S.E.A z.base := fun z hz => (List.mem_append.mp hz).elim (hV.2.2 z) (fun q => by have := hLc z q; rw [hE]; exact this)
  have hal : t.vm.Alike S.s.vm := by rw [← e2]; exact X'.warmed.alike.symm
  have hw1 : Wd E' L N' g' S.s T'.heap := by rw [e1]; exact hw.moved hal
  have K := J_re hG (k' := k + mc1) (n' := n + ms1) (pc' := pc + 3) (st' := st) x hN hls hl hw1 (va_S_of X' hA) (fun S' hS' => h S' _ N' g' hS' hN hcl2 hq)
  rw [st_ext x hst2, ← hE] at K
  obtain ⟨t2, a1, b1⟩ := K T' rfl X'
  exact ⟨t2, stp t2 a1, b1⟩
/-- the entry of a constructor -/
theorem CtG_of {y : MethodName} {b : Nat} {maxL : Nat} (hy : plainName y.cls = true) (hi : y.name = "<init>") (hw : Cond.code y cc maxL none ∈ gw) (hn : 1 ≤ maxL)
    (body : ∀ S : Sx, Kg S S l E L N cc y.cls maxL d mc ms E N → S.Z = vx_MQ S.below (Qg E L N Q) (fun _ _ _ => False) S.args S.s mc ms E.A → S.meth.sig.returnType = none → S.meth.name = "<init>" → Px S.s → Cl L N g → b ∈ N → J S 0 0 g 0 (some (.ref b) :: List.replicate (maxL - 1) none) []) : CtG l E L N d mc ms y b g Px Q := by
  intro htr hcl hb
  refine MetFree.of_bodyS (code := cc) (maxLocals := maxL) (ret := none) hy ?_ ?_
  · intro args s m h hn
    obtain ⟨meth, c, h1, h2, h3, h4, h5, h6, -, -⟩ := Cond.code_spec hn (atoms_spec (ws := gw) h _ hw)
    exact ⟨meth, c, h1, h2, h3, h4, h5, h6⟩
  · intro p e s m args below meth c s₁ B hml hP _
    obtain ⟨rfl, hW, hVw, hpx⟩ := hP
    have hh0 : s₁.heap = s.heap := by rw [B.state]; rfl
    have hts := atoms_spec (ws := gw) B.pre
    have hnm : meth.name = "<init>" := (name_of_methodNamed B.named B.method).1.trans hi
    have K := body ((p, l, e, (headSpec gw (rmD d mc ms)).room, s), (m, #[Value.ref (E.ad b)], below, meth, c), (E, L, N), vx_MQ below (Qg E L N Q) (fun _ _ _ => False) #[Value.ref (E.ad b)] s mc ms E.A)
      ⟨⟨B.exec, B.bytes, findClass_of_methodNamed B.named, hts, hml, B.notSynchronized, hW.2.2.2.2, hVw, htr, hW.2.2.2.1, Nat.le_refl _, Nat.le_refl _, rfl, rfl, rfl, rfl⟩, rfl, ⟨Nat.le_refl _, Nat.le_refl _⟩, Ext.refl, fun _ h => h⟩ rfl B.returns hnm hpx hcl hb
    have hent := lv_entry [Value.ref (E.ad b)] (n := maxL) (by show 1 ≤ maxL; exact hn)
    have hlo : Lo E.ad ((lg_sl [Value.ref (E.ad b)] ++ List.replicate (maxL - (lg_sl [Value.ref (E.ad b)]).length) Slot.unset).toArray) (some (.ref b) :: List.replicate (maxL - 1) none) := by
      have key : ∀ (i : Nat) (v : Value), (some (Value.ref b) :: List.replicate (maxL - 1) none)[i]? = some (some v) → i = 0 ∧ v = .ref b := by
        intro i v h
        cases i with
        | zero => simp at h; exact ⟨rfl, h.symm⟩
        | succ i => simp [List.getElem?_replicate] at h
      refine ⟨?_, hent.2.1, fun i v h => ?_, fun i v h => ?_⟩
      · rw [hent.1]; simp; omega
      · obtain ⟨rfl, rfl⟩ := key i v h
        exact hent.2.2 (0, .ref (E.ad b)) (by simp [lv_args])
      · obtain ⟨rfl, rfl⟩ := key i v h
        rfl
    have K2 := K s.heap [] _ hW va_S.rf hlo s₁ hh0 (Stand.of_body B)
    rw [lg_entry_eq] at *
    obtain ⟨t, a1, o, b1, b2, b3⟩ := K2
    exact ⟨t, o, a1, b1, b2, b3⟩
theorem J_vretG (hG : Kg S0 S l E L N cc own nL d mc ms E0 N0) (hcl : Cl L N g) (hZ : S0.Z = vx_MQ S0.below (Qg E0 L N0 Q) (fun _ _ _ => False) S0.args S0.s mc ms E0.A) (hr : S0.meth.sig.returnType = none) (hd : decode cc pc = .ok (.return_, 1)) (hk : k ≤ mc) (hn : n ≤ ms) (h : Q N g) : J S k n g pc ls [] := by
  intro H locs la hW hV hl
  have hS := hG.1
  have hE := hS.E_eq
  have hLq := hS.L_eq
  have hNq := hS.N_eq
  have e0 := hG.2.1
  have hZ' : S.Z = vx_MQ S.below (Qg E0 L N0 Q) (fun _ _ _ => False) S.args S.s mc ms E0.A := by rw [e0]; exact hZ
  have hr' : S.meth.sig.returnType = none := by rw [e0]; exact hr
  rw [hZ']
  refine vx_ret (W.widen (k := mc) (n := ms) hk hn ?_)
  have hA : S.E.A = E0.A := by rw [hE]; exact hG.2.2.2.1.A
  exact W.vret hS.1 hS.2.1 hr' (fun t ht hWm => ⟨rfl, E, N, g, hG.2.2.2.1, hG.2.2.2.2, h, hcl, by rw [ht]; rw [hE, hLq, hNq] at hW; exact hW.moved hWm.alike⟩) (by rw [← hA]; exact hV.2.2) hd (hlocks := hS.2.2.2.2.2.1)
end Grow

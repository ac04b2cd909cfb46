/-! WORLDS THAT GROW, with references to what was there before (the script) among the locals -/
/-- the references among locals and stack are of cells that are there -/
def rin2 (N : List Nat) : Value → Prop
  | .ref b => b ∈ N ∨ 1000 ≤ b
  | _ => True
theorem mv_ext2 {E E' : Ey} {N : List Nat} (x : Ext E E' N) {v : Value} (h : rin2 N v) : mv E'.ad v = mv E.ad v := by
  cases v with
  | ref b => exact h.elim (fun h => by show Value.ref (E'.ad b) = .ref (E.ad b); rw [x.2.2.2.1 b h]) (fun h => by show Value.ref (E'.ad b) = .ref (E.ad b); rw [x.2.2.2.2 b h])
  | _ => rfl
theorem Lo.ext2 {E E' : Ey} {N : List Nat} {la : Array Slot} {ls : List (Option Value)} (h : Lo E.ad la ls) (x : Ext E E' N) (hr : ∀ v, some v ∈ ls → rin2 N v) : Lo E'.ad la ls :=
  ⟨h.1, h.2.1, fun i v hv => by rw [mv_ext2 x (hr v (List.mem_of_getElem? hv))]; exact h.2.2.1 i v hv, h.2.2.2⟩
theorem st_ext2 {E E' : Ey} {N : List Nat} (x : Ext E E' N) {st : List Value} (hr : ∀ v ∈ st, rin2 N v) : st.map (mv E'.ad) = st.map (mv E.ad) := List.map_congr_left (fun v hv => mv_ext2 x (hr v hv))
section Grow
variable {S0 S : Sx} {k n : Nat} {g : Mm} {pc : Nat} {ls : List (Option Value)} {st : List Value} {cc : ByteArray} {own : String} {nL d mc ms : Nat} {l : Launch} {E E0 : Ey} {L : Nat → Ly} {N N0 : List Nat} {Px : State → Prop} {Q : List Nat → Mm → Prop}
/-- behind something that made cells: go on in the larger world -/
theorem J_re2 (hG : Kg S0 S l E L N cc own nL d mc ms E0 N0) {k' n' : Nat} {g' : Mm} {E' : Ey} {N' : List Nat} {H1 : Heap} {locs1 : List Loc} {la : Array Slot} {pc' : Nat} {st' : List Value} (x : Ext E E' N) (hN : ∀ a ∈ N, a ∈ N') (hls : ∀ v, some v ∈ ls → rin2 N v) (hla : Lo S.E.ad la ls) (hW : Wd E' L N' g' S.s H1) (hV : va_S S.E.A S.s.heap H1 locs1)
    (h : ∀ S : Sx, Kg S0 S l E' L N' cc own nL d mc ms E0 N0 → J S k' n' g' pc' ls st') : W S.p S.l S.e S.R S.s S.m S.args S.below S.meth S.c H1 locs1 k' n' S.Z (F0 S.m pc' la (st'.map (mv E'.ad))) := by
  have hE := hG.1.E_eq
  have hLq := hG.1.L_eq
  have K := h (S.re E' N') (hG.re x hN)
  refine K H1 locs1 la ?_ ?_ ?_
  · show Wd E' S.L N' g' S.s H1
    rw [hLq]; exact hW
  · show va_S E'.A S.s.heap H1 locs1
    rw [x.A, ← hE]; exact hV
  · show Lo E'.ad la ls
    rw [hE] at hla
    exact hla.ext2 x hls
theorem J_newO2 (hG : Kg S0 S l E L N cc own nL d mc ms E0 N0) (hcl : Cl L N g) {idx ci m : Nat} {kd : Nat → Nat} (a : Nat) (ha : a ∉ N) (ha2 : a < 1000) (hd : decode cc pc = .ok (.new idx, 3)) (ho : NO own idx ci m kd) (hL : L a = (.inl ci, m, kd)) (hls : ∀ v, some v ∈ ls → rin2 N v) (hst : ∀ v ∈ st, rin2 N v) (hk : k + 1 ≤ mc) (hn : n + m ≤ ms)
    (h : ∀ (S : Sx) (E : Ey), Kg S0 S l E L (N ++ [a]) cc own nL d mc ms E0 N0 → Cl L (N ++ [a]) (zrM g a) → J S (k + 1) (n + m) (zrM g a) (pc + 3) ls (.ref a :: st)) : J S k n g pc ls st := by
  obtain ⟨C, T, ty, hc, hin, hty, hlink, hinst, hini, hdf⟩ := ho
  have hcl' : Cl L (N ++ [a]) (zrM g a) := hcl.new ha (fun ci' m' kd' e j hj => by rw [hL] at e; cases e; exact (hdf j hj).1) (fun ty m kd e => by rw [hL] at e; cases e)
  intro H locs la hW hV hl
  have hS := hG.1
  have hE := hS.E_eq
  have hLq := hS.L_eq
  have hNq := hS.N_eq
  have hW' : Wd E L N g S.s H := by rw [hE, hLq, hNq] at hW; exact hW
  obtain ⟨fs, hfs⟩ : ∃ fs : List Value, fs = (List.range m).map (fun j => ab (kd j) 0) := ⟨_, rfl⟩
  have hR := hG.R
  refine va_new hS.1 hS.2.1 hS.2.2.2.1 hin ty hty hS.2.2.1 (hS.2.2.2.1 _ hlink) (hS.2.2.2.1 _ hinst) (hS.2.2.2.1 _ hini) hW'.2.1 hW'.1 (wl_D hW'.2.2.1) (by rw [← hE]; exact hV) (fun q hq => Nat.le_trans (by have := hS.2.2.2.2.2.2.2.2.2.1; rw [hE] at this; exact this) hq) hc (fs := fs) (fun j hj => by rw [(hdf j hj).2, hfs]; simp [vp_V, hj]) (by omega) (by omega) hd ?_
  intro q H1 hP hD hV1
  have x : Ext E (E.up a q) N := Ey.up_ext ha ha2
  have hro : Ro E S.s H1 := by
    have := hS.2.2.2.2.2.2.1
    rw [hE] at this
    exact this.kept hV1.2.1
  have hW1 : Wd (E.up a q) L (N ++ [a]) (zrM g a) S.s H1 := by
    refine hW'.new1 hcl ha ha2 hP hD ?_ ?_ hro
    · rw [hL, ce_obj, hfs]
      congr 2
      apply List.map_congr_left
      intro j hj
      have hjm := List.mem_range.mp hj
      rcases (hdf j hjm).1 with e | e <;> rw [e] <;> rfl
    · have := hS.2.2.2.2.2.2.2.2.2.1
      rw [hE] at this
      exact Nat.le_trans this hV1.1
  have K := J_re2 hG (k' := k + 1) (n' := n + m) (pc' := pc + 3) (st' := .ref a :: st) x (fun b hb => List.mem_append_left _ hb) hls hl hW1 (by rw [hE]; exact hV1) (fun S' hS' => h S' _ hS' hcl')
  rw [List.map_cons, st_ext2 x hst, show mv (E.up a q).ad (.ref a) = .ref q by show Value.ref (if a = a then q else E.ad a) = _; rw [if_pos rfl], ← hE] at K
  exact K
/-- behind a new array -/
theorem J_newX2 (hG : Kg S0 S l E L N cc own nL d mc ms E0 N0) (hcl : Cl L N g) {a q pc' : Nat} {ty : FieldType} {m : Nat} {kd : Nat → Nat} {cA : ClassId} {a0 : vp_A} {H H1 : Heap} {locs : List Loc} {la : Array Slot} (ha : a ∉ N) (ha2 : a < 1000) (hW : Wd E L N g S.s H) (hl : Lo S.E.ad la ls) (hK : va_K E.D vwCl (tyl E ++ [(cA, ty)]) S.s) (hP : va_P E.D vwCl (wl E L N g ++ [(q, .inl (cA, a0))]) H1) (hD : va_D E.A (wl E L N g ++ [(q, .inl (cA, a0))])) (hV1 : va_S E.A S.s.heap H1 locs) (hL : L a = (.inr ty, m, kd)) (hk0 : kd 0 ≤ 2) {t0 : Nat} (ht0 : t0 < 6) (ht : (tyl E)[t0]? = some (E.cA ty, ty)) (hce : ∀ E' : Ey, ce E' (.inr ty, m, kd) (fun _ => 0) = .inl (E'.cA ty, a0)) (hls : ∀ v, some v ∈ ls → rin2 N v) (hst : ∀ v ∈ st, rin2 N v)
    (h : ∀ (S : Sx) (E : Ey), Kg S0 S l E L (N ++ [a]) cc own nL d mc ms E0 N0 → Cl L (N ++ [a]) (zrM g a) → J S (k + 1) (n + m) (zrM g a) pc' ls (.ref a :: st)) : W S.p S.l S.e S.R S.s S.m S.args S.below S.meth S.c H1 locs (k + 1) (n + m) S.Z (F0 S.m pc' la (.ref q :: st.map (mv S.E.ad))) := by
  have hcl' : Cl L (N ++ [a]) (zrM g a) := hcl.new ha (fun ci' m' kd' e j hj => by rw [hL] at e; cases e) (fun ty m kd e => by rw [hL] at e; cases e; exact hk0)
  have hS := hG.1
  have hE := hS.E_eq
  have hc : cA = E.cA ty := by
    have h1 := va_RA_nm (hK.2 6 (cA, ty) rfl).2
    have h2 := va_RA_nm (hK.2 t0 (E.cA ty, ty) (by rw [List.getElem?_append_left (show t0 < (tyl E).length from ht0)]; exact ht)).2
    exact Option.some.inj (h1.symm.trans h2)
  subst hc
  have x : Ext E (E.up a q) N := Ey.up_ext ha ha2
  have hro : Ro E S.s H1 := by
    have := hS.2.2.2.2.2.2.1
    rw [hE] at this
    exact this.kept hV1.2.1
  have hW1 : Wd (E.up a q) L (N ++ [a]) (zrM g a) S.s H1 := by
    refine hW.new1 hcl ha ha2 hP hD ?_ ?_ hro
    · rw [hL, hce]; rfl
    · have := hS.2.2.2.2.2.2.2.2.2.1
      rw [hE] at this
      exact Nat.le_trans this hV1.1
  have K := J_re2 hG (k' := k + 1) (n' := n + m) (pc' := pc') (st' := .ref a :: st) x (fun b hb => List.mem_append_left _ hb) hls hl hW1 (by rw [hE]; exact hV1) (fun S' hS' => h S' _ hS' hcl')
  rw [List.map_cons, st_ext2 x hst, show mv (E.up a q).ad (.ref a) = .ref q by show Value.ref (if a = a then q else E.ad a) = _; rw [if_pos rfl], ← hE] at K
  exact K
/-- newarray: int, boolean, long -/
theorem J_newA2 (hG : Kg S0 S l E L N cc own nL d mc ms E0 N0) (hcl : Cl L N g) {atype : ArrayType} {ty : FieldType} {m : Nat} {kd : Nat → Nat} {x : Int32} (a : Nat) (ha : a ∉ N) (ha2 : a < 1000) (hd : decode cc pc = .ok (.newarray atype, 2)) (hty : newarray.typeOf atype = ty) (hw : Cond.arrayClass ty ∈ gw) (hL : L a = (.inr ty, m, kd)) (hkd : (kd 0 = 0 ∧ (ty = .int ∨ ty = .boolean)) ∨ (kd 0 = 1 ∧ ty = .long)) (hx0 : ¬ x < 0) (hx : x.toNatClampNeg = m) (hm : m ≤ 100000) (hls : ∀ v, some v ∈ ls → rin2 N v) (hst : ∀ v ∈ st, rin2 N v) (hk : k + 1 ≤ mc) (hn : n + m ≤ ms)
    (h : ∀ (S : Sx) (E : Ey), Kg S0 S l E L (N ++ [a]) cc own nL d mc ms E0 N0 → Cl L (N ++ [a]) (zrM g a) → J S (k + 1) (n + m) (zrM g a) (pc + 2) ls (.ref a :: st)) : J S k n g pc ls (.int x :: st) := by
  intro H locs la hW hV hl
  have hS := hG.1
  have hE := hS.E_eq
  have hLq := hS.L_eq
  have hNq := hS.N_eq
  have hW' : Wd E L N g S.s H := by rw [hE, hLq, hNq] at hW; exact hW
  have hR := hG.R
  have hA : ∀ q, S.s.heap.size ≤ q → E.A q := fun q hq => Nat.le_trans (by have := hS.2.2.2.2.2.2.2.2.2.1; rw [hE] at this; exact this) hq
  have harr : (Cond.arrayClass (newarray.typeOf atype)).before S.args S.s = true := by rw [hty]; exact hS.2.2.2.1 _ hw
  rcases hkd with ⟨e0, ht | ht⟩ | ⟨e0, ht⟩
  · subst ht
    refine va_newa hS.1 hS.2.1 harr hty hW'.2.1 hW'.1 (wl_D hW'.2.2.1) (by rw [← hE]; exact hV) hA (a0 := (m, .inl fun _ => 0)) (fun cA => by rw [vp_cell_i]; rfl) hx0 hx (by show m * 4 ≤ _; omega) (by omega) (by omega) hd ?_
    intro q cA H1 hK hP hD hV1
    exact J_newX2 hG hcl ha ha2 hW' hl hK hP hD hV1 hL (by omega) (t0 := 0) (by decide) rfl (fun E' => ce_int e0) hls hst h
  · subst ht
    refine va_newa hS.1 hS.2.1 harr hty hW'.2.1 hW'.1 (wl_D hW'.2.2.1) (by rw [← hE]; exact hV) hA (a0 := (m, .inl fun _ => 0)) (fun cA => by rw [vp_cell_i]; rfl) hx0 hx (by show m * 1 ≤ _; omega) (by omega) (by omega) hd ?_
    intro q cA H1 hK hP hD hV1
    exact J_newX2 hG hcl ha ha2 hW' hl hK hP hD hV1 hL (by omega) (t0 := 1) (by decide) rfl (fun E' => ce_int e0) hls hst h
  · subst ht
    refine va_newa hS.1 hS.2.1 harr hty hW'.2.1 hW'.1 (wl_D hW'.2.2.1) (by rw [← hE]; exact hV) hA (a0 := (m, .inr (.inl fun _ => (0 : Int32).toInt64))) (fun cA => by rw [vp_cell_l]; rfl) hx0 hx (by show m * 8 ≤ _; omega) (by omega) (by omega) hd ?_
    intro q cA H1 hK hP hD hV1
    exact J_newX2 hG hcl ha ha2 hW' hl hK hP hD hV1 hL (by omega) (t0 := 2) (by decide) rfl (fun E' => ce_lng e0) hls hst h
/-- a constructor called -/
theorem J_callI2 (hG : Kg S0 S l E L N cc own nL d mc ms E0 N0) (hcl : Cl L N g) {idx maxL dC mc1 ms1 b : Nat} {y : MethodName} {bytes : ByteArray} {Q1 : List Nat → Mm → Prop} (hd : decode cc pc = .ok (.invokespecial idx, 3)) (hm : MI own idx y bytes maxL) (hb : b ∈ N) (hnl : nL = ls.length) (hdc : dC + 1 ≤ d) (hml : maxL ≤ 45) (hst : (st.map fun v => v.category).sum ≤ 8) (hk : k + mc1 ≤ mc) (hn : n + ms1 ≤ ms) (hls : ∀ v, some v ∈ ls → rin2 N v) (hst2 : ∀ v ∈ st, rin2 N v) (hpx : Px S.s) (hpm : ∀ u U : State, u.vm.Alike U.vm → Px u → Px U)
    (hc : CtG l E L N dC mc1 ms1 y b g Px Q1)
    (h : ∀ (S : Sx) (E : Ey) (N' : List Nat) (g' : Mm), Kg S0 S l E L N' cc own nL d mc ms E0 N0 → (∀ a ∈ N, a ∈ N') → Cl L N' g' → Q1 N' g' → J S (k + mc1) (n + ms1) g' (pc + 3) ls st) : J S k n g pc ls (.ref b :: st) := by
  intro H locs la hW hV hl
  have hS := hG.1
  have hE := hS.E_eq
  have hLq := hS.L_eq
  have hNq := hS.N_eq
  have hlq := hS.l_eq
  have hR := hG.R
  obtain ⟨m0, m1, m2, m3, m4, m5, m6⟩ := hm
  have hlc := hS.2.2.2.2.2.2.2.2.2.2.2.1
  have hfr := hS.2.2.2.2.2.2.2.2.2.2.1
  have hts := hS.2.2.2.1
  have hc' := hc (by rw [← hlq]; exact hS.2.2.2.2.2.2.2.2.1) hcl hb
  have hM : Met l y gw (rmD dC mc1 ms1) (fun v U => v = #[Value.ref (E.ad b)] ∧ Wd E L N g U U.heap ∧ Vw E U ∧ Px U) (Qg E L N Q1) mc1 ms1 E.A := by
    intro p e h1 h2 h3 s m args below h4 h5 h6 h7
    obtain ⟨n9, o, q1, q2, q3, q4⟩ := hc' p e h1 h2 h3 s m args below h4 h5 h6 h7
    refine ⟨n9, o, q1, q2, q3, ?_⟩
    rcases q4 with q4 | ⟨q, -, E9, ce, L9, q9, -⟩
    · exact q4
    · exact q9.elim
  have hbl : FrameBlind (fun (v : Array Value) (U : State) => v = #[Value.ref (E.ad b)] ∧ Wd E L N g U U.heap ∧ Vw E U ∧ Px U) :=
    fun a U gf mk h => ⟨h.1, h.2.1.moved (u := U) (U := U.calling gf mk a) (Vm.Alike.refl U.vm), h.2.2.1.same (u := U) (U := U.calling gf mk a) rfl, hpm U (U.calling gf mk a) (Vm.Alike.refl U.vm) h.2.2.2⟩
  have hpre : PreS S.s H (fun (v : Array Value) (U : State) => v = #[Value.ref (E.ad b)] ∧ Wd E L N g U U.heap ∧ Vw E U ∧ Px U) (.ref (E.ad b) :: []) := by
    refine ⟨hbl, fun U hU hWm => ⟨rfl, ?_, ?_, hpm _ _ hWm.alike hpx⟩⟩
    · rw [hU]; rw [hE, hLq, hNq] at hW; exact hW.moved hWm.alike
    · have := hS.2.2.2.2.2.2.2.1; rw [hE] at this; exact this.warm hWm
  have hrun : va_Run S.p S.l S.e S.R S.s S.m S.args S.below S.meth S.c H locs k n mc1 ms1 (F0 S.m pc la ((.ref b :: st).map (mv S.E.ad))) (st.map (mv S.E.ad)) (Qg E L N Q1 (Value.ref (E.ad b) :: []).toArray) E.A := by
    have hstk : (F0 S.m pc la ((.ref b :: st).map (mv S.E.ad))).stack = ([] : List Value).reverse ++ .ref (E.ad b) :: st.map (mv S.E.ad) := by rw [hE]; rfl
    have hcat : 2 * (F0 S.m pc la ((.ref b :: st).map (mv S.E.ad))).monitorRoom + ((st.map (mv S.E.ad)).map fun v => v.category).sum ≤ 8 := by
      show 2 * 0 + _ ≤ 8
      rw [cat_sum]; omega
    have hsz : (F0 S.m pc la ((.ref b :: st).map (mv S.E.ad))).locals.size = nL := by
      show la.size = nL
      rw [hl.1, hnl]
    have hroom : k + mc1 ≤ S.R.cells ∧ n + ms1 ≤ S.R.slots := ⟨by omega, by omega⟩
    rw [← hlq] at hM
    rcases m0 with m0 | ⟨host, m0⟩
    · refine va_runI (As := []) (n := 0) (Ts := gw) ⟨hS.1, hS.2.1, hS.2.2.2.2.1, hS.2.2.1, hts⟩ hM ⟨⟨rfl, rfl, Nat.le_trans hdc hfr, ?_, pay_in hts gw_good, m4, hts _ m4, hts _ m3, m5, len_of m6, hts _ m0⟩, m1, hts _ m2⟩ hpre rfl rfl hsz hstk hcat hd hroom
      show 8 + (maxL + 11) + 64 * dC ≤ S.R.locals
      omega
    · refine va_runIN (As := []) (n := 0) (Ts := gw) (host := host) ⟨hS.1, hS.2.1, hS.2.2.2.2.1, hS.2.2.1, hts⟩ hM ⟨⟨⟨rfl, rfl, Nat.le_trans hdc hfr, ?_, pay_in hts gw_good, m4⟩, hts _ m4, hts _ m3, m5, len_of m6, (hS.2.2.2.2.2.2.2.1.1 _ m0).use rfl⟩, m1, hts _ m2⟩ hpre rfl rfl hsz hstk hcat hd hroom
      show 8 + (maxL + 11) + 64 * dC ≤ S.R.locals
      omega
  intro T hT X
  obtain ⟨v, st₀, t, T', Lc, h0, X', hLc, e1, e2, ⟨ev, E', N', g', x, hN, hq, hcl2, hw⟩, stp⟩ := hrun T hT X
  have ev' : v = none := by injection ev
  subst ev'
  have hA : ∀ z ∈ locs ++ Lc, S.E.A z.base := fun z hz => (List.mem_append.mp hz).elim (hV.2.2 z) (fun q => by have := hLc z q; rw [hE]; exact this)
  have hal : t.vm.Alike S.s.vm := by rw [← e2]; exact X'.warmed.alike.symm
  have hw1 : Wd E' L N' g' S.s T'.heap := by rw [e1]; exact hw.moved hal
  have K := J_re2 hG (k' := k + mc1) (n' := n + ms1) (pc' := pc + 3) (st' := st) x hN hls hl hw1 (va_S_of X' hA) (fun S' hS' => h S' _ N' g' hS' hN hcl2 hq)
  rw [st_ext2 x hst2, ← hE] at K
  obtain ⟨t2, a1, b1⟩ := K T' rfl X'
  exact ⟨t2, stp t2 a1, b1⟩
end Grow

/-! THE LAW'S WRAPPERS: methods with a table of handlers -/
theorem Ct.mono {l : Launch} {E : Ey} {L : Nat → Ly} {N : List Nat} {d mc ms : Nat} {y : MethodName} {av : List Value} {g : Mm} {Q Q' : Option Value → Mm → Prop} {X X' : String → Mm → Prop} (h : Ct l E L N d mc ms y av g Q X) (hq : ∀ r g', Q r g' → Q' r g') (hx : ∀ C g', X C g' → X' C g') : Ct l E L N d mc ms y av g Q' X' := by
  intro htr p e h1 h2 h3 s m args below h4 h5 h6 h7
  obtain ⟨n9, o, q1, q2, q3, q4⟩ := h htr p e h1 h2 h3 s m args below h4 h5 h6 h7
  refine ⟨n9, o, q1, q2, q3, ?_⟩
  rcases q4 with ⟨⟨r, g', a1, a2, a3⟩, q5⟩ | ⟨q, a0, E9, ce, L9, ⟨g', a1, a2⟩, a3⟩
  · exact Or.inl ⟨⟨r, g', a1, hq r g' a2, a3⟩, q5⟩
  · exact Or.inr ⟨q, a0, E9, ce, L9, ⟨g', hx _ g' a1, a2⟩, a3⟩
/-- a static method with a table -/
def MSW (own : String) (idx : Nat) (y : MethodName) (bytes : ByteArray) (maxL : Nat) (ret : Option FieldType) (hh : List (Nat × Nat × Nat × Nat)) (np : Nat) : Prop :=
  Cond.methodLink own idx y ∈ gw ∧ Cond.static y ∈ gw ∧ Cond.initialized y.cls ∈ gw ∧ Cond.codeWith y bytes maxL ret hh ∈ gw ∧ (y.cls ≠ "java/lang/invoke/MethodHandle" ∧ y.cls ≠ "java/lang/invoke/VarHandle") ∧ (parseMethodDescriptor y.desc).map (fun d => d.parameters.length) = some np
section WrapRows
variable {S : Sx} {k n : Nat} {g : Mm} {pc : Nat} {ls : List (Option Value)} {st : List Value} {cc : ByteArray} {own : String} {nL d : Nat} {l : Launch} {E : Ey} {L : Nat → Ly} {N : List Nat}
theorem J_callSW (hS : Kx S l E L N cc own nL d) {idx maxL dC mc ms : Nat} {y : MethodName} {bytes : ByteArray} {ret : Option FieldType} {hh : List (Nat × Nat × Nat × Nat)} {av : List Value} {X' : String → Mm → Prop} (hd : decode cc pc = .ok (.invokestatic idx, 3)) (hm : MSW own idx y bytes maxL ret hh av.length) (hn : nL = ls.length) (hdc : dC + 1 ≤ d) (hml : maxL ≤ 45) (hst : (st.map fun v => v.category).sum ≤ 8) (hrm : k + mc ≤ S.R.cells ∧ n + ms ≤ S.R.slots)
    (hx : ∀ C g', X' C g' → JX S (k + mc) (n + ms) g' pc ls st C)
    (hc : Ct l E L N dC mc ms y av g (fun r g' => J S (k + mc) (n + ms) g' (pc + 3) ls (pu r st)) X') : J S k n g pc ls (av.reverse ++ st) := by
  intro H locs la hW hV hl
  obtain ⟨m1, m2, m3, m4, m5, m6⟩ := hm
  have hlc := hS.2.2.2.2.2.2.2.2.2.2.2.1
  have hfr := hS.2.2.2.2.2.2.2.2.2.2.1
  have hts := hS.2.2.2.1
  have hc' := hc (by rw [← hS.l_eq]; exact hS.2.2.2.2.2.2.2.2.1)
  refine J_back hS (a9 := (av.map (mv S.E.ad)).toArray) hV hl hx ?_
  have hE := hS.E_eq
  have hLq := hS.L_eq
  have hNq := hS.N_eq
  have hlq := hS.l_eq
  subst hE; subst hLq; subst hNq; subst hlq
  refine vx_runSX (As := av.map (mv S.E.ad)) (n := av.length) (Ts := gw) (hh := hh) ⟨hS.1, hS.2.1, hS.2.2.2.2.1, hS.2.2.1, hts⟩ hc' ⟨⟨rfl, rfl, Nat.le_trans hdc hfr, ?_, pay_in hts gw_good, m4⟩, hts _ m4, hts _ m3, m5, len_of m6, hts _ m1, hts _ m2⟩ ⟨Pc_blind, fun U hU hWm => ⟨rfl, by rw [hU]; exact hW.moved hWm.alike, hS.2.2.2.2.2.2.2.1.warm hWm⟩⟩ rfl (by simp) (by rw [show (F0 S.m pc la ((av.reverse ++ st).map (mv S.E.ad))).locals = la from rfl, hl.1, hn]) (by simp [List.map_reverse]) ?_ hd hrm
  · show 8 + (maxL + 11) + 64 * dC ≤ S.R.locals
    omega
  · show 2 * 0 + _ ≤ 8
    rw [cat_sum]; omega
/-- the entry of a method with a table -/
theorem Ct_ofH {mc ms : Nat} {y : MethodName} {av : List Value} {Q : Option Value → Mm → Prop} {X : String → Mm → Prop} {maxL : Nat} {ret : Option FieldType} {hh : List (Nat × Nat × Nat × Nat)} (hy : plainName y.cls = true) (hw : Cond.codeWith y cc maxL ret hh ∈ gw) (hc : ∀ v ∈ av, v.category = 1) (hn : av.length ≤ maxL)
    (body : ∀ S : Sx, Kx S l E L N cc y.cls maxL d → Zx S mc ms Q X → S.meth.sig.returnType = ret → S.c.exceptionTable.toList = tableOf hh → mc ≤ S.R.cells ∧ ms ≤ S.R.slots → J S 0 0 g 0 (av.map some ++ List.replicate (maxL - av.length) none) []) : Ct l E L N d mc ms y av g Q X := by
  intro htr
  refine MetFree.of_bodyS (code := cc) (maxLocals := maxL) (ret := ret) hy ?_ ?_
  · intro args s m h hn
    obtain ⟨m9, meth, c, hn9, h1, h2, h3, h4, -, h5, h6, -⟩ := Cond.codeWith_spec (atoms_spec (ws := gw) h _ hw)
    cases hn.symm.trans hn9
    exact ⟨meth, c, h1, h2, h3, h4, h5, h6⟩
  · intro p e s m args below meth c s₁ B hml hP _
    obtain ⟨rfl, hW, hVw⟩ := hP
    have hh0 : s₁.heap = s.heap := by rw [B.state]; rfl
    have hts := atoms_spec (ws := gw) B.pre
    have ht : c.exceptionTable.toList = tableOf hh := vx_table (x := y) B (hts _ hw)
    have K := body ((p, l, e, (headSpec gw (rmD d mc ms)).room, s), (m, (av.map (mv E.ad)).toArray, below, meth, c), (E, L, N), vx_MQ below (Qx E L N Q) (Xx E L N X) (av.map (mv E.ad)).toArray s mc ms E.A)
      ⟨B.exec, B.bytes, findClass_of_methodNamed B.named, hts, hml, B.notSynchronized, hW.2.2.2.2, hVw, htr, hW.2.2.2.1, Nat.le_refl _, Nat.le_refl _, rfl, rfl, rfl, rfl⟩ rfl B.returns ht ⟨Nat.le_refl _, Nat.le_refl _⟩
    have hcm : ∀ v ∈ av.map (mv E.ad), v.category = 1 := by
      intro v hv
      obtain ⟨w, hw1, hw2⟩ := List.mem_map.mp hv
      rw [← hw2, mv_cat]; exact hc w hw1
    have hlen := sl_len _ hcm
    have hent := lv_entry (av.map (mv E.ad)) (n := maxL) (by rw [hlen]; simpa using hn)
    have hlo : Lo E.ad ((lg_sl (av.map (mv E.ad)) ++ List.replicate (maxL - (lg_sl (av.map (mv E.ad))).length) Slot.unset).toArray) (av.map some ++ List.replicate (maxL - av.length) none) := by
      have key : ∀ (i : Nat) (v : Value), (av.map some ++ List.replicate (maxL - av.length) none)[i]? = some (some v) → av[i]? = some v := by
        intro i v h
        by_cases hi : i < av.length
        · rw [List.getElem?_append_left (by simpa using hi)] at h
          simpa using h
        · rw [List.getElem?_append_right (by simpa using hi)] at h
          simp [List.getElem?_replicate] at h
      refine ⟨?_, hent.2.1, fun i v h => ?_, fun i v h => hc v (List.mem_of_getElem? (key i v h))⟩
      · rw [hent.1]; simp; omega
      · have h1 := args_at (av.map (mv E.ad)) 0 hcm i (mv E.ad v) (by rw [List.getElem?_map, key i v h]; rfl)
        rw [Nat.zero_add] at h1
        exact hent.2.2 _ h1
    have K2 := K s.heap [] _ hW va_S.rf hlo s₁ hh0 (Stand.of_body B)
    rw [lg_entry_eq] at *
    obtain ⟨t, a1, o, b1, b2, b3⟩ := K2
    exact ⟨t, o, a1, b1, b2, b3⟩
/-- caught: the handler gives back a number -/
theorem JX_h2 {mc ms : Nat} {Q : Option Value → Mm → Prop} {X : String → Mm → Prop} (hS : Kx S l E L N cc own nL d) (hZ : Zx S mc ms Q X) (hr : S.meth.sig.returnType = some .int) {C : String} (pre : List ExceptionTableEntry) (x : ExceptionTableEntry) (suf : List ExceptionTableEntry) (hsplit : S.c.exceptionTable.toList = pre ++ x :: suf) (hpass : ∀ z ∈ pre, z.catchType ≠ 0 ∧ ∃ nm : String, Cond.classLink own z.catchType nm ∈ gw ∧ (C, nm) ∈ ncL) (hx : covers x pc = true) (h0 : x.catchType ≠ 0) (hlink : Cond.classLink own x.catchType C ∈ gw) (hcs : C ∈ csL) {i : Nat} {c : Int} {v : Int32} {h : Nat} (eh : x.handlerPc = h) (hd1 : decode cc h = .ok (.astore i, 2)) (hi : i < ls.length) (hd2 : decode cc (h + 2) = .ok (.iconst c, 1)) (hv : Int32.ofInt c = v) (hd3 : decode cc (h + 3) = .ok (.ireturn, 1)) (hk : k ≤ mc) (hn : n ≤ ms) (hq : Q (some (.int v)) g) : JX S k n g pc ls st C := by
  intro H locs la q ce hW hV hl hc1 hc2 hc3
  refine vx_catch (own := own) (name := C) (E := C) hS.2.2.1 pre x suf hsplit (fun z hz => Or.inr ?_) hx h0 (hS.2.2.2.1 _ hlink) ((hS.2.2.2.2.2.2.2.1.2.2.1 _ hcs).use rfl) hc1 hc2 hc3 ?_
  · obtain ⟨a1, nm, a2, a3⟩ := hpass z hz
    exact ⟨a1, nm, hS.2.2.2.1 _ a2, hS.2.2.2.2.2.2.2.1.2.2.2.2 _ a3⟩
  · rw [eh]
    refine lv_astore hS.1 hS.2.1 hd1 hl.has hi rfl (fun la' h' => ?_)
    refine lv_iconst hS.1 hS.2.1 hd2 hv ?_
    rw [hZ]
    refine vx_ret (W.widen (k := mc) (n := ms) hk hn ?_)
    exact W.iret hS.1 hS.2.1 hr (fun t ht hWm => ⟨some (.int v), g, rfl, hq, by rw [ht]; exact hW.moved hWm.alike⟩) hV.2.2 hd3 (hlocks := hS.2.2.2.2.2.1)
theorem JX_h1 {mc ms : Nat} {Q : Option Value → Mm → Prop} {X : String → Mm → Prop} (hS : Kx S l E L N cc own nL d) (hZ : Zx S mc ms Q X) (hr : S.meth.sig.returnType = some .int) {C : String} (pre : List ExceptionTableEntry) (x : ExceptionTableEntry) (suf : List ExceptionTableEntry) (hsplit : S.c.exceptionTable.toList = pre ++ x :: suf) (hpass : ∀ z ∈ pre, z.catchType ≠ 0 ∧ ∃ nm : String, Cond.classLink own z.catchType nm ∈ gw ∧ (C, nm) ∈ ncL) (hx : covers x pc = true) (h0 : x.catchType ≠ 0) (hlink : Cond.classLink own x.catchType C ∈ gw) (hcs : C ∈ csL) {i : Fin 4} {c : Int} {v : Int32} {h : Nat} (eh : x.handlerPc = h) (hd1 : decode cc h = .ok (.astore_n i, 1)) (hi : (i : Nat) < ls.length) (hd2 : decode cc (h + 1) = .ok (.iconst c, 1)) (hv : Int32.ofInt c = v) (hd3 : decode cc (h + 2) = .ok (.ireturn, 1)) (hk : k ≤ mc) (hn : n ≤ ms) (hq : Q (some (.int v)) g) : JX S k n g pc ls st C := by
  intro H locs la q ce hW hV hl hc1 hc2 hc3
  refine vx_catch (own := own) (name := C) (E := C) hS.2.2.1 pre x suf hsplit (fun z hz => Or.inr ?_) hx h0 (hS.2.2.2.1 _ hlink) ((hS.2.2.2.2.2.2.2.1.2.2.1 _ hcs).use rfl) hc1 hc2 hc3 ?_
  · obtain ⟨a1, nm, a2, a3⟩ := hpass z hz
    exact ⟨a1, nm, hS.2.2.2.1 _ a2, hS.2.2.2.2.2.2.2.1.2.2.2.2 _ a3⟩
  · rw [eh]
    refine lv_astore_n hS.1 hS.2.1 hd1 rfl hl.has hi rfl (fun la' h' => ?_)
    refine lv_iconst hS.1 hS.2.1 hd2 hv ?_
    rw [hZ]
    refine vx_ret (W.widen (k := mc) (n := ms) hk hn ?_)
    exact W.iret hS.1 hS.2.1 hr (fun t ht hWm => ⟨some (.int v), g, rfl, hq, by rw [ht]; exact hW.moved hWm.alike⟩) hV.2.2 hd3 (hlocks := hS.2.2.2.2.2.1)
end WrapRows

/-! CALLS, ENTRY, RETURNS, THROWS -/
section CallRows
variable {S : Sx} {k n : Nat} {g : Mm} {pc : Nat} {ls : List (Option Value)} {st : List Value} {cc : ByteArray} {own : String} {nL d : Nat} {l : Launch} {E : Ey} {L : Nat → Ly} {N : List Nat}
theorem len_of {y : MethodName} {np : Nat} (h : (parseMethodDescriptor y.desc).map (fun d => d.parameters.length) = some np) : ∀ sig, parseMethodDescriptor y.desc = some sig → np = sig.parameters.length := by
  intro sig hs
  rw [hs] at h
  exact (Option.some.inj h).symm
theorem Pc_blind {av : List Value} : FrameBlind (fun (v : Array Value) (U : State) => v = (av.map (mv E.ad)).toArray ∧ Wd E L N g U U.heap ∧ Vw E U) :=
  fun a U gf mk h => ⟨h.1, h.2.1.moved (u := U) (U := U.calling gf mk a) (Vm.Alike.refl U.vm), h.2.2.same (u := U) (U := U.calling gf mk a) rfl⟩
theorem cat_sum (ad : Nat → Nat) (st : List Value) : ((st.map (mv ad)).map fun v => v.category).sum = (st.map fun v => v.category).sum := by
  rw [List.map_map]; congr 1; apply List.map_congr_left; intro v _; exact mv_cat _ _
theorem va_S_of {p : Program} {l : Launch} {e : Env} {R : Room} {s : State} {m : MethodId} {args : Array Value} {below : List Frame} {meth : Method} {c : Code} {T : State} {locs : List Loc} {cells slots : Nat} {A : Nat → Prop} (X : Stand p l e R s m args below meth c T locs cells slots) (h : ∀ q ∈ locs, A q.base) : va_S A s.heap T.heap locs := by
  have hs : s.sameButNew ({ T with vm := s.vm } : State) locs cells slots := X.same
  obtain ⟨h1, h2⟩ := vx_frame hs
  exact ⟨h1, fun q hq ha => h2 q hq (fun z hz e => ha (by rw [← e]; exact h z hz)), h⟩
/-- behind a call: the two ways on -/
theorem J_back (hS : Kx S l E L N cc own nL d) {mc ms : Nat} {av : List Value} {X' : String → Mm → Prop} {H : Heap} {locs : List Loc} {la : Array Slot} {a9 : Array Value} (hV : va_S S.E.A S.s.heap H locs) (hl : Lo S.E.ad la ls)
    (hx : ∀ C g', X' C g' → JX S (k + mc) (n + ms) g' pc ls st C)
    (hr : vx_Run S.p S.l S.e S.R S.s S.m S.args S.below S.meth S.c H locs k n mc ms (F0 S.m pc la av) (st.map (mv S.E.ad)) (Qx E L N (fun r g' => J S (k + mc) (n + ms) g' (pc + 3) ls (pu r st)) a9) (Xx E L N X') S.E.A) :
    W S.p S.l S.e S.R S.s S.m S.args S.below S.meth S.c H locs k n S.Z (F0 S.m pc la av) := by
  have hE := hS.E_eq
  have hLq := hS.L_eq
  have hNq := hS.N_eq
  subst hE; subst hLq; subst hNq
  intro T hT X
  rcases hr T hT X with ⟨v, st₀, t, T', Lc, h0, X', hLc, e1, e2, ⟨r, g', hv, hq, hw⟩, stp⟩ | ⟨q, st₀, t, T', Lc, C, ce, h0, X', hLc, e1, e2, ⟨g', hq, hw⟩, hce, hcv, hcl, stp⟩
  · have hA : ∀ z ∈ locs ++ Lc, S.E.A z.base := fun z hz => (List.mem_append.mp hz).elim (hV.2.2 z) (hLc z)
    have hal : t.vm.Alike S.s.vm := by rw [← e2]; exact X'.warmed.alike.symm
    have hw1 : Wd S.E S.L S.N g' S.s T'.heap := by rw [e1]; exact hw.moved hal
    have hv' : v = r.map (mv S.E.ad) := by injection hv
    obtain ⟨t2, a1, b1⟩ := hq T'.heap (locs ++ Lc) la hw1 (va_S_of X' hA) hl T' rfl X'
    refine ⟨t2, stp t2 ?_, b1⟩
    subst hv'
    cases r with
    | none => exact a1
    | some w => exact a1
  · have hA : ∀ z ∈ locs ++ Lc, S.E.A z.base := fun z hz => (List.mem_append.mp hz).elim (hV.2.2 z) (hLc z)
    have hal : t.vm.Alike S.s.vm := by rw [← e2]; exact X'.warmed.alike.symm
    have hw1 : Wd S.E S.L S.N g' S.s T'.heap := by rw [e1]; exact hw.moved hal
    obtain ⟨t2, a1, b1⟩ := hx C g' hq T'.heap (locs ++ Lc) la q ce hw1 (va_S_of X' hA) hl (by rw [e1]; exact hce) hcv hcl T' rfl X'
    exact ⟨t2, stp.trans a1, b1⟩
theorem J_callS (hS : Kx S l E L N cc own nL d) {idx maxL dC mc ms : Nat} {y : MethodName} {bytes : ByteArray} {ret : Option FieldType} {av : List Value} {X' : String → Mm → Prop} (hd : decode cc pc = .ok (.invokestatic idx, 3)) (hm : MS own idx y bytes maxL ret av.length) (hn : nL = ls.length) (hdc : dC + 1 ≤ d) (hml : maxL ≤ 45) (hst : (st.map fun v => v.category).sum ≤ 8) (hrm : k + mc ≤ S.R.cells ∧ n + ms ≤ S.R.slots)
    (hx : ∀ C g', X' C g' → JX S (k + mc) (n + ms) g' pc ls st C)
    (hc : Ct l E L N dC mc ms y av g (fun r g' => J S (k + mc) (n + ms) g' (pc + 3) ls (pu r st)) X') : J S k n g pc ls (av.reverse ++ st) := by
  intro H locs la hW hV hl
  obtain ⟨m1, m2, m3, m4, m5, m6⟩ := hm
  have hlc := hS.2.2.2.2.2.2.2.2.2.2.2.1
  have hfr := hS.2.2.2.2.2.2.2.2.2.2.1
  have hts := hS.2.2.2.1
  have hc' := hc (by rw [← hS.l_eq]; exact hS.2.2.2.2.2.2.2.2.1)
  refine J_back hS (a9 := (av.map (mv S.E.ad)).toArray) hV hl hx ?_
  have hE := hS.E_eq
  have hLq := hS.L_eq
  have hNq := hS.N_eq
  have hlq := hS.l_eq
  subst hE; subst hLq; subst hNq; subst hlq
  refine vx_runS (As := av.map (mv S.E.ad)) (n := av.length) (Ts := gw) ⟨hS.1, hS.2.1, hS.2.2.2.2.1, hS.2.2.1, hts⟩ hc' ⟨⟨rfl, rfl, Nat.le_trans hdc hfr, ?_, pay_in hts gw_good, m4, hts _ m4, hts _ m3, m5, len_of m6, hts _ m1⟩, hts _ m2⟩ ⟨Pc_blind, fun U hU hWm => ⟨rfl, by rw [hU]; exact hW.moved hWm.alike, hS.2.2.2.2.2.2.2.1.warm hWm⟩⟩ rfl (by simp) (by rw [show (F0 S.m pc la ((av.reverse ++ st).map (mv S.E.ad))).locals = la from rfl, hl.1, hn]) (by simp [List.map_reverse]) ?_ hd hrm
  · show 8 + (maxL + 11) + 64 * dC ≤ S.R.locals
    omega
  · show 2 * 0 + _ ≤ 8
    rw [cat_sum]; omega
theorem J_callN (hS : Kx S l E L N cc own nL d) {idx maxL dC : Nat} {y : MethodName} {host : String} {bytes : ByteArray} {ret : Option FieldType} {av : List Value} (hd : decode cc pc = .ok (.invokestatic idx, 3)) (hm : MN own idx y host bytes maxL ret av.length) (hn : nL = ls.length) (hdc : dC + 1 ≤ d) (hml : maxL ≤ 45) (hst : (st.map fun v => v.category).sum ≤ 8) (hrm : k ≤ S.R.cells ∧ n ≤ S.R.slots)
    (hc : Ct l E L N dC 0 0 y av g (fun r g' => J S k n g' (pc + 3) ls (pu r st)) (fun _ _ => False)) : J S k n g pc ls (av.reverse ++ st) := by
  intro H locs la hW hV hl
  obtain ⟨m1, m2, m3, m4, m5, m6⟩ := hm
  have hlc := hS.2.2.2.2.2.2.2.2.2.2.2.1
  have hfr := hS.2.2.2.2.2.2.2.2.2.2.1
  have hts := hS.2.2.2.1
  have hc' := hc (by rw [← hS.l_eq]; exact hS.2.2.2.2.2.2.2.2.1)
  have hM : Met l y gw (rmD dC 0 0) (fun v U => v = (av.map (mv E.ad)).toArray ∧ Wd E L N g U U.heap ∧ Vw E U) (Qx E L N (fun r g' => J S k n g' (pc + 3) ls (pu r st))) 0 0 E.A := by
    intro p e h1 h2 h3 s m args below h4 h5 h6 h7
    obtain ⟨n9, o, q1, q2, q3, q4⟩ := hc' p e h1 h2 h3 s m args below h4 h5 h6 h7
    refine ⟨n9, o, q1, q2, q3, ?_⟩
    rcases q4 with q4 | ⟨q, -, E9, ce, L9, ⟨g9, q9, -⟩, -⟩
    · exact q4
    · exact q9.elim
  refine J_back hS (st := st) (mc := 0) (ms := 0) (a9 := (av.map (mv S.E.ad)).toArray) (X' := fun _ _ => False) hV hl (fun _ _ q => q.elim) ?_
  have hE := hS.E_eq
  have hLq := hS.L_eq
  have hNq := hS.N_eq
  have hlq := hS.l_eq
  subst hE; subst hLq; subst hNq; subst hlq
  have hR := va_runSN (As := av.map (mv S.E.ad)) (n := av.length) (Ts := gw) (host := host) (cells := k) (slots := n) (locs := locs) (H := H) (g := F0 S.m pc la ((av.reverse ++ st).map (mv S.E.ad))) (rest := st.map (mv S.E.ad)) (below := S.below) (meth := S.meth) (e := S.e) (R := S.R) ⟨hS.1, hS.2.1, hS.2.2.2.2.1, hS.2.2.1, hts⟩ hM ⟨⟨⟨rfl, rfl, Nat.le_trans hdc hfr, by show 8 + (maxL + 11) + 64 * dC ≤ S.R.locals; omega, pay_in hts gw_good, m4⟩, hts _ m4, hts _ m3, m5, len_of m6, (hS.2.2.2.2.2.2.2.1.1 _ m1).use rfl⟩, hts _ m2, trivial⟩ ⟨Pc_blind, fun U hU hWm => ⟨rfl, by rw [hU]; exact hW.moved hWm.alike, hS.2.2.2.2.2.2.2.1.warm hWm⟩⟩ rfl (by simp) (by rw [show (F0 S.m pc la ((av.reverse ++ st).map (mv S.E.ad))).locals = la from rfl, hl.1, hn]) (by simp [List.map_reverse]) (by show 2 * 0 + _ ≤ 8; rw [cat_sum]; omega) hd hrm
  intro T hT X
  obtain ⟨v, st₀, t, T', Lc, h0, X', hLc, e1, e2, hq, stp⟩ := hR T hT X
  exact Or.inl ⟨v, st₀, t, T', Lc, h0, X', hLc, e1, e2, hq, stp⟩
theorem J_callV (hS : Kx S l E L N cc own nL d) {idx ci b m9 maxL dC mc ms : Nat} {kd : Nat → Nat} {y : MethodName} {bytes : ByteArray} {ret : Option FieldType} {av : List Value} {X' : String → Mm → Prop} (hd : decode cc pc = .ok (.invokevirtual idx, 3)) (hm : MV own idx ci y bytes maxL ret av.length) (ho : Ob L N ci b m9 kd) (hn : nL = ls.length) (hdc : dC + 1 ≤ d) (hml : maxL ≤ 45) (hst : (st.map fun v => v.category).sum ≤ 8) (hrm : k + mc ≤ S.R.cells ∧ n + ms ≤ S.R.slots)
    (hx : ∀ C g', X' C g' → JX S (k + mc) (n + ms) g' pc ls st C)
    (hc : Ct l E L N dC mc ms y (.ref b :: av) g (fun r g' => J S (k + mc) (n + ms) g' (pc + 3) ls (pu r st)) X') : J S k n g pc ls (av.reverse ++ .ref b :: st) := by
  intro H locs la hW hV hl
  obtain ⟨m1, m2, m3, m4, m5, m6, m7, T9, m8, m10⟩ := hm
  have hlc := hS.2.2.2.2.2.2.2.2.2.2.2.1
  have hfr := hS.2.2.2.2.2.2.2.2.2.2.1
  have hts := hS.2.2.2.1
  have hc' := hc (by rw [← hS.l_eq]; exact hS.2.2.2.2.2.2.2.2.1)
  obtain ⟨i0, hi0, e⟩ := hS.at (g := g) ho.1
  rw [ho.2, ce_obj] at e
  have hrc := va_recv hW.2.1 hW.1 m10 e
  refine J_back hS (a9 := (Value.ref (S.E.ad b) :: av.map (mv S.E.ad)).toArray) hV hl hx ?_
  have hE := hS.E_eq
  have hLq := hS.L_eq
  have hNq := hS.N_eq
  have hlq := hS.l_eq
  subst hE; subst hLq; subst hNq; subst hlq
  refine vx_runV (As := av.map (mv S.E.ad)) (n := av.length) (Ts := gw) (C := y.cls) (b := S.E.ad b) ⟨hS.1, hS.2.1, hS.2.2.2.2.1, hS.2.2.1, hts⟩ hc' ⟨⟨rfl, rfl, Nat.le_trans hdc hfr, ?_, pay_in hts gw_good, m5, hts _ m5, hts _ m4, m6, len_of m7, hts _ m1⟩, hts _ m2, hts _ m3⟩ ⟨Pc_blind, hrc, fun U hU hWm => ⟨rfl, by rw [hU]; exact hW.moved hWm.alike, hS.2.2.2.2.2.2.2.1.warm hWm⟩⟩ rfl (by simp) (by rw [show (F0 S.m pc la ((av.reverse ++ .ref b :: st).map (mv S.E.ad))).locals = la from rfl, hl.1, hn]) (by simp [List.map_reverse, mv]) ?_ hd hrm
  · show 8 + (maxL + 11) + 64 * dC ≤ S.R.locals
    omega
  · show 2 * 0 + _ ≤ 8
    rw [cat_sum]; omega
theorem J_callS0 (hS : Kx S l E L N cc own nL d) {idx maxL dC mc ms : Nat} {y : MethodName} {bytes : ByteArray} {ret : Option FieldType} {X' : String → Mm → Prop} (hd : decode cc pc = .ok (.invokestatic idx, 3)) (hm : MS own idx y bytes maxL ret 0) (hn : nL = ls.length) (hdc : dC + 1 ≤ d) (hml : maxL ≤ 45) (hst : (st.map fun v => v.category).sum ≤ 8) (hrm : k + mc ≤ S.R.cells ∧ n + ms ≤ S.R.slots)
    (hx : ∀ C g', X' C g' → JX S (k + mc) (n + ms) g' pc ls st C)
    (hc : Ct l E L N dC mc ms y [] g (fun r g' => J S (k + mc) (n + ms) g' (pc + 3) ls (pu r st)) X') : J S k n g pc ls (st) := J_callS hS (av := []) hd hm hn hdc hml hst hrm hx hc
theorem J_callN0 (hS : Kx S l E L N cc own nL d) {idx maxL dC : Nat} {y : MethodName} {host : String} {bytes : ByteArray} {ret : Option FieldType} (hd : decode cc pc = .ok (.invokestatic idx, 3)) (hm : MN own idx y host bytes maxL ret 0) (hn : nL = ls.length) (hdc : dC + 1 ≤ d) (hml : maxL ≤ 45) (hst : (st.map fun v => v.category).sum ≤ 8) (hrm : k ≤ S.R.cells ∧ n ≤ S.R.slots)
    (hc : Ct l E L N dC 0 0 y [] g (fun r g' => J S k n g' (pc + 3) ls (pu r st)) (fun _ _ => False)) : J S k n g pc ls (st) := J_callN hS (av := []) hd hm hn hdc hml hst hrm hc
theorem J_callV0 (hS : Kx S l E L N cc own nL d) {idx ci b m9 maxL dC mc ms : Nat} {kd : Nat → Nat} {y : MethodName} {bytes : ByteArray} {ret : Option FieldType} {X' : String → Mm → Prop} (hd : decode cc pc = .ok (.invokevirtual idx, 3)) (hm : MV own idx ci y bytes maxL ret 0) (ho : Ob L N ci b m9 kd) (hn : nL = ls.length) (hdc : dC + 1 ≤ d) (hml : maxL ≤ 45) (hst : (st.map fun v => v.category).sum ≤ 8) (hrm : k + mc ≤ S.R.cells ∧ n + ms ≤ S.R.slots)
    (hx : ∀ C g', X' C g' → JX S (k + mc) (n + ms) g' pc ls st C)
    (hc : Ct l E L N dC mc ms y (.ref b :: []) g (fun r g' => J S (k + mc) (n + ms) g' (pc + 3) ls (pu r st)) X') : J S k n g pc ls (.ref b :: st) := J_callV hS (av := []) hd hm ho hn hdc hml hst hrm hx hc
theorem J_callS1 (hS : Kx S l E L N cc own nL d) {idx maxL dC mc ms : Nat} {y : MethodName} {bytes : ByteArray} {ret : Option FieldType} {v0 : Value} {X' : String → Mm → Prop} (hd : decode cc pc = .ok (.invokestatic idx, 3)) (hm : MS own idx y bytes maxL ret 1) (hn : nL = ls.length) (hdc : dC + 1 ≤ d) (hml : maxL ≤ 45) (hst : (st.map fun v => v.category).sum ≤ 8) (hrm : k + mc ≤ S.R.cells ∧ n + ms ≤ S.R.slots)
    (hx : ∀ C g', X' C g' → JX S (k + mc) (n + ms) g' pc ls st C)
    (hc : Ct l E L N dC mc ms y [v0] g (fun r g' => J S (k + mc) (n + ms) g' (pc + 3) ls (pu r st)) X') : J S k n g pc ls (v0 :: st) := J_callS hS (av := [v0]) hd hm hn hdc hml hst hrm hx hc
theorem J_callN1 (hS : Kx S l E L N cc own nL d) {idx maxL dC : Nat} {y : MethodName} {host : String} {bytes : ByteArray} {ret : Option FieldType} {v0 : Value} (hd : decode cc pc = .ok (.invokestatic idx, 3)) (hm : MN own idx y host bytes maxL ret 1) (hn : nL = ls.length) (hdc : dC + 1 ≤ d) (hml : maxL ≤ 45) (hst : (st.map fun v => v.category).sum ≤ 8) (hrm : k ≤ S.R.cells ∧ n ≤ S.R.slots)
    (hc : Ct l E L N dC 0 0 y [v0] g (fun r g' => J S k n g' (pc + 3) ls (pu r st)) (fun _ _ => False)) : J S k n g pc ls (v0 :: st) := J_callN hS (av := [v0]) hd hm hn hdc hml hst hrm hc
theorem J_callV1 (hS : Kx S l E L N cc own nL d) {idx ci b m9 maxL dC mc ms : Nat} {kd : Nat → Nat} {y : MethodName} {bytes : ByteArray} {ret : Option FieldType} {v0 : Value} {X' : String → Mm → Prop} (hd : decode cc pc = .ok (.invokevirtual idx, 3)) (hm : MV own idx ci y bytes maxL ret 1) (ho : Ob L N ci b m9 kd) (hn : nL = ls.length) (hdc : dC + 1 ≤ d) (hml : maxL ≤ 45) (hst : (st.map fun v => v.category).sum ≤ 8) (hrm : k + mc ≤ S.R.cells ∧ n + ms ≤ S.R.slots)
    (hx : ∀ C g', X' C g' → JX S (k + mc) (n + ms) g' pc ls st C)
    (hc : Ct l E L N dC mc ms y (.ref b :: [v0]) g (fun r g' => J S (k + mc) (n + ms) g' (pc + 3) ls (pu r st)) X') : J S k n g pc ls (v0 :: .ref b :: st) := J_callV hS (av := [v0]) hd hm ho hn hdc hml hst hrm hx hc
theorem J_callS2 (hS : Kx S l E L N cc own nL d) {idx maxL dC mc ms : Nat} {y : MethodName} {bytes : ByteArray} {ret : Option FieldType} {v0 v1 : Value} {X' : String → Mm → Prop} (hd : decode cc pc = .ok (.invokestatic idx, 3)) (hm : MS own idx y bytes maxL ret 2) (hn : nL = ls.length) (hdc : dC + 1 ≤ d) (hml : maxL ≤ 45) (hst : (st.map fun v => v.category).sum ≤ 8) (hrm : k + mc ≤ S.R.cells ∧ n + ms ≤ S.R.slots)
    (hx : ∀ C g', X' C g' → JX S (k + mc) (n + ms) g' pc ls st C)
    (hc : Ct l E L N dC mc ms y [v0, v1] g (fun r g' => J S (k + mc) (n + ms) g' (pc + 3) ls (pu r st)) X') : J S k n g pc ls (v1 :: v0 :: st) := J_callS hS (av := [v0, v1]) hd hm hn hdc hml hst hrm hx hc
theorem J_callN2 (hS : Kx S l E L N cc own nL d) {idx maxL dC : Nat} {y : MethodName} {host : String} {bytes : ByteArray} {ret : Option FieldType} {v0 v1 : Value} (hd : decode cc pc = .ok (.invokestatic idx, 3)) (hm : MN own idx y host bytes maxL ret 2) (hn : nL = ls.length) (hdc : dC + 1 ≤ d) (hml : maxL ≤ 45) (hst : (st.map fun v => v.category).sum ≤ 8) (hrm : k ≤ S.R.cells ∧ n ≤ S.R.slots)
    (hc : Ct l E L N dC 0 0 y [v0, v1] g (fun r g' => J S k n g' (pc + 3) ls (pu r st)) (fun _ _ => False)) : J S k n g pc ls (v1 :: v0 :: st) := J_callN hS (av := [v0, v1]) hd hm hn hdc hml hst hrm hc
theorem J_callV2 (hS : Kx S l E L N cc own nL d) {idx ci b m9 maxL dC mc ms : Nat} {kd : Nat → Nat} {y : MethodName} {bytes : ByteArray} {ret : Option FieldType} {v0 v1 : Value} {X' : String → Mm → Prop} (hd : decode cc pc = .ok (.invokevirtual idx, 3)) (hm : MV own idx ci y bytes maxL ret 2) (ho : Ob L N ci b m9 kd) (hn : nL = ls.length) (hdc : dC + 1 ≤ d) (hml : maxL ≤ 45) (hst : (st.map fun v => v.category).sum ≤ 8) (hrm : k + mc ≤ S.R.cells ∧ n + ms ≤ S.R.slots)
    (hx : ∀ C g', X' C g' → JX S (k + mc) (n + ms) g' pc ls st C)
    (hc : Ct l E L N dC mc ms y (.ref b :: [v0, v1]) g (fun r g' => J S (k + mc) (n + ms) g' (pc + 3) ls (pu r st)) X') : J S k n g pc ls (v1 :: v0 :: .ref b :: st) := J_callV hS (av := [v0, v1]) hd hm ho hn hdc hml hst hrm hx hc
theorem J_callS3 (hS : Kx S l E L N cc own nL d) {idx maxL dC mc ms : Nat} {y : MethodName} {bytes : ByteArray} {ret : Option FieldType} {v0 v1 v2 : Value} {X' : String → Mm → Prop} (hd : decode cc pc = .ok (.invokestatic idx, 3)) (hm : MS own idx y bytes maxL ret 3) (hn : nL = ls.length) (hdc : dC + 1 ≤ d) (hml : maxL ≤ 45) (hst : (st.map fun v => v.category).sum ≤ 8) (hrm : k + mc ≤ S.R.cells ∧ n + ms ≤ S.R.slots)
    (hx : ∀ C g', X' C g' → JX S (k + mc) (n + ms) g' pc ls st C)
    (hc : Ct l E L N dC mc ms y [v0, v1, v2] g (fun r g' => J S (k + mc) (n + ms) g' (pc + 3) ls (pu r st)) X') : J S k n g pc ls (v2 :: v1 :: v0 :: st) := J_callS hS (av := [v0, v1, v2]) hd hm hn hdc hml hst hrm hx hc
theorem J_callN3 (hS : Kx S l E L N cc own nL d) {idx maxL dC : Nat} {y : MethodName} {host : String} {bytes : ByteArray} {ret : Option FieldType} {v0 v1 v2 : Value} (hd : decode cc pc = .ok (.invokestatic idx, 3)) (hm : MN own idx y host bytes maxL ret 3) (hn : nL = ls.length) (hdc : dC + 1 ≤ d) (hml : maxL ≤ 45) (hst : (st.map fun v => v.category).sum ≤ 8) (hrm : k ≤ S.R.cells ∧ n ≤ S.R.slots)
    (hc : Ct l E L N dC 0 0 y [v0, v1, v2] g (fun r g' => J S k n g' (pc + 3) ls (pu r st)) (fun _ _ => False)) : J S k n g pc ls (v2 :: v1 :: v0 :: st) := J_callN hS (av := [v0, v1, v2]) hd hm hn hdc hml hst hrm hc
theorem J_callV3 (hS : Kx S l E L N cc own nL d) {idx ci b m9 maxL dC mc ms : Nat} {kd : Nat → Nat} {y : MethodName} {bytes : ByteArray} {ret : Option FieldType} {v0 v1 v2 : Value} {X' : String → Mm → Prop} (hd : decode cc pc = .ok (.invokevirtual idx, 3)) (hm : MV own idx ci y bytes maxL ret 3) (ho : Ob L N ci b m9 kd) (hn : nL = ls.length) (hdc : dC + 1 ≤ d) (hml : maxL ≤ 45) (hst : (st.map fun v => v.category).sum ≤ 8) (hrm : k + mc ≤ S.R.cells ∧ n + ms ≤ S.R.slots)
    (hx : ∀ C g', X' C g' → JX S (k + mc) (n + ms) g' pc ls st C)
    (hc : Ct l E L N dC mc ms y (.ref b :: [v0, v1, v2]) g (fun r g' => J S (k + mc) (n + ms) g' (pc + 3) ls (pu r st)) X') : J S k n g pc ls (v2 :: v1 :: v0 :: .ref b :: st) := J_callV hS (av := [v0, v1, v2]) hd hm ho hn hdc hml hst hrm hx hc
theorem J_callS4 (hS : Kx S l E L N cc own nL d) {idx maxL dC mc ms : Nat} {y : MethodName} {bytes : ByteArray} {ret : Option FieldType} {v0 v1 v2 v3 : Value} {X' : String → Mm → Prop} (hd : decode cc pc = .ok (.invokestatic idx, 3)) (hm : MS own idx y bytes maxL ret 4) (hn : nL = ls.length) (hdc : dC + 1 ≤ d) (hml : maxL ≤ 45) (hst : (st.map fun v => v.category).sum ≤ 8) (hrm : k + mc ≤ S.R.cells ∧ n + ms ≤ S.R.slots)
    (hx : ∀ C g', X' C g' → JX S (k + mc) (n + ms) g' pc ls st C)
    (hc : Ct l E L N dC mc ms y [v0, v1, v2, v3] g (fun r g' => J S (k + mc) (n + ms) g' (pc + 3) ls (pu r st)) X') : J S k n g pc ls (v3 :: v2 :: v1 :: v0 :: st) := J_callS hS (av := [v0, v1, v2, v3]) hd hm hn hdc hml hst hrm hx hc
theorem J_callN4 (hS : Kx S l E L N cc own nL d) {idx maxL dC : Nat} {y : MethodName} {host : String} {bytes : ByteArray} {ret : Option FieldType} {v0 v1 v2 v3 : Value} (hd : decode cc pc = .ok (.invokestatic idx, 3)) (hm : MN own idx y host bytes maxL ret 4) (hn : nL = ls.length) (hdc : dC + 1 ≤ d) (hml : maxL ≤ 45) (hst : (st.map fun v => v.category).sum ≤ 8) (hrm : k ≤ S.R.cells ∧ n ≤ S.R.slots)
    (hc : Ct l E L N dC 0 0 y [v0, v1, v2, v3] g (fun r g' => J S k n g' (pc + 3) ls (pu r st)) (fun _ _ => False)) : J S k n g pc ls (v3 :: v2 :: v1 :: v0 :: st) := J_callN hS (av := [v0, v1, v2, v3]) hd hm hn hdc hml hst hrm hc
theorem J_callV4 (hS : Kx S l E L N cc own nL d) {idx ci b m9 maxL dC mc ms : Nat} {kd : Nat → Nat} {y : MethodName} {bytes : ByteArray} {ret : Option FieldType} {v0 v1 v2 v3 : Value} {X' : String → Mm → Prop} (hd : decode cc pc = .ok (.invokevirtual idx, 3)) (hm : MV own idx ci y bytes maxL ret 4) (ho : Ob L N ci b m9 kd) (hn : nL = ls.length) (hdc : dC + 1 ≤ d) (hml : maxL ≤ 45) (hst : (st.map fun v => v.category).sum ≤ 8) (hrm : k + mc ≤ S.R.cells ∧ n + ms ≤ S.R.slots)
    (hx : ∀ C g', X' C g' → JX S (k + mc) (n + ms) g' pc ls st C)
    (hc : Ct l E L N dC mc ms y (.ref b :: [v0, v1, v2, v3]) g (fun r g' => J S (k + mc) (n + ms) g' (pc + 3) ls (pu r st)) X') : J S k n g pc ls (v3 :: v2 :: v1 :: v0 :: .ref b :: st) := J_callV hS (av := [v0, v1, v2, v3]) hd hm ho hn hdc hml hst hrm hx hc
theorem J_callS5 (hS : Kx S l E L N cc own nL d) {idx maxL dC mc ms : Nat} {y : MethodName} {bytes : ByteArray} {ret : Option FieldType} {v0 v1 v2 v3 v4 : Value} {X' : String → Mm → Prop} (hd : decode cc pc = .ok (.invokestatic idx, 3)) (hm : MS own idx y bytes maxL ret 5) (hn : nL = ls.length) (hdc : dC + 1 ≤ d) (hml : maxL ≤ 45) (hst : (st.map fun v => v.category).sum ≤ 8) (hrm : k + mc ≤ S.R.cells ∧ n + ms ≤ S.R.slots)
    (hx : ∀ C g', X' C g' → JX S (k + mc) (n + ms) g' pc ls st C)
    (hc : Ct l E L N dC mc ms y [v0, v1, v2, v3, v4] g (fun r g' => J S (k + mc) (n + ms) g' (pc + 3) ls (pu r st)) X') : J S k n g pc ls (v4 :: v3 :: v2 :: v1 :: v0 :: st) := J_callS hS (av := [v0, v1, v2, v3, v4]) hd hm hn hdc hml hst hrm hx hc
theorem J_callN5 (hS : Kx S l E L N cc own nL d) {idx maxL dC : Nat} {y : MethodName} {host : String} {bytes : ByteArray} {ret : Option FieldType} {v0 v1 v2 v3 v4 : Value} (hd : decode cc pc = .ok (.invokestatic idx, 3)) (hm : MN own idx y host bytes maxL ret 5) (hn : nL = ls.length) (hdc : dC + 1 ≤ d) (hml : maxL ≤ 45) (hst : (st.map fun v => v.category).sum ≤ 8) (hrm : k ≤ S.R.cells ∧ n ≤ S.R.slots)
    (hc : Ct l E L N dC 0 0 y [v0, v1, v2, v3, v4] g (fun r g' => J S k n g' (pc + 3) ls (pu r st)) (fun _ _ => False)) : J S k n g pc ls (v4 :: v3 :: v2 :: v1 :: v0 :: st) := J_callN hS (av := [v0, v1, v2, v3, v4]) hd hm hn hdc hml hst hrm hc
theorem J_callV5 (hS : Kx S l E L N cc own nL d) {idx ci b m9 maxL dC mc ms : Nat} {kd : Nat → Nat} {y : MethodName} {bytes : ByteArray} {ret : Option FieldType} {v0 v1 v2 v3 v4 : Value} {X' : String → Mm → Prop} (hd : decode cc pc = .ok (.invokevirtual idx, 3)) (hm : MV own idx ci y bytes maxL ret 5) (ho : Ob L N ci b m9 kd) (hn : nL = ls.length) (hdc : dC + 1 ≤ d) (hml : maxL ≤ 45) (hst : (st.map fun v => v.category).sum ≤ 8) (hrm : k + mc ≤ S.R.cells ∧ n + ms ≤ S.R.slots)
    (hx : ∀ C g', X' C g' → JX S (k + mc) (n + ms) g' pc ls st C)
    (hc : Ct l E L N dC mc ms y (.ref b :: [v0, v1, v2, v3, v4]) g (fun r g' => J S (k + mc) (n + ms) g' (pc + 3) ls (pu r st)) X') : J S k n g pc ls (v4 :: v3 :: v2 :: v1 :: v0 :: .ref b :: st) := J_callV hS (av := [v0, v1, v2, v3, v4]) hd hm ho hn hdc hml hst hrm hx hc
theorem J_callS6 (hS : Kx S l E L N cc own nL d) {idx maxL dC mc ms : Nat} {y : MethodName} {bytes : ByteArray} {ret : Option FieldType} {v0 v1 v2 v3 v4 v5 : Value} {X' : String → Mm → Prop} (hd : decode cc pc = .ok (.invokestatic idx, 3)) (hm : MS own idx y bytes maxL ret 6) (hn : nL = ls.length) (hdc : dC + 1 ≤ d) (hml : maxL ≤ 45) (hst : (st.map fun v => v.category).sum ≤ 8) (hrm : k + mc ≤ S.R.cells ∧ n + ms ≤ S.R.slots)
    (hx : ∀ C g', X' C g' → JX S (k + mc) (n + ms) g' pc ls st C)
    (hc : Ct l E L N dC mc ms y [v0, v1, v2, v3, v4, v5] g (fun r g' => J S (k + mc) (n + ms) g' (pc + 3) ls (pu r st)) X') : J S k n g pc ls (v5 :: v4 :: v3 :: v2 :: v1 :: v0 :: st) := J_callS hS (av := [v0, v1, v2, v3, v4, v5]) hd hm hn hdc hml hst hrm hx hc
theorem J_callN6 (hS : Kx S l E L N cc own nL d) {idx maxL dC : Nat} {y : MethodName} {host : String} {bytes : ByteArray} {ret : Option FieldType} {v0 v1 v2 v3 v4 v5 : Value} (hd : decode cc pc = .ok (.invokestatic idx, 3)) (hm : MN own idx y host bytes maxL ret 6) (hn : nL = ls.length) (hdc : dC + 1 ≤ d) (hml : maxL ≤ 45) (hst : (st.map fun v => v.category).sum ≤ 8) (hrm : k ≤ S.R.cells ∧ n ≤ S.R.slots)
    (hc : Ct l E L N dC 0 0 y [v0, v1, v2, v3, v4, v5] g (fun r g' => J S k n g' (pc + 3) ls (pu r st)) (fun _ _ => False)) : J S k n g pc ls (v5 :: v4 :: v3 :: v2 :: v1 :: v0 :: st) := J_callN hS (av := [v0, v1, v2, v3, v4, v5]) hd hm hn hdc hml hst hrm hc
theorem J_callV6 (hS : Kx S l E L N cc own nL d) {idx ci b m9 maxL dC mc ms : Nat} {kd : Nat → Nat} {y : MethodName} {bytes : ByteArray} {ret : Option FieldType} {v0 v1 v2 v3 v4 v5 : Value} {X' : String → Mm → Prop} (hd : decode cc pc = .ok (.invokevirtual idx, 3)) (hm : MV own idx ci y bytes maxL ret 6) (ho : Ob L N ci b m9 kd) (hn : nL = ls.length) (hdc : dC + 1 ≤ d) (hml : maxL ≤ 45) (hst : (st.map fun v => v.category).sum ≤ 8) (hrm : k + mc ≤ S.R.cells ∧ n + ms ≤ S.R.slots)
    (hx : ∀ C g', X' C g' → JX S (k + mc) (n + ms) g' pc ls st C)
    (hc : Ct l E L N dC mc ms y (.ref b :: [v0, v1, v2, v3, v4, v5]) g (fun r g' => J S (k + mc) (n + ms) g' (pc + 3) ls (pu r st)) X') : J S k n g pc ls (v5 :: v4 :: v3 :: v2 :: v1 :: v0 :: .ref b :: st) := J_callV hS (av := [v0, v1, v2, v3, v4, v5]) hd hm ho hn hdc hml hst hrm hx hc
end CallRows
theorem args_at : ∀ (vs : List Value) (i0 : Nat), (∀ v ∈ vs, v.category = 1) → ∀ (i : Nat) (v : Value), vs[i]? = some v → (i0 + i, v) ∈ lv_args i0 vs
  | [], _, _, i, v, h => by simp at h
  | w :: vs, i0, hc, i, v, h => by
    have h1 : w.category = 1 := hc w List.mem_cons_self
    have e : lv_args i0 (w :: vs) = (i0, w) :: lv_args (i0 + 1) vs := by simp [lv_args, h1]
    rw [e]
    cases i with
    | zero => simp at h; subst h; exact List.mem_cons_self
    | succ i =>
      refine List.mem_cons_of_mem _ ?_
      have := args_at vs (i0 + 1) (fun v hv => hc v (List.mem_cons_of_mem _ hv)) i v (by simpa using h)
      rw [show i0 + (i + 1) = i0 + 1 + i by omega]
      exact this
theorem sl_len : ∀ (vs : List Value), (∀ v ∈ vs, v.category = 1) → (lg_sl vs).length = vs.length
  | [], _ => rfl
  | w :: vs, hc => by
    have h1 : w.category = 1 := hc w List.mem_cons_self
    have ih := sl_len vs (fun v hv => hc v (List.mem_cons_of_mem _ hv))
    have e : lg_sl (w :: vs) = Slot.val w :: lg_sl vs := by simp [lg_sl, h1]
    rw [e]; simp [ih]
/-- THE ENTRY: a contract out of the walk of the body -/
theorem Ct_of {l : Launch} {E : Ey} {L : Nat → Ly} {N : List Nat} {d mc ms : Nat} {y : MethodName} {av : List Value} {g : Mm} {Q : Option Value → Mm → Prop} {X : String → Mm → Prop} {cc : ByteArray} {maxL : Nat} {ret : Option FieldType} (hy : plainName y.cls = true) (hw : Cond.code y cc maxL ret ∈ gw) (hc : ∀ v ∈ av, v.category = 1) (hn : av.length ≤ maxL)
    (body : ∀ S : Sx, Kx S l E L N cc y.cls maxL d → Zx S mc ms Q X → S.meth.sig.returnType = ret → (∀ x ∈ S.c.exceptionTable.toList, False) → mc ≤ S.R.cells ∧ ms ≤ S.R.slots → J S 0 0 g 0 (av.map some ++ List.replicate (maxL - av.length) none) []) : Ct l E L N d mc ms y av g Q X := by
  intro htr
  refine MetFree.of_bodyS (code := cc) (maxLocals := maxL) (ret := ret) hy ?_ ?_
  · intro args s m h hn
    obtain ⟨meth, c, h1, h2, h3, h4, h5, h6, -, -⟩ := Cond.code_spec hn (atoms_spec (ws := gw) h _ hw)
    exact ⟨meth, c, h1, h2, h3, h4, h5, h6⟩
  · intro p e s m args below meth c s₁ B hml hP _
    obtain ⟨rfl, hW, hVw⟩ := hP
    have hh0 : s₁.heap = s.heap := by rw [B.state]; rfl
    have hts := atoms_spec (ws := gw) B.pre
    have ht : ∀ x ∈ c.exceptionTable.toList, False := by
      obtain ⟨meth9, c9, h1, h2, -, -, -, -, h7, -⟩ := Cond.code_spec B.named (hts _ hw)
      cases Option.some.inj (h1.symm.trans B.method)
      cases Option.some.inj (h2.symm.trans (Stand.of_body B).code)
      intro x hx
      rw [Array.isEmpty_iff.mp h7] at hx
      cases hx
    have K := body ((p, l, e, (headSpec gw (rmD d mc ms)).room, s), (m, (av.map (mv E.ad)).toArray, below, meth, c), (E, L, N), vx_MQ below (Qx E L N Q) (Xx E L N X) (av.map (mv E.ad)).toArray s mc ms E.A)
      ⟨B.exec, B.bytes, findClass_of_methodNamed B.named, hts, hml, B.notSynchronized, hW.2.2.2.2, hVw, htr, hW.2.2.2.1, Nat.le_refl _, Nat.le_refl _, rfl, rfl, rfl, rfl⟩ rfl B.returns ht ⟨Nat.le_refl _, Nat.le_refl _⟩
    have hcm : ∀ v ∈ av.map (mv E.ad), v.category = 1 := by
      intro v hv
      obtain ⟨w, hw1, hw2⟩ := List.mem_map.mp hv
      rw [← hw2, mv_cat]; exact hc w hw1
    have hlen := sl_len _ hcm
    have hent := lv_entry (av.map (mv E.ad)) (n := maxL) (by rw [hlen]; simpa using hn)
    have hlo : Lo E.ad ((lg_sl (av.map (mv E.ad)) ++ List.replicate (maxL - (lg_sl (av.map (mv E.ad))).length) Slot.unset).toArray) (av.map some ++ List.replicate (maxL - av.length) none) := by
      have key : ∀ (i : Nat) (v : Value), (av.map some ++ List.replicate (maxL - av.length) none)[i]? = some (some v) → av[i]? = some v := by
        intro i v h
        by_cases hi : i < av.length
        · rw [List.getElem?_append_left (by simpa using hi)] at h
          simpa using h
        · rw [List.getElem?_append_right (by simpa using hi)] at h
          simp [List.getElem?_replicate] at h
      refine ⟨?_, hent.2.1, fun i v h => ?_, fun i v h => hc v (List.mem_of_getElem? (key i v h))⟩
      · rw [hent.1]; simp; omega
      · have h1 := args_at (av.map (mv E.ad)) 0 hcm i (mv E.ad v) (by rw [List.getElem?_map, key i v h]; rfl)
        rw [Nat.zero_add] at h1
        exact hent.2.2 _ h1
    have K2 := K s.heap [] _ hW va_S.rf hlo s₁ hh0 (Stand.of_body B)
    rw [lg_entry_eq] at *
    obtain ⟨t, a1, o, b1, b2, b3⟩ := K2
    exact ⟨t, o, a1, b1, b2, b3⟩
section EndRows
variable {S : Sx} {k n : Nat} {g : Mm} {pc : Nat} {ls : List (Option Value)} {st : List Value} {cc : ByteArray} {own : String} {nL d : Nat} {l : Launch} {E : Ey} {L : Nat → Ly} {N : List Nat} {mc ms : Nat} {Q : Option Value → Mm → Prop} {X : String → Mm → Prop}
theorem J_iret (hS : Kx S l E L N cc own nL d) (hZ : Zx S mc ms Q X) (hr : S.meth.sig.returnType = some .int) {v : Int32} (hd : decode cc pc = .ok (.ireturn, 1)) (hk : k ≤ mc) (hn : n ≤ ms) (h : Q (some (.int v)) g) : J S k n g pc ls [.int v] := by
  intro H locs la hW hV hl
  rw [hZ]
  refine vx_ret (W.widen (k := mc) (n := ms) hk hn ?_)
  exact W.iret hS.1 hS.2.1 hr (fun t ht hWm => ⟨some (.int v), g, rfl, h, by rw [ht]; exact hW.moved hWm.alike⟩) hV.2.2 hd (hlocks := hS.2.2.2.2.2.1)
theorem J_zret (hS : Kx S l E L N cc own nL d) (hZ : Zx S mc ms Q X) (hr : S.meth.sig.returnType = some .boolean) {v : Int32} (hd : decode cc pc = .ok (.ireturn, 1)) (hv : v = 0 ∨ v = 1) (hk : k ≤ mc) (hn : n ≤ ms) (h : Q (some (.int v)) g) : J S k n g pc ls [.int v] := by
  intro H locs la hW hV hl
  rw [hZ]
  refine vx_ret (W.widen (k := mc) (n := ms) hk hn ?_)
  exact W.zret hS.1 hS.2.1 hr (by rcases hv with e | e <;> subst e <;> rfl) (fun t ht hWm => ⟨some (.int v), g, rfl, h, by rw [ht]; exact hW.moved hWm.alike⟩) hV.2.2 hd (hlocks := hS.2.2.2.2.2.1)
theorem J_vret (hS : Kx S l E L N cc own nL d) (hZ : Zx S mc ms Q X) (hr : S.meth.sig.returnType = none) (hd : decode cc pc = .ok (.return_, 1)) (hk : k ≤ mc) (hn : n ≤ ms) (h : Q none g) : J S k n g pc ls [] := by
  intro H locs la hW hV hl
  rw [hZ]
  refine vx_ret (W.widen (k := mc) (n := ms) hk hn ?_)
  exact W.vret hS.1 hS.2.1 hr (fun t ht hWm => ⟨none, g, rfl, h, by rw [ht]; exact hW.moved hWm.alike⟩) hV.2.2 hd (hlocks := hS.2.2.2.2.2.1)
theorem J_aret (hS : Kx S l E L N cc own nL d) (hZ : Zx S mc ms Q X) {rt : FieldType} (hr : S.meth.sig.returnType = some rt) (hrt : (∃ C, rt = .object C) ∨ ∃ t, rt = .array t) {v : Value} (hv : v = .null ∨ ∃ a, v = .ref a) (hd : decode cc pc = .ok (.areturn, 1)) (hk : k ≤ mc) (hn : n ≤ ms) (h : Q (some v) g) : J S k n g pc ls [v] := by
  intro H locs la hW hV hl
  rw [hZ]
  refine vx_ret (W.widen (k := mc) (n := ms) hk hn ?_)
  exact W.aret hS.1 hS.2.1 hr hrt (by rcases hv with e | ⟨a, e⟩ <;> subst e; exact Or.inl rfl; exact Or.inr ⟨_, rfl⟩) (fun t ht hWm => ⟨some v, g, rfl, h, by rw [ht]; exact hW.moved hWm.alike⟩) hV.2.2 hd (hlocks := hS.2.2.2.2.2.1)
/-- an exception goes on to the caller -/
theorem JX_out (hS : Kx S l E L N cc own nL d) (hZ : Zx S mc ms Q X) (ht : ∀ x ∈ S.c.exceptionTable.toList, False) {C : String} (hk : k ≤ mc) (hn : n ≤ ms) (h : X C g) : JX S k n g pc ls st C := by
  intro H locs la q ce hW hV hl h1 h2 h3
  rw [hZ]
  exact vx_out (fun x hx => (ht x hx).elim) hS.2.2.2.2.2.1 h1 h2 h3 (fun t ht hWm => ⟨g, h, by rw [ht]; exact hW.moved hWm⟩) hV.2.2 hk hn
theorem J_mmax (hS : Kx S l E L N cc own nL d) {idx : Nat} {x y : Int32} (hd : decode cc pc = .ok (.invokestatic idx, 3)) (hw : Cond.methodLink own idx Lib.Math.max.name ∈ gw) (hst : Cond.static Lib.Math.max.name ∈ gw) (hini : Cond.initialized "java/lang/Math" ∈ gw) (hc : Cond.code Lib.Math.max.name Lib.Math.max.code 2 (some .int) ∈ gw) (hn : nL = ls.length) (hdp : 1 ≤ d) (hr : (st.map fun v => v.category).sum ≤ 8) (hrm : k ≤ S.R.cells ∧ n ≤ S.R.slots) (h : J S k n g (pc + 3) ls (.int (if x < y then y else x) :: st)) : J S k n g pc ls (.int y :: .int x :: st) := by
  intro H locs la hW hV hl
  have hlc := hS.2.2.2.2.2.2.2.2.2.2.2.1
  have hfr := hS.2.2.2.2.2.2.2.2.2.2.1
  exact va_mmax hS.1 hS.2.1 (by rw [hS.2.2.2.2.1, hl.1]; exact hn) hS.2.2.1 (hS.2.2.2.1 _ hw) (hS.2.2.2.1 _ hst) (hS.2.2.2.1 _ hini) (hS.2.2.2.1 _ hc) (Nat.le_trans hdp hfr) (by rw [cat_sum]; omega) hrm.1 hrm.2 hd (h H locs la hW hV hl)
theorem J_mmin (hS : Kx S l E L N cc own nL d) {idx : Nat} {x y : Int32} (hd : decode cc pc = .ok (.invokestatic idx, 3)) (hw : Cond.methodLink own idx Lib.Math.min.name ∈ gw) (hst : Cond.static Lib.Math.min.name ∈ gw) (hini : Cond.initialized "java/lang/Math" ∈ gw) (hc : Cond.code Lib.Math.min.name Lib.Math.min.code 2 (some .int) ∈ gw) (hn : nL = ls.length) (hdp : 1 ≤ d) (hr : (st.map fun v => v.category).sum ≤ 8) (hrm : k ≤ S.R.cells ∧ n ≤ S.R.slots) (h : J S k n g (pc + 3) ls (.int (if y < x then y else x) :: st)) : J S k n g pc ls (.int y :: .int x :: st) := by
  intro H locs la hW hV hl
  have hlc := hS.2.2.2.2.2.2.2.2.2.2.2.1
  have hfr := hS.2.2.2.2.2.2.2.2.2.2.1
  exact va_mmin hS.1 hS.2.1 (by rw [hS.2.2.2.2.1, hl.1]; exact hn) hS.2.2.1 (hS.2.2.2.1 _ hw) (hS.2.2.2.1 _ hst) (hS.2.2.2.1 _ hini) (hS.2.2.2.1 _ hc) (Nat.le_trans hdp hfr) (by rw [cat_sum]; omega) hrm.1 hrm.2 hd (h H locs la hW hV hl)
end EndRows

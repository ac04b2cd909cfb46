/-! THE START: the machine's words, turned into the world that the walks begin with -/
theorem start_E {args : Array Value} {s : State} {b : Nat} (hts : ∀ w ∈ lw_tbl, w.before args s = true) (hg : ∀ c ∈ fl_s, c.before args s = true) : ∃ E : Ey, E.N0 = s.heap.size ∧ E.ad 1500 = b ∧ va_K E.D vwCl (tyl E) s ∧ Ro E s s.heap ∧ Vw E s := by
  have hA : ∀ a : Nat, a < s.heap.size → ¬ (fun q : Nat => s.heap.size ≤ q) a := fun a h => Nat.not_le.mpr h
  have hgw : ∀ w ∈ gw, w.before args s = true := fun w hw => hts w (List.mem_filter.mp hw).1
  obtain ⟨c0, i0, k0⟩ := u_known (C := RX0) (T := TX0) (N := 4) (n := 4) hgw wX0 (hgw _ iz_0)
  obtain ⟨c1, i1, k1⟩ := u_known (C := RX1) (T := TX1) (N := 7) (n := 7) hgw wX1 (hgw _ iz_1)
  obtain ⟨c2, i2, k2⟩ := u_known (C := RX2) (T := TX2) (N := 9) (n := 9) hgw wX2 (hgw _ iz_2)
  obtain ⟨c3, i3, k3⟩ := u_known (C := RX3) (T := TX3) (N := 5) (n := 5) hgw wX3 (hgw _ iz_3)
  obtain ⟨c4, i4, k4⟩ := u_known (C := RX4) (T := TX4) (N := 4) (n := 4) hgw wX4 (hgw _ iz_4)
  obtain ⟨c5, i5, k5⟩ := u_known (C := RX5) (T := TX5) (N := 10) (n := 10) hgw wX5 (hgw _ iz_5)
  obtain ⟨c6, i6, k6⟩ := u_known (C := RX6) (T := TX6) (N := 17) (n := 17) hgw wX6 (hgw _ iz_6)
  obtain ⟨c7, i7, k7⟩ := u_known (C := RX7) (T := TX7) (N := 18) (n := 18) hgw wX7 (hgw _ iz_7)
  obtain ⟨c8, i8, k8⟩ := u_known (C := RX8) (T := TX8) (N := 56) (n := 56) hgw wX8 (hgw _ iz_8)
  obtain ⟨D, hD⟩ : ∃ D : va_G, ∀ (c : Nat) (q : vw_C), vwCl[c]? = some q → u_Kn s q.1 q.2.1 q.2.2 (D.1 c) (D.2 c) := by
    refine ⟨(fun c => [c0, c1, c2, c3, c4, c5, c6, c7, c8].getD c c0, fun c => [i0, i1, i2, i3, i4, i5, i6, i7, i8].getD c i0), fun c q hq => ?_⟩
    match c, hq with
    | 0, hq => cases hq; exact k0
    | 1, hq => cases hq; exact k1
    | 2, hq => cases hq; exact k2
    | 3, hq => cases hq; exact k3
    | 4, hq => cases hq; exact k4
    | 5, hq => cases hq; exact k5
    | 6, hq => cases hq; exact k6
    | 7, hq => cases hq; exact k7
    | 8, hq => cases hq; exact k8
    | c + 9, hq => simp [vwCl] at hq
  obtain ⟨a0, x0, y0⟩ := ka_1 (hgw _ ac_I)
  obtain ⟨a1, x1, y1⟩ := ka_1 (hgw _ ac_Z)
  obtain ⟨a2, x2, y2⟩ := ka_1 (hgw _ ac_J)
  have hpx := gp_all hts
  obtain ⟨a3, x3⟩ := ka_2 (va_AO.use (A := args) hpx.1)
  obtain ⟨a4, x4⟩ := ka_2 (va_AO.use (A := args) hpx.2.1)
  obtain ⟨a5, x5⟩ := ka_2 (va_AO.use (A := args) hpx.2.2)
  obtain ⟨cA, e0, e1, e2, e3, e4, e5⟩ : ∃ cA : FieldType → ClassId, cA .int = a0 ∧ cA .boolean = a1 ∧ cA .long = a2 ∧ cA (.object "YardTalk$World") = a3 ∧ cA (.object "YardTalk$Film") = a4 ∧ cA (.object "YardTalk$Law") = a5 :=
    ⟨fun ty => match ty with
      | .boolean => a1
      | .long => a2
      | .object C => if C = "YardTalk$World" then a3 else if C = "YardTalk$Film" then a4 else a5
      | _ => a0, rfl, rfl, rfl, if_pos rfl, by dsimp only; rw [if_neg (by decide), if_pos rfl], by dsimp only; rw [if_neg (by decide), if_neg (by decide)]⟩
  obtain ⟨r1, z1⟩ := gs_RO hts hg hA
  obtain ⟨r2, z2⟩ := gs_WI hts hg hA
  obtain ⟨r3, z3⟩ := gs_PL hts hg hA
  obtain ⟨u1, u2, r4, u3⟩ := gu_all hts hg hA
  obtain ⟨qW, hW⟩ := Classical.axiomOfChoice (gw_all hg hA)
  obtain ⟨aT, hT⟩ := Classical.axiomOfChoice (gt_all hg)
  obtain ⟨ad, d1, d2, d3, d4, d5, dK, dV, dT⟩ : ∃ ad : Nat → Nat, ad 1001 = r1 ∧ ad 1002 = r2 ∧ ad 1003 = r3 ∧ ad 1400 = r4 ∧ ad 1500 = b ∧ (∀ i, i < 16 → ad (1100 + i) = (qW i).1) ∧ (∀ i, i < 16 → ad (1200 + i) = (qW i).2) ∧ ∀ i, i < 22 → ad (1300 + i) = aT i := by
    refine ⟨fun n => if n = 1001 then r1 else if n = 1002 then r2 else if n = 1003 then r3 else if n = 1400 then r4 else if n = 1500 then b else if n < 1200 then (qW (n - 1100)).1 else if n < 1300 then (qW (n - 1200)).2 else aT (n - 1300), if_pos rfl, ?_, ?_, ?_, ?_, fun i hi => ?_, fun i hi => ?_, fun i hi => ?_⟩
    · dsimp only; rw [if_neg (by decide), if_pos rfl]
    · dsimp only; rw [if_neg (by decide), if_neg (by decide), if_pos rfl]
    · dsimp only; rw [if_neg (by decide), if_neg (by decide), if_neg (by decide), if_pos rfl]
    · dsimp only; rw [if_neg (by decide), if_neg (by decide), if_neg (by decide), if_neg (by decide), if_pos rfl]
    · dsimp only; rw [if_neg (by omega), if_neg (by omega), if_neg (by omega), if_neg (by omega), if_neg (by omega), if_pos (by omega), show 1100 + i - 1100 = i by omega]
    · dsimp only; rw [if_neg (by omega), if_neg (by omega), if_neg (by omega), if_neg (by omega), if_neg (by omega), if_neg (by omega), if_pos (by omega), show 1200 + i - 1200 = i by omega]
    · dsimp only; rw [if_neg (by omega), if_neg (by omega), if_neg (by omega), if_neg (by omega), if_neg (by omega), if_neg (by omega), if_neg (by omega), show 1300 + i - 1300 = i by omega]
  refine ⟨(D, cA, ad, s.heap.size), rfl, d5, ⟨hD, fun k q hk => ?_⟩, ⟨?_, ?_, ?_, u1, ⟨fun i hi => ?_, fun i j hi hj e => ?_⟩, u2, ?_⟩, gn_all hts, gr_all (A := fun q : Nat => s.heap.size ≤ q) hts hW hT dK dT, gc_all hts, gd_all hts, gx_all hg⟩
  · match k, hk with
    | 0, hk => cases hk; show ArrOfT s (cA .int) .int ∧ va_RA s (cA .int) .int; rw [e0]; exact ⟨x0, y0⟩
    | 1, hk => cases hk; show ArrOfT s (cA .boolean) .boolean ∧ va_RA s (cA .boolean) .boolean; rw [e1]; exact ⟨x1, y1⟩
    | 2, hk => cases hk; show ArrOfT s (cA .long) .long ∧ va_RA s (cA .long) .long; rw [e2]; exact ⟨x2, y2⟩
    | 3, hk => cases hk; show ArrOfT s (cA (.object "YardTalk$World")) (.object "YardTalk$World") ∧ va_RA s (cA (.object "YardTalk$World")) (.object "YardTalk$World"); rw [e3]; exact x3
    | 4, hk => cases hk; show ArrOfT s (cA (.object "YardTalk$Film")) (.object "YardTalk$Film") ∧ va_RA s (cA (.object "YardTalk$Film")) (.object "YardTalk$Film"); rw [e4]; exact x4
    | 5, hk => cases hk; show ArrOfT s (cA (.object "YardTalk$Law")) (.object "YardTalk$Law") ∧ va_RA s (cA (.object "YardTalk$Law")) (.object "YardTalk$Law"); rw [e5]; exact x5
    | k + 6, hk => simp [tyl] at hk
  · show va_Z _ _ _ (.ref (ad 1001)) _ s s.heap ∧ va_T .int (ad 1001) _ _ _ s s.heap
    rw [d1]; exact z1
  · show va_Z _ _ _ (.ref (ad 1002)) _ s s.heap ∧ va_T .int (ad 1002) _ _ _ s s.heap
    rw [d2]; exact z2
  · show va_Z _ _ _ (.ref (ad 1003)) _ s s.heap ∧ va_T .int (ad 1003) _ _ _ s s.heap
    rw [d3]; exact z3
  · show va_O _ (ad (1100 + i)) _ s s.heap ∧ va_OF _ _ _ _ (ad (1100 + i)) _ s s.heap ∧ va_OF _ _ _ (.ref (ad (1200 + i))) (ad (1100 + i)) _ s s.heap ∧ va_T .byte (ad (1200 + i)) _ _ _ s s.heap
    rw [dK i hi, dV i hi]
    exact (hW i hi).2
  · have e' : ad (1100 + i) = ad (1100 + j) := e
    rw [dK i hi, dK j hj] at e'
    exact wd_inj hi hj (hW i hi) (hW j hj) e'
  · show va_Z _ _ _ _ _ s s.heap ∨ va_Z _ _ _ (.ref (ad 1400)) _ s s.heap
    rw [d4]; exact u3
/-! THE CLAIM OUT OF ONE WALK OF THE LAW'S BODY. Your part is whole_start (and what it stands on); all else here is the same for every law, but numbers. -/
def R_law : String := "YardTalkLaw"
def lw_P (b : Addr) (xs : List Int32) (args : Array Value) (s : State) : Prop := args = #[.ref b] ∧ s.IntsAt b xs ∧ xs.length ≤ 3072 ∧ (Jvm.Cond.and given_1 narrow_1).before args s = true
def lw_Q (_ : Array Value) (s : State) (o : Outcome) (t : State) : Prop := o = .returned (some (.int 1)) ∧ Framed s o t [] 601024 7293034
def lw_Z (below : List Frame) (a : Array Value) (s : State) : State → Prop := fun t => ∃ o, t.status = .running ∧ Ended t below o ∧ lw_Q a s o t
/-- the law's own end, with 1 on the stack, nothing written that was there before, its room as the claim has it -/
theorem lw_ret {p : Program} {l : Launch} {e : Env} {s : State} {m : MethodId} {below : List Frame} {meth : Method} {c : Code} {b : Nat} (hx : p.tables.exec = Jvm.exec) (hb : c.code = code) (hr : meth.sig.returnType = ret) (hlocks : meth.locks = false) {pc : Nat} {H : Heap} {ls : Array Slot} (hdg : decode code pc = .ok (.ireturn, 1)) : W p l e room_1 s m #[Value.ref b] below meth c H [] 601024 7293034 (lw_Z below #[Value.ref b] s) (F0 m pc ls [.int 1]) := by
  intro T hT X
  obtain ⟨fs, hret, hrun, hended, hW, hframe⟩ := X.leave (v := some (.int 1)) (hlocks := hlocks) (fun h => by rw [hr] at h; cases h)
  have hmeth' : T.vm.method? m = some meth := X.method'
  refine ⟨T.setFrames fs, ?_, .returned (some (.int 1)), hrun, hended, rfl, ⟨_, rfl⟩, hW, hframe⟩
  jvm_step X.here [X.here.top, hx, hb, hdg, hmeth', hr, ret, narrow_b1]
  (try refine ⟨rfl, ?_⟩); (try refine ⟨rfl, ?_⟩)
  first | (intro acts; rw [hret _ acts rfl rfl rfl]) | rw [hret _ _ rfl rfl rfl]
  exact Steps.refl _
/-- what holds at the law's entry: the machine, the code, the tables' words (any of lw_tbl by 'hts w (by decide +kernel)'), the script of L ints xs at the cell b, what the Statement gives of the start (any of its parts by flat_of_before) -/
def lw_At (p : Program) (s : State) (m : MethodId) (meth : Method) (c : Code) (b L : Nat) (xs : Nat → Int32) : Prop :=
  p.tables.exec = Jvm.exec ∧ c.code = code ∧ meth.sig.returnType = ret ∧ c.maxLocals = 7 ∧ s.vm.findClass R_law = some m.cls ∧ (∀ w ∈ lw_tbl, w.before #[Value.ref b] s = true) ∧ va_X b L xs s s.heap ∧ b < s.heap.size ∧ meth.locks = false ∧ (Jvm.Cond.and given_1 narrow_1).before #[Value.ref b] s = true
set_option maxRecDepth 10000 in
theorem whole_start {p : Program} {e : Env} {s : State} {m : MethodId} {below : List Frame} {meth : Method} {c : Code} (l : Launch) (htr : l.stackTraces = false) {b L : Nat} {xs : Nat → Int32} (hL : L ≤ 3072) (C0 : lw_At p s m meth c b L xs) : W p l e room_1 s m #[Value.ref b] below meth c s.heap [] 0 0 (lw_Z below #[Value.ref b] s) (entryFrame m ([Value.ref b] : List Value).toArray 7) := by
  obtain ⟨hx, hb, hr, hml, hown, hts, hX, hbl, hlocks, hgv⟩ := C0
  obtain ⟨E, e0, e1, hK, hRo, hVw⟩ := start_E (b := b) hts (flat_of_before _ hgv)
  have hgw : ∀ w ∈ gw, w.before #[Value.ref b] s = true := fun w hw => hts w (List.mem_filter.mp hw).1
  have hle : E.N0 ≤ s.heap.size := Nat.le_of_eq e0
  have hG : Kg ((p, l, e, room_1, s), (m, #[Value.ref b], below, meth, c), (E, layG, []), lw_Z below #[Value.ref b] s) ((p, l, e, room_1, s), (m, #[Value.ref b], below, meth, c), (E, layG, []), lw_Z below #[Value.ref b] s) l E layG [] cL_law_ RL 7 1000 601024 7293034 E [] :=
    ⟨⟨hx, hb, hown, hgw, hml, hlocks, hRo, hVw, htr, hle, by show 1000 ≤ 2048; decide, by show 64 * 1000 ≤ 84000; decide, rfl, rfl, rfl, rfl⟩, rfl, ⟨Nat.le_refl _, Nat.le_refl _⟩, Ext.refl, fun _ h => h⟩
  have hSc : Sc ((p, l, e, room_1, s), (m, #[Value.ref b], below, meth, c), (E, layG, []), lw_Z below #[Value.ref b] s) L xs := by
    refine ⟨?_, ?_, ?_⟩
    · show va_X (E.ad 1500) L xs s s.heap
      rw [e1]; exact hX
    · show E.ad 1500 < s.heap.size
      rw [e1]; exact hbl
    · show ¬ E.2.2.2 ≤ E.ad 1500
      rw [e1, show E.2.2.2 = s.heap.size from e0]
      exact Nat.not_le.mpr hbl
  have K := law_start (g0 := fun _ _ => 0) hG (by decide) hSc hL (gp_all hts) (fun E' g j k n a b' x hS' h1 h2 => by
    refine J_iconst (v := 1) hS' dL_law__3144 (by decide) ?_
    intro H locs la hW hV hl
    refine va_forget (fun q hq => ?_) (W.widen (k := 601024) (n := 7293034) h1 h2 ?_)
    · have := hV.2.2 q hq
      have h3 : E'.2.2.2 ≤ q.base := this
      rw [x.2.2.1] at h3
      rw [← e0]
      exact h3
    · exact lw_ret hx hb hr hlocks dL_law__3145)
  have hent := lv_entry [Value.ref b] (n := 7) (Nat.le_of_ble_eq_true rfl)
  rw [lg_entry_eq]
  have hW0 : Wd E layG [] (fun _ _ => 0) s s.heap := ⟨fun k q h => by simp [wl] at h, hK, ⟨List.nodup_nil, fun i hi => absurd hi List.not_mem_nil, fun i hi => absurd hi List.not_mem_nil⟩, hle, hRo⟩
  refine K s.heap [] _ hW0 va_S.rf ?_
  have key : ∀ (i : Nat) (v : Value), ([some (Value.ref 1500), none, none, none, none, none, none] : List (Option Value))[i]? = some (some v) → i = 0 ∧ v = .ref 1500 := by
    intro i v h
    match i, h with
    | 0, h => simp at h; exact ⟨rfl, h.symm⟩
    | 1, h => cases h
    | 2, h => cases h
    | 3, h => cases h
    | 4, h => cases h
    | 5, h => cases h
    | 6, h => cases h
    | i + 7, h => cases h
  refine ⟨?_, hent.2.1, fun i v h => ?_, fun i v h => ?_⟩
  · rw [hent.1]; rfl
  · obtain ⟨rfl, rfl⟩ := key i v h
    show _ = some (Slot.val (.ref (E.ad 1500)))
    rw [e1]
    exact hent.2.2 (0, .ref b) (by simp [lv_args])
  · obtain ⟨rfl, rfl⟩ := key i v h
    rfl

/-! THE LAW: its beginning, the constructors called -/
theorem r2_0 {N : List Nat} : ∀ v, some v ∈ ([] : List (Option Value)) → rin2 N v := fun _ h => nomatch h
theorem r2_c {N : List Nat} {v : Value} {ls : List (Option Value)} (h : rin2 N v) (t : ∀ v, some v ∈ ls → rin2 N v) : ∀ w, some w ∈ some v :: ls → rin2 N w := fun w hw => by
  rcases List.mem_cons.mp hw with e | e
  · rw [Option.some.inj e]; exact h
  · exact t w e
theorem r2_n {N : List Nat} {ls : List (Option Value)} (t : ∀ v, some v ∈ ls → rin2 N v) : ∀ w, some w ∈ (none : Option Value) :: ls → rin2 N w := fun w hw => by
  rcases List.mem_cons.mp hw with e | e
  · cases e
  · exact t w e
theorem s2_0 {N : List Nat} : ∀ v ∈ ([] : List Value), rin2 N v := fun _ h => nomatch h
theorem s2_c {N : List Nat} {v : Value} {st : List Value} (h : rin2 N v) (t : ∀ v ∈ st, rin2 N v) : ∀ w ∈ v :: st, rin2 N w := fun w hw => by
  rcases List.mem_cons.mp hw with e | e
  · rw [e]; exact h
  · exact t w e
theorem r1500 {N : List Nat} : rin2 N (.ref 1500) := Or.inr (by decide)
theorem Kx_lay {S : Sx} {l : Launch} {E : Ey} {N : List Nat} {cc : ByteArray} {own : String} {nL d : Nat} (hS : Kx S l E layG N cc own nL d) : Kx (S.1, S.2.1, (E, lay, NC), S.Z) l E lay NC cc own nL d := by
  have hE := hS.E_eq
  obtain ⟨a1, a2, a3, a4, a5, a6, a7, a8, a9, a10, a11, a12, a13, a14, a15, a16⟩ := hS
  rw [hE] at a7 a8 a10
  exact ⟨a1, a2, a3, a4, a5, a6, a7, a8, a9, a10, a11, a12, rfl, rfl, rfl, a16⟩
theorem oY_n : ∀ c ∈ ordY, c ≠ 162 ∧ c ≠ 219 ∧ c < 162 := by decide +kernel
theorem oA_n : 219 ∉ (ordY ++ [162]) ++ ordM := by decide +kernel
theorem oY_8 : ∀ a, 163 ≤ a → a ≤ 218 → a ∉ ordY ++ [162] := fun a h1 h2 h => by
  rcases List.mem_append.mp h with e | e
  · have := (oY_n a e).2.2; omega
  · have := List.mem_singleton.mp e; omega
theorem o_1 : 1 ∈ ordY := by decide +kernel
theorem nc_in : ∀ a ∈ NC, a ∈ ((ordY ++ [162]) ++ ordM) ++ [219] := by decide +kernel
theorem pxY_m : ∀ u U : State, u.vm.Alike U.vm → pxY u → pxY U := fun _ _ hv h => ⟨va_AO.moved hv h.1, va_AO.moved hv h.2.1, va_AO.moved hv h.2.2⟩
theorem l219 : layG 219 = (.inr .long, 1, gA .long) := lg_a (kd := fun _ => 1) rfl
set_option maxRecDepth 10000 in
set_option maxHeartbeats 4000000 in
theorem law_start {S0 : Sx} {l : Launch} {E0 : Ey} {d n0 : Nat} {xs : Nat → Int32} {g0 : Mm} (hG : Kg S0 S0 l E0 layG [] cL_law_ RL 7 d 601024 7293034 E0 []) (hd : 100 ≤ d) (hX : Sc S0 n0 xs) (hn0 : n0 ≤ 3072) (hpx : pxY S0.s) (fin : ∀ (E : Ey) (g : Mm) (j k n : Nat) (a b : Option Value), Ext E0 E [] → Kx (S0.1, S0.2.1, (E, lay, NC), S0.Z) l E lay NC cL_law_ RL 7 d → k ≤ 601024 → n ≤ 7293034 → J (S0.1, S0.2.1, (E, lay, NC), S0.Z) k n g 3144 (lsL j a b) []) : J S0 0 0 g0 0 [some (.ref 1500), none, none, none, none, none, none] [] := by
  have hE0 := hG.1.E_eq
  have hR0 := hG.2.2.1
  refine J_newO2 hG (fun b hb => nomatch hb) 1 (fun h => nomatch h) (by decide) dL_law__0 noL_8 (lg_o ob1.2) (r2_c r1500 (r2_n (r2_n (r2_n (r2_n (r2_n (r2_n r2_0))))))) s2_0 (by decide) (by decide) (fun S E hG hcl => ?_)
  refine J_dup hG.1 dL_law__3 rfl ?_
  have i1 : 1 ∈ ([] ++ [1] : List Nat) := by decide
  refine J_callI2 (Px := pxY) hG hcl dL_law__4 miL_136 i1 rfl (by omega) (by decide) (by decide) (by decide) (by decide) (r2_c r1500 (r2_n (r2_n (r2_n (r2_n (r2_n (r2_n r2_0))))))) (s2_c (v := .ref 1) (Or.inl i1) s2_0) (by rw [hG.2.1]; exact hpx) pxY_m i_X7 (fun S E N' g1 hG hN hcl hq => ?_)
  obtain ⟨eN, hy⟩ := hq
  subst eN
  refine J_astore_n (lt := [some (.ref 1500), some (.ref 1), none, none, none, none, none]) hG.1 dL_law__7 (by decide) rfl ?_
  refine J_newO2 hG hcl 162 (fun h => (oY_n 162 h).1 rfl) (by decide) dL_law__8 noL_137 (lg_o ob162.2) (r2_c r1500 (r2_c (v := .ref 1) (Or.inl o_1) (r2_n (r2_n (r2_n (r2_n (r2_n r2_0))))))) s2_0 (by decide) (by decide) (fun S E hG hcl => ?_)
  refine J_dup hG.1 dL_law__11 rfl ?_
  have i2 : 162 ∈ ordY ++ [162] := List.mem_append_right _ List.mem_cons_self
  have i3 : 1 ∈ ordY ++ [162] := List.mem_append_left _ o_1
  refine J_callI2 (Px := fun _ => True) hG hcl dL_law__12 miL_139 i2 rfl (by omega) (by decide) (by decide) (by decide) (by decide) (r2_c r1500 (r2_c (v := .ref 1) (Or.inl i3) (r2_n (r2_n (r2_n (r2_n (r2_n r2_0))))))) (s2_c (v := .ref 162) (Or.inl i2) s2_0) trivial (fun _ _ _ _ => trivial) (i_X8 oY_8 zrM_at) (fun S E N' g2 hG hN hcl hq => ?_)
  obtain ⟨eN, hk2, hm⟩ := hq
  subst eN
  have i4 : 162 ∈ (ordY ++ [162]) ++ ordM := List.mem_append_left _ i2
  have i5 : 1 ∈ (ordY ++ [162]) ++ ordM := List.mem_append_left _ i3
  refine J_astore_n (lt := [some (.ref 1500), some (.ref 1), some (.ref 162), none, none, none, none]) hG.1 dL_law__15 (by decide) rfl ?_
  refine J_iconst (v := 1) hG.1 dL_law__16 (by decide) ?_
  refine J_newA2 hG hcl 219 oA_n (by decide) dL_law__17 rfl ac_J l219 (Or.inr ⟨rfl, rfl⟩) (by decide) (by decide) (by decide) (r2_c r1500 (r2_c (v := .ref 1) (Or.inl i5) (r2_c (v := .ref 162) (Or.inl i4) (r2_n (r2_n (r2_n (r2_n r2_0))))))) s2_0 (by decide) (by decide) (fun S E hG hcl => ?_)
  refine J_astore_n (lt := [some (.ref 1500), some (.ref 1), some (.ref 162), some (.ref 219), none, none, none]) hG.1 dL_law__19 (by decide) rfl ?_
  refine J_iconst (v := 0) hG.1 dL_law__20 (by decide) ?_
  refine J_istore (lt := fun z => [some (.ref 1500), some (.ref 1), some (.ref 162), some (.ref 219), some (.int z), none, none]) hG.1 dL_law__21 (Nat.le_of_ble_eq_true rfl) (fun _ => rfl) (fun z ez => ?_)
  have ez' : z = nI (6 * 0) := ez
  subst ez'
  have hy4 : YF ordY (zrM g2 219) := hy.fr (fun c hc => by
    obtain ⟨h1, h2, h3⟩ := oY_n c hc
    rw [zrM_ne h2, hk2 c (List.mem_append_left _ hc) h1, zrM_ne h1])
  have hm4 : MF (zrM g2 219) := hm.fr (fun c h1 h2 => zrM_ne (by omega))
  have hS2 := Kx_lay hG.1
  have eS := hG.2.1
  have x : Ext E0 E [] := hG.2.2.2.1
  have e1 : S.1 = S0.1 := by rw [eS]; rfl
  have e2 : S.2.1 = S0.2.1 := by rw [eS]; rfl
  have e3 : S.Z = S0.Z := by rw [eS]; rfl
  rw [e1, e2, e3] at hS2
  have hX2 : Sc (S0.1, S0.2.1, (E, lay, NC), S0.Z) n0 xs := by
    have ea : E.ad 1500 = S0.E.ad 1500 := by rw [hE0]; exact x.2.2.2.2 1500 (by decide)
    refine ⟨?_, ?_, ?_⟩
    · show va_X (E.ad 1500) n0 xs S0.s S0.s.heap
      rw [ea]; exact hX.1
    · show E.ad 1500 < S0.s.heap.size
      rw [ea]; exact hX.2.1
    · show ¬ E.A (E.ad 1500)
      rw [ea, x.A, ← hE0]; exact hX.2.2
  intro H locs la hW hV hl
  have hE := hG.1.E_eq
  have hLq := hG.1.L_eq
  have hNq := hG.1.N_eq
  rw [hE, hLq, hNq] at hW
  rw [hE] at hV hl
  have es : S.s = S0.s := by rw [eS]; rfl
  rw [es] at hW hV
  have K := law_loop (K := 189) (M := 129168) hS2 hd hX2 hn0 (Nat.le_trans (by decide) hR0.1) (Nat.le_trans (by decide) hR0.2) (fun g j k n a b h1 h2 => fin E g j k n a b x hS2 (by omega) (by omega)) 513 0 (zrM g2 219) 189 129168 none none rfl (by decide) (by decide) (Iv_0 hy4 hm4) H locs la (Wd_lay hW nc_in hy4 hm4) hV hl
  rw [eS]
  exact K

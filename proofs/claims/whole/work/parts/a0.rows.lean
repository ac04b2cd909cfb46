/-! THE LAW: rows of its own -/
/-- the script: L ints xs, at the address of 1500 -/
def Sc (S : Sx) (L : Nat) (xs : Nat → Int32) : Prop := va_X (S.E.ad 1500) L xs S.s S.s.heap ∧ S.E.ad 1500 < S.s.heap.size ∧ ¬ S.E.A (S.E.ad 1500)
abbrev lsL (j : Nat) (a b : Option Value) : List (Option Value) := [some (.ref 1500), some (.ref 1), some (.ref 162), some (.ref 219), some (.int (nI j)), a, b]
section LawRows
variable {S : Sx} {k n : Nat} {g : Mm} {pc : Nat} {ls : List (Option Value)} {st : List Value} {cc : ByteArray} {own : String} {nL d : Nat} {l : Launch} {E : Ey} {L : Nat → Ly} {N : List Nat} {n0 j : Nat} {xs : Nat → Int32}
theorem J_sld (hS : Kx S l E L N cc own nL d) (hX : Sc S n0 xs) {i : Int32} (m : Nat) (hd : decode cc pc = .ok (.iaload, 1)) (e : i = nI m) (hm : m < n0) (hn : n0 < 2 ^ 31) (h : J S k n g (pc + 1) ls (.int (xs m) :: st)) : J S k n g pc ls (.int i :: .ref 1500 :: st) := by
  intro H locs la hW hV hl
  refine va_sld hS.1 hS.2.1 hX.1 hX.2.1 hX.2.2 hV (vpi m e hm hn) hd ?_
  rw [cl_nI m e (by omega)]
  exact h H locs la hW hV hl
theorem J_slen (hS : Kx S l E L N cc own nL d) (hX : Sc S n0 xs) (hd : decode cc pc = .ok (.arraylength, 1)) (h : J S k n g (pc + 1) ls (.int (nI n0) :: st)) : J S k n g pc ls (.ref 1500 :: st) := by
  intro H locs la hW hV hl
  exact va_slen hS.1 hS.2.1 hX.1 hX.2.1 hX.2.2 hV hd (h H locs la hW hV hl)
/-- script[i + q] -/
theorem J_arg (hS : Kx S l E L N cc own nL d) (hX : Sc S n0 xs) (q : Nat) {c : Int} (d0 : decode cc pc = .ok (.aload_n 0, 1)) (d1 : decode cc (pc + 1) = .ok (.iload 4, 2)) (d2 : decode cc (pc + 3) = .ok (.iconst c, 1)) (d3 : decode cc (pc + 4) = .ok (.iadd, 1)) (d4 : decode cc (pc + 5) = .ok (.iaload, 1)) (hc : Int32.ofInt c = nI q) (h0 : ls[0]? = some (some (.ref 1500))) (h4 : ls[4]? = some (some (.int (nI j)))) (hj : j + q < n0) (hn : n0 < 2 ^ 31) (h : J S k n g (pc + 6) ls (.int (xs (j + q)) :: st)) : J S k n g pc ls st := by
  refine J_aload_n hS d0 h0 ?_
  refine J_iload hS d1 h4 ?_
  refine J_iconst (v := nI q) hS d2 hc ?_
  refine J_iadd hS d3 ?_
  exact J_sld hS hX (j + q) d4 (nI_add j q) hj hn h
theorem cmp_eq (x : Int64) : lg_cmp x x = 0 := by
  unfold lg_cmp
  rw [if_neg (Int64.lt_irrefl), if_pos rfl]
end LawRows
section LawTail
variable {S : Sx} {k n : Nat} {g : Mm} {pc : Nat} {cc : ByteArray} {own : String} {d : Nat} {l : Launch} {E : Ey} {j : Nat}
/-- behind both calls: thrown by both alike, and, thrown by none, answered alike -/
theorem J_tail (hS : Kx S l E lay NC cc own 7 d) (hd : 100 ≤ d) (hk : k ≤ S.R.cells) (hn : n ≤ S.R.slots) {idx maxL : Nat} {bytes : ByteArray} {o1 o2 o3 o4 : Int} (d0 : decode cc pc = .ok (.aload_n 2, 1)) (d1 : decode cc (pc + 1) = .ok (.invokevirtual idx, 3)) (hm : MV own idx 8 yX8_thrown bytes maxL (some .int) 0) (hml : maxL ≤ 45) (d4 : decode cc (pc + 4) = .ok (.iload 5, 2)) (d6 : decode cc (pc + 6) = .ok (.if_icmp .eq o1, 3)) (t1 : ((pc + 6 : Nat) : Int) + o1 = ((pc + 11 : Nat) : Int)) (d11 : decode cc (pc + 11) = .ok (.iload 5, 2)) (d13 : decode cc (pc + 13) = .ok (.ifCond .ne o2, 3)) (t2 : ((pc + 13 : Nat) : Int) + o2 = ((pc + 28 : Nat) : Int)) (d16 : decode cc (pc + 16) = .ok (.aload_n 3, 1)) (d17 : decode cc (pc + 17) = .ok (.iconst 0, 1)) (d18 : decode cc (pc + 18) = .ok (.laload, 1)) (d19 : decode cc (pc + 19) = .ok (.iload 6, 2)) (d21 : decode cc (pc + 21) = .ok (.i2l, 1)) (d22 : decode cc (pc + 22) = .ok (.lcmp, 1)) (d23 : decode cc (pc + 23) = .ok (.ifCond .eq o3, 3)) (t3 : ((pc + 23 : Nat) : Int) + o3 = ((pc + 28 : Nat) : Int)) (d28 : decode cc (pc + 28) = .ok (.goto o4, 3)) (t4 : ((pc + 28 : Nat) : Int) + o4 = ((3138 : Nat) : Int))
    {kk b : Int32} (ht : g 162 0 = kk) (hb : kk = 0 → b = g 219 0) (h : J S k n g 3138 (lsL j (some (.int kk)) (some (.int b))) []) : J S k n g pc (lsL j (some (.int kk)) (some (.int b))) [] := by
  have fin : J S k n g (pc + 28) (lsL j (some (.int kk)) (some (.int b))) [] := J_goto hS d28 t4 h
  refine J_aload_n hS d0 rfl ?_
  refine J_callV0 (X' := fun _ _ => False) hS d1 hm ob162 rfl (by omega) hml (by decide) ⟨hk, hn⟩ (fun _ _ q => q.elim) (m_thrown ?_)
  show J S k n g (pc + 4) (lsL j (some (.int kk)) (some (.int b))) [.int (g 162 0)]
  refine J_iload hS d4 rfl ?_
  refine J_icmp_eq hS d6 t1 (fun _ => ?_) (fun c => absurd ht c)
  refine J_iload hS d11 rfl ?_
  refine J_if_ne hS d13 t2 (fun _ => fin) (fun c => ?_)
  refine J_aload_n hS d16 rfl ?_
  refine J_iconst (v := 0) hS d17 (by decide) ?_
  refine J_lald hS d18 al219 (vpi 0 rfl (by decide) (by decide)) ?_
  show J S k n g (pc + 18 + 1) (lsL j (some (.int kk)) (some (.int b))) [.long (g 219 0).toInt64]
  refine J_iload hS d19 rfl ?_
  refine J_i2l hS d21 ?_
  refine J_lcmp hS d22 ?_
  rw [hb c, cmp_eq]
  rw [← hb c]
  exact J_if_eq hS d23 t3 (fun _ => fin) (fun c => absurd rfl c)
end LawTail
/-- holds: the answer is 0 or 1 -/
def NxZ (l : Launch) (E : Ey) (d : Nat) (y : MethodName) (av : List Value) (k : Int32) (G : Mm) : Prop := ∀ (Q : Option Value → Mm → Prop) (X : String → Mm → Prop), (∀ (g' : Mm) (b : Int32), Iv g' → g' 162 0 = k → (k = 0 → b = g' 219 0) → (k = 0 → b = 0 ∨ b = 1) → Q (some (.int b)) g') → Ct l E lay NC d 0 0 y av G Q X
theorem k1' {p : Prop} : ((1 : Int32) = 0 → p) := fun e => absurd e (by decide)
theorem k2' {p : Prop} : ((2 : Int32) = 0 → p) := fun e => absurd e (by decide)
section Pairs
variable {l : Launch} {E : Ey} {g : Mm} {Q : Option Value → Mm → Prop} {X : String → Mm → Prop}
theorem p_holds2 {c o : Int32} (hI : Iv g) (q : ∀ k' G, NxZ l E 4 yX8_holds [.ref 162, .int c, .int o] k' G → Q (some (.int k')) G) : Ct l E lay NC 9 1 6 yL_holds [.ref 1, .int c, .int o, .ref 219] g Q X := by
  obtain ⟨z, n, Ls, tb, fc, ic, fr, wf, h⟩ := hI
  have hn := h.hn
  refine w_holds (c_holds h.2.1.1 h.lw' h.hn h.g6 (fun e => Or.inl ⟨rfl, q 1 g (fun Q' X' q' => m_holds h.ri h.rule (fun _ g' f t => q' g' _ (iv_z h f) t k1 k1') (fun e1 _ => absurd e e1) (fun i j hi hc _ _ => absurd e (nu hi (by omega) hc)))⟩) (fun e1 e2 => Or.inr ⟨rfl, q 2 g (fun Q' X' q' => m_holds h.ri h.rule (fun e => absurd e e1) (fun _ _ g' f t => q' g' _ (iv_z h f) t k2 k2') (fun i j hi hc hj hp => absurd e2 (nu hj (by decide) hp)))⟩) (fun i j hi hc hj hp G r hG r1 r2 => ⟨_, rfl, q 0 _ (fun Q' X' q' => ?_)⟩))
  have h2 := (h.ask (FrQ2.c (g' := G) (fun z z1 z2 z3 z4 => hG z (by omega) (by omega) (by omega)))).ask (FrQ2.o (v := if r = 0 then 0 else 1))
  refine m_holds h2.ri h2.rule (fun e => absurd e (nu hi (by omega) hc)) (fun _ e => absurd e (nu hj (by decide) hp)) (fun i' j' hi' hc' hj' hp' g' r' f t s1 s2 => q' g' _ (iv_z h2 f) t (fun _ => ?_) (fun _ => s1))
  rw [o219 f]
  rw [← ieq hc hc' (by omega) (by omega), ← ieq hp hp' (by omega) (by omega), hldB_iff, ← h.ew] at s2
  rcases r1 with e | e
  · rw [if_pos e]
    rcases s1 with e' | e'
    · exact e'
    · exact absurd (r2.mpr (s2.mp e')) (by rw [e]; decide)
  · rw [if_neg (by rw [e]; decide)]
    exact s2.mpr (r2.mp e)
end Pairs

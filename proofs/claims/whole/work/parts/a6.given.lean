/-! WHAT THE STATEMENT GIVES of the start -/
def fl_s : List Cond := flatC (Jvm.Cond.and given_1 narrow_1)
theorem fz_s {args : Array Value} {s : State} (h : ∀ c ∈ fl_s, c.before args s = true) (k : Nat) {c : Cond} (e : fl_s[k]? = some c) : c.before args s = true := h _ (List.mem_of_getElem? e)
theorem tz_s {args : Array Value} {s : State} (h : ∀ w ∈ lw_tbl, w.before args s = true) (k : Nat) {w : Cond} (e : tables_1[k]? = some w) : w.before args s = true := h _ (List.mem_append_right _ (List.mem_of_getElem? e))
theorem ka_1 {args : Array Value} {s : State} {ty : FieldType} (h : (Cond.arrayClass ty).before args s = true) : ∃ c : ClassId, ArrOfT s c ty ∧ s.vm.findClass ("[" ++ ty.toString) = some c := by
  obtain ⟨c, k, comp, h1, h2, h3⟩ := Cond.arrayClass_spec h
  exact ⟨c, fun n z => ⟨fun k h => (by cases h), k, h2, comp, h3⟩, h1⟩
theorem ka_2 {args : Array Value} {s : State} {C : String} (h : (Cond.arrayOver (.object C)).before args s = true) : ∃ c : ClassId, ArrOfT s c (.object C) ∧ va_RA s c (.object C) := by
  obtain ⟨comp, c, k, h1, h2, h3, h4, h5⟩ := Cond.arrayOver_spec h
  exact ⟨c, fun n z => ⟨fun k h => (by cases h), k, h3, comp, h4⟩, k, comp, h3, h4, h1, h5⟩
theorem sa_s {args : Array Value} {s : State} {C n : String} {N : Nat} {f : Nat → Int32} {A : Nat → Prop} (hN : N < 2 ^ 31) (hl : (Cond.laysStatic C n "[I").before args s = true) (hini : (Cond.initialized C).before args s = true) (harr : (Cond.arrayOf (.static C n "[I") .int).before args s = true) (hlen : (Cond.eq (.length (.static C n "[I")) (.int (Int32.ofNat N))).before args s = true) (hel : ∀ j, j < N → (Cond.eq (.elem (.static C n "[I") (.int (Int32.ofNat j))) (.int (f j))).before args s = true) (hA : ∀ a : Nat, a < s.heap.size → ¬ A a) : ∃ t : Nat, va_Z C n "[I" (.ref t) A s s.heap ∧ va_T .int t N (fun j => .int (f j)) A s s.heap := by
  obtain ⟨t, ht, hT⟩ := va_Tof (f := fun j => .int (f j)) hN harr (va_eqt hlen) (fun j hj => va_eqt (hel j hj)) hA
  exact ⟨t, va_Zof hl hini ht hA, hT⟩
/-- a word of the laws, as a String of the start -/
def WdS (args : Array Value) (s : State) (A : Nat → Prop) (k i : Nat) (q : Nat × Nat) : Prop := (Term.string "YardTalk$LawReader" k).eval args s none [] s = some (.ref q.1) ∧ va_O "java/lang/String" q.1 A s s.heap ∧ va_OF "java/lang/String" "coder" "B" (.int 0) q.1 A s s.heap ∧ va_OF "java/lang/String" "value" "[B" (.ref q.2) q.1 A s s.heap ∧ va_T .byte q.2 (wdLen.getD i 0) (fun j => .int ((wdByt.getD i []).getD j 0)) A s s.heap
theorem wd_s {args : Array Value} {s : State} {A : Nat → Prop} {k i : Nat} (hN : wdLen.getD i 0 < 2 ^ 31) (hex : (Cond.exactly (.string "YardTalk$LawReader" k) "java/lang/String").before args s = true) (hco : (Cond.eq (.field (.string "YardTalk$LawReader" k) "java/lang/String" "coder" "B") (.int 0)).before args s = true)
    (har : (Cond.arrayOf (.field (.string "YardTalk$LawReader" k) "java/lang/String" "value" "[B") .byte).before args s = true) (hle : (Cond.eq (.length (.field (.string "YardTalk$LawReader" k) "java/lang/String" "value" "[B")) (.int (Int32.ofNat (wdLen.getD i 0)))).before args s = true)
    (hel : ∀ j, j < wdLen.getD i 0 → (Cond.eq (.elem (.field (.string "YardTalk$LawReader" k) "java/lang/String" "value" "[B") (.int (Int32.ofNat j))) (.int ((wdByt.getD i []).getD j 0))).before args s = true) (hA : ∀ a : Nat, a < s.heap.size → ¬ A a) : ∃ q : Nat × Nat, WdS args s A k i q := by
  obtain ⟨a, c, cA, kA, q1, q2, q3, q4, q5, q6, -⟩ := Cond.exactly_spec (args := args) (first := s) (o := none) (s := s) (idx := []) hex
  obtain ⟨t, ht, hT⟩ := va_Tof (f := fun j => .int ((wdByt.getD i []).getD j 0)) (A := A) hN har (va_eqt hle) (fun j hj => va_eqt (hel j hj)) hA
  exact ⟨(a, t), q1, ⟨cA, q3, q5, by rw [q6]; exact q2, hA a (Array.getElem?_eq_some_iff.mp q3).1⟩, vk_OFof q1 (va_eqt hco) hA, vk_OFof q1 ht hA, hT⟩
theorem wd_dif : ∀ i, i < 16 → ∀ j, j < 16 → wdLen.getD i 0 = wdLen.getD j 0 → (∀ k, k < wdLen.getD i 0 → (wdByt.getD i []).getD k 0 = (wdByt.getD j []).getD k 0) → i = j := by decide +kernel
theorem wd_lt : ∀ i, i < 16 → wdLen.getD i 0 < 100 := by decide
theorem wd_inj {args : Array Value} {s : State} {A : Nat → Prop} {k k' i j : Nat} {q q' : Nat × Nat} (hi : i < 16) (hj : j < 16) (h : WdS args s A k i q) (h' : WdS args s A k' j q') (e : q.1 = q'.1) : i = j := by
  obtain ⟨-, -, -, ⟨cf, kc, x, f, cell, a1, -, a3, -, a5, -⟩, ⟨c2, b1, -, -, -, b5, b6, -⟩⟩ := h
  obtain ⟨-, -, -, ⟨cf', kc', x', f', cell', a1', -, a3', -, a5', -⟩, ⟨c2', b1', -, -, -, b5', b6', -⟩⟩ := h'
  rw [← e] at a3'
  cases a1.symm.trans a1'
  cases a3.symm.trans a3'
  have ev : q.2 = q'.2 := by
    have := a5.symm.trans a5'
    injection this with t1
    injection t1
  rw [← ev] at b1'
  cases b1.symm.trans b1'
  have l1 := wd_lt i hi
  have l2 := wd_lt j hj
  have el : wdLen.getD i 0 = wdLen.getD j 0 := (nI_eq (by omega) (by omega)).mp (b5.symm.trans b5')
  refine wd_dif i hi j hj el (fun k hk => ?_)
  have t1 := (b6 k hk).symm.trans (b6' k (by rw [← el]; exact hk))
  injection t1 with t2
  injection t2
section Given
variable {args : Array Value} {s : State} {A : Nat → Prop}
set_option maxRecDepth 100000 in
theorem ge_RO (h : ∀ c ∈ fl_s, c.before args s = true) : ∀ j, j < 18 → (Cond.eq (.elem (.static "YardTalk" "ROLES" "[I") (.int (Int32.ofNat j))) (.int (zRO j))).before args s = true := fun j hj => by
  match j, hj with
  | 0, _ => exact fz_s h 7 (by rfl)
  | 1, _ => exact fz_s h 8 (by rfl)
  | 2, _ => exact fz_s h 9 (by rfl)
  | 3, _ => exact fz_s h 10 (by rfl)
  | 4, _ => exact fz_s h 11 (by rfl)
  | 5, _ => exact fz_s h 12 (by rfl)
  | 6, _ => exact fz_s h 13 (by rfl)
  | 7, _ => exact fz_s h 14 (by rfl)
  | 8, _ => exact fz_s h 15 (by rfl)
  | 9, _ => exact fz_s h 16 (by rfl)
  | 10, _ => exact fz_s h 17 (by rfl)
  | 11, _ => exact fz_s h 18 (by rfl)
  | 12, _ => exact fz_s h 19 (by rfl)
  | 13, _ => exact fz_s h 20 (by rfl)
  | 14, _ => exact fz_s h 21 (by rfl)
  | 15, _ => exact fz_s h 22 (by rfl)
  | 16, _ => exact fz_s h 23 (by rfl)
  | 17, _ => exact fz_s h 24 (by rfl)
  | q + 18, hj => exact absurd hj (by omega)
set_option maxRecDepth 100000 in
theorem gs_RO (hts : ∀ w ∈ lw_tbl, w.before args s = true) (h : ∀ c ∈ fl_s, c.before args s = true) (hA : ∀ a : Nat, a < s.heap.size → ¬ A a) : ∃ t : Nat, va_Z "YardTalk" "ROLES" "[I" (.ref t) A s s.heap ∧ va_T .int t 18 (fun j => .int (zRO j)) A s s.heap := sa_s (by decide) (tz_s hts 464 (by rfl)) (tz_s hts 1 (by rfl)) (fz_s h 5 (by rfl)) (fz_s h 6 (by rfl)) (ge_RO h) hA
set_option maxRecDepth 100000 in
theorem ge_WI (h : ∀ c ∈ fl_s, c.before args s = true) : ∀ j, j < 4 → (Cond.eq (.elem (.static "YardTalk$Ruling" "WITHOUT" "[I") (.int (Int32.ofNat j))) (.int (zWI j))).before args s = true := fun j hj => by
  match j, hj with
  | 0, _ => exact fz_s h 28 (by rfl)
  | 1, _ => exact fz_s h 29 (by rfl)
  | 2, _ => exact fz_s h 30 (by rfl)
  | 3, _ => exact fz_s h 31 (by rfl)
  | q + 4, hj => exact absurd hj (by omega)
set_option maxRecDepth 100000 in
theorem gs_WI (hts : ∀ w ∈ lw_tbl, w.before args s = true) (h : ∀ c ∈ fl_s, c.before args s = true) (hA : ∀ a : Nat, a < s.heap.size → ¬ A a) : ∃ t : Nat, va_Z "YardTalk$Ruling" "WITHOUT" "[I" (.ref t) A s s.heap ∧ va_T .int t 4 (fun j => .int (zWI j)) A s s.heap := sa_s (by decide) (tz_s hts 547 (by rfl)) (tz_s hts 5 (by rfl)) (fz_s h 26 (by rfl)) (fz_s h 27 (by rfl)) (ge_WI h) hA
set_option maxRecDepth 100000 in
theorem ge_PL (h : ∀ c ∈ fl_s, c.before args s = true) : ∀ j, j < 18 → (Cond.eq (.elem (.static "YardTalkModel" "PLACES" "[I") (.int (Int32.ofNat j))) (.int (zRO j))).before args s = true := fun j hj => by
  match j, hj with
  | 0, _ => exact fz_s h 42 (by rfl)
  | 1, _ => exact fz_s h 43 (by rfl)
  | 2, _ => exact fz_s h 44 (by rfl)
  | 3, _ => exact fz_s h 45 (by rfl)
  | 4, _ => exact fz_s h 46 (by rfl)
  | 5, _ => exact fz_s h 47 (by rfl)
  | 6, _ => exact fz_s h 48 (by rfl)
  | 7, _ => exact fz_s h 49 (by rfl)
  | 8, _ => exact fz_s h 50 (by rfl)
  | 9, _ => exact fz_s h 51 (by rfl)
  | 10, _ => exact fz_s h 52 (by rfl)
  | 11, _ => exact fz_s h 53 (by rfl)
  | 12, _ => exact fz_s h 54 (by rfl)
  | 13, _ => exact fz_s h 55 (by rfl)
  | 14, _ => exact fz_s h 56 (by rfl)
  | 15, _ => exact fz_s h 57 (by rfl)
  | 16, _ => exact fz_s h 58 (by rfl)
  | 17, _ => exact fz_s h 59 (by rfl)
  | q + 18, hj => exact absurd hj (by omega)
set_option maxRecDepth 100000 in
theorem gs_PL (hts : ∀ w ∈ lw_tbl, w.before args s = true) (h : ∀ c ∈ fl_s, c.before args s = true) (hA : ∀ a : Nat, a < s.heap.size → ¬ A a) : ∃ t : Nat, va_Z "YardTalkModel" "PLACES" "[I" (.ref t) A s s.heap ∧ va_T .int t 18 (fun j => .int (zRO j)) A s s.heap := sa_s (by decide) (tz_s hts 1706 (by rfl)) (tz_s hts 9 (by rfl)) (fz_s h 40 (by rfl)) (fz_s h 41 (by rfl)) (ge_PL h) hA
set_option maxRecDepth 100000 in
theorem gw_0 (h : ∀ c ∈ fl_s, c.before args s = true) (hA : ∀ a : Nat, a < s.heap.size → ¬ A a) : ∃ q : Nat × Nat, WdS args s A 108 0 q := by
  refine wd_s (by decide) (fz_s h 317 (by rfl)) (fz_s h 318 (by rfl)) (fz_s h 319 (by rfl)) (fz_s h 320 (by rfl)) (fun j hj => ?_) hA
  have hj : j < 5 := hj
  match j, hj with
  | 0, _ => exact fz_s h 321 (by rfl)
  | 1, _ => exact fz_s h 322 (by rfl)
  | 2, _ => exact fz_s h 323 (by rfl)
  | 3, _ => exact fz_s h 324 (by rfl)
  | 4, _ => exact fz_s h 325 (by rfl)
  | q + 5, hj => exact absurd hj (by omega)
set_option maxRecDepth 100000 in
theorem gw_1 (h : ∀ c ∈ fl_s, c.before args s = true) (hA : ∀ a : Nat, a < s.heap.size → ¬ A a) : ∃ q : Nat × Nat, WdS args s A 110 1 q := by
  refine wd_s (by decide) (fz_s h 326 (by rfl)) (fz_s h 327 (by rfl)) (fz_s h 328 (by rfl)) (fz_s h 329 (by rfl)) (fun j hj => ?_) hA
  have hj : j < 5 := hj
  match j, hj with
  | 0, _ => exact fz_s h 330 (by rfl)
  | 1, _ => exact fz_s h 331 (by rfl)
  | 2, _ => exact fz_s h 332 (by rfl)
  | 3, _ => exact fz_s h 333 (by rfl)
  | 4, _ => exact fz_s h 334 (by rfl)
  | q + 5, hj => exact absurd hj (by omega)
set_option maxRecDepth 100000 in
theorem gw_2 (h : ∀ c ∈ fl_s, c.before args s = true) (hA : ∀ a : Nat, a < s.heap.size → ¬ A a) : ∃ q : Nat × Nat, WdS args s A 112 2 q := by
  refine wd_s (by decide) (fz_s h 335 (by rfl)) (fz_s h 336 (by rfl)) (fz_s h 337 (by rfl)) (fz_s h 338 (by rfl)) (fun j hj => ?_) hA
  have hj : j < 4 := hj
  match j, hj with
  | 0, _ => exact fz_s h 339 (by rfl)
  | 1, _ => exact fz_s h 340 (by rfl)
  | 2, _ => exact fz_s h 341 (by rfl)
  | 3, _ => exact fz_s h 342 (by rfl)
  | q + 4, hj => exact absurd hj (by omega)
set_option maxRecDepth 100000 in
theorem gw_3 (h : ∀ c ∈ fl_s, c.before args s = true) (hA : ∀ a : Nat, a < s.heap.size → ¬ A a) : ∃ q : Nat × Nat, WdS args s A 114 3 q := by
  refine wd_s (by decide) (fz_s h 343 (by rfl)) (fz_s h 344 (by rfl)) (fz_s h 345 (by rfl)) (fz_s h 346 (by rfl)) (fun j hj => ?_) hA
  have hj : j < 4 := hj
  match j, hj with
  | 0, _ => exact fz_s h 347 (by rfl)
  | 1, _ => exact fz_s h 348 (by rfl)
  | 2, _ => exact fz_s h 349 (by rfl)
  | 3, _ => exact fz_s h 350 (by rfl)
  | q + 4, hj => exact absurd hj (by omega)
set_option maxRecDepth 100000 in
theorem gw_4 (h : ∀ c ∈ fl_s, c.before args s = true) (hA : ∀ a : Nat, a < s.heap.size → ¬ A a) : ∃ q : Nat × Nat, WdS args s A 94 4 q := by
  refine wd_s (by decide) (fz_s h 421 (by rfl)) (fz_s h 422 (by rfl)) (fz_s h 423 (by rfl)) (fz_s h 424 (by rfl)) (fun j hj => ?_) hA
  have hj : j < 2 := hj
  match j, hj with
  | 0, _ => exact fz_s h 425 (by rfl)
  | 1, _ => exact fz_s h 426 (by rfl)
  | q + 2, hj => exact absurd hj (by omega)
set_option maxRecDepth 100000 in
theorem gw_5 (h : ∀ c ∈ fl_s, c.before args s = true) (hA : ∀ a : Nat, a < s.heap.size → ¬ A a) : ∃ q : Nat × Nat, WdS args s A 129 5 q := by
  refine wd_s (by decide) (fz_s h 351 (by rfl)) (fz_s h 352 (by rfl)) (fz_s h 353 (by rfl)) (fz_s h 354 (by rfl)) (fun j hj => ?_) hA
  have hj : j < 5 := hj
  match j, hj with
  | 0, _ => exact fz_s h 355 (by rfl)
  | 1, _ => exact fz_s h 356 (by rfl)
  | 2, _ => exact fz_s h 357 (by rfl)
  | 3, _ => exact fz_s h 358 (by rfl)
  | 4, _ => exact fz_s h 359 (by rfl)
  | q + 5, hj => exact absurd hj (by omega)
set_option maxRecDepth 100000 in
theorem gw_6 (h : ∀ c ∈ fl_s, c.before args s = true) (hA : ∀ a : Nat, a < s.heap.size → ¬ A a) : ∃ q : Nat × Nat, WdS args s A 135 6 q := by
  refine wd_s (by decide) (fz_s h 360 (by rfl)) (fz_s h 361 (by rfl)) (fz_s h 362 (by rfl)) (fz_s h 363 (by rfl)) (fun j hj => ?_) hA
  have hj : j < 4 := hj
  match j, hj with
  | 0, _ => exact fz_s h 364 (by rfl)
  | 1, _ => exact fz_s h 365 (by rfl)
  | 2, _ => exact fz_s h 366 (by rfl)
  | 3, _ => exact fz_s h 367 (by rfl)
  | q + 4, hj => exact absurd hj (by omega)
set_option maxRecDepth 100000 in
theorem gw_7 (h : ∀ c ∈ fl_s, c.before args s = true) (hA : ∀ a : Nat, a < s.heap.size → ¬ A a) : ∃ q : Nat × Nat, WdS args s A 140 7 q := by
  refine wd_s (by decide) (fz_s h 368 (by rfl)) (fz_s h 369 (by rfl)) (fz_s h 370 (by rfl)) (fz_s h 371 (by rfl)) (fun j hj => ?_) hA
  have hj : j < 3 := hj
  match j, hj with
  | 0, _ => exact fz_s h 372 (by rfl)
  | 1, _ => exact fz_s h 373 (by rfl)
  | 2, _ => exact fz_s h 374 (by rfl)
  | q + 3, hj => exact absurd hj (by omega)
set_option maxRecDepth 100000 in
theorem gw_8 (h : ∀ c ∈ fl_s, c.before args s = true) (hA : ∀ a : Nat, a < s.heap.size → ¬ A a) : ∃ q : Nat × Nat, WdS args s A 142 8 q := by
  refine wd_s (by decide) (fz_s h 375 (by rfl)) (fz_s h 376 (by rfl)) (fz_s h 377 (by rfl)) (fz_s h 378 (by rfl)) (fun j hj => ?_) hA
  have hj : j < 5 := hj
  match j, hj with
  | 0, _ => exact fz_s h 379 (by rfl)
  | 1, _ => exact fz_s h 380 (by rfl)
  | 2, _ => exact fz_s h 381 (by rfl)
  | 3, _ => exact fz_s h 382 (by rfl)
  | 4, _ => exact fz_s h 383 (by rfl)
  | q + 5, hj => exact absurd hj (by omega)
set_option maxRecDepth 100000 in
theorem gw_9 (h : ∀ c ∈ fl_s, c.before args s = true) (hA : ∀ a : Nat, a < s.heap.size → ¬ A a) : ∃ q : Nat × Nat, WdS args s A 144 9 q := by
  refine wd_s (by decide) (fz_s h 384 (by rfl)) (fz_s h 385 (by rfl)) (fz_s h 386 (by rfl)) (fz_s h 387 (by rfl)) (fun j hj => ?_) hA
  have hj : j < 5 := hj
  match j, hj with
  | 0, _ => exact fz_s h 388 (by rfl)
  | 1, _ => exact fz_s h 389 (by rfl)
  | 2, _ => exact fz_s h 390 (by rfl)
  | 3, _ => exact fz_s h 391 (by rfl)
  | 4, _ => exact fz_s h 392 (by rfl)
  | q + 5, hj => exact absurd hj (by omega)
set_option maxRecDepth 100000 in
theorem gw_10 (h : ∀ c ∈ fl_s, c.before args s = true) (hA : ∀ a : Nat, a < s.heap.size → ¬ A a) : ∃ q : Nat × Nat, WdS args s A 146 10 q := by
  refine wd_s (by decide) (fz_s h 393 (by rfl)) (fz_s h 394 (by rfl)) (fz_s h 395 (by rfl)) (fz_s h 396 (by rfl)) (fun j hj => ?_) hA
  have hj : j < 5 := hj
  match j, hj with
  | 0, _ => exact fz_s h 397 (by rfl)
  | 1, _ => exact fz_s h 398 (by rfl)
  | 2, _ => exact fz_s h 399 (by rfl)
  | 3, _ => exact fz_s h 400 (by rfl)
  | 4, _ => exact fz_s h 401 (by rfl)
  | q + 5, hj => exact absurd hj (by omega)
set_option maxRecDepth 100000 in
theorem gw_11 (h : ∀ c ∈ fl_s, c.before args s = true) (hA : ∀ a : Nat, a < s.heap.size → ¬ A a) : ∃ q : Nat × Nat, WdS args s A 148 11 q := by
  refine wd_s (by decide) (fz_s h 402 (by rfl)) (fz_s h 403 (by rfl)) (fz_s h 404 (by rfl)) (fz_s h 405 (by rfl)) (fun j hj => ?_) hA
  have hj : j < 6 := hj
  match j, hj with
  | 0, _ => exact fz_s h 406 (by rfl)
  | 1, _ => exact fz_s h 407 (by rfl)
  | 2, _ => exact fz_s h 408 (by rfl)
  | 3, _ => exact fz_s h 409 (by rfl)
  | 4, _ => exact fz_s h 410 (by rfl)
  | 5, _ => exact fz_s h 411 (by rfl)
  | q + 6, hj => exact absurd hj (by omega)
set_option maxRecDepth 100000 in
theorem gw_12 (h : ∀ c ∈ fl_s, c.before args s = true) (hA : ∀ a : Nat, a < s.heap.size → ¬ A a) : ∃ q : Nat × Nat, WdS args s A 150 12 q := by
  refine wd_s (by decide) (fz_s h 412 (by rfl)) (fz_s h 413 (by rfl)) (fz_s h 414 (by rfl)) (fz_s h 415 (by rfl)) (fun j hj => ?_) hA
  have hj : j < 5 := hj
  match j, hj with
  | 0, _ => exact fz_s h 416 (by rfl)
  | 1, _ => exact fz_s h 417 (by rfl)
  | 2, _ => exact fz_s h 418 (by rfl)
  | 3, _ => exact fz_s h 419 (by rfl)
  | 4, _ => exact fz_s h 420 (by rfl)
  | q + 5, hj => exact absurd hj (by omega)
set_option maxRecDepth 100000 in
theorem gw_13 (h : ∀ c ∈ fl_s, c.before args s = true) (hA : ∀ a : Nat, a < s.heap.size → ¬ A a) : ∃ q : Nat × Nat, WdS args s A 155 13 q := by
  refine wd_s (by decide) (fz_s h 441 (by rfl)) (fz_s h 442 (by rfl)) (fz_s h 443 (by rfl)) (fz_s h 444 (by rfl)) (fun j hj => ?_) hA
  have hj : j < 2 := hj
  match j, hj with
  | 0, _ => exact fz_s h 445 (by rfl)
  | 1, _ => exact fz_s h 446 (by rfl)
  | q + 2, hj => exact absurd hj (by omega)
set_option maxRecDepth 100000 in
theorem gw_14 (h : ∀ c ∈ fl_s, c.before args s = true) (hA : ∀ a : Nat, a < s.heap.size → ¬ A a) : ∃ q : Nat × Nat, WdS args s A 160 14 q := by
  refine wd_s (by decide) (fz_s h 434 (by rfl)) (fz_s h 435 (by rfl)) (fz_s h 436 (by rfl)) (fz_s h 437 (by rfl)) (fun j hj => ?_) hA
  have hj : j < 3 := hj
  match j, hj with
  | 0, _ => exact fz_s h 438 (by rfl)
  | 1, _ => exact fz_s h 439 (by rfl)
  | 2, _ => exact fz_s h 440 (by rfl)
  | q + 3, hj => exact absurd hj (by omega)
set_option maxRecDepth 100000 in
theorem gw_15 (h : ∀ c ∈ fl_s, c.before args s = true) (hA : ∀ a : Nat, a < s.heap.size → ¬ A a) : ∃ q : Nat × Nat, WdS args s A 162 15 q := by
  refine wd_s (by decide) (fz_s h 427 (by rfl)) (fz_s h 428 (by rfl)) (fz_s h 429 (by rfl)) (fz_s h 430 (by rfl)) (fun j hj => ?_) hA
  have hj : j < 3 := hj
  match j, hj with
  | 0, _ => exact fz_s h 431 (by rfl)
  | 1, _ => exact fz_s h 432 (by rfl)
  | 2, _ => exact fz_s h 433 (by rfl)
  | q + 3, hj => exact absurd hj (by omega)
def wdK : List Nat := [108, 110, 112, 114, 94, 129, 135, 140, 142, 144, 146, 148, 150, 155, 160, 162]
theorem gw_all (h : ∀ c ∈ fl_s, c.before args s = true) (hA : ∀ a : Nat, a < s.heap.size → ¬ A a) : ∀ i, ∃ q : Nat × Nat, i < 16 → WdS args s A (wdK.getD i 0) i q := fun i => by
  by_cases hi : i < 16
  · match i, hi with
    | 0, _ => exact (gw_0 h hA).imp fun _ q _ => q
    | 1, _ => exact (gw_1 h hA).imp fun _ q _ => q
    | 2, _ => exact (gw_2 h hA).imp fun _ q _ => q
    | 3, _ => exact (gw_3 h hA).imp fun _ q _ => q
    | 4, _ => exact (gw_4 h hA).imp fun _ q _ => q
    | 5, _ => exact (gw_5 h hA).imp fun _ q _ => q
    | 6, _ => exact (gw_6 h hA).imp fun _ q _ => q
    | 7, _ => exact (gw_7 h hA).imp fun _ q _ => q
    | 8, _ => exact (gw_8 h hA).imp fun _ q _ => q
    | 9, _ => exact (gw_9 h hA).imp fun _ q _ => q
    | 10, _ => exact (gw_10 h hA).imp fun _ q _ => q
    | 11, _ => exact (gw_11 h hA).imp fun _ q _ => q
    | 12, _ => exact (gw_12 h hA).imp fun _ q _ => q
    | 13, _ => exact (gw_13 h hA).imp fun _ q _ => q
    | 14, _ => exact (gw_14 h hA).imp fun _ q _ => q
    | 15, _ => exact (gw_15 h hA).imp fun _ q _ => q
    | q + 16, hj => exact absurd hj (by omega)
  · exact ⟨(0, 0), fun c => absurd c hi⟩
def txK : List Nat := [375, 109, 368, 146, 377, 379, 381, 180, 182, 189, 195, 371, 212, 385, 245, 383, 373, 281, 310, 325, 357, 359]
set_option maxRecDepth 100000 in
theorem gt_all (h : ∀ c ∈ fl_s, c.before args s = true) : ∀ i, ∃ a : Nat, i < 22 → (Term.string "YardTalk" (txK.getD i 0)).eval args s none [] s = some (.ref a) := fun i => by
  by_cases hi : i < 22
  · have hx : (Cond.exactly (.string "YardTalk" (txK.getD i 0)) "java/lang/String").before args s = true := by
      match i, hi with
      | 0, _ => exact fz_s h 108 (by rfl)
      | 1, _ => exact fz_s h 124 (by rfl)
      | 2, _ => exact fz_s h 139 (by rfl)
      | 3, _ => exact fz_s h 156 (by rfl)
      | 4, _ => exact fz_s h 172 (by rfl)
      | 5, _ => exact fz_s h 191 (by rfl)
      | 6, _ => exact fz_s h 207 (by rfl)
      | 7, _ => exact fz_s h 224 (by rfl)
      | 8, _ => exact fz_s h 243 (by rfl)
      | 9, _ => exact fz_s h 270 (by rfl)
      | 10, _ => exact fz_s h 294 (by rfl)
      | 11, _ => exact fz_s h 447 (by rfl)
      | 12, _ => exact fz_s h 462 (by rfl)
      | 13, _ => exact fz_s h 501 (by rfl)
      | 14, _ => exact fz_s h 528 (by rfl)
      | 15, _ => exact fz_s h 544 (by rfl)
      | 16, _ => exact fz_s h 560 (by rfl)
      | 17, _ => exact fz_s h 576 (by rfl)
      | 18, _ => exact fz_s h 604 (by rfl)
      | 19, _ => exact fz_s h 626 (by rfl)
      | 20, _ => exact fz_s h 645 (by rfl)
      | 21, _ => exact fz_s h 673 (by rfl)
      | q + 22, hj => exact absurd hj (by omega)
    obtain ⟨a, c, cA, kA, q1, -⟩ := Cond.exactly_spec (args := args) (first := s) (o := none) (s := s) (idx := []) hx
    exact ⟨a, fun _ => q1⟩
  · exact ⟨0, fun c => absurd c hi⟩
set_option maxRecDepth 100000 in
theorem gn_all (hts : ∀ w ∈ lw_tbl, w.before args s = true) : ∀ q ∈ nsL, va_Nw (.methodLinkNest q.1 q.2.1 q.2.2.1 q.2.2.2) s := by
  refine List.forall_mem_cons.mpr ⟨va_Nw.of rfl (tz_s hts 33 (by rfl)), List.forall_mem_cons.mpr ⟨va_Nw.of rfl (tz_s hts 150 (by rfl)), List.forall_mem_cons.mpr ⟨va_Nw.of rfl (tz_s hts 200 (by rfl)), List.forall_mem_cons.mpr ⟨va_Nw.of rfl (tz_s hts 219 (by rfl)), List.forall_mem_cons.mpr ⟨va_Nw.of rfl (tz_s hts 253 (by rfl)), List.forall_mem_cons.mpr ⟨va_Nw.of rfl (tz_s hts 258 (by rfl)), List.forall_mem_cons.mpr ⟨va_Nw.of rfl (tz_s hts 278 (by rfl)), List.forall_mem_cons.mpr ⟨va_Nw.of rfl (tz_s hts 460 (by rfl)), List.forall_mem_cons.mpr ⟨va_Nw.of rfl (tz_s hts 465 (by rfl)), List.forall_mem_cons.mpr ⟨va_Nw.of rfl (tz_s hts 476 (by rfl)), List.forall_mem_cons.mpr ⟨va_Nw.of rfl (tz_s hts 525 (by rfl)), List.forall_mem_cons.mpr ⟨va_Nw.of rfl (tz_s hts 537 (by rfl)), List.forall_mem_cons.mpr ⟨va_Nw.of rfl (tz_s hts 552 (by rfl)), fun _ h => absurd h List.not_mem_nil⟩⟩⟩⟩⟩⟩⟩⟩⟩⟩⟩⟩⟩
set_option maxRecDepth 100000 in
theorem gc_all (hts : ∀ w ∈ lw_tbl, w.before args s = true) : ∀ q ∈ csL, va_Nw (.castable q q) s := by
  refine List.forall_mem_cons.mpr ⟨va_Nw.of rfl (tz_s hts 603 (by rfl)), List.forall_mem_cons.mpr ⟨va_Nw.of rfl (tz_s hts 693 (by rfl)), List.forall_mem_cons.mpr ⟨va_Nw.of rfl (tz_s hts 791 (by rfl)), List.forall_mem_cons.mpr ⟨va_Nw.of rfl (tz_s hts 990 (by rfl)), fun _ h => absurd h List.not_mem_nil⟩⟩⟩⟩
set_option maxRecDepth 100000 in
theorem gd_all (hts : ∀ w ∈ lw_tbl, w.before args s = true) : ∀ q ∈ dcL, va_Nw (.declares ⟨q, "<init>", "(Ljava/lang/String;)V"⟩) s := by
  refine List.forall_mem_cons.mpr ⟨va_Nw.of rfl (tz_s hts 605 (by rfl)), List.forall_mem_cons.mpr ⟨va_Nw.of rfl (tz_s hts 607 (by rfl)), List.forall_mem_cons.mpr ⟨va_Nw.of rfl (tz_s hts 609 (by rfl)), fun _ h => absurd h List.not_mem_nil⟩⟩⟩
set_option maxRecDepth 100000 in
theorem gx_all (h : ∀ c ∈ fl_s, c.before args s = true) : ∀ q ∈ ncL, va_Nc q.1 q.2 s := by
  refine List.forall_mem_cons.mpr ⟨va_Nc.of (fz_s h 81 (by rfl)), List.forall_mem_cons.mpr ⟨va_Nc.of (fz_s h 105 (by rfl)), List.forall_mem_cons.mpr ⟨va_Nc.of (fz_s h 70 (by rfl)), fun _ h => absurd h List.not_mem_nil⟩⟩⟩
set_option maxRecDepth 100000 in
theorem gr_all (hts : ∀ w ∈ lw_tbl, w.before args s = true) {ad : Nat → Nat} {qW : Nat → Nat × Nat} {aT : Nat → Nat} (hW : ∀ i, i < 16 → WdS args s A (wdK.getD i 0) i (qW i)) (hT : ∀ i, i < 22 → (Term.string "YardTalk" (txK.getD i 0)).eval args s none [] s = some (.ref (aT i))) (eW : ∀ i, i < 16 → ad (1100 + i) = (qW i).1) (eT : ∀ i, i < 22 → ad (1300 + i) = aT i) : ∀ q ∈ srL, vk_R q.1 q.2.1 q.2.2.1 (ad q.2.2.2) s := by
  have w1 : ∀ (i : Nat) (tx : String), i < 16 → (Cond.stringRef "YardTalk$LawReader" (wdK.getD i 0) tx).before args s = true → vk_R "YardTalk$LawReader" (wdK.getD i 0) tx (ad (1100 + i)) s := fun i tx hi hx => vk_R.of hx (by rw [eW i hi]; exact (hW i hi).1)
  have t1 : ∀ (i : Nat) (tx : String), i < 22 → (Cond.stringRef "YardTalk" (txK.getD i 0) tx).before args s = true → vk_R "YardTalk" (txK.getD i 0) tx (ad (1300 + i)) s := fun i tx hi hx => vk_R.of hx (by rw [eT i hi]; exact hT i hi)
  refine List.forall_mem_cons.mpr ⟨t1 0 _ (by decide) (tz_s hts 643 (by rfl)), List.forall_mem_cons.mpr ⟨t1 1 _ (by decide) (tz_s hts 670 (by rfl)), List.forall_mem_cons.mpr ⟨t1 2 _ (by decide) (tz_s hts 700 (by rfl)), List.forall_mem_cons.mpr ⟨t1 3 _ (by decide) (tz_s hts 737 (by rfl)), List.forall_mem_cons.mpr ⟨t1 4 _ (by decide) (tz_s hts 748 (by rfl)), List.forall_mem_cons.mpr ⟨t1 5 _ (by decide) (tz_s hts 752 (by rfl)), List.forall_mem_cons.mpr ⟨t1 6 _ (by decide) (tz_s hts 764 (by rfl)), List.forall_mem_cons.mpr ⟨t1 7 _ (by decide) (tz_s hts 779 (by rfl)), List.forall_mem_cons.mpr ⟨t1 8 _ (by decide) (tz_s hts 788 (by rfl)), List.forall_mem_cons.mpr ⟨t1 9 _ (by decide) (tz_s hts 798 (by rfl)), List.forall_mem_cons.mpr ⟨t1 10 _ (by decide) (tz_s hts 812 (by rfl)), List.forall_mem_cons.mpr ⟨w1 0 _ (by decide) (tz_s hts 840 (by rfl)), List.forall_mem_cons.mpr ⟨w1 1 _ (by decide) (tz_s hts 893 (by rfl)), List.forall_mem_cons.mpr ⟨w1 2 _ (by decide) (tz_s hts 894 (by rfl)), List.forall_mem_cons.mpr ⟨w1 3 _ (by decide) (tz_s hts 895 (by rfl)), List.forall_mem_cons.mpr ⟨w1 5 _ (by decide) (tz_s hts 932 (by rfl)), List.forall_mem_cons.mpr ⟨w1 6 _ (by decide) (tz_s hts 937 (by rfl)), List.forall_mem_cons.mpr ⟨w1 7 _ (by decide) (tz_s hts 942 (by rfl)), List.forall_mem_cons.mpr ⟨w1 8 _ (by decide) (tz_s hts 943 (by rfl)), List.forall_mem_cons.mpr ⟨w1 9 _ (by decide) (tz_s hts 944 (by rfl)), List.forall_mem_cons.mpr ⟨w1 10 _ (by decide) (tz_s hts 945 (by rfl)), List.forall_mem_cons.mpr ⟨w1 11 _ (by decide) (tz_s hts 946 (by rfl)), List.forall_mem_cons.mpr ⟨w1 12 _ (by decide) (tz_s hts 947 (by rfl)), List.forall_mem_cons.mpr ⟨w1 4 _ (by decide) (tz_s hts 952 (by rfl)), List.forall_mem_cons.mpr ⟨w1 15 _ (by decide) (tz_s hts 965 (by rfl)), List.forall_mem_cons.mpr ⟨w1 14 _ (by decide) (tz_s hts 970 (by rfl)), List.forall_mem_cons.mpr ⟨w1 13 _ (by decide) (tz_s hts 971 (by rfl)), List.forall_mem_cons.mpr ⟨t1 11 _ (by decide) (tz_s hts 997 (by rfl)), List.forall_mem_cons.mpr ⟨t1 12 _ (by decide) (tz_s hts 1014 (by rfl)), List.forall_mem_cons.mpr ⟨t1 13 _ (by decide) (tz_s hts 1042 (by rfl)), List.forall_mem_cons.mpr ⟨t1 14 _ (by decide) (tz_s hts 1062 (by rfl)), List.forall_mem_cons.mpr ⟨t1 15 _ (by decide) (tz_s hts 1073 (by rfl)), List.forall_mem_cons.mpr ⟨t1 16 _ (by decide) (tz_s hts 1130 (by rfl)), List.forall_mem_cons.mpr ⟨t1 17 _ (by decide) (tz_s hts 1131 (by rfl)), List.forall_mem_cons.mpr ⟨t1 18 _ (by decide) (tz_s hts 1160 (by rfl)), List.forall_mem_cons.mpr ⟨t1 19 _ (by decide) (tz_s hts 1198 (by rfl)), List.forall_mem_cons.mpr ⟨t1 20 _ (by decide) (tz_s hts 1290 (by rfl)), List.forall_mem_cons.mpr ⟨t1 21 _ (by decide) (tz_s hts 1298 (by rfl)), fun _ h => absurd h List.not_mem_nil⟩⟩⟩⟩⟩⟩⟩⟩⟩⟩⟩⟩⟩⟩⟩⟩⟩⟩⟩⟩⟩⟩⟩⟩⟩⟩⟩⟩⟩⟩⟩⟩⟩⟩⟩⟩⟩⟩
set_option maxRecDepth 100000 in
theorem gp_all (hts : ∀ w ∈ lw_tbl, w.before args s = true) : pxY s := ⟨va_AO.of (tz_s hts 117 (by rfl)), va_AO.of (tz_s hts 119 (by rfl)), va_AO.of (tz_s hts 121 (by rfl))⟩
set_option maxRecDepth 100000 in
theorem gu_all (hts : ∀ w ∈ lw_tbl, w.before args s = true) (h : ∀ c ∈ fl_s, c.before args s = true) (hA : ∀ a : Nat, a < s.heap.size → ¬ A a) : (vx_Zq Bundle.tN "UNASSIGNED_STACK" Bundle.steD A s s.heap ∧ vx_Zq Bundle.tN "SUPPRESSED_SENTINEL" Bundle.listD A s s.heap) ∧ va_Z "java/lang/String" "COMPACT_STRINGS" "Z" (.int 1) A s s.heap ∧ ∃ r : Nat, va_Z "jdk/internal/util/Preconditions" "SIOOBE_FORMATTER" "Ljava/util/function/BiFunction;" .null A s s.heap ∨ va_Z "jdk/internal/util/Preconditions" "SIOOBE_FORMATTER" "Ljava/util/function/BiFunction;" (.ref r) A s s.heap := by
  refine ⟨⟨vx_Zqof (tz_s hts 628 (by rfl)) (tz_s hts 10 (by rfl)) (fz_s h 32 (by rfl)) hA, vx_Zqof (tz_s hts 630 (by rfl)) (tz_s hts 10 (by rfl)) (fz_s h 33 (by rfl)) hA⟩, va_Zof (tz_s hts 854 (by rfl)) (tz_s hts 17 (by rfl)) (va_eqt (fz_s h 34 (by rfl))) hA, ?_⟩
  have hz : (Cond.isRef (.static "jdk/internal/util/Preconditions" "SIOOBE_FORMATTER" "Ljava/util/function/BiFunction;")).before args s = true := fz_s h 35 (by rfl)
  obtain ⟨v, h1, h2⟩ := Cond.isRef_spec (args := args) (first := s) (o := none) (s := s) (idx := []) hz
  have hl : (Cond.laysStatic "jdk/internal/util/Preconditions" "SIOOBE_FORMATTER" "Ljava/util/function/BiFunction;").before args s = true := tz_s hts 870 (by rfl)
  have hi : (Cond.initialized "jdk/internal/util/Preconditions").before args s = true := tz_s hts 19 (by rfl)
  cases v with
  | null => exact ⟨0, Or.inl (va_Zof hl hi h1 hA)⟩
  | ref r => exact ⟨r, Or.inr (va_Zof hl hi h1 hA)⟩
  | _ => cases h2
end Given

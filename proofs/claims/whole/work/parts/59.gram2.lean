/-! THE LAWS' TEXT: what comes out well, II -/
theorem bin_n {c : Nat} (h1 : 7 ≤ c) (h2 : c ≤ 12) : bin false false c := ⟨by omega, by omega, fun ts => by
  unfold tst
  rw [if_neg (by show ¬ c ≤ 6; omega), if_neg (by show ¬ c = 18; omega), if_pos (by show c ≤ 12; omega)]⟩
theorem bin_c {c : Nat} (h1 : 13 ≤ c) (h2 : c ≤ 15) : bin false true c := ⟨by omega, by omega, fun ts => by
  unfold tst
  rw [if_neg (by show ¬ c ≤ 6; omega), if_neg (by show ¬ c = 18; omega), if_neg (by show ¬ c ≤ 12; omega), if_pos (by show c ≤ 15; omega)]⟩
theorem bin_b {c : Nat} (h1 : 16 ≤ c) (h2 : c ≤ 17) : bin true true c := ⟨by omega, by omega, fun ts => by
  unfold tst
  rw [if_neg (by show ¬ c ≤ 6; omega), if_neg (by show ¬ c = 18; omega), if_neg (by show ¬ c ≤ 12; omega), if_neg (by show ¬ c ≤ 15; omega), if_pos (by show c ≤ 17; omega)]⟩
theorem lkS_ok {T : Wr} {n s c : Nat} (h : lkS T n s = some c) : s < n ∧ bin false false c := by
  unfold lkS at h
  by_cases k : isC T n s 43 = true
  · rw [if_pos k] at h; cases h; exact ⟨isC_lt k, bin_n (by decide) (by decide)⟩
  · rw [if_neg k] at h
    by_cases k2 : isC T n s 45 = true
    · rw [if_pos k2] at h; cases h; exact ⟨isC_lt k2, bin_n (by decide) (by decide)⟩
    · rw [if_neg k2] at h; cases h
theorem lkP_ok {T : Wr} {n s c : Nat} (h : lkP T n s = some c) : s < n ∧ bin false false c := by
  unfold lkP at h
  by_cases k : isC T n s 42 = true
  · rw [if_pos k] at h; cases h; exact ⟨isC_lt k, bin_n (by decide) (by decide)⟩
  · rw [if_neg k] at h
    by_cases k2 : isC T n s 47 = true
    · rw [if_pos k2] at h; cases h; exact ⟨isC_lt k2, bin_n (by decide) (by decide)⟩
    · rw [if_neg k2] at h; cases h
theorem lkO_ok {T : Wr} {n s c : Nat} (h : lkO T n s = some c) : s < n ∧ bin true true c := by
  unfold lkO at h
  by_cases k : isW T n s 13 = true
  · rw [if_pos k] at h; cases h; exact ⟨isW_lt k, bin_b (by decide) (by decide)⟩
  · rw [if_neg k] at h; cases h
theorem lkA_ok {T : Wr} {n s c : Nat} (h : lkA T n s = some c) : s < n ∧ bin true true c := by
  unfold lkA at h
  by_cases k : isW T n s 14 = true
  · rw [if_pos k] at h; cases h; exact ⟨isW_lt k, bin_b (by decide) (by decide)⟩
  · rw [if_neg k] at h; cases h
theorem cmN_ok {T : Wr} {n s c : Nat} (h : cmN T n s = some c) : s < n ∧ bin false true c := by
  unfold cmN at h
  by_cases k : isC T n s 60 = true
  · rw [if_pos k] at h; cases h; exact ⟨isC_lt k, bin_c (by decide) (by decide)⟩
  · rw [if_neg k] at h
    by_cases k2 : isC T n s 62 = true
    · rw [if_pos k2] at h; cases h; exact ⟨isC_lt k2, bin_c (by decide) (by decide)⟩
    · rw [if_neg k2] at h
      by_cases k3 : isC T n s 61 = true
      · rw [if_pos k3] at h; cases h; exact ⟨isC_lt k3, bin_c (by decide) (by decide)⟩
      · rw [if_neg k3] at h; cases h
theorem fcN_ok {T : Wr} {n s c : Nat} (h : fcN T n s = some c) : s < n ∧ c < 6 := by
  unfold fcN at h
  by_cases k : isW T n s 7 = true
  · rw [if_pos k] at h; cases h; exact ⟨isW_lt k, by decide⟩
  · rw [if_neg k] at h
    by_cases k : isW T n s 8 = true
    · rw [if_pos k] at h; cases h; exact ⟨isW_lt k, by decide⟩
    · rw [if_neg k] at h
      by_cases k : isW T n s 9 = true
      · rw [if_pos k] at h; cases h; exact ⟨isW_lt k, by decide⟩
      · rw [if_neg k] at h
        by_cases k : isW T n s 10 = true
        · rw [if_pos k] at h; cases h; exact ⟨isW_lt k, by decide⟩
        · rw [if_neg k] at h
          by_cases k : isW T n s 11 = true
          · rw [if_pos k] at h; cases h; exact ⟨isW_lt k, by decide⟩
          · rw [if_neg k] at h
            by_cases k : isW T n s 12 = true
            · rw [if_pos k] at h; cases h; exact ⟨isW_lt k, by decide⟩
            · rw [if_neg k] at h; cases h
theorem clN_ok {T : Wr} {n s c : Nat} (h : clN T n s = some c) : s < n ∧ c < 4 := by
  unfold clN at h
  by_cases k : isW T n s 0 = true
  · rw [if_pos k] at h; cases h; exact ⟨isW_lt k, by decide⟩
  · rw [if_neg k] at h
    by_cases k : isW T n s 1 = true
    · rw [if_pos k] at h; cases h; exact ⟨isW_lt k, by decide⟩
    · rw [if_neg k] at h
      by_cases k : isW T n s 2 = true
      · rw [if_pos k] at h; cases h; exact ⟨isW_lt k, by decide⟩
      · rw [if_neg k] at h
        by_cases k : isW T n s 3 = true
        · rw [if_pos k] at h; cases h; exact ⟨isW_lt k, by decide⟩
        · rw [if_neg k] at h; cases h
/-- a number's value: 0 to 999, or beyond -/
theorem nbR_ok {T : Wr} : ∀ (r p : Nat) (v : Nat), v ≤ 10000 → ∃ k : Nat, k ≤ 10000 ∧ nbR T p r (nI v) = nI k
  | 0, p, v, h => ⟨v, h, rfl⟩
  | r + 1, p, v, h => by
    show ∃ k : Nat, k ≤ 10000 ∧ (if dgB (T p) = true then nbR T (p + 1) r (if nI v ≤ 999 then nI v * 10 + T p - 48 else nI v) else nI v) = nI k
    by_cases c : dgB (T p) = true
    · rw [if_pos c]
      by_cases e : v ≤ 999
      · rw [if_pos (show nI v ≤ (999 : Int32) from nI_le e (by decide))]
        obtain ⟨z1, z2⟩ := of_decide_eq_true c
        obtain ⟨j, hj, ej⟩ : ∃ j, j < 58 ∧ T p = nI j := (in_or (by decide)).resolve_right (fun z => by
          rcases z with z | z
          · exact absurd (Int32.lt_of_lt_of_le z (show (0 : Int32) ≤ 48 by decide)) (Int32.not_lt.mpr z1)
          · exact absurd (Int32.lt_of_le_of_lt z2 (show (57 : Int32) < nI 58 by decide)) (Int32.not_lt.mpr z))
        have j48 : 48 ≤ j := by
          rcases Nat.lt_or_ge j 48 with z | z
          · rw [ej] at z1; exact absurd (nI_lt z (by decide)) (Int32.not_lt.mpr z1)
          · exact z
        have : nI v * 10 + T p - 48 = nI (v * 10 + j - 48) := by
          rw [ej, n10, pk_mul, nI_add, show (48 : Int32) = nI 48 from rfl, pk_sub (by omega)]
        rw [this]
        exact nbR_ok r (p + 1) _ (by omega)
      · rw [if_neg (show ¬ nI v ≤ (999 : Int32) from fun z => absurd (nI_lt (show 999 < v by omega) (by omega)) (Int32.not_lt.mpr z))]
        exact nbR_ok r (p + 1) v h
    · rw [if_neg c]; exact ⟨v, h, rfl⟩
theorem tkN_ok {T : Wr} {n s : Nat} : ∃ k : Nat, k ≤ 10000 ∧ tkN T n s = nI k := nbR_ok (n - s) s 0 (by decide)
theorem gd_cpl {T : Wr} {n d c s : Nat} {u : Nat → Res} (hu : ∀ s, s ≤ n → gd n false s (u s)) (hs : s ≤ n) (hc : bin false false c) : gd n false s (cpl T n u d c s) := by
  intro L' s' e
  have hx := nx_le (T := T) hs
  obtain ⟨_, s1, e1, f1⟩ := rb_inr e
  obtain ⟨-, -, a1, a2, -⟩ := psO_inr hx.2.1 e1
  obtain ⟨L, s2, e2, f2⟩ := rb_inr f1
  obtain ⟨b1, b2, b3, b4, b5⟩ := hu s1 a2 L s2 e2
  obtain ⟨_, s3, e3, f3⟩ := rb_inr f2
  obtain ⟨-, -, c1, c2, -⟩ := psC_inr b2 e3
  obtain ⟨L2, s4, e4, f4⟩ := rb_inr f3
  obtain ⟨d1, d2, d3, d4, d5⟩ := hu s3 c2 L2 s4 e4
  obtain ⟨_, s5, e5, f5⟩ := rb_inr f4
  obtain ⟨-, -, g1, g2, -⟩ := psC_inr d2 e5
  cases f5
  refine ⟨by simp only [List.length_append, List.length_cons, List.length_nil]; omega, g2, by omega, fun t ht => ?_, tck_bin hc b5 d5⟩
  simp only [List.mem_append, List.mem_singleton] at ht
  rcases ht with (ht | ht) | ht
  · exact b4 t ht
  · exact d4 t ht
  · rw [ht]; exact opOk hc.1 hc.2.1
theorem gd_brk {T : Wr} {n d s : Nat} {u : Nat → Res} {b : Bool} {c c' : Int32} (hu : ∀ s, s ≤ n → gd n b s (u s)) (hs : s ≤ n) : gd n b s (rb (psO T n c d s) (fun _ s1 => rb (u s1) (fun L s2 => rb (psC T n c' s2) (fun _ s3 => .inr (L, s3))))) := by
  intro L' s' e
  obtain ⟨_, s1, e1, f1⟩ := rb_inr e
  obtain ⟨-, -, a1, a2, -⟩ := psO_inr hs e1
  obtain ⟨L, s2, e2, f2⟩ := rb_inr f1
  obtain ⟨b1, b2, b3, b4, b5⟩ := hu s1 a2 L s2 e2
  obtain ⟨_, s3, e3, f3⟩ := rb_inr f2
  obtain ⟨-, -, c1, c2, -⟩ := psC_inr b2 e3
  cases f3
  exact ⟨by omega, c2, by omega, b4, b5⟩
theorem gd_unt {T : Wr} {n d s : Nat} {u : Nat → Res} (hu : ∀ s, s ≤ n → gd n false s (u s)) (hs : s ≤ n) : gd n false s (unt T n u d s) := by
  unfold unt
  have hx := nx_le (T := T) hs
  by_cases k1 : tkK T n s = 1
  · rw [if_pos k1]
    have hlt : s < n := by
      rcases Nat.lt_or_ge s n with z | z
      · exact z
      · unfold tkK at k1; rw [if_pos z] at k1; cases k1
    by_cases k2 : 999 < tkN T n s
    · rw [if_pos k2]; intro L' s' e; cases e
    · rw [if_neg k2]
      intro L' s' e
      cases e
      have := hx.2.2 hlt
      obtain ⟨k, h1, h2⟩ := tkN_ok (T := T) (n := n) (s := s)
      refine ⟨by simp only [List.length_cons, List.length_nil]; omega, hx.2.1, this, fun t ht => ?_, fun ts => rfl⟩
      rw [List.mem_singleton.mp ht]
      refine Or.inl ⟨rfl, k, ?_, h2⟩
      rcases Nat.lt_or_ge 999 k with z | z
      · rw [h2] at k2; exact absurd (nI_lt z (by omega)) k2
      · exact z
  · rw [if_neg k1]
    by_cases k2 : isC T n s 40 = true
    · rw [if_pos k2]; exact gd_brk hu hs
    · rw [if_neg k2]
      by_cases k3 : isW T n s 5 = true
      · rw [if_pos k3]; exact gd_cpl hu hs (bin_n (by decide) (by decide))
      · rw [if_neg k3]
        by_cases k4 : isW T n s 6 = true
        · rw [if_pos k4]; exact gd_cpl hu hs (bin_n (by decide) (by decide))
        · rw [if_neg k4]
          intro L' s' e
          cases k : fcN T n s with
          | none => rw [k] at e; cases e
          | some c =>
            rw [k] at e
            cases e
            obtain ⟨h1, h2⟩ := fcN_ok k
            have := hx.2.2 h1
            refine ⟨by simp only [List.length_cons, List.length_nil]; omega, hx.2.1, this, fun t ht => ?_, fun ts => ?_⟩
            · rw [List.mem_singleton.mp ht]; exact opOk (by omega) (by omega)
            · show (match tst (c + 1, 0) ts with
                | some ts' => tck [] ts'
                | none => none) = _
              rw [show tst (c + 1, 0) ts = some (false :: ts) by unfold tst; rw [if_pos (by show c + 1 ≤ 6; omega)]]; rfl
theorem gd_sumD {T : Wr} {n : Nat} : ∀ (d s : Nat), s ≤ n → gd n false s (sumD T n d s)
  | 0, s, hs => gd_chn (fun _ _ h => lkS_ok h) (fun s hs => gd_chn (fun _ _ h => lkP_ok h) (fun s hs => gd_unt (fun s _ L s' e => by cases e) hs) hs) hs
  | d + 1, s, hs => gd_chn (fun _ _ h => lkS_ok h) (fun s hs => gd_chn (fun _ _ h => lkP_ok h) (fun s hs => gd_unt (fun s hs => gd_sumD d s hs) hs) hs) hs
theorem gd_ngt {T : Wr} {n d s : Nat} {u : Nat → Res} (hu : ∀ s, s ≤ n → gd n true s (u s)) (hs : s ≤ n) (hlt : s < n) : gd n true s (ngt T n u d s) := by
  unfold ngt
  by_cases k : d = 0
  · rw [if_pos k]; intro L' s' e; cases e
  · rw [if_neg k]
    intro L' s' e
    have hx := nx_le (T := T) hs
    obtain ⟨L, s1, e1, f1⟩ := rb_inr e
    obtain ⟨b1, b2, b3, b4, b5⟩ := hu _ hx.2.1 L s1 e1
    cases f1
    have := hx.2.2 hlt
    refine ⟨by simp only [List.length_append, List.length_cons, List.length_nil]; omega, b2, by omega, fun t ht => ?_, fun ts => ?_⟩
    · simp only [List.mem_append, List.mem_singleton] at ht
      rcases ht with ht | ht
      · exact b4 t ht
      · rw [ht]; exact opOk (by decide) (by decide)
    · rw [tck_app, b5]; rfl
theorem gd_cmp {T : Wr} {n s : Nat} {u : Nat → Res} (hu : ∀ s, s ≤ n → gd n false s (u s)) (hs : s ≤ n) : gd n true s (cmp T n u s) := by
  intro L' s' e
  obtain ⟨L, s1, e1, f1⟩ := rb_inr e
  obtain ⟨b1, b2, b3, b4, b5⟩ := hu _ hs L s1 e1
  cases k : cmN T n s1 with
  | none => rw [k] at f1; cases f1
  | some c =>
    rw [k] at f1
    obtain ⟨h1, hc⟩ := cmN_ok k
    have hx := nx_le (T := T) b2
    obtain ⟨L2, s2, e2, f2⟩ := rb_inr f1
    obtain ⟨d1, d2, d3, d4, d5⟩ := hu _ hx.2.1 L2 s2 e2
    cases f2
    have := hx.2.2 h1
    refine ⟨by simp only [List.length_append, List.length_cons, List.length_nil]; omega, d2, by omega, fun t ht => ?_, tck_bin hc b5 d5⟩
    simp only [List.mem_append, List.mem_singleton] at ht
    rcases ht with (ht | ht) | ht
    · exact b4 t ht
    · exact d4 t ht
    · rw [ht]; exact opOk hc.1 hc.2.1
theorem gd_bas {T : Wr} {n d s : Nat} {nb ne sm : Nat → Res} (h1 : ∀ s, s ≤ n → gd n true s (nb s)) (h2 : ∀ s, s ≤ n → gd n true s (ne s)) (h3 : ∀ s, s ≤ n → gd n false s (sm s)) (hs : s ≤ n) : gd n true s (bas T n nb ne sm d s) := by
  unfold bas
  by_cases k1 : isW T n s 15 = true
  · rw [if_pos k1]; exact gd_ngt h1 hs (isW_lt k1)
  · rw [if_neg k1]
    by_cases k2 : isC T n s 91 = true
    · rw [if_pos k2]; exact gd_brk h2 hs
    · rw [if_neg k2]; exact gd_cmp h3 hs
theorem gd_eit {T : Wr} {n s : Nat} {b : Nat → Res} (h : ∀ s, s ≤ n → gd n true s (b s)) (hs : s ≤ n) : gd n true s (eit T n b s) :=
  gd_chn (fun _ _ h => lkO_ok h) (fun s hs => gd_chn (fun _ _ h => lkA_ok h) h hs) hs
theorem gd_basD {T : Wr} {n : Nat} : ∀ (d s : Nat), s ≤ n → gd n true s (basD T n d s)
  | 0, s, hs => gd_bas (fun s _ L s' e => by cases e) (fun s _ L s' e => by cases e) (fun s hs => gd_sumD 0 s hs) hs
  | d + 1, s, hs => gd_bas (fun s hs => gd_basD d s hs) (fun s hs => gd_eit (fun s hs => gd_basD d s hs) hs) (fun s hs => gd_sumD (d + 1) s hs) hs

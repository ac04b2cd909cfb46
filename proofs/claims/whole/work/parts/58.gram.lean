/-! THE LAWS' TEXT: tokens and grammar, as pure words -/
def dgB (x : Int32) : Bool := decide (48 ≤ x ∧ x ≤ 57)
def ltB (x : Int32) : Bool := decide (97 ≤ x ∧ x ≤ 122)
/-- the first place from p on, r places left, that is not f -/
def whR (f : Int32 → Bool) (T : Wr) : Nat → Nat → Nat
  | p, 0 => p
  | p, r + 1 => if f (T p) = true then whR f T (p + 1) r else p
theorem whR_le {f : Int32 → Bool} {T : Wr} : ∀ {r p : Nat}, p ≤ whR f T p r ∧ whR f T p r ≤ p + r
  | 0, p => ⟨Nat.le_refl _, Nat.le_refl _⟩
  | r + 1, p => by
    show p ≤ (if f (T p) = true then whR f T (p + 1) r else p) ∧ (if f (T p) = true then whR f T (p + 1) r else p) ≤ p + (r + 1)
    by_cases c : f (T p) = true
    · rw [if_pos c]; have := whR_le (f := f) (T := T) (r := r) (p := p + 1); omega
    · rw [if_neg c]; omega
theorem whR_in {f : Int32 → Bool} {T : Wr} : ∀ {r p i : Nat}, p ≤ i → i < whR f T p r → f (T i) = true
  | 0, p, i, h1, h2 => absurd h2 (by show ¬ i < p; omega)
  | r + 1, p, i, h1, h2 => by
    have h2' : i < if f (T p) = true then whR f T (p + 1) r else p := h2
    by_cases c : f (T p) = true
    · rw [if_pos c] at h2'
      rcases Nat.eq_or_lt_of_le h1 with e | e
      · rw [← e]; exact c
      · exact whR_in e h2'
    · rw [if_neg c] at h2'; omega
theorem whR_at {f : Int32 → Bool} {T : Wr} : ∀ {r p : Nat}, whR f T p r < p + r → ¬ f (T (whR f T p r)) = true
  | 0, p, h => absurd h (by show ¬ p < p + 0; omega)
  | r + 1, p, h => by
    have e : whR f T p (r + 1) = if f (T p) = true then whR f T (p + 1) r else p := rfl
    by_cases c : f (T p) = true
    · rw [e, if_pos c] at h ⊢; exact whR_at (by omega)
    · rw [e, if_neg c]; exact c
/-- it is the only one -/
theorem whR_eq {f : Int32 → Bool} {T : Wr} {r p e : Nat} (h1 : p ≤ e) (h2 : e ≤ p + r) (h3 : ∀ i, p ≤ i → i < e → f (T i) = true) (h4 : e < p + r → ¬ f (T e) = true) : whR f T p r = e := by
  have a := whR_le (f := f) (T := T) (r := r) (p := p)
  rcases Nat.lt_trichotomy (whR f T p r) e with z | z | z
  · exact absurd (h3 _ a.1 z) (whR_at (by omega))
  · exact z
  · exact absurd (whR_in h1 z) (h4 (by omega))
def spB (x : Int32) : Bool := decide (x = 32)
def skp (T : Wr) (n p : Nat) : Nat := whR spB T p (n - p)
def tkK (T : Wr) (n s : Nat) : Nat := if n ≤ s then 0 else if dgB (T s) = true then 1 else if ltB (T s) = true then 2 else 3
def tkE (T : Wr) (n s : Nat) : Nat := if n ≤ s then s else if dgB (T s) = true then whR dgB T s (n - s) else if ltB (T s) = true then whR ltB T s (n - s) else s + 1
def nbR (T : Wr) : Nat → Nat → Int32 → Int32
  | _, 0, v => v
  | p, r + 1, v => if dgB (T p) = true then nbR T (p + 1) r (if v ≤ 999 then v * 10 + T p - 48 else v) else v
def tkN (T : Wr) (n s : Nat) : Int32 := nbR T s (n - s) 0
def nx (T : Wr) (n s : Nat) : Nat := skp T n (tkE T n s)
theorem skp_le {T : Wr} {n p : Nat} : p ≤ skp T n p ∧ (p ≤ n → skp T n p ≤ n) := by
  have := whR_le (f := spB) (T := T) (r := n - p) (p := p)
  unfold skp; omega
theorem tkE_le {T : Wr} {n s : Nat} (h : s ≤ n) : s ≤ tkE T n s ∧ tkE T n s ≤ n ∧ (s < n → s < tkE T n s) := by
  unfold tkE
  by_cases c : n ≤ s
  · rw [if_pos c]; omega
  · rw [if_neg c]
    have a := whR_le (f := dgB) (T := T) (r := n - s) (p := s)
    have b := whR_le (f := ltB) (T := T) (r := n - s) (p := s)
    by_cases d : dgB (T s) = true
    · rw [if_pos d]
      refine ⟨a.1, by omega, fun _ => ?_⟩
      rcases Nat.eq_or_lt_of_le a.1 with e | e
      · exact absurd d (by have := whR_at (f := dgB) (T := T) (r := n - s) (p := s) (by omega); rw [← e] at this; exact this)
      · exact e
    · rw [if_neg d]
      by_cases l : ltB (T s) = true
      · rw [if_pos l]
        refine ⟨b.1, by omega, fun _ => ?_⟩
        rcases Nat.eq_or_lt_of_le b.1 with e | e
        · exact absurd l (by have := whR_at (f := ltB) (T := T) (r := n - s) (p := s) (by omega); rw [← e] at this; exact this)
        · exact e
      · rw [if_neg l]; omega
theorem nx_le {T : Wr} {n s : Nat} (h : s ≤ n) : s ≤ nx T n s ∧ nx T n s ≤ n ∧ (s < n → s < nx T n s) := by
  have a := tkE_le (T := T) h
  have b := skp_le (T := T) (n := n) (p := tkE T n s)
  unfold nx; omega
/-- the token at s is the sign c; the word i -/
def isC (T : Wr) (n s : Nat) (c : Int32) : Bool := decide (tkK T n s = 3 ∧ T s = c)
def isW (T : Wr) (n s i : Nat) : Bool := decide (tkK T n s = 2 ∧ tkE T n s = s + wdLen.getD i 0 ∧ ∀ j, j < wdLen.getD i 0 → T (s + j) = (wdByt.getD i []).getD j 0)
theorem isC_lt {T : Wr} {n s : Nat} {c : Int32} (h : isC T n s c = true) : s < n := by
  have := (of_decide_eq_true h).1
  unfold tkK at this
  rcases Nat.lt_or_ge s n with z | z
  · exact z
  · rw [if_pos z] at this; cases this
theorem isW_lt {T : Wr} {n s i : Nat} (h : isW T n s i = true) : s < n := by
  have := (of_decide_eq_true h).1
  unfold tkK at this
  rcases Nat.lt_or_ge s n with z | z
  · exact z
  · rw [if_pos z] at this; cases this
abbrev Res : Type := (Nat × Nat) ⊕ (List Tok × Nat)
def rb (r : Res) (f : List Tok → Nat → Res) : Res := match r with
  | .inl e => .inl e
  | .inr q => f q.1 q.2
def psC (T : Wr) (n : Nat) (c : Int32) (s : Nat) : Res := if isC T n s c = true then .inr ([], nx T n s) else .inl (1, s)
def psO (T : Wr) (n : Nat) (c : Int32) (d s : Nat) : Res := if isC T n s c = true ∧ d = 0 then .inl (3, s) else psC T n c s
def opR (T : Wr) (n : Nat) (look : Nat → Option Nat) (u : Nat → Res) : Nat → List Tok → Nat → Res
  | 0, L, s => .inr (L, s)
  | r + 1, L, s => match look s with
    | none => .inr (L, s)
    | some c => rb (u (nx T n s)) (fun L2 s2 => opR T n look u r (L ++ L2 ++ [(c, 0)]) s2)
def chn (T : Wr) (n : Nat) (look : Nat → Option Nat) (u : Nat → Res) (s : Nat) : Res := rb (u s) (fun L s1 => opR T n look u (n + 1) L s1)
def lkS (T : Wr) (n s : Nat) : Option Nat := if isC T n s 43 = true then some 7 else if isC T n s 45 = true then some 8 else none
def lkP (T : Wr) (n s : Nat) : Option Nat := if isC T n s 42 = true then some 9 else if isC T n s 47 = true then some 10 else none
def lkO (T : Wr) (n s : Nat) : Option Nat := if isW T n s 13 = true then some 16 else none
def lkA (T : Wr) (n s : Nat) : Option Nat := if isW T n s 14 = true then some 17 else none
def fcN (T : Wr) (n s : Nat) : Option Nat := if isW T n s 7 = true then some 0 else if isW T n s 8 = true then some 1 else if isW T n s 9 = true then some 2 else if isW T n s 10 = true then some 3 else if isW T n s 11 = true then some 4 else if isW T n s 12 = true then some 5 else none
def clN (T : Wr) (n s : Nat) : Option Nat := if isW T n s 0 = true then some 0 else if isW T n s 1 = true then some 1 else if isW T n s 2 = true then some 2 else if isW T n s 3 = true then some 3 else none
def cmN (T : Wr) (n s : Nat) : Option Nat := if isC T n s 60 = true then some 13 else if isC T n s 62 = true then some 14 else if isC T n s 61 = true then some 15 else none
def cpl (T : Wr) (n : Nat) (u : Nat → Res) (d c s : Nat) : Res :=
  rb (psO T n 40 d (nx T n s)) (fun _ s1 => rb (u s1) (fun L s2 => rb (psC T n 44 s2) (fun _ s3 => rb (u s3) (fun L2 s4 => rb (psC T n 41 s4) (fun _ s5 => .inr (L ++ L2 ++ [(c, 0)], s5))))))
def unt (T : Wr) (n : Nat) (u : Nat → Res) (d s : Nat) : Res :=
  if tkK T n s = 1 then (if 999 < tkN T n s then .inl (2, s) else .inr ([(0, tkN T n s)], nx T n s))
  else if isC T n s 40 = true then rb (psO T n 40 d s) (fun _ s1 => rb (u s1) (fun L s2 => rb (psC T n 41 s2) (fun _ s3 => .inr (L, s3))))
  else if isW T n s 5 = true then cpl T n u d 11 s
  else if isW T n s 6 = true then cpl T n u d 12 s
  else match fcN T n s with
    | none => .inl (1, s)
    | some k => .inr ([(k + 1, 0)], nx T n s)
def sumD (T : Wr) (n : Nat) : Nat → Nat → Res
  | 0 => chn T n (lkS T n) (chn T n (lkP T n) (unt T n (fun s => .inl (1, s)) 0))
  | d + 1 => chn T n (lkS T n) (chn T n (lkP T n) (unt T n (sumD T n d) (d + 1)))
def ngt (T : Wr) (n : Nat) (nb : Nat → Res) (d s : Nat) : Res := if d = 0 then .inl (3, s) else rb (nb (nx T n s)) (fun L s1 => .inr (L ++ [(18, 0)], s1))
def cmp (T : Wr) (n : Nat) (sm : Nat → Res) (s : Nat) : Res := rb (sm s) (fun L s1 => match cmN T n s1 with
  | none => .inl (1, s1)
  | some c => rb (sm (nx T n s1)) (fun L2 s2 => .inr (L ++ L2 ++ [(c, 0)], s2)))
def bas (T : Wr) (n : Nat) (nb ne sm : Nat → Res) (d s : Nat) : Res :=
  if isW T n s 15 = true then ngt T n nb d s
  else if isC T n s 91 = true then rb (psO T n 91 d s) (fun _ s1 => rb (ne s1) (fun L s2 => rb (psC T n 93 s2) (fun _ s3 => .inr (L, s3))))
  else cmp T n sm s
def eit (T : Wr) (n : Nat) (b : Nat → Res) : Nat → Res := chn T n (lkO T n) (chn T n (lkA T n) b)
def basD (T : Wr) (n : Nat) : Nat → Nat → Res
  | 0 => bas T n (fun s => .inl (1, s)) (fun s => .inl (1, s)) (sumD T n 0) 0
  | d + 1 => bas T n (basD T n d) (eit T n (basD T n d)) (sumD T n (d + 1)) (d + 1)
/-- a clause; a law -/
def clR (T : Wr) (n k s : Nat) : (Nat × Nat) ⊕ (Cls × Nat) := match clN T n s with
  | none => .inl (1, s)
  | some w => if 12 ≤ k then .inl (3, s) else match sumD T n 6 (nx T n s) with
    | .inl e => .inl e
    | .inr (L, s1) => match (if isW T n s1 4 = true then eit T n (basD T n 6) (nx T n s1) else .inr ([], s1) : Res) with
      | .inl e => .inl e
      | .inr (C, s2) => if isC T n s2 59 = true then .inr ((w, L, C), nx T n s2) else .inl (1, s2)
def lwR (T : Wr) (n : Nat) : Nat → Nat → List Cls → Nat → (Nat × Nat) ⊕ List Cls
  | 0, _, cl, _ => .inr cl
  | r + 1, k, cl, s => if tkK T n s = 0 then .inr cl else match clR T n k s with
    | .inl e => .inl e
    | .inr (c, s1) => lwR T n r (k + 1) (cl ++ [c]) s1
/-- the law of a text -/
def lwT (T : Wr) (n : Nat) : (Nat × Nat) ⊕ List Cls := lwR T n 13 0 [] (skp T n 0)
/-! what comes out well -/
def gd (n : Nat) (b : Bool) (s : Nat) (r : Res) : Prop := ∀ L s', r = .inr (L, s') → s + L.length ≤ s' ∧ s' ≤ n ∧ s < s' ∧ (∀ t ∈ L, tokOk t) ∧ ∀ ts, tck L ts = some (b :: ts)
theorem rb_inr {r : Res} {f : List Tok → Nat → Res} {q : List Tok × Nat} (h : rb r f = .inr q) : ∃ L s, r = .inr (L, s) ∧ f L s = .inr q := by
  cases r with
  | inl e => cases h
  | inr p => exact ⟨p.1, p.2, rfl, h⟩
theorem psC_inr {T : Wr} {n s s' : Nat} {c : Int32} {L : List Tok} (hs : s ≤ n) (h : psC T n c s = .inr (L, s')) : L = [] ∧ s' = nx T n s ∧ s < s' ∧ s' ≤ n ∧ isC T n s c = true := by
  unfold psC at h
  by_cases k : isC T n s c = true
  · rw [if_pos k] at h
    cases h
    exact ⟨rfl, rfl, (nx_le hs).2.2 (isC_lt k), (nx_le hs).2.1, k⟩
  · rw [if_neg k] at h; cases h
theorem psO_inr {T : Wr} {n d s s' : Nat} {c : Int32} {L : List Tok} (hs : s ≤ n) (h : psO T n c d s = .inr (L, s')) : L = [] ∧ s' = nx T n s ∧ s < s' ∧ s' ≤ n ∧ d ≠ 0 := by
  unfold psO at h
  by_cases k : isC T n s c = true ∧ d = 0
  · rw [if_pos k] at h; cases h
  · rw [if_neg k] at h
    obtain ⟨h1, h2, h3, h4, h5⟩ := psC_inr hs h
    exact ⟨h1, h2, h3, h4, fun z => k ⟨h5, z⟩⟩
theorem opOk {c : Nat} (h1 : 1 ≤ c) (h2 : c ≤ 18) : tokOk (c, 0) := Or.inr ⟨h1, h2⟩
/-- a binary act over two values of kind b gives kind b' -/
def bin (b b' : Bool) (c : Nat) : Prop := 1 ≤ c ∧ c ≤ 18 ∧ ∀ ts, tst (c, 0) (b :: b :: ts) = some (b' :: ts)
theorem tck_bin {b b' : Bool} {c : Nat} {L L2 : List Tok} (h : bin b b' c) (h1 : ∀ ts, tck L ts = some (b :: ts)) (h2 : ∀ ts, tck L2 ts = some (b :: ts)) (ts : List Bool) : tck (L ++ L2 ++ [(c, 0)]) ts = some (b' :: ts) := by
  rw [tck_app, tck_app, h1]
  show (tck L2 (b :: ts)).bind _ = _
  rw [h2]
  show tck [(c, 0)] (b :: b :: ts) = _
  show (match tst (c, 0) (b :: b :: ts) with
    | some ts' => tck [] ts'
    | none => none) = _
  rw [h.2.2]; rfl
theorem gd_opR {T : Wr} {n : Nat} {look : Nat → Option Nat} {u : Nat → Res} {b : Bool} (hl : ∀ s c, look s = some c → s < n ∧ bin b b c) (hu : ∀ s, s ≤ n → gd n b s (u s)) : ∀ (r : Nat) (L : List Tok) (s0 s : Nat), s ≤ n → s0 + L.length ≤ s → s0 < s → (∀ t ∈ L, tokOk t) → (∀ ts, tck L ts = some (b :: ts)) → gd n b s0 (opR T n look u r L s)
  | 0, L, s0, s, h1, h2, h3, h4, h5 => by
    intro L' s' e
    cases e
    exact ⟨h2, h1, h3, h4, h5⟩
  | r + 1, L, s0, s, h1, h2, h3, h4, h5 => by
    intro L' s' e
    have e' : (match look s with
      | none => (.inr (L, s) : Res)
      | some c => rb (u (nx T n s)) (fun L2 s2 => opR T n look u r (L ++ L2 ++ [(c, 0)]) s2)) = .inr (L', s') := e
    cases k : look s with
    | none => rw [k] at e'; cases e'; exact ⟨h2, h1, h3, h4, h5⟩
    | some c =>
      rw [k] at e'
      obtain ⟨L2, s2, e1, e2⟩ := rb_inr e'
      obtain ⟨hlt, hb⟩ := hl s c k
      have hx := nx_le (T := T) h1
      obtain ⟨g1, g2, g3, g4, g5⟩ := hu _ hx.2.1 L2 s2 e1
      refine gd_opR hl hu r (L ++ L2 ++ [(c, 0)]) s0 s2 g2 ?_ (by omega) ?_ (tck_bin hb h5 g5) L' s' e2
      · have := hx.2.2 hlt
        simp only [List.length_append, List.length_cons, List.length_nil]; omega
      · intro t ht
        simp only [List.mem_append, List.mem_singleton] at ht
        rcases ht with (ht | ht) | ht
        · exact h4 t ht
        · exact g4 t ht
        · rw [ht]; exact opOk hb.1 hb.2.1
theorem gd_chn {T : Wr} {n : Nat} {look : Nat → Option Nat} {u : Nat → Res} {b : Bool} (hl : ∀ s c, look s = some c → s < n ∧ bin b b c) (hu : ∀ s, s ≤ n → gd n b s (u s)) {s : Nat} (hs : s ≤ n) : gd n b s (chn T n look u s) := by
  intro L' s' e
  obtain ⟨L, s1, e1, e2⟩ := rb_inr e
  obtain ⟨g1, g2, g3, g4, g5⟩ := hu s hs L s1 e1
  exact gd_opR hl hu _ L s s1 g2 g1 g3 g4 g5 L' s' e2

/-! LAWS, as pure words. A token: (0, n) a number; 1 .. 6 age, there, right, shown, weight, talks; 7 + 8 - 9 * 10 / 11 least 12 most 13 < 14 > 15 = 16 or 17 and 18 not -/
abbrev Tok : Type := Nat × Int32
def tokOk (t : Tok) : Prop := (t.1 = 0 ∧ ∃ k : Nat, k ≤ 999 ∧ t.2 = nI k) ∨ (1 ≤ t.1 ∧ t.1 ≤ 18)
def op2 (c : Nat) (a b : Int32) : Int32 :=
  if c = 7 then a + b else if c = 8 then a - b else if c = 9 then a * b else if c = 10 then (if b = 0 then 0 else a / b)
  else if c = 11 then (if a < b then a else b) else if c = 12 then (if b < a then a else b) else if c = 13 then (if a < b then 1 else 0)
  else if c = 14 then (if b < a then 1 else 0) else if c = 15 then (if a = b then 1 else 0) else if c = 17 then a &&& b else a ||| b
def stp (f : Nat → Int32) (t : Tok) (st : List Int32) : List Int32 :=
  if t.1 = 0 then t.2 :: st else if t.1 ≤ 6 then f (t.1 - 1) :: st
  else if t.1 = 18 then (match st with
    | a :: r => (1 - a) :: r
    | [] => [])
  else match st with
    | b :: a :: r => op2 t.1 a b :: r
    | _ => st
def ev (f : Nat → Int32) : List Tok → List Int32 → List Int32
  | [], st => st
  | t :: ts, st => ev f ts (stp f t st)
/-- the kinds on the stack: true for what is 0 or 1 -/
def tst (t : Tok) (ts : List Bool) : Option (List Bool) :=
  if t.1 ≤ 6 then some (false :: ts)
  else if t.1 = 18 then (match ts with
    | true :: r => some (true :: r)
    | _ => none)
  else if t.1 ≤ 12 then (match ts with
    | false :: false :: r => some (false :: r)
    | _ => none)
  else if t.1 ≤ 15 then (match ts with
    | false :: false :: r => some (true :: r)
    | _ => none)
  else if t.1 ≤ 17 then (match ts with
    | true :: true :: r => some (true :: r)
    | _ => none)
  else none
def tck : List Tok → List Bool → Option (List Bool)
  | [], ts => some ts
  | t :: l, ts => match tst t ts with
    | some ts' => tck l ts'
    | none => none
theorem tck_app : ∀ (a b : List Tok) (ts : List Bool), tck (a ++ b) ts = (tck a ts).bind (tck b)
  | [], b, ts => rfl
  | t :: a, b, ts => by
    simp only [List.cons_append, tck]
    cases tst t ts with
    | none => rfl
    | some x => exact tck_app a b x
theorem ev_app (f : Nat → Int32) : ∀ (a b : List Tok) (st : List Int32), ev f (a ++ b) st = ev f b (ev f a st)
  | [], b, st => rfl
  | t :: a, b, st => by simp only [List.cons_append, ev]; exact ev_app f a b _
/-- a stack of these kinds -/
def tys2 : List Bool → List Int32 → Prop
  | [], [] => True
  | b :: r, v :: s => (b = true → v = 0 ∨ v = 1) ∧ tys2 r s
  | _, _ => False
theorem tys2_len : ∀ {ts : List Bool} {st : List Int32}, tys2 ts st → st.length = ts.length
  | [], [], _ => rfl
  | _ :: r, _ :: s, h => by simp [tys2_len h.2]
  | [], _ :: _, h => h.elim
  | _ :: _, [], h => h.elim
theorem or01 {a b : Int32} (ha : a = 0 ∨ a = 1) (hb : b = 0 ∨ b = 1) : (a ||| b = 0 ∨ a ||| b = 1) ∧ (a &&& b = 0 ∨ a &&& b = 1) ∧ (1 - a = 0 ∨ 1 - a = 1) := by
  rcases ha with rfl | rfl <;> rcases hb with rfl | rfl <;> decide
theorem stp_ty {f : Nat → Int32} {t : Tok} {ts ts' : List Bool} {st : List Int32} (h : tst t ts = some ts') (hs : tys2 ts st) : tys2 ts' (stp f t st) := by
  unfold tst at h
  unfold stp
  by_cases c1 : t.1 ≤ 6
  · rw [if_pos c1] at h
    cases h
    by_cases c0 : t.1 = 0
    · rw [if_pos c0]; exact ⟨fun z => (by cases z), hs⟩
    · rw [if_neg c0, if_pos c1]; exact ⟨fun z => (by cases z), hs⟩
  · rw [if_neg c1] at h
    rw [if_neg (by omega), if_neg c1]
    by_cases c2 : t.1 = 18
    · rw [if_pos c2] at h ⊢
      match ts, st, h, hs with
      | true :: r, v :: s, h, hs =>
        cases h
        exact ⟨fun _ => (or01 (hs.1 rfl) (Or.inl rfl)).2.2, hs.2⟩
      | false :: _, _, h, _ => cases h
      | [], _, h, _ => cases h
      | true :: _, [], _, hs => exact hs.elim
    · rw [if_neg c2] at h ⊢
      by_cases c3 : t.1 ≤ 12
      · rw [if_pos c3] at h
        match ts, st, h, hs with
        | false :: false :: r, v :: w :: s, h, hs => cases h; exact ⟨fun z => (by cases z), hs.2.2⟩
        | false :: false :: _, [], _, hs => exact hs.elim
        | false :: false :: _, [_], _, hs => exact hs.2.elim
        | [], _, h, _ => cases h
        | [_], _, h, _ => simp at h
        | true :: _ :: _, _, h, _ => simp at h
        | false :: true :: _, _, h, _ => simp at h
      · rw [if_neg c3] at h
        by_cases c4 : t.1 ≤ 15
        · rw [if_pos c4] at h
          match ts, st, h, hs with
          | false :: false :: r, v :: w :: s, h, hs =>
            cases h
            refine ⟨fun _ => ?_, hs.2.2⟩
            unfold op2
            rw [if_neg (by omega), if_neg (by omega), if_neg (by omega), if_neg (by omega), if_neg (by omega), if_neg (by omega)]
            have : t.1 = 13 ∨ t.1 = 14 ∨ t.1 = 15 := by omega
            rcases this with e | e | e <;> simp only [e] <;> (repeat' split) <;> simp_all
          | false :: false :: _, [], _, hs => exact hs.elim
          | false :: false :: _, [_], _, hs => exact hs.2.elim
          | [], _, h, _ => cases h
          | [_], _, h, _ => simp at h
          | true :: _ :: _, _, h, _ => simp at h
          | false :: true :: _, _, h, _ => simp at h
        · rw [if_neg c4] at h
          by_cases c5 : t.1 ≤ 17
          · rw [if_pos c5] at h
            match ts, st, h, hs with
            | true :: true :: r, v :: w :: s, h, hs =>
              cases h
              refine ⟨fun _ => ?_, hs.2.2⟩
              have q := or01 (hs.2.1 rfl) (hs.1 rfl)
              unfold op2
              rw [if_neg (by omega), if_neg (by omega), if_neg (by omega), if_neg (by omega), if_neg (by omega), if_neg (by omega), if_neg (by omega), if_neg (by omega), if_neg (by omega)]
              split
              · exact q.2.1
              · exact q.1
            | true :: true :: _, [], _, hs => exact hs.elim
            | true :: true :: _, [_], _, hs => exact hs.2.elim
            | [], _, h, _ => cases h
            | [_], _, h, _ => simp at h
            | false :: _ :: _, _, h, _ => simp at h
            | true :: false :: _, _, h, _ => simp at h
          · rw [if_neg c5] at h; cases h
theorem ev_ty {f : Nat → Int32} : ∀ {l : List Tok} {ts ts' : List Bool} {st : List Int32}, tck l ts = some ts' → tys2 ts st → tys2 ts' (ev f l st)
  | [], ts, ts', st, h, hs => by cases h; exact hs
  | t :: l, ts, ts', st, h, hs => by
    unfold tck at h
    cases e : tst t ts with
    | none => rw [e] at h; cases h
    | some x => rw [e] at h; exact ev_ty (l := l) h (stp_ty e hs)
/-- a clause: its word, its value, its condition (none: []) -/
abbrev Cls : Type := Nat × List Tok × List Tok
def clsOk (c : Cls) : Prop := c.1 < 4 ∧ (∀ t ∈ c.2.1, tokOk t) ∧ (∀ t ∈ c.2.2, tokOk t) ∧ tck c.2.1 [] = some [false] ∧ (c.2.2 = [] ∨ tck c.2.2 [] = some [true])
/-- does the clause k hold -/
def clh (L : List Cls) (lo : Int32) (f : Nat → Int32) (word : Nat) (k : Nat) : Bool := match L[k]? with
  | some c => decide (c.1 = word) && decide (nI k ≠ lo) && (decide (c.2.2 = []) || decide ((ev f c.2.2 []).getD 0 0 ≠ 0))
  | none => false
def clv (L : List Cls) (f : Nat → Int32) (k : Nat) : Int32 := match L[k]? with
  | some c => kb ((ev f c.2.1 []).getD 0 0)
  | none => 0
/-- the last that holds among the first n; else what stands without -/
def lawv (L : List Cls) (lo : Int32) (f : Nat → Int32) (word : Nat) : Nat → Int32
  | 0 => zWI word
  | k + 1 => if clh L lo f word k then clv L f k else lawv L lo f word k
/-- what a law says -/
def lawOf (L : List Cls) (lo : Int32) (f : Nat → Int32) (word : Nat) : Int32 := lawv L lo f word L.length
def encC (t : Tok) : Int32 := if t.1 = 0 then t.2 else if t.1 ≤ 6 then nI (999 + t.1) else if t.1 ≤ 15 then nI (1993 + t.1) else if t.1 = 16 then 2010 else if t.1 = 17 then 2009 else 2011

/-! THE LAYOUT. Cells: 1 YardTalk; worlds at 2 + 11 i (0 now, 1 copy, 2 .. 5 images, 6 .. 8 films'), each with its ten rows behind it; films 101 + 2 j, gaps behind; laws 107 + 6 i, five rows behind; notes 143 .. 147; speech 148 .. 151; ruling 152 .. 154; reader 155; tape 156, crowd 157, tally 158; images 159, films 160, laws 161; the reference 162, the row of its field f at 163 + f; the law's long row 219. -/
def kW (h : Nat) : Nat → Nat := fun k => if k < 7 then 0 else h + k - 3
def wLen (j : Nat) : Nat := if j = 8 then 3072 else if j = 9 then 144 else if j = 10 then 48 else 24
def kF (h : Nat) : Nat → Nat := fun k => if k = 0 then 68 + 11 * ((h - 101) / 2) + 3 else if k = 1 then h + 4 else 0
def kL (h : Nat) : Nat → Nat := fun k => if k = 0 then 0 else if k = 6 then 0 else h + k + 3
def kN : Nat → Nat := fun k => if k = 0 then 0 else 146 + k
def kS : Nat → Nat := fun k => if k = 2 then 152 else if k = 4 then 153 else if k = 6 then 154 else 0
def kU : Nat → Nat := fun k => if k = 0 then 156 else if k = 1 then 157 else if k = 2 then 2 else 0
def kR : Nat → Nat := fun k => if k = 0 then 2 else if k = 2 then 2 else 0
def kY : Nat → Nat := fun k => if k = 0 then 5 else if k = 1 then 16 else if k = 2 then 162 else if k = 3 then 163 else if k = 4 then 164 else if k = 5 then 146 else if k = 6 then 151 else if k = 7 then 155 else if k = 8 then 158 else if k = 9 then 159 else if k = 10 then 160 else if k = 11 then 161 else 0
/-- the reference: its rows by their fields; w moves -/
def mLen (f : Nat) : Nat := if f = 1 then 3464 else if f = 2 then 3464 else if f = 13 then 300 else if f = 14 then 6 else if f = 15 then 72 else if f = 16 then 72 else if f = 17 then 72 else if f = 18 then 72 else if f = 19 then 1800 else if f = 20 then 1800 else if f = 28 then 160 else if f = 34 then 3 else if f = 35 then 3 else if f = 36 then 3 else if f = 38 then 30000 else if f = 39 then 12 else if f = 40 then 144 else if f = 42 then 24 else if f = 47 then 3 else if f = 48 then 3 else if f = 49 then 10392 else if f = 50 then 300 else if f = 51 then 9 else if f = 52 then 192 else if f = 53 then 24 else if f = 55 then 13856 else 0
def kM : Nat → Nat := fun k => if k = 3 then 2 else if mLen k = 0 then 0 else 166 + k
def kz : Nat → Nat := fun _ => 0
def lay (a : Nat) : Ly :=
  if a = 0 then (.inr .int, 0, kz)
  else if a = 1 then (.inl 7, 18, kY)
  else if a < 101 then (if (a - 2) % 11 = 0 then (.inl 6, 17, kW a) else (.inr .int, wLen ((a - 2) % 11), kz))
  else if a < 107 then (if (a - 101) % 2 = 0 then (.inl 0, 4, kF a) else (.inr .boolean, 100, kz))
  else if a < 143 then (if (a - 107) % 6 = 0 then (.inl 1, 7, kL a) else (.inr .int, (if (a - 107) % 6 = 5 then 300 else 12), kz))
  else if a = 143 then (.inl 3, 5, kN)
  else if a = 144 then (.inr .int, 28500, kz)
  else if a = 145 then (.inr .int, 6, kz)
  else if a = 146 then (.inr .int, 6, kz)
  else if a = 147 then (.inr .int, 144, kz)
  else if a = 148 then (.inl 5, 10, kS)
  else if a < 152 then (.inr .int, 3, kz)
  else if a = 152 then (.inl 4, 4, kU)
  else if a = 153 then (.inr .int, 6, kz)
  else if a = 154 then (.inr .int, 300, kz)
  else if a = 155 then (.inl 2, 9, kR)
  else if a = 156 then (.inr .int, 300, kz)
  else if a < 159 then (.inr .int, 24, kz)
  else if a = 159 then (.inr (.object "YardTalk$World"), 4, fun j => 24 + 11 * j + 3)
  else if a = 160 then (.inr (.object "YardTalk$Film"), 3, fun j => 101 + 2 * j + 3)
  else if a = 161 then (.inr (.object "YardTalk$Law"), 6, fun j => 107 + 6 * j + 3)
  else if a = 162 then (.inl 8, 56, kM)
  else if a = 213 then (.inr .boolean, 300, kz)
  else if a < 219 then (.inr .int, mLen (a - 163), kz)
  else (.inr .long, 1, fun _ => 1)
/-- the cells that are there: those with a slot -/
def NC : List Nat := (List.range 220).filter (fun a => decide ((lay a).2.1 ≠ 0))
theorem nc_mem {a : Nat} (h : a < 220) (h2 : (lay a).2.1 ≠ 0) : a ∈ NC := List.mem_filter.mpr ⟨List.mem_range.mpr h, decide_eq_true h2⟩
/-- a world's cell -/
def Wo (h : Nat) : Prop := ∃ i : Nat, i < 9 ∧ h = 2 + 11 * i
def Lw (h : Nat) : Prop := ∃ i : Nat, i < 6 ∧ h = 107 + 6 * i
def Fm (h : Nat) : Prop := ∃ i : Nat, i < 3 ∧ h = 101 + 2 * i
theorem Wo.ob {h : Nat} (q : Wo h) : Ob lay NC 6 h 17 (kW h) := by
  obtain ⟨i, hi, e⟩ := q
  have e9 : lay (h) = (.inl 6, 17, (kW h)) := by
    unfold lay
    rw [if_neg (by omega), if_neg (by omega), if_pos (by omega), if_pos (by omega)]
  exact ⟨nc_mem (by omega) (by rw [e9]; exact Nat.succ_ne_zero _), e9⟩
theorem wLen_nz (j : Nat) : wLen j ≠ 0 := by unfold wLen; split; decide; split; decide; split <;> decide
theorem Wo.ar {h : Nat} (q : Wo h) (j : Nat) (h1 : 0 < j) (h2 : j < 11) : Ar lay NC .int (h + j) (wLen j) := by
  obtain ⟨i, hi, e⟩ := q
  have e9 : lay (h + j) = (.inr .int, (wLen j), kz) := by
    unfold lay
    rw [if_neg (by omega), if_neg (by omega), if_pos (by omega), if_neg (by omega), show (h + j - 2) % 11 = j by omega]
  exact ⟨nc_mem (by omega) (by rw [e9]; exact wLen_nz j), kz, e9, rfl⟩
theorem Lw.ob {h : Nat} (q : Lw h) : Ob lay NC 1 h 7 (kL h) := by
  obtain ⟨i, hi, e⟩ := q
  have e9 : lay (h) = (.inl 1, 7, (kL h)) := by
    unfold lay
    rw [if_neg (by omega), if_neg (by omega), if_neg (by omega), if_neg (by omega), if_pos (by omega), if_pos (by omega)]
  exact ⟨nc_mem (by omega) (by rw [e9]; exact Nat.succ_ne_zero _), e9⟩
theorem Lw.ar {h : Nat} (q : Lw h) (j : Nat) (h1 : 0 < j) (h2 : j < 6) : Ar lay NC .int (h + j) (if j = 5 then 300 else 12) := by
  obtain ⟨i, hi, e⟩ := q
  have e9 : lay (h + j) = (.inr .int, (if j = 5 then 300 else 12), kz) := by
    unfold lay
    rw [if_neg (by omega), if_neg (by omega), if_neg (by omega), if_neg (by omega), if_pos (by omega), if_neg (by omega), show (h + j - 107) % 6 = j by omega]
  exact ⟨nc_mem (by omega) (by rw [e9]; show (if j = 5 then 300 else 12) ≠ 0; split <;> decide), kz, e9, rfl⟩
theorem Fm.ob {h : Nat} (q : Fm h) : Ob lay NC 0 h 4 (kF h) := by
  obtain ⟨i, hi, e⟩ := q
  have e9 : lay (h) = (.inl 0, 4, (kF h)) := by
    unfold lay
    rw [if_neg (by omega), if_neg (by omega), if_neg (by omega), if_pos (by omega), if_pos (by omega)]
  exact ⟨nc_mem (by omega) (by rw [e9]; exact Nat.succ_ne_zero _), e9⟩
theorem Fm.ar {h : Nat} (q : Fm h) : Ar lay NC .boolean (h + 1) 100 := by
  obtain ⟨i, hi, e⟩ := q
  have e9 : lay (h + 1) = (.inr .boolean, 100, kz) := by
    unfold lay
    rw [if_neg (by omega), if_neg (by omega), if_neg (by omega), if_pos (by omega), if_neg (by omega)]
  exact ⟨nc_mem (by omega) (by rw [e9]; exact Nat.succ_ne_zero _), kz, e9, rfl⟩
theorem ob1 : Ob lay NC 7 1 18 kY := ⟨nc_mem (by decide) (by decide), rfl⟩
theorem ob143 : Ob lay NC 3 143 5 kN := ⟨nc_mem (by decide) (by decide), rfl⟩
theorem ob148 : Ob lay NC 5 148 10 kS := ⟨nc_mem (by decide) (by decide), rfl⟩
theorem ob152 : Ob lay NC 4 152 4 kU := ⟨nc_mem (by decide) (by decide), rfl⟩
theorem ob155 : Ob lay NC 2 155 9 kR := ⟨nc_mem (by decide) (by decide), rfl⟩
theorem ob162 : Ob lay NC 8 162 56 kM := ⟨nc_mem (by decide) (by decide), rfl⟩
theorem ar144 : Ar lay NC .int 144 28500 := ⟨nc_mem (by decide) (by decide), kz, rfl, rfl⟩
theorem ar145 : Ar lay NC .int 145 6 := ⟨nc_mem (by decide) (by decide), kz, rfl, rfl⟩
theorem ar146 : Ar lay NC .int 146 6 := ⟨nc_mem (by decide) (by decide), kz, rfl, rfl⟩
theorem ar147 : Ar lay NC .int 147 144 := ⟨nc_mem (by decide) (by decide), kz, rfl, rfl⟩
theorem ar149 : Ar lay NC .int 149 3 := ⟨nc_mem (by decide) (by decide), kz, rfl, rfl⟩
theorem ar150 : Ar lay NC .int 150 3 := ⟨nc_mem (by decide) (by decide), kz, rfl, rfl⟩
theorem ar151 : Ar lay NC .int 151 3 := ⟨nc_mem (by decide) (by decide), kz, rfl, rfl⟩
theorem ar153 : Ar lay NC .int 153 6 := ⟨nc_mem (by decide) (by decide), kz, rfl, rfl⟩
theorem ar154 : Ar lay NC .int 154 300 := ⟨nc_mem (by decide) (by decide), kz, rfl, rfl⟩
theorem ar156 : Ar lay NC .int 156 300 := ⟨nc_mem (by decide) (by decide), kz, rfl, rfl⟩
theorem ar157 : Ar lay NC .int 157 24 := ⟨nc_mem (by decide) (by decide), kz, rfl, rfl⟩
theorem ar158 : Ar lay NC .int 158 24 := ⟨nc_mem (by decide) (by decide), kz, rfl, rfl⟩
theorem aq159 : Aq lay NC "YardTalk$World" 159 4 (fun j => 24 + 11 * j + 3) := ⟨nc_mem (by decide) (by decide), rfl, ⟨24, rfl⟩⟩
theorem aq160 : Aq lay NC "YardTalk$Film" 160 3 (fun j => 101 + 2 * j + 3) := ⟨nc_mem (by decide) (by decide), rfl, ⟨101, rfl⟩⟩
theorem aq161 : Aq lay NC "YardTalk$Law" 161 6 (fun j => 107 + 6 * j + 3) := ⟨nc_mem (by decide) (by decide), rfl, ⟨107, rfl⟩⟩
theorem al219 : Al lay NC 219 1 := ⟨nc_mem (by decide) (by decide), fun _ => 1, rfl, rfl⟩
theorem az213 : Ar lay NC .boolean 213 300 := ⟨nc_mem (by decide) (by decide), kz, rfl, rfl⟩
theorem arM (f len : Nat) (h1 : f < 56) (h2 : f ≠ 50) (h3 : mLen f = len) (h4 : len ≠ 0 := by decide) : Ar lay NC .int (163 + f) len := by
  have e9 : lay (163 + f) = (.inr .int, len, kz) := by
    unfold lay
    rw [if_neg (by omega), if_neg (by omega), if_neg (by omega), if_neg (by omega), if_neg (by omega), if_neg (by omega), if_neg (by omega), if_neg (by omega), if_neg (by omega), if_neg (by omega), if_neg (by omega), if_neg (by omega), if_neg (by omega), if_neg (by omega), if_neg (by omega), if_neg (by omega), if_neg (by omega), if_neg (by omega), if_neg (by omega), if_neg (by omega), if_neg (by omega), if_neg (by omega), if_neg (by omega), if_pos (by omega), show 163 + f - 163 = f by omega, h3]
  exact ⟨nc_mem (by omega) (by rw [e9]; exact h4), kz, e9, rfl⟩
theorem wo_now : Wo 2 := ⟨0, by decide, rfl⟩
theorem wo_copy : Wo 13 := ⟨1, by decide, rfl⟩

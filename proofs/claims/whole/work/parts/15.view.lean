/-! THE VIEW of a world: one row of 3,464 numbers, as the reference has it -/
def wx (i : Nat) : Option (Nat × Nat) :=
  if i < 7 then some (0, i)
  else if i < 8 then none
  else if i < 56 then some (10, i - 8)
  else if 3464 ≤ i then none
  else if (i - 56) % 142 < 3 then some ((i - 56) % 142 + 1, (i - 56) / 142)
  else if (i - 56) % 142 = 3 then some (5, (i - 56) / 142)
  else if (i - 56) % 142 = 4 then some (4, (i - 56) / 142)
  else if (i - 56) % 142 < 7 then some ((i - 56) % 142 + 1, (i - 56) / 142)
  else if (i - 56) % 142 = 7 then none
  else if (i - 56) % 142 < 136 then some (8, (i - 56) / 142 * 128 + ((i - 56) % 142 - 8))
  else some (9, (i - 56) / 142 * 6 + ((i - 56) % 142 - 136))
def wv (g : Mm) (h : Nat) : Nat → Int32 := fun i => match wx i with
  | some q => g (h + q.1) q.2
  | none => 0
theorem wx_le {i : Nat} {q : Nat × Nat} (e : wx i = some q) : q.1 ≤ 10 := by
  unfold wx at e
  repeat' split at e
  all_goals first | (cases e; done) | (cases e; dsimp only; omega)
def wi (q : Nat × Nat) : Nat := if q.1 = 0 then q.2 else if q.1 = 10 then 8 + q.2 else if q.1 = 8 then 56 + 142 * (q.2 / 128) + 8 + q.2 % 128 else if q.1 = 9 then 56 + 142 * (q.2 / 6) + 136 + q.2 % 6 else if q.1 = 5 then 56 + 142 * q.2 + 3 else if q.1 = 4 then 56 + 142 * q.2 + 4 else 56 + 142 * q.2 + q.1 - 1
theorem wi_wx {i : Nat} {q : Nat × Nat} (e : wx i = some q) : wi q = i := by
  unfold wx at e
  repeat' split at e
  all_goals first | (cases e; done) | skip
  all_goals (cases e; dsimp only [wi]; (repeat' split) <;> omega)
theorem wx_inj {i i' : Nat} {q : Nat × Nat} (e : wx i = some q) (e' : wx i' = some q) : i = i' := by rw [← wi_wx e, ← wi_wx e']
theorem wv_u2 {g : Mm} {h i0 j0 k0 : Nat} {v : Int32} (e : wx i0 = some (j0, k0)) : wv (u2 g (h + j0) k0 v) h = upd (wv g h) i0 v := by
  funext i
  unfold upd
  by_cases hi : i = i0
  · subst hi
    rw [if_pos rfl]
    simp [wv, e, u2]
  · rw [if_neg hi]
    cases e2 : wx i with
    | none => simp [wv, e2]
    | some q =>
      have : ¬ (h + q.1 = h + j0 ∧ q.2 = k0) := by
        intro z
        obtain ⟨z1, z2⟩ := z
        have : q = (j0, k0) := by cases q; simp at z1 z2 ⊢; exact ⟨z1, z2⟩
        rw [this] at e2
        exact hi (wx_inj e2 e)
      simp only [wv, e2, u2, this, if_false]
theorem wv_at {g : Mm} {h i j k : Nat} (e : wx i = some (j, k)) : wv g h i = g (h + j) k := by unfold wv; rw [e]
theorem wv_fr {g g' : Mm} {h : Nat} (hf : ∀ a, h ≤ a → a ≤ h + 10 → g' a = g a) : wv g' h = wv g h := by
  funext i
  unfold wv
  cases e : wx i with
  | none => rfl
  | some q =>
    have := wx_le e
    simp only []
    rw [hf (h + q.1) (by omega) (by omega)]
theorem wx_i {k : Nat} (h : k < 7) : wx k = some (0, k) := by unfold wx; rw [if_pos h]
theorem sp {a b c d : Nat} (h1 : a = c) (h2 : b = d) : some (a, b) = some (c, d) := by subst h1 h2; rfl
theorem wx_use {i : Nat} (h : i < 48) : wx (8 + i) = some (10, i) := by unfold wx; rw [if_neg (by omega), if_neg (by omega), if_pos (by omega)]; exact sp rfl (by omega)
theorem wx_blk {c r : Nat} (hc : c < 24) (hr : r < 142) : wx (56 + 142 * c + r) = if r < 3 then some (r + 1, c) else if r = 3 then some (5, c) else if r = 4 then some (4, c) else if r < 7 then some (r + 1, c) else if r = 7 then none else if r < 136 then some (8, c * 128 + (r - 8)) else some (9, c * 6 + (r - 136)) := by
  have e0 : 56 + 142 * c + r - 56 = 142 * c + r := by omega
  have e1 : (142 * c + r) % 142 = r := by rw [Nat.mul_add_mod]; exact Nat.mod_eq_of_lt hr
  have e2 : (142 * c + r) / 142 = c := by omega
  unfold wx
  rw [if_neg (by omega), if_neg (by omega), if_neg (by omega), if_neg (by omega), e0, e1, e2]
theorem wx_yard {c : Nat} (h : c < 24) : wx (56 + 142 * c) = some (1, c) := wx_blk (r := 0) h (by decide)
theorem wx_age {c : Nat} (h : c < 24) : wx (56 + 142 * c + 1) = some (2, c) := wx_blk (r := 1) h (by decide)
theorem wx_came {c : Nat} (h : c < 24) : wx (56 + 142 * c + 2) = some (3, c) := wx_blk (r := 2) h (by decide)
theorem wx_there {c : Nat} (h : c < 24) : wx (56 + 142 * c + 3) = some (5, c) := wx_blk (r := 3) h (by decide)
theorem wx_kind {c : Nat} (h : c < 24) : wx (56 + 142 * c + 4) = some (4, c) := wx_blk (r := 4) h (by decide)
theorem wx_took {c : Nat} (h : c < 24) : wx (56 + 142 * c + 5) = some (6, c) := wx_blk (r := 5) h (by decide)
theorem wx_said {c : Nat} (h : c < 24) : wx (56 + 142 * c + 6) = some (7, c) := wx_blk (r := 6) h (by decide)
theorem wx_sign {c p s : Nat} (h : c < 24) (hp : p < 8) (hs : s < 16) : wx (56 + 142 * c + 8 + 16 * p + s) = some (8, (c * 8 + p) * 16 + s) := by
  rw [show 56 + 142 * c + 8 + 16 * p + s = 56 + 142 * c + (8 + 16 * p + s) by omega, wx_blk h (by omega), if_neg (by omega), if_neg (by omega), if_neg (by omega), if_neg (by omega), if_neg (by omega), if_pos (by omega)]
  exact sp rfl (by omega)
theorem wx_order {c o : Nat} (h : c < 24) (ho : o < 6) : wx (56 + 142 * c + 136 + o) = some (9, c * 6 + o) := by
  rw [show 56 + 142 * c + 136 + o = 56 + 142 * c + (136 + o) by omega, wx_blk h (by omega), if_neg (by omega), if_neg (by omega), if_neg (by omega), if_neg (by omega), if_neg (by omega), if_neg (by omega)]
  exact sp rfl (by omega)
/-- a world that is held rightly -/
def Vd (w : Nat → Int32) : Prop :=
  (∃ n : Nat, n ≤ 24 ∧ w 6 = nI n ∧ ∀ c, n ≤ c → c < 24 → ∀ r, r < 142 → w (56 + 142 * c + r) = 0) ∧
  (∃ p : Nat, p ≤ 100 ∧ w 4 = nI p) ∧ (w 5 = -1 ∨ ∃ i : Nat, i < 6 ∧ w 5 = nI i) ∧
  (∀ c, c < 24 → ∃ y : Nat, y < 3 ∧ w (56 + 142 * c) = nI y) ∧
  (∀ c, c < 24 → w (56 + 142 * c + 3) = 0 ∨ w (56 + 142 * c + 3) = 1) ∧
  (∀ c, c < 24 → ∃ k : Nat, k < 4 ∧ w (56 + 142 * c + 4) = nI k) ∧
  (∀ c, c < 24 → ∀ r, 8 ≤ r → r < 142 → 0 ≤ w (56 + 142 * c + r) ∧ w (56 + 142 * c + r) ≤ 999)

/-! WHAT A TALK KEEPS: the words of a world that no talk changes, and the bounds of the weights -/
def fxI (i : Nat) : Prop := (i ≠ 1 ∧ i < 8) ∨ (56 ≤ i ∧ (i - 56) % 142 < 5)
def wgI (i : Nat) : Prop := 56 ≤ i ∧ 8 ≤ (i - 56) % 142
def Kp (w w' : Wr) : Prop := (∀ i, fxI i → w' i = w i) ∧ ∀ i, wgI i → (0 ≤ w i ∧ w i ≤ 999) → 0 ≤ w' i ∧ w' i ≤ 999
theorem Kp.refl (w : Wr) : Kp w w := ⟨fun _ _ => rfl, fun _ _ h => h⟩
theorem Kp.trans {w w' w'' : Wr} (a : Kp w w') (b : Kp w' w'') : Kp w w'' := ⟨fun i h => by rw [b.1 i h, a.1 i h], fun i h q => b.2 i h (a.2 i h q)⟩
theorem blk_mod {c r : Nat} (hr : r < 142) : (56 + 142 * c + r - 56) % 142 = r := by rw [show 56 + 142 * c + r - 56 = 142 * c + r by omega, Nat.mul_add_mod]; exact Nat.mod_eq_of_lt hr
theorem Kp_upd {w : Wr} {i : Nat} {v : Int32} (h1 : ¬ fxI i) (h2 : ¬ wgI i) : Kp w (upd w i v) :=
  ⟨fun j hj => by unfold upd; rw [if_neg (fun e => h1 (by rw [← e]; exact hj))], fun j hj q => by unfold upd; rw [if_neg (fun e => h2 (by rw [← e]; exact hj))]; exact q⟩
theorem Kp_row {w : Wr} {c r n : Nat} {F : Nat → Int32} (h8 : 8 ≤ r) (hn : r + n ≤ 142) (hF : ∀ i, 0 ≤ F i ∧ F i ≤ 999) : Kp w (fun i => if 56 + 142 * c + r ≤ i ∧ i < 56 + 142 * c + r + n then F i else w i) := by
  constructor
  · intro i hi
    have : ¬ (56 + 142 * c + r ≤ i ∧ i < 56 + 142 * c + r + n) := by
      rintro ⟨a, b⟩
      have e : i = 56 + 142 * c + (i - 56 - 142 * c) := by omega
      have e2 := blk_mod (c := c) (r := i - 56 - 142 * c) (by omega)
      rw [← e] at e2
      unfold fxI at hi
      omega
    simp only [this, if_false]
  · intro i hi q
    by_cases e : 56 + 142 * c + r ≤ i ∧ i < 56 + 142 * c + r + n
    · simp only [e, and_self, if_true]; exact hF i
    · simp only [e, if_false]; exact q
theorem Kp_lrn {w : Wr} {c r n x : Nat} {V V' : Int32 → Int32} (h8 : 8 ≤ r) (hn : r + n ≤ 142) : Kp w (lrn w (56 + 142 * c + r) n x V V') :=
  Kp_row h8 hn (fun i => by split <;> exact kb_rng _)
theorem Kp_st1 {w : Wr} {c r : Nat} (h8 : 8 ≤ r) (hn : r < 142) : Kp w (st1 w (56 + 142 * c + r)) := by
  have := Kp_row (w := w) (c := c) (r := r) (n := 1) (F := fun _ => kb (w (56 + 142 * c + r) + 1)) h8 (by omega) (fun _ => kb_rng _)
  have e : st1 w (56 + 142 * c + r) = (fun i => if 56 + 142 * c + r ≤ i ∧ i < 56 + 142 * c + r + 1 then kb (w (56 + 142 * c + r) + 1) else w i) := by
    funext i
    unfold st1 upd
    by_cases e : i = 56 + 142 * c + r
    · rw [if_pos e, if_pos (by omega)]
    · rw [if_neg e, if_neg (by omega)]
  rw [e]; exact this
theorem Kp_1 {w : Wr} {v : Int32} : Kp w (upd w 1 v) := Kp_upd (by unfold fxI; omega) (by unfold wgI; omega)
theorem Kp_use1 {w : Wr} {y s : Nat} (hy : y < 3) (hs : s < 16) : Kp w (use1 w y s) := Kp_upd (by unfold fxI; omega) (by unfold wgI; omega)
theorem Kp_inc {w : Wr} {c r : Nat} (h5 : 5 ≤ r) (h8 : r < 8) : Kp w (inc1 w (56 + 142 * c + r)) :=
  Kp_upd (by unfold fxI; rw [blk_mod (by omega)]; omega) (by unfold wgI; rw [blk_mod (by omega)]; omega)
theorem Kp_useK {w : Wr} {y : Nat} {s : Nat → Nat} (hy : y < 3) (hs : ∀ k, s k < 16) : ∀ k, Kp w (useK w y s k)
  | 0 => Kp.refl w
  | k + 1 => (Kp_useK hy hs k).trans (Kp_use1 hy (hs k))
theorem Kp_sayK {w : Wr} {a : Nat} {mt : Nat → Nat} : ∀ k, Kp w (sayK w a mt k)
  | 0 => Kp_1
  | k + 1 => (Kp_sayK k).trans Kp_1
theorem Kp_sayW {w : Wr} {a y : Nat} {mt : Nat → Nat} (hy : y < 3) : Kp w (sayW w a y mt) := (Kp_sayK 3).trans (Kp_useK hy (sayS_lt w a mt) 3)
theorem sgB_r {c p : Nat} : sgB c p = 56 + 142 * c + (8 + 16 * p) := by unfold sgB; omega
theorem odB_r {c : Nat} : odB c = 56 + 142 * c + 136 := rfl
theorem Kp_lrnS {w : Wr} {y b its k : Nat} {s part : Nat → Nat} {V : Nat → Int32 → Int32} (hp : ∀ r, part r < 4) : Kp w (lrnS w y b its s part V k) := by
  unfold lrnS
  have := con_lt (r := rN (its * 3 + k)) (hp (rN (its * 3 + k)))
  rw [sgB_r]
  exact Kp_lrn (by omega) (by omega)
theorem Kp_lrnK {w : Wr} {y b its : Nat} {s part : Nat → Nat} {V : Nat → Int32 → Int32} (hp : ∀ r, part r < 4) : ∀ k, Kp w (lrnK w y b its s part V k)
  | 0 => Kp.refl w
  | k + 1 => (Kp_lrnK hp k).trans (Kp_lrnS hp)
theorem Kp_mkR {w : Wr} {b its : Nat} {V3 : Int32 → Int32} : Kp w (mkR w b its V3) := by
  unfold mkR
  split
  · rw [odB_r]; exact Kp_row (by decide) (by decide) (fun i => by split <;> decide)
  · exact Kp.refl w
theorem Kp_lrnW {w : Wr} {y b its : Nat} {s part : Nat → Nat} {V : Nat → Int32 → Int32} (hp : ∀ r, part r < 4) : Kp w (lrnW w y b its s part V) := by
  unfold lrnW
  split
  · exact Kp_lrnK hp 3
  · have h1 : Kp w (lrnK w y b its s part V 3) := Kp_lrnK hp 3
    have h2 : Kp (lrnK w y b its s part V 3) (lrn (lrnK w y b its s part V 3) (odB b) 6 its (V 1) (V 2)) := by rw [odB_r]; exact Kp_lrn (by decide) (by decide)
    exact (h1.trans h2).trans Kp_mkR
theorem Kp_lrnF {w : Wr} {y b its : Nat} {s part : Nat → Nat} {V : Nat → Int32 → Int32} (hp : ∀ r, part r < 4) : Kp w (lrnF w y b its s part V) := by
  unfold lrnF
  split
  · exact Kp.refl w
  · exact Kp_lrnW hp
theorem Kp_strK {w : Wr} {a o : Nat} {s mt : Nat → Nat} (hs : ∀ k, s k < 16) (hm : ∀ r, mt r < 4) : ∀ k, Kp w (strK w a o s mt k)
  | 0 => Kp.refl w
  | k + 1 => (Kp_strK hs hm k).trans (by
      have h1 := con_lt (r := rN (o * 3 + k)) (hm (rN (o * 3 + k)))
      have h2 := hs k
      show Kp _ (st1 _ _)
      rw [sgB_r, Nat.add_assoc (56 + 142 * a)]
      exact Kp_st1 (by omega) (by omega))
theorem Kp_strW {w : Wr} {a o : Nat} {s mt : Nat → Nat} (ho : o < 6) (hs : ∀ k, s k < 16) (hm : ∀ r, mt r < 4) : Kp w (strW w a o s mt) := by
  unfold strW
  split
  · exact Kp.refl w
  · split
    · exact Kp_strK hs hm 3
    · have h1 : Kp w (strK w a o s mt 3) := Kp_strK hs hm 3
      have h2 : Kp (strK w a o s mt 3) (st1 (strK w a o s mt 3) (odB a + o)) := by
        rw [odB_r, Nat.add_assoc (56 + 142 * a)]
        exact Kp_st1 (by omega) (by omega)
      exact h1.trans h2
theorem tTk_lt {w : Wr} {a b y : Nat} {mt : Nat → Nat} {r : Nat} : tTk w a b y mt r < 4 := bst_lt (by decide)
/-- A TALK keeps -/
theorem Kp_tW6 {lw : Option (List Cls)} {lo : Int32} {w : Wr} {a b y : Nat} {mt : Nat → Nat} (hy : y < 3) (hm : ∀ r, mt r < 4) : Kp w (tW6 lw lo w a b y mt) := by
  have h3 : Kp w (tW3 w a b y mt) := ((Kp_sayW hy).trans Kp_1).trans Kp_1
  have hp : ∀ r, tPt w a b y mt r < 4 := fun r => by unfold tPt; split; exact tTk_lt; exact hm r
  have h4 : Kp w (tW4 lw lo w a b y mt) := h3.trans (Kp_lrnF hp)
  have h5 : Kp w (tW5 lw lo w a b y mt) := by
    unfold tW5
    split
    · exact h4
    · exact h4.trans (Kp_strW (sayO_lt w a) (sayS_lt w a mt) hm)
  exact (h5.trans (Kp_inc (by decide) (by decide))).trans (Kp_inc (by decide) (by decide))
/-- what is kept, of a world that is held rightly -/
theorem Kp.wt {w w' : Wr} (k : Kp w w') {c : Nat} (h : Wt w c) : Wt w' c := fun r h1 h2 => k.2 _ ⟨by omega, by rw [blk_mod h2]; exact h1⟩ (h r h1 h2)
theorem Kp.hd {w w' : Wr} (k : Kp w w') {c r : Nat} (hr : r < 5) : w' (56 + 142 * c + r) = w (56 + 142 * c + r) := k.1 _ (Or.inr ⟨by omega, by rw [blk_mod (by omega)]; exact hr⟩)
theorem Kp.lo {w w' : Wr} (k : Kp w w') {i : Nat} (h1 : i ≠ 1) (hi : i < 8) : w' i = w i := k.1 _ (Or.inl ⟨h1, hi⟩)


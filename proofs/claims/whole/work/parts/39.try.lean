/-! THE CLASS: talks that are tried out on a copy -/
def thrW (w : Wr) (y : Int32) (c : Nat) : Bool := decide (w (56 + 142 * c + 3) = 1 ∧ w (56 + 142 * c) = y)
theorem thrW_thr {g : Mm} {h c : Nat} {y : Int32} (hc : c < 24) : thrW (wv g h) y c = thr g h y c := by
  unfold thrW thr; rw [wv_at (wx_there hc), wv_at (wx_yard hc)]
/-- one drawn talk among the n children of cr in yard y -/
def trS (lw : Option (List Cls)) (lo : Int32) (cr : Nat → Nat) (n y : Nat) (w : Wr) : Wr := tW6 lw lo (upd w 0 (adv5 (w 0))) (cr (dI (w 0) n)) (cr (dJ (w 0) n)) y (dM (w 0))
def trK (lw : Option (List Cls)) (lo : Int32) (cr : Nat → Nat) (n y : Nat) (w : Wr) : Nat → Wr
  | 0 => w
  | k + 1 => trS lw lo cr n y (trK lw lo cr n y w k)
theorem dM_lt {s : Int32} {r : Nat} : dM s r < 4 := by unfold dM; split; exact dr_lt (by decide); split; exact dr_lt (by decide); exact dr_lt (by decide)
/-- the words but 0 and 1 that a drawn talk keeps -/
def Kq (w w' : Wr) : Prop := (∀ i, i ≠ 0 → fxI i → w' i = w i) ∧ ∀ i, wgI i → (0 ≤ w i ∧ w i ≤ 999) → 0 ≤ w' i ∧ w' i ≤ 999
theorem Kq_trS {lw : Option (List Cls)} {lo : Int32} {cr : Nat → Nat} {n y : Nat} {w : Wr} (hy : y < 3) : Kq w (trS lw lo cr n y w) := by
  have k := Kp_tW6 (lw := lw) (lo := lo) (w := upd w 0 (adv5 (w 0))) (a := cr (dI (w 0) n)) (b := cr (dJ (w 0) n)) (y := y) (mt := dM (w 0)) hy (fun _ => dM_lt)
  refine ⟨fun i h0 hi => ?_, fun i hi hq => k.2 i hi ?_⟩
  · show tW6 _ _ _ _ _ _ _ i = _
    rw [k.1 i hi]; unfold upd; rw [if_neg h0]
  · unfold upd; rw [if_neg (by unfold wgI at hi; omega)]; exact hq
theorem Kq_trK {lw : Option (List Cls)} {lo : Int32} {cr : Nat → Nat} {n y : Nat} {w : Wr} (hy : y < 3) : ∀ k, Kq w (trK lw lo cr n y w k)
  | 0 => ⟨fun _ _ _ => rfl, fun _ _ q => q⟩
  | k + 1 => by
    have a := Kq_trK (lw := lw) (lo := lo) (cr := cr) (n := n) (w := w) hy k
    have b := Kq_trS (lw := lw) (lo := lo) (cr := cr) (n := n) (w := trK lw lo cr n y w k) hy
    exact ⟨fun i h0 hi => (b.1 i h0 hi).trans (a.1 i h0 hi), fun i hi q => b.2 i hi (a.2 i hi q)⟩
theorem Kq.wt {w w' : Wr} (k : Kq w w') {c : Nat} (h : Wt w c) : Wt w' c := fun r h1 h2 => k.2 _ ⟨by omega, by rw [blk_mod h2]; exact h1⟩ (h r h1 h2)
theorem Kq.hd {w w' : Wr} (k : Kq w w') {c r : Nat} (hr : r < 5) : w' (56 + 142 * c + r) = w (56 + 142 * c + r) := k.1 _ (by omega) (Or.inr ⟨by omega, by rw [blk_mod (by omega)]; exact hr⟩)
theorem Kq.lo {w w' : Wr} (k : Kq w w') {i : Nat} (h0 : i ≠ 0) (h1 : i ≠ 1) (hi : i < 8) : w' i = w i := k.1 _ h0 (Or.inl ⟨h1, hi⟩)


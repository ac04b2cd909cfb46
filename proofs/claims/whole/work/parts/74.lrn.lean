/-! THE REFERENCE: learning -/
/-- learning, the first j places done, and the one that is learnt -/
def lrnP (w : Wr) (B x : Nat) (V V' : Int32 → Int32) (j : Nat) : Wr := fun i => if i = B + x then kb (w i + V (w i)) else if B ≤ i ∧ i < B + j then kb (w i - V' (w i)) else w i
theorem lrnP_end {w : Wr} {B n x : Nat} {V V' : Int32 → Int32} (hx : x < n) : lrnP w B x V V' n = lrn w B n x V V' := by
  funext i
  unfold lrnP lrn
  by_cases e : i = B + x
  · rw [if_pos e, if_pos (by omega), if_pos e]
  · rw [if_neg e, if_neg e]
theorem lrnP_0 {w : Wr} {B x : Nat} {V V' : Int32 → Int32} : upd w (B + x) (kb (w (B + x) + V (w (B + x)))) = lrnP w B x V V' 0 := by
  funext i
  unfold lrnP upd
  by_cases e : i = B + x
  · subst e; rw [if_pos rfl, if_pos rfl]
  · rw [if_neg e, if_neg e, if_neg (by omega)]
theorem lrnP_x {w : Wr} {B x j : Nat} {V V' : Int32 → Int32} (e : j = x) : lrnP w B x V V' (j + 1) = lrnP w B x V V' j := by
  subst e
  funext i
  unfold lrnP
  by_cases z : i = B + j
  · rw [if_pos z, if_pos z]
  · rw [if_neg z, if_neg z]
    by_cases c : B ≤ i ∧ i < B + j
    · rw [if_pos c, if_pos (by omega)]
    · rw [if_neg c, if_neg (by omega)]
theorem lrnP_at {w : Wr} {B x j : Nat} {V V' : Int32 → Int32} (e : j ≠ x) : lrnP w B x V V' j (B + j) = w (B + j) := by
  unfold lrnP; rw [if_neg (by omega), if_neg (by omega)]
theorem lrnP_s {w : Wr} {B x j : Nat} {V V' : Int32 → Int32} (e : j ≠ x) : upd (lrnP w B x V V' j) (B + j) (kb (w (B + j) - V' (w (B + j)))) = lrnP w B x V V' (j + 1) := by
  funext i
  unfold upd
  by_cases z : i = B + j
  · subst z; rw [if_pos rfl]; unfold lrnP; rw [if_neg (by omega), if_pos (by omega)]
  · rw [if_neg z]
    unfold lrnP
    by_cases z2 : i = B + x
    · rw [if_pos z2, if_pos z2]
    · rw [if_neg z2, if_neg z2]
      by_cases c : B ≤ i ∧ i < B + j
      · rw [if_pos c, if_pos (by omega)]
      · rw [if_neg c, if_neg (by omega)]
theorem oth_congr {w w' : Wr} {B x : Nat} : ∀ {n : Nat}, (∀ j, j < n → j ≠ x → w (B + j) = w' (B + j)) → oth w B x n = oth w' B x n
  | 0, _ => rfl
  | n + 1, h => by
    show (if n = x then oth w B x n else oth w B x n + w (B + n)) = (if n = x then oth w' B x n else oth w' B x n + w' (B + n))
    rw [oth_congr (n := n) (fun j hj hx => h j (by omega) hx)]
    by_cases e : n = x
    · rw [if_pos e, if_pos e]
    · rw [if_neg e, if_neg e, h n (by omega) e]
/-- a rule's row, the first j places done -/
def rulP (w : Wr) (B x j : Nat) : Wr := fun i => if B ≤ i ∧ i < B + j then (if i = B + x then 999 else 0) else w i
theorem rulP_s {w : Wr} {B x j : Nat} : upd (rulP w B x j) (B + j) (if j = x then 999 else 0) = rulP w B x (j + 1) := by
  funext i
  unfold upd rulP
  by_cases z : i = B + j
  · subst z
    rw [if_pos rfl]
    have c : B ≤ B + j ∧ B + j < B + (j + 1) := ⟨by omega, by omega⟩
    rw [if_pos c]
    by_cases e : j = x
    · rw [if_pos e, if_pos (show B + j = B + x by omega)]
    · rw [if_neg e, if_neg (show ¬ B + j = B + x by omega)]
  · rw [if_neg z]
    by_cases c : B ≤ i ∧ i < B + j
    · have c2 : B ≤ i ∧ i < B + (j + 1) := ⟨c.1, by omega⟩
      rw [if_pos c, if_pos c2]
    · have c2 : ¬ (B ≤ i ∧ i < B + (j + 1)) := by omega
      rw [if_neg c, if_neg c2]
theorem lrnK_lo {w : Wr} {y b its j : Nat} {s part : Nat → Nat} {V : Nat → Int32 → Int32} (hj : j < 8) : ∀ k, lrnK w y b its s part V k (56 + 142 * b + j) = w (56 + 142 * b + j)
  | 0 => rfl
  | k + 1 => by
    show lrnS (lrnK w y b its s part V k) y b its s part V k (56 + 142 * b + j) = _
    unfold lrnS lrn
    rw [if_neg (by unfold sgB; omega)]; exact lrnK_lo hj k
theorem fac_at {w w' : Wr} {c : Nat} {rt sh v : Int32} (h2 : w' 2 = w 2) (h : ∀ k, k < 8 → w' (56 + 142 * c + k) = w (56 + 142 * c + k)) : fac w' c rt sh v = fac w c rt sh v := by
  funext j
  unfold fac
  rw [h2, h 1 (by decide), h 2 (by decide), h 5 (by decide)]
section RefL
variable {l : Launch} {E : Ey} {g : Mm} {Q : Option Value → Mm → Prop} {X : String → Mm → Prop} {r : Nat} {w bb : Wr}
set_option maxRecDepth 10000 in
set_option maxHeartbeats 8000000 in
theorem m_learns {b y o o' : Nat} {s mt tk : Nat → Nat} {rt sh lo : Int32} {lw : Option (List Cls)} (hr1 : Rw r) (hw : g 162 3 = nI r) (hrow : RowM g r w bb) (hb : b < 24) (hy : y < 3) (hs : ∀ k, s k < 16) (hsd : ∀ k, k < 3 → g 198 k = nI (s k)) (hmt : ∀ k, mt k < 4) (hme : ∀ k, k < 3 → g 197 k = nI (mt k)) (htk : ∀ k, k < 3 → tk k < 4) (hto : ∀ k, k < 3 → g 199 k = nI (tk k)) (ho : o < 6) (e29 : g 162 29 = nI o) (ho' : o' < 6) (e30 : g 162 30 = nI o') (hrt : rt = 0 ∨ rt = 1) (e32 : g 162 32 = rt) (hsh : sh = 0 ∨ sh = 1) (e33 : g 162 33 = sh) (hlo : g 162 27 = lo) (hRl : RuleM g r lw)
    (q : ∀ g', (∀ z, z ≠ r → z ≠ 162 → z ≠ 191 → g' z = g z) → (∀ j, (j < 21 ∨ 26 < j) → j ≠ 31 → g' 162 j = g 162 j) → RowM g' r (lrnW w y b (if sh = 0 then o' else o) s (if sh = 0 then tk else mt) (VW lw lo w b rt sh)) bb → g' 162 31 = (if w (56 + 142 * b + 4) = 2 then g 162 31 else nI (if sh = 0 then o' else o)) → Q none g') : Ct l E lay NC 3 0 0 yX8_learns [.ref 162, .int (nI b), .int (nI y)] g Q X := by
  have hr2 : r = 164 ∨ r = 165 := hr1
  obtain ⟨its, hits⟩ : ∃ its, its = if sh = 0 then o' else o := ⟨_, rfl⟩
  obtain ⟨pt, hpt⟩ : ∃ pt : Nat → Nat, pt = if sh = 0 then tk else mt := ⟨_, rfl⟩
  obtain ⟨V, hV⟩ : ∃ V : Nat → Int32 → Int32, V = VW lw lo w b rt sh := ⟨_, rfl⟩
  have hi6 : its < 6 := by rw [hits]; split <;> assumption
  have hpt4 : ∀ k, k < 3 → pt k < 4 := by
    intro k hk; rw [hpt]; split
    · exact htk k hk
    · exact hmt k
  rw [← hits, ← hpt, ← hV] at q
  have r5 : ¬ Mk 5 := fun z => z.1 rfl
  refine Ct_in k_yX8_learns (by decide) rfl (Nat.le_of_ble_eq_true rfl) rfl ?_
  intro S hS hZ hr ht hR
  show J S 0 0 (g) 0 [some (.ref 162), some (.int (nI b)), some (.int (nI y)), none, none, none, none, none, none, none] []
  refine J_iload_n hS dX8_learns_0 rfl ?_
  refine J_callS1 (X' := fun _ _ => False) hS dX8_learns_1 msX8_121 rfl (by first | decide | omega) (by decide) (Nat.le_of_ble_eq_true rfl) ⟨Nat.le_trans (by decide) hR.1, Nat.le_trans (by decide) hR.2⟩ (fun _ _ q => q.elim) (m_at ?_)
  refine J_istore_n (lt := fun x3 => [some (.ref 162), some (.int (nI b)), some (.int (nI y)), some (.int x3), none, none, none, none, none, none]) hS dX8_learns_4 (Nat.le_of_ble_eq_true rfl) (fun _ => rfl) (fun x3 ex3 => ?_)
  rw [show x3 = nI (56 + 142 * b) from ex3]
  have A2 : J S 0 0 g 31 [some (.ref 162), some (.int (nI b)), some (.int (nI y)), some (.int (nI (56 + 142 * b))), none, none, none, none, none, none] [.int sh, .int rt, .int (nI b), .ref 162] := by
    refine J_callV3 (X' := fun _ _ => False) hS dX8_learns_31 mvX8_272 ob162 rfl (by first | decide | omega) (by decide) (Nat.le_of_ble_eq_true rfl) ⟨Nat.le_trans (by decide) hR.1, Nat.le_trans (by decide) hR.2⟩ (fun _ _ q => q.elim) (m_asks (rt := rt) (sh := sh) hr1 hw hrow hb (fun g1 b1 b2 b3 => ?_))
    -- what holds all along
    have hF : ∀ v j, j < 6 → j ≠ 4 → g1 162 (21 + j) = fac w b rt sh v j := b3
    have c198 : ∀ k, k < 3 → g1 198 k = nI (s k) := fun k hk => by rw [b1 198 (by decide)]; exact hsd k hk
    have inv_rule : ∀ (g3 : Mm) (w3 : Wr), RowM g3 r w3 bb → (∀ z, z ≠ r → z ≠ 162 → z ≠ 191 → g3 z = g z) → RuleM g3 r lw := fun g3 w3 k3 k1 => hRl.fr (by rw [k3.no (by decide) r5, hrow.no (by decide) r5]) (fun z z1 z2 => k1 z (by omega) (by omega) (by omega))
    have told : ∀ (g4 : Mm) (wd : Nat) (v : Int32) (Q' : Option Value → Mm → Prop) (X' : String → Mm → Prop) (w4 : Wr), wd < 4 → (∀ z, z ≠ r → z ≠ 162 → z ≠ 191 → g4 z = g z) → (∀ j, j ≠ 25 → j ≠ 31 → g4 162 j = g1 162 j) → RowM g4 r w4 bb → (∀ g5, (∀ z, z ≠ 162 → z ≠ 191 → g5 z = g4 z) → (∀ j, j ≠ 25 → g5 162 j = g4 162 j) → Q' (some (.int (V wd v))) g5) → Ct l E lay NC 2 0 0 yX8_told [.ref 162, .int (nI wd), .int v] g4 Q' X' := by
      intro g4 wd v Q' X' w4 hwd f1 f2 f3 hq
      have := m_told (l := l) (E := E) (g := g4) (Q := Q') (X := X') (r := r) (wd := wd) (v := v) (lo := lo) (f := fac w b rt sh v) (lw := lw) hr1 (by rw [f2 3 (by decide) (by decide), b2 3 (by decide)]; exact hw) hwd (by rw [f2 27 (by decide) (by decide), b2 27 (by decide)]; exact hlo) (inv_rule g4 w4 f3 f1) (fun j h1 h2 => by rw [f2 _ (by omega) (by omega)]; exact hF v j h1 h2) rfl (fun g5 d1 d2 => by
        have := hq g5 d1 d2
        rw [hV] at this; exact this)
      exact this
    have step_its : ∀ x4 : Int32, x4 = nI its → J S 0 0 g1 52 [some (.ref 162), some (.int (nI b)), some (.int (nI y)), some (.int (nI (56 + 142 * b))), none, none, none, none, none, none] [.int x4] := by
      intro x4 hx4
      subst hx4
      refine J_istore (lt := fun z4 => [some (.ref 162), some (.int (nI b)), some (.int (nI y)), some (.int (nI (56 + 142 * b))), some (.int z4), none, none, none, none, none]) hS dX8_learns_52 (Nat.le_of_ble_eq_true rfl) (fun _ => rfl) (fun z4 ez4 => ?_)
      refine J_iconst (v := 0) hS dX8_learns_54 (by decide) ?_
      refine J_istore (lt := fun i1 => [some (.ref 162), some (.int (nI b)), some (.int (nI y)), some (.int (nI (56 + 142 * b))), some (.int z4), some (.int i1), none, none, none, none]) hS dX8_learns_55 (Nat.le_of_ble_eq_true rfl) (fun _ => rfl) (fun i1 ei1 => ?_)
      rw [show z4 = nI its from ez4]
      -- behind the signs
      have tail : ∀ (g3 : Mm) (y5 y6 y7 y8 y9 : Option Value), (∀ z, z ≠ r → z ≠ 162 → z ≠ 191 → g3 z = g z) → (∀ j, j ≠ 25 → g3 162 j = g1 162 j) → RowM g3 r (lrnK w y b its s pt V 3) bb → J S 0 0 g3 236 [some (.ref 162), some (.int (nI b)), some (.int (nI y)), some (.int (nI (56 + 142 * b))), some (.int (nI its)), y5, y6, y7, y8, y9] [] := by
        intro g3 y5 y6 y7 y8 y9 k1 k2 k3
        obtain ⟨U, hU⟩ : ∃ U : Wr, U = lrnK w y b its s pt V 3 := ⟨_, rfl⟩
        rw [← hU] at k3
        have w3 : g3 162 3 = nI r := by rw [k2 3 (by decide), b2 3 (by decide)]; exact hw
        have kd : U (56 + 142 * b + 4) = w (56 + 142 * b + 4) := by rw [hU]; exact lrnK_lo (by decide) 3
        refine J_weak (ls' := [some (.ref 162), some (.int (nI b)), some (.int (nI y)), some (.int (nI (56 + 142 * b))), some (.int (nI its)), none, none, none, none, none]) ⟨Or.inr rfl, Or.inr rfl, Or.inr rfl, Or.inr rfl, Or.inr rfl, Or.inl rfl, Or.inl rfl, Or.inl rfl, Or.inl rfl, Or.inl rfl, trivial⟩ ?_
        refine J_aload_n hS dX8_learns_236 rfl ?_
        refine J_getD (v := .ref r) hS dX8_learns_237 flX8_20 ob162 rfl (wI hr1 w3) ?_
        refine J_iload_n hS dX8_learns_240 rfl ?_
        refine J_iconst (v := 4) hS dX8_learns_241 (by decide) ?_
        refine J_iadd hS dX8_learns_242 ?_
        refine J_ialdN hS (56 + 142 * b + 4) dX8_learns_243 hr1.ar (by first | rfl | (simp only [n0, n1, n2, n3, n4, n5, n6, n7, n8, n9, n10, n11, n12, n13, n14, n15, n16, n17, n18, n19, n20, n24, n32, n56, n60, n64, n72, n99, n100, n128, n136, n142, n144, n200, n300, n999, n1000, n1500, n3464, nI_add, pk_mul] <;> first | rfl | (congr 1; omega))) (by omega) (by decide) ?_
        show J S 0 0 (g3) 244 [some (.ref 162), some (.int (nI b)), some (.int (nI y)), some (.int (nI (56 + 142 * b))), some (.int (nI its)), none, none, none, none, none] [.int _]
        rw [k3.at (i := 56 + 142 * b + 4) (by omega) (Mk_blk (by decide) (by decide)), kd]
        refine J_iconst (v := 2) hS dX8_learns_244 (by decide) ?_
        refine J_icmp_ne (tgt := 249) hS dX8_learns_245 (by decide) (fun c1 => ?_) (fun c1 => ?_)
        · -- the order
          obtain ⟨B, hB⟩ : ∃ B, B = odB b := ⟨_, rfl⟩
          have hBl : B + 6 ≤ 3464 := by rw [hB]; unfold odB; omega
          have mkB : ∀ j, j < 6 → Mk (B + j) := fun j hj => by rw [hB]; exact Mk_od hj
          obtain ⟨W1, hW1⟩ : ∃ W1 : Wr, W1 = lrn U B 6 its (V 1) (V 2) := ⟨_, rfl⟩
          have hL : lrnW w y b its s pt V = mkR W1 b its (V 3) := by unfold lrnW; rw [if_neg c1, ← hU, ← hB, ← hW1]
          have kd1 : W1 (56 + 142 * b + 4) = w (56 + 142 * b + 4) := by
            rw [hW1]; unfold lrn; rw [if_neg (by rw [hB]; unfold odB; omega)]; exact kd
          have fin : ∀ (g4 : Mm) (W4 : Wr), (∀ z, z ≠ r → z ≠ 162 → z ≠ 191 → g4 z = g z) → (∀ j, j ≠ 25 → j ≠ 31 → g4 162 j = g1 162 j) → g4 162 31 = nI its → RowM g4 r W4 bb → W4 = mkR W1 b its (V 3) → Q none g4 := by
            intro g4 W4 f1 f2 f31 f3 f4
            refine q g4 f1 (fun j hj h31 => by rw [f2 j (by omega) h31]; exact b2 j hj) (by rw [hL, ← f4]; exact f3) ?_
            rw [if_neg c1]; exact f31
          refine J_aload_n hS dX8_learns_249 rfl ?_
          refine J_iload hS dX8_learns_250 rfl ?_
          refine J_putI hS dX8_learns_252 fpX8_317 ob162 rfl (fun g252 eg252 => ?_)
          refine J_iload_n hS dX8_learns_255 rfl ?_
          refine J_sipush (v := 136) hS dX8_learns_256 (by decide) ?_
          refine J_iadd hS dX8_learns_259 ?_
          show J S 0 0 (g252) 260 [some (.ref 162), some (.int (nI b)), some (.int (nI y)), some (.int (nI (56 + 142 * b))), some (.int (nI its)), none, none, none, none, none] [.int _]
          rw [show nI (56 + 142 * b) + 136 = nI B by rw [n136, nI_add, hB]; rfl]
          refine J_istore (lt := fun z5 => [some (.ref 162), some (.int (nI b)), some (.int (nI y)), some (.int (nI (56 + 142 * b))), some (.int (nI its)), some (.int z5), none, none, none, none]) hS dX8_learns_260 (Nat.le_of_ble_eq_true rfl) (fun _ => rfl) (fun z5 ez5 => ?_)
          rw [show z5 = nI B from ez5]
          have o2 : ∀ z, z ≠ 162 → g252 z = g3 z := fun z hz => by rw [eg252, u2_ne z hz]
          have f1 : ∀ z, z ≠ r → z ≠ 162 → z ≠ 191 → g252 z = g z := fun z z1 z2 z3 => by rw [o2 z z2]; exact k1 z z1 z2 z3
          have f2 : ∀ j, j ≠ 25 → j ≠ 31 → g252 162 j = g1 162 j := fun j h1 h2 => by rw [eg252]; unfold u2; rw [if_neg (fun z => h2 z.2)]; exact k2 j h1
          have f31 : g252 162 31 = nI its := by rw [eg252, u2_self]
          have f3 : RowM g252 r U bb := k3.fr (o2 r (by omega))
          have w4 : g252 162 3 = nI r := by rw [f2 3 (by decide) (by decide), b2 3 (by decide)]; exact hw
          have rd : g252 r (B + its) = U (B + its) := f3.at (by omega) (mkB its hi6)
          refine J_aload_n hS dX8_learns_262 rfl ?_
          refine J_getD (v := .ref r) hS dX8_learns_263 flX8_20 ob162 rfl (wI hr1 w4) ?_
          refine J_iload hS dX8_learns_266 rfl ?_
          refine J_iload hS dX8_learns_268 rfl ?_
          refine J_iadd hS dX8_learns_270 ?_
          refine J_aload_n hS dX8_learns_271 rfl ?_
          refine J_getD (v := .ref r) hS dX8_learns_272 flX8_20 ob162 rfl (wI hr1 w4) ?_
          refine J_iload hS dX8_learns_275 rfl ?_
          refine J_iload hS dX8_learns_277 rfl ?_
          refine J_iadd hS dX8_learns_279 ?_
          refine J_ialdN hS (B + its) dX8_learns_280 hr1.ar (by first | rfl | (simp only [n0, n1, n2, n3, n4, n5, n6, n7, n8, n9, n10, n11, n12, n13, n14, n15, n16, n17, n18, n19, n20, n24, n32, n56, n60, n64, n72, n99, n100, n128, n136, n142, n144, n200, n300, n999, n1000, n1500, n3464, nI_add, pk_mul] <;> first | rfl | (congr 1; omega))) (by omega) (by decide) ?_
          show J S 0 0 (g252) 281 [some (.ref 162), some (.int (nI b)), some (.int (nI y)), some (.int (nI (56 + 142 * b))), some (.int (nI its)), some (.int (nI B)), none, none, none, none] [.int _, .int _, .ref r]
          rw [rd]
          refine J_aload_n hS dX8_learns_281 rfl ?_
          refine J_iconst (v := 1) hS dX8_learns_282 (by decide) ?_
          refine J_aload_n hS dX8_learns_283 rfl ?_
          refine J_getD (v := .ref r) hS dX8_learns_284 flX8_20 ob162 rfl (wI hr1 w4) ?_
          refine J_iload hS dX8_learns_287 rfl ?_
          refine J_iload hS dX8_learns_289 rfl ?_
          refine J_iadd hS dX8_learns_291 ?_
          refine J_ialdN hS (B + its) dX8_learns_292 hr1.ar (by first | rfl | (simp only [n0, n1, n2, n3, n4, n5, n6, n7, n8, n9, n10, n11, n12, n13, n14, n15, n16, n17, n18, n19, n20, n24, n32, n56, n60, n64, n72, n99, n100, n128, n136, n142, n144, n200, n300, n999, n1000, n1500, n3464, nI_add, pk_mul] <;> first | rfl | (congr 1; omega))) (by omega) (by decide) ?_
          show J S 0 0 (g252) 293 [some (.ref 162), some (.int (nI b)), some (.int (nI y)), some (.int (nI (56 + 142 * b))), some (.int (nI its)), some (.int (nI B)), none, none, none, none] [.int _, .int 1, .ref 162, .int _, .int _, .ref r]
          rw [rd]
          refine J_callV2 (X' := fun _ _ => False) hS dX8_learns_293 mvX8_276 ob162 rfl (by first | decide | omega) (by decide) (Nat.le_of_ble_eq_true rfl) ⟨Nat.le_trans (by decide) hR.1, Nat.le_trans (by decide) hR.2⟩ (fun _ _ q => q.elim) (told g252 1 (U (B + its)) _ _ _ (by decide) f1 f2 f3 (fun g5 d1 d2 => ?_))
          refine J_iadd hS dX8_learns_296 ?_
          refine J_callS1 (X' := fun _ _ => False) hS dX8_learns_297 msX8_269 rfl (by first | decide | omega) (by decide) (Nat.le_of_ble_eq_true rfl) ⟨Nat.le_trans (by decide) hR.1, Nat.le_trans (by decide) hR.2⟩ (fun _ _ q => q.elim) (m_bounded ?_)
          have row5 := f3.fr (d1 r (by omega) (by omega))
          refine J_iastN hS (B + its) dX8_learns_300 hr1.ar (by first | rfl | (simp only [n0, n1, n2, n3, n4, n5, n6, n7, n8, n9, n10, n11, n12, n13, n14, n15, n16, n17, n18, n19, n20, n24, n32, n56, n60, n64, n72, n99, n100, n128, n136, n142, n144, n200, n300, n999, n1000, n1500, n3464, nI_add, pk_mul] <;> first | rfl | (congr 1; omega))) (by omega) (by decide) (fun g300 eg300 => ?_)
          refine J_iconst (v := 0) hS dX8_learns_301 (by decide) ?_
          refine J_istore (lt := fun z6 => [some (.ref 162), some (.int (nI b)), some (.int (nI y)), some (.int (nI (56 + 142 * b))), some (.int (nI its)), some (.int (nI B)), some (.int z6), none, none, none]) hS dX8_learns_302 (Nat.le_of_ble_eq_true rfl) (fun _ => rfl) (fun z6 ez6 => ?_)
          refine J_iconst (v := 0) hS dX8_learns_304 (by decide) ?_
          refine J_istore (lt := fun z7 => [some (.ref 162), some (.int (nI b)), some (.int (nI y)), some (.int (nI (56 + 142 * b))), some (.int (nI its)), some (.int (nI B)), some (.int z6), some (.int z7), none, none]) hS dX8_learns_305 (Nat.le_of_ble_eq_true rfl) (fun _ => rfl) (fun z7 ez7 => ?_)
          have rowA : RowM g300 r (lrnP U B its (V 1) (V 2) 0) bb := by rw [eg300, ← lrnP_0]; exact row5.put (mkB its hi6)
          have h1A : ∀ z, z ≠ r → z ≠ 162 → z ≠ 191 → g300 z = g z := fun z z1 z2 z3 => by rw [eg300, u2_ne z z1, d1 z z2 z3]; exact f1 z z1 z2 z3
          have h2A : ∀ j, j ≠ 25 → j ≠ 31 → g300 162 j = g1 162 j := fun j h1 h2 => by rw [eg300, u2_ne _ (by omega), d2 j h1]; exact f2 j h1 h2
          have h31A : g300 162 31 = nI its := by rw [eg300, u2_ne _ (by omega), d2 31 (by decide)]; exact f31
          -- behind the orders
          have last : ∀ (g4 : Mm) (v : Int32) (i : Int32), (∀ z, z ≠ r → z ≠ 162 → z ≠ 191 → g4 z = g z) → (∀ j, j ≠ 25 → j ≠ 31 → g4 162 j = g1 162 j) → g4 162 31 = nI its → RowM g4 r W1 bb → v = oth W1 B its 6 → J S 0 0 g4 384 [some (.ref 162), some (.int (nI b)), some (.int (nI y)), some (.int (nI (56 + 142 * b))), some (.int (nI its)), some (.int (nI B)), some (.int v), some (.int i), none, none] [] := by
            intro g4 v i a1 a2 a31 a3 hv
            subst hv
            have w5 : g4 162 3 = nI r := by rw [a2 3 (by decide) (by decide), b2 3 (by decide)]; exact hw
            have rk : g4 r (56 + 142 * b + 4) = w (56 + 142 * b + 4) := by rw [a3.at (by omega) (Mk_blk (by decide) (by decide))]; exact kd1
            have ri : g4 r (B + its) = W1 (B + its) := a3.at (by omega) (mkB its hi6)
            have no : ∀ g6 : Mm, (∀ z, z ≠ r → z ≠ 162 → z ≠ 191 → g6 z = g z) → (∀ j, j ≠ 25 → j ≠ 31 → g6 162 j = g1 162 j) → g6 162 31 = nI its → RowM g6 r W1 bb → ¬ (W1 (56 + 142 * b + 4) = 0 ∧ oth W1 (odB b) its 6 < W1 (odB b + its) ∧ V 3 (W1 (odB b + its)) ≤ W1 (odB b + its)) → J S 0 0 g6 438 [some (.ref 162), some (.int (nI b)), some (.int (nI y)), some (.int (nI (56 + 142 * b))), some (.int (nI its)), some (.int (nI B)), some (.int (oth W1 B its 6)), some (.int i), none, none] [] := by
              intro g6 e1 e2 e31 e3 hno
              refine J_vret hS hZ hr dX8_learns_438 (by omega) (by omega) ?_
              exact fin g6 W1 e1 e2 e31 e3 (by unfold mkR; rw [if_neg hno])
            refine J_aload_n hS dX8_learns_384 rfl ?_
            refine J_getD (v := .ref r) hS dX8_learns_385 flX8_20 ob162 rfl (wI hr1 w5) ?_
            refine J_iload_n hS dX8_learns_388 rfl ?_
            refine J_iconst (v := 4) hS dX8_learns_389 (by decide) ?_
            refine J_iadd hS dX8_learns_390 ?_
            refine J_ialdN hS (56 + 142 * b + 4) dX8_learns_391 hr1.ar (by first | rfl | (simp only [n0, n1, n2, n3, n4, n5, n6, n7, n8, n9, n10, n11, n12, n13, n14, n15, n16, n17, n18, n19, n20, n24, n32, n56, n60, n64, n72, n99, n100, n128, n136, n142, n144, n200, n300, n999, n1000, n1500, n3464, nI_add, pk_mul] <;> first | rfl | (congr 1; omega))) (by omega) (by decide) ?_
            show J S 0 0 (g4) 392 [some (.ref 162), some (.int (nI b)), some (.int (nI y)), some (.int (nI (56 + 142 * b))), some (.int (nI its)), some (.int (nI B)), some (.int (oth W1 B its 6)), some (.int i), none, none] [.int _]
            rw [rk]
            refine J_if_ne (tgt := 438) hS dX8_learns_392 (by decide) (fun e1 => ?_) (fun e1 => ?_)
            · exact no g4 a1 a2 a31 a3 (fun z => e1 (by rw [← kd1]; exact z.1))
            ·
              refine J_aload_n hS dX8_learns_395 rfl ?_
              refine J_getD (v := .ref r) hS dX8_learns_396 flX8_20 ob162 rfl (wI hr1 w5) ?_
              refine J_iload hS dX8_learns_399 rfl ?_
              refine J_iload hS dX8_learns_401 rfl ?_
              refine J_iadd hS dX8_learns_403 ?_
              refine J_ialdN hS (B + its) dX8_learns_404 hr1.ar (by first | rfl | (simp only [n0, n1, n2, n3, n4, n5, n6, n7, n8, n9, n10, n11, n12, n13, n14, n15, n16, n17, n18, n19, n20, n24, n32, n56, n60, n64, n72, n99, n100, n128, n136, n142, n144, n200, n300, n999, n1000, n1500, n3464, nI_add, pk_mul] <;> first | rfl | (congr 1; omega))) (by omega) (by decide) ?_
              refine J_iload hS dX8_learns_405 rfl ?_
              show J S 0 0 (g4) 407 [some (.ref 162), some (.int (nI b)), some (.int (nI y)), some (.int (nI (56 + 142 * b))), some (.int (nI its)), some (.int (nI B)), some (.int (oth W1 B its 6)), some (.int i), none, none] [.int (oth W1 B its 6), .int _]
              rw [ri]
              refine J_icmp_le (tgt := 438) hS dX8_learns_407 (by decide) (fun e2 => ?_) (fun e2 => ?_)
              · exact no g4 a1 a2 a31 a3 (fun z => absurd z.2.1 (by rw [← hB]; exact Int32.not_lt.mpr e2))
              ·
                refine J_aload_n hS dX8_learns_410 rfl ?_
                refine J_getD (v := .ref r) hS dX8_learns_411 flX8_20 ob162 rfl (wI hr1 w5) ?_
                refine J_iload hS dX8_learns_414 rfl ?_
                refine J_iload hS dX8_learns_416 rfl ?_
                refine J_iadd hS dX8_learns_418 ?_
                refine J_ialdN hS (B + its) dX8_learns_419 hr1.ar (by first | rfl | (simp only [n0, n1, n2, n3, n4, n5, n6, n7, n8, n9, n10, n11, n12, n13, n14, n15, n16, n17, n18, n19, n20, n24, n32, n56, n60, n64, n72, n99, n100, n128, n136, n142, n144, n200, n300, n999, n1000, n1500, n3464, nI_add, pk_mul] <;> first | rfl | (congr 1; omega))) (by omega) (by decide) ?_
                show J S 0 0 (g4) 420 [some (.ref 162), some (.int (nI b)), some (.int (nI y)), some (.int (nI (56 + 142 * b))), some (.int (nI its)), some (.int (nI B)), some (.int (oth W1 B its 6)), some (.int i), none, none] [.int _]
                rw [ri]
                refine J_aload_n hS dX8_learns_420 rfl ?_
                refine J_iconst (v := 3) hS dX8_learns_421 (by decide) ?_
                refine J_aload_n hS dX8_learns_422 rfl ?_
                refine J_getD (v := .ref r) hS dX8_learns_423 flX8_20 ob162 rfl (wI hr1 w5) ?_
                refine J_iload hS dX8_learns_426 rfl ?_
                refine J_iload hS dX8_learns_428 rfl ?_
                refine J_iadd hS dX8_learns_430 ?_
                refine J_ialdN hS (B + its) dX8_learns_431 hr1.ar (by first | rfl | (simp only [n0, n1, n2, n3, n4, n5, n6, n7, n8, n9, n10, n11, n12, n13, n14, n15, n16, n17, n18, n19, n20, n24, n32, n56, n60, n64, n72, n99, n100, n128, n136, n142, n144, n200, n300, n999, n1000, n1500, n3464, nI_add, pk_mul] <;> first | rfl | (congr 1; omega))) (by omega) (by decide) ?_
                show J S 0 0 (g4) 432 [some (.ref 162), some (.int (nI b)), some (.int (nI y)), some (.int (nI (56 + 142 * b))), some (.int (nI its)), some (.int (nI B)), some (.int (oth W1 B its 6)), some (.int i), none, none] [.int _, .int 3, .ref 162, .int _]
                rw [ri]
                refine J_callV2 (X' := fun _ _ => False) hS dX8_learns_432 mvX8_276 ob162 rfl (by first | decide | omega) (by decide) (Nat.le_of_ble_eq_true rfl) ⟨Nat.le_trans (by decide) hR.1, Nat.le_trans (by decide) hR.2⟩ (fun _ _ q => q.elim) (told g4 3 (W1 (B + its)) _ _ _ (by decide) a1 a2 a3 (fun g6 n1 n2 => ?_))
                have row6 := a3.fr (n1 r (by omega) (by omega))
                have a16 : ∀ z, z ≠ r → z ≠ 162 → z ≠ 191 → g6 z = g z := fun z z1 z2 z3 => by rw [n1 z z2 z3]; exact a1 z z1 z2 z3
                have a26 : ∀ j, j ≠ 25 → j ≠ 31 → g6 162 j = g1 162 j := fun j h1 h2 => by rw [n2 j h1]; exact a2 j h1 h2
                have a316 : g6 162 31 = nI its := by rw [n2 31 (by decide)]; exact a31
                refine J_icmp_ge (tgt := 439) hS dX8_learns_435 (by decide) (fun e3 => ?_) (fun e3 => ?_)
                · have hyes : W1 (56 + 142 * b + 4) = 0 ∧ oth W1 (odB b) its 6 < W1 (odB b + its) ∧ V 3 (W1 (odB b + its)) ≤ W1 (odB b + its) := by
                    rw [← hB]; exact ⟨by rw [kd1]; exact e1, Int32.not_le.mp e2, e3⟩
                  have emk : mkR W1 b its (V 3) = rulP W1 B its 6 := by unfold mkR; rw [if_pos hyes, ← hB]; rfl
                  refine J_iconst (v := 0) hS dX8_learns_439 (by decide) ?_
                  refine J_istore (lt := fun z9 => [some (.ref 162), some (.int (nI b)), some (.int (nI y)), some (.int (nI (56 + 142 * b))), some (.int (nI its)), some (.int (nI B)), some (.int (oth W1 B its 6)), some (.int z9), none, none]) hS dX8_learns_440 (Nat.le_of_ble_eq_true rfl) (fun _ => rfl) (fun z9 ez9 => ?_)
                  suffices H : ∀ (u j : Nat) (i : Int32) (g7 : Mm), j + u = 6 → i = nI j → (∀ z, z ≠ r → z ≠ 162 → z ≠ 191 → g7 z = g z) → (∀ j, j ≠ 25 → j ≠ 31 → g7 162 j = g1 162 j) → g7 162 31 = nI its → RowM g7 r (rulP W1 B its j) bb → J S 0 0 g7 442 [some (.ref 162), some (.int (nI b)), some (.int (nI y)), some (.int (nI (56 + 142 * b))), some (.int (nI its)), some (.int (nI B)), some (.int (oth W1 B its 6)), some (.int i), none, none] [] by
                    exact H 6 0 z9 g6 (by omega) ez9 a16 a26 a316 (by rw [show rulP W1 B its 0 = W1 by funext i; unfold rulP; rw [if_neg (by omega)]]; exact row6)
                  intro u
                  induction u with
                  | zero =>
                    intro j i g7 hj hi p1 p2 p31 p3
                    have ej : j = 6 := by omega
                    subst ej; subst hi
                    refine J_iload hS dX8_learns_442 rfl ?_
                    refine J_bipush (v := 6) hS dX8_learns_444 (by decide) ?_
                    refine J_icmp_ge (tgt := 479) hS dX8_learns_446 (by decide) (fun e4 => ?_) (fun e4 => ?_)
                    ·
                      refine J_vret hS hZ hr dX8_learns_479 (by omega) (by omega) ?_
                      exact fin g7 _ p1 p2 p31 p3 emk.symm
                    · exact absurd (Int32.le_refl _) e4
                  | succ u ihu =>
                    intro j i g7 hj hi p1 p2 p31 p3
                    subst hi
                    have hj6 : j < 6 := by omega
                    have w7 : g7 162 3 = nI r := by rw [p2 3 (by decide) (by decide), b2 3 (by decide)]; exact hw
                    have st : ∀ x : Int32, x = (if j = its then 999 else 0) → J S 0 0 g7 472 [some (.ref 162), some (.int (nI b)), some (.int (nI y)), some (.int (nI (56 + 142 * b))), some (.int (nI its)), some (.int (nI B)), some (.int (oth W1 B its 6)), some (.int (nI j)), none, none] [.int x, .int (nI B + nI j), .ref r] := by
                      intro x hx
                      refine J_iastN hS (B + j) dX8_learns_472 hr1.ar (by first | rfl | (simp only [n0, n1, n2, n3, n4, n5, n6, n7, n8, n9, n10, n11, n12, n13, n14, n15, n16, n17, n18, n19, n20, n24, n32, n56, n60, n64, n72, n99, n100, n128, n136, n142, n144, n200, n300, n999, n1000, n1500, n3464, nI_add, pk_mul] <;> first | rfl | (congr 1; omega))) (by omega) (by decide) (fun g472 eg472 => ?_)
                      refine J_iinc (lt := fun i2 => [some (.ref 162), some (.int (nI b)), some (.int (nI y)), some (.int (nI (56 + 142 * b))), some (.int (nI its)), some (.int (nI B)), some (.int (oth W1 B its 6)), some (.int i2), none, none]) (v := 1) hS dX8_learns_473 rfl (by decide) (fun _ => rfl) (fun i2 ei2 => ?_)
                      refine J_goto (tgt := 442) hS dX8_learns_476 (by decide) ?_
                      refine ihu (j + 1) i2 g472 (by omega) (by rw [ei2]; exact nI_1 j) (fun z z1 z2 z3 => by rw [eg472, u2_ne z z1]; exact p1 z z1 z2 z3) (fun k h1 h2 => by rw [eg472, u2_ne _ (by omega)]; exact p2 k h1 h2) (by rw [eg472, u2_ne _ (by omega)]; exact p31) ?_
                      rw [eg472, ← rulP_s, hx]; exact p3.put (mkB j hj6)
                    refine J_iload hS dX8_learns_442 rfl ?_
                    refine J_bipush (v := 6) hS dX8_learns_444 (by decide) ?_
                    refine J_icmp_ge (tgt := 479) hS dX8_learns_446 (by decide) (fun e4 => ?_) (fun e4 => ?_)
                    · exact absurd e4 (nI_ge hj6 (by decide))
                    ·
                      refine J_aload_n hS dX8_learns_449 rfl ?_
                      refine J_getD (v := .ref r) hS dX8_learns_450 flX8_20 ob162 rfl (wI hr1 w7) ?_
                      refine J_iload hS dX8_learns_453 rfl ?_
                      refine J_iload hS dX8_learns_455 rfl ?_
                      refine J_iadd hS dX8_learns_457 ?_
                      refine J_iload hS dX8_learns_458 rfl ?_
                      refine J_iload hS dX8_learns_460 rfl ?_
                      refine J_icmp_ne (tgt := 471) hS dX8_learns_462 (by decide) (fun e5 => ?_) (fun e5 => ?_)
                      ·
                        refine J_iconst (v := 0) hS dX8_learns_471 (by decide) ?_
                        exact st 0 (by rw [if_neg (fun z => e5 (by rw [z]))])
                      ·
                        refine J_sipush (v := 999) hS dX8_learns_465 (by decide) ?_
                        refine J_goto (tgt := 472) hS dX8_learns_468 (by decide) ?_
                        exact st 999 (by rw [if_pos ((nI_eq (by omega) (by omega)).mp e5)])
                · exact no g6 a16 a26 a316 row6 (fun z => e3 (by rw [hB]; exact z.2.2))
          suffices H : ∀ (u j : Nat) (v i : Int32) (g4 : Mm), j + u = 6 → i = nI j → (∀ z, z ≠ r → z ≠ 162 → z ≠ 191 → g4 z = g z) → (∀ j, j ≠ 25 → j ≠ 31 → g4 162 j = g1 162 j) → g4 162 31 = nI its → RowM g4 r (lrnP U B its (V 1) (V 2) j) bb → v = oth W1 B its j → J S 0 0 g4 307 [some (.ref 162), some (.int (nI b)), some (.int (nI y)), some (.int (nI (56 + 142 * b))), some (.int (nI its)), some (.int (nI B)), some (.int v), some (.int i), none, none] [] by
            exact H 6 0 z6 z7 g300 (by omega) ez7 h1A h2A h31A rowA ez6
          intro u
          induction u with
          | zero =>
            intro j v i g4 hj hi a1 a2 a31 a3 hv
            have ej : j = 6 := by omega
            subst ej; subst hi
            rw [lrnP_end hi6, ← hW1] at a3
            refine J_iload hS dX8_learns_307 rfl ?_
            refine J_bipush (v := 6) hS dX8_learns_309 (by decide) ?_
            refine J_icmp_ge (tgt := 384) hS dX8_learns_311 (by decide) (fun e1 => ?_) (fun e1 => ?_)
            · exact last g4 v _ a1 a2 a31 a3 hv
            · exact absurd (Int32.le_refl _) e1
          | succ u ihu =>
            intro j v i g4 hj hi a1 a2 a31 a3 hv
            subst hi
            have hj6 : j < 6 := by omega
            have hos : oth W1 B its (j + 1) = if j = its then oth W1 B its j else oth W1 B its j + W1 (B + j) := rfl
            have w5 : g4 162 3 = nI r := by rw [a2 3 (by decide) (by decide), b2 3 (by decide)]; exact hw
            refine J_iload hS dX8_learns_307 rfl ?_
            refine J_bipush (v := 6) hS dX8_learns_309 (by decide) ?_
            refine J_icmp_ge (tgt := 384) hS dX8_learns_311 (by decide) (fun e1 => ?_) (fun e1 => ?_)
            · exact absurd e1 (nI_ge hj6 (by decide))
            ·
              refine J_iload hS dX8_learns_314 rfl ?_
              refine J_iload hS dX8_learns_316 rfl ?_
              refine J_icmp_ne (tgt := 324) hS dX8_learns_318 (by decide) (fun e2 => ?_) (fun e2 => ?_)
              · have njx : j ≠ its := fun z => e2 (by rw [z])
                have rd : g4 r (B + j) = U (B + j) := by rw [a3.at (by omega) (mkB j hj6)]; exact lrnP_at njx
                refine J_aload_n hS dX8_learns_324 rfl ?_
                refine J_getD (v := .ref r) hS dX8_learns_325 flX8_20 ob162 rfl (wI hr1 w5) ?_
                refine J_iload hS dX8_learns_328 rfl ?_
                refine J_iload hS dX8_learns_330 rfl ?_
                refine J_iadd hS dX8_learns_332 ?_
                refine J_aload_n hS dX8_learns_333 rfl ?_
                refine J_getD (v := .ref r) hS dX8_learns_334 flX8_20 ob162 rfl (wI hr1 w5) ?_
                refine J_iload hS dX8_learns_337 rfl ?_
                refine J_iload hS dX8_learns_339 rfl ?_
                refine J_iadd hS dX8_learns_341 ?_
                refine J_ialdN hS (B + j) dX8_learns_342 hr1.ar (by first | rfl | (simp only [n0, n1, n2, n3, n4, n5, n6, n7, n8, n9, n10, n11, n12, n13, n14, n15, n16, n17, n18, n19, n20, n24, n32, n56, n60, n64, n72, n99, n100, n128, n136, n142, n144, n200, n300, n999, n1000, n1500, n3464, nI_add, pk_mul] <;> first | rfl | (congr 1; omega))) (by omega) (by decide) ?_
                show J S 0 0 (g4) 343 [some (.ref 162), some (.int (nI b)), some (.int (nI y)), some (.int (nI (56 + 142 * b))), some (.int (nI its)), some (.int (nI B)), some (.int v), some (.int (nI j)), none, none] [.int _, .int _, .ref r]
                rw [rd]
                refine J_aload_n hS dX8_learns_343 rfl ?_
                refine J_iconst (v := 2) hS dX8_learns_344 (by decide) ?_
                refine J_aload_n hS dX8_learns_345 rfl ?_
                refine J_getD (v := .ref r) hS dX8_learns_346 flX8_20 ob162 rfl (wI hr1 w5) ?_
                refine J_iload hS dX8_learns_349 rfl ?_
                refine J_iload hS dX8_learns_351 rfl ?_
                refine J_iadd hS dX8_learns_353 ?_
                refine J_ialdN hS (B + j) dX8_learns_354 hr1.ar (by first | rfl | (simp only [n0, n1, n2, n3, n4, n5, n6, n7, n8, n9, n10, n11, n12, n13, n14, n15, n16, n17, n18, n19, n20, n24, n32, n56, n60, n64, n72, n99, n100, n128, n136, n142, n144, n200, n300, n999, n1000, n1500, n3464, nI_add, pk_mul] <;> first | rfl | (congr 1; omega))) (by omega) (by decide) ?_
                show J S 0 0 (g4) 355 [some (.ref 162), some (.int (nI b)), some (.int (nI y)), some (.int (nI (56 + 142 * b))), some (.int (nI its)), some (.int (nI B)), some (.int v), some (.int (nI j)), none, none] [.int _, .int 2, .ref 162, .int _, .int _, .ref r]
                rw [rd]
                refine J_callV2 (X' := fun _ _ => False) hS dX8_learns_355 mvX8_276 ob162 rfl (by first | decide | omega) (by decide) (Nat.le_of_ble_eq_true rfl) ⟨Nat.le_trans (by decide) hR.1, Nat.le_trans (by decide) hR.2⟩ (fun _ _ q => q.elim) (told g4 2 (U (B + j)) _ _ _ (by decide) a1 a2 a3 (fun g6 n1 n2 => ?_))
                refine J_isub hS dX8_learns_358 ?_
                refine J_callS1 (X' := fun _ _ => False) hS dX8_learns_359 msX8_269 rfl (by first | decide | omega) (by decide) (Nat.le_of_ble_eq_true rfl) ⟨Nat.le_trans (by decide) hR.1, Nat.le_trans (by decide) hR.2⟩ (fun _ _ q => q.elim) (m_bounded ?_)
                have row6 := a3.fr (n1 r (by omega) (by omega))
                refine J_iastN hS (B + j) dX8_learns_362 hr1.ar (by first | rfl | (simp only [n0, n1, n2, n3, n4, n5, n6, n7, n8, n9, n10, n11, n12, n13, n14, n15, n16, n17, n18, n19, n20, n24, n32, n56, n60, n64, n72, n99, n100, n128, n136, n142, n144, n200, n300, n999, n1000, n1500, n3464, nI_add, pk_mul] <;> first | rfl | (congr 1; omega))) (by omega) (by decide) (fun g362 eg362 => ?_)
                have row7 : RowM g362 r (lrnP U B its (V 1) (V 2) (j + 1)) bb := by rw [eg362, ← lrnP_s njx]; exact row6.put (mkB j hj6)
                have w6 : g362 162 3 = nI r := by rw [eg362, u2_ne _ (by omega), n2 3 (by decide)]; exact w5
                have eW : W1 (B + j) = kb (U (B + j) - V 2 (U (B + j))) := by rw [hW1]; unfold lrn; rw [if_pos (by omega), if_neg (by omega)]
                refine J_iload hS dX8_learns_363 rfl ?_
                refine J_aload_n hS dX8_learns_365 rfl ?_
                refine J_getD (v := .ref r) hS dX8_learns_366 flX8_20 ob162 rfl (wI hr1 w6) ?_
                refine J_iload hS dX8_learns_369 rfl ?_
                refine J_iload hS dX8_learns_371 rfl ?_
                refine J_iadd hS dX8_learns_373 ?_
                refine J_ialdN hS (B + j) dX8_learns_374 hr1.ar (by first | rfl | (simp only [n0, n1, n2, n3, n4, n5, n6, n7, n8, n9, n10, n11, n12, n13, n14, n15, n16, n17, n18, n19, n20, n24, n32, n56, n60, n64, n72, n99, n100, n128, n136, n142, n144, n200, n300, n999, n1000, n1500, n3464, nI_add, pk_mul] <;> first | rfl | (congr 1; omega))) (by omega) (by decide) ?_
                show J S 0 0 (g362) 375 [some (.ref 162), some (.int (nI b)), some (.int (nI y)), some (.int (nI (56 + 142 * b))), some (.int (nI its)), some (.int (nI B)), some (.int v), some (.int (nI j)), none, none] [.int _, .int v]
                rw [show g362 r (B + j) = W1 (B + j) by rw [eg362, u2_self, eW]]
                refine J_iadd hS dX8_learns_375 ?_
                refine J_istore (lt := fun v2 => [some (.ref 162), some (.int (nI b)), some (.int (nI y)), some (.int (nI (56 + 142 * b))), some (.int (nI its)), some (.int (nI B)), some (.int v2), some (.int (nI j)), none, none]) hS dX8_learns_376 (Nat.le_of_ble_eq_true rfl) (fun _ => rfl) (fun v2 ev2 => ?_)
                refine J_iinc (lt := fun i2 => [some (.ref 162), some (.int (nI b)), some (.int (nI y)), some (.int (nI (56 + 142 * b))), some (.int (nI its)), some (.int (nI B)), some (.int v2), some (.int i2), none, none]) (v := 1) hS dX8_learns_378 rfl (by decide) (fun _ => rfl) (fun i2 ei2 => ?_)
                refine J_goto (tgt := 307) hS dX8_learns_381 (by decide) ?_
                refine ihu (j + 1) v2 i2 g362 (by omega) (by rw [ei2]; exact nI_1 j) (fun z z1 z2 z3 => by rw [eg362, u2_ne z z1, n1 z z2 z3]; exact a1 z z1 z2 z3) (fun k h1 h2 => by rw [eg362, u2_ne _ (by omega), n2 k h1]; exact a2 k h1 h2) (by rw [eg362, u2_ne _ (by omega), n2 31 (by decide)]; exact a31) row7 (by rw [ev2, hv, hos, if_neg njx])
              · have ejx : j = its := (nI_eq (by omega) (by omega)).mp e2
                refine J_goto (tgt := 378) hS dX8_learns_321 (by decide) ?_
                refine J_iinc (lt := fun i2 => [some (.ref 162), some (.int (nI b)), some (.int (nI y)), some (.int (nI (56 + 142 * b))), some (.int (nI its)), some (.int (nI B)), some (.int v), some (.int i2), none, none]) (v := 1) hS dX8_learns_378 rfl (by decide) (fun _ => rfl) (fun i2 ei2 => ?_)
                refine J_goto (tgt := 307) hS dX8_learns_381 (by decide) ?_
                exact ihu (j + 1) v i2 g4 (by omega) (by rw [ei2]; exact nI_1 j) a1 a2 a31 (by rw [lrnP_x ejx]; exact a3) (by rw [hv, hos, if_pos ejx])
        ·
          refine J_vret hS hZ hr dX8_learns_248 (by omega) (by omega) ?_
          refine q g3 k1 (fun j hj h31 => by rw [k2 j (by omega)]; exact b2 j hj) (by unfold lrnW; rw [if_pos c1, ← hU]; exact k3) ?_
          rw [if_pos c1, k2 31 (by decide)]; exact b2 31 (by decide)
      suffices H : ∀ (t k : Nat) (i : Int32) (y6 y7 y8 y9 : Option Value) (g3 : Mm), k + t = 3 → i = nI k → (∀ z, z ≠ r → z ≠ 162 → z ≠ 191 → g3 z = g z) → (∀ j, j ≠ 25 → g3 162 j = g1 162 j) → RowM g3 r (lrnK w y b its s pt V k) bb → J S 0 0 g3 57 [some (.ref 162), some (.int (nI b)), some (.int (nI y)), some (.int (nI (56 + 142 * b))), some (.int (nI its)), some (.int i), y6, y7, y8, y9] [] by
        exact H 3 0 i1 _ _ _ _ g1 (by omega) ei1 (fun z z1 z2 _ => b1 z z2) (fun _ _ => rfl) (hrow.fr (b1 r (by omega)))
      intro t
      induction t with
      | zero =>
        intro k i y6 y7 y8 y9 g3 hk hi k1 k2 k3
        have ek : k = 3 := by omega
        subst ek; subst hi
        refine J_weak (ls' := [some (.ref 162), some (.int (nI b)), some (.int (nI y)), some (.int (nI (56 + 142 * b))), some (.int (nI its)), some (.int (nI 3)), none, none, none, none]) ⟨Or.inr rfl, Or.inr rfl, Or.inr rfl, Or.inr rfl, Or.inr rfl, Or.inr rfl, Or.inl rfl, Or.inl rfl, Or.inl rfl, Or.inl rfl, trivial⟩ ?_
        refine J_iload hS dX8_learns_57 rfl ?_
        refine J_iconst (v := 3) hS dX8_learns_59 (by decide) ?_
        refine J_icmp_ge (tgt := 236) hS dX8_learns_60 (by decide) (fun c1 => ?_) (fun c1 => ?_)
        · exact tail g3 _ _ _ _ _ k1 k2 k3
        · exact absurd (Int32.le_refl _) c1
      | succ t ih =>
        intro k i y6 y7 y8 y9 g3 hk hi k1 k2 k3
        subst hi
        have hk3 : k < 3 := by omega
        have w3 : g3 162 3 = nI r := by rw [k2 3 (by decide), b2 3 (by decide)]; exact hw
        obtain ⟨p, hp⟩ : ∃ p, p = rN (its * 3 + k) := ⟨_, rfl⟩
        have hp3 : p < 3 := by rw [hp]; exact rN_lt hi6 hk3
        obtain ⟨U, hU⟩ : ∃ U : Wr, U = lrnK w y b its s pt V k := ⟨_, rfl⟩
        rw [← hU] at k3
        obtain ⟨B, hB⟩ : ∃ B, B = sgB b (con p (pt p)) := ⟨_, rfl⟩
        have hBl : B + 16 ≤ 3464 := by rw [hB]; unfold sgB; have := con_lt (r := p) (hpt4 p hp3); omega
        have mkB : ∀ j, j < 16 → Mk (B + j) := fun j hj => by rw [hB]; exact Mk_sg (con_lt (hpt4 p hp3)) hj
        obtain ⟨x, hx⟩ : ∃ x, x = snW U y (s k) := ⟨_, rfl⟩
        have hx16 : x < 16 := by rw [hx]; unfold snW; have := hs k; split <;> omega
        have hnext : lrnK w y b its s pt V (k + 1) = lrn U B 16 x (V 0) (V 2) := by
          show lrnS (lrnK w y b its s pt V k) y b its s pt V k = _
          unfold lrnS; rw [← hU, ← hp, ← hB, ← hx]
        refine J_weak (ls' := [some (.ref 162), some (.int (nI b)), some (.int (nI y)), some (.int (nI (56 + 142 * b))), some (.int (nI its)), some (.int (nI k)), none, none, none, none]) ⟨Or.inr rfl, Or.inr rfl, Or.inr rfl, Or.inr rfl, Or.inr rfl, Or.inr rfl, Or.inl rfl, Or.inl rfl, Or.inl rfl, Or.inl rfl, trivial⟩ ?_
        have inner : ∀ (u j : Nat) (i : Int32) (g4 : Mm), j + u = 16 → i = nI j → (∀ z, z ≠ r → z ≠ 162 → z ≠ 191 → g4 z = g z) → (∀ j, j ≠ 25 → g4 162 j = g1 162 j) → RowM g4 r (lrnP U B x (V 0) (V 2) j) bb → J S 0 0 g4 171 [some (.ref 162), some (.int (nI b)), some (.int (nI y)), some (.int (nI (56 + 142 * b))), some (.int (nI its)), some (.int (nI k)), some (.int (nI p)), some (.int (nI B)), some (.int (nI x)), some (.int i)] [] := by
          intro u
          induction u with
          | zero =>
            intro j i g4 hj hi f1 f2 f3
            have ej : j = 16 := by omega
            subst ej; subst hi
            rw [lrnP_end hx16] at f3
            refine J_iload hS dX8_learns_171 rfl ?_
            refine J_bipush (v := 16) hS dX8_learns_173 (by decide) ?_
            refine J_icmp_ge (tgt := 230) hS dX8_learns_175 (by decide) (fun c1 => ?_) (fun c1 => ?_)
            ·
              refine J_iinc (lt := fun i2 => [some (.ref 162), some (.int (nI b)), some (.int (nI y)), some (.int (nI (56 + 142 * b))), some (.int (nI its)), some (.int i2), some (.int (nI p)), some (.int (nI B)), some (.int (nI x)), some (.int (nI 16))]) (v := 1) hS dX8_learns_230 rfl (by decide) (fun _ => rfl) (fun i2 ei2 => ?_)
              refine J_goto (tgt := 57) hS dX8_learns_233 (by decide) ?_
              exact ih (k + 1) i2 _ _ _ _ g4 (by omega) (by rw [ei2]; exact nI_1 k) f1 f2 (by rw [hnext]; exact f3)
            · exact absurd (Int32.le_refl _) c1
          | succ u ihu =>
            intro j i g4 hj hi f1 f2 f3
            subst hi
            have hj16 : j < 16 := by omega
            have w4 : g4 162 3 = nI r := by rw [f2 3 (by decide), b2 3 (by decide)]; exact hw
            refine J_iload hS dX8_learns_171 rfl ?_
            refine J_bipush (v := 16) hS dX8_learns_173 (by decide) ?_
            refine J_icmp_ge (tgt := 230) hS dX8_learns_175 (by decide) (fun c1 => ?_) (fun c1 => ?_)
            · exact absurd c1 (nI_ge hj16 (by decide))
            ·
              refine J_iload hS dX8_learns_178 rfl ?_
              refine J_iload hS dX8_learns_180 rfl ?_
              refine J_icmp_eq (tgt := 224) hS dX8_learns_182 (by decide) (fun c2 => ?_) (fun c2 => ?_)
              · have ejx : j = x := (nI_eq (by omega) (by omega)).mp c2
                refine J_iinc (lt := fun i2 => [some (.ref 162), some (.int (nI b)), some (.int (nI y)), some (.int (nI (56 + 142 * b))), some (.int (nI its)), some (.int (nI k)), some (.int (nI p)), some (.int (nI B)), some (.int (nI x)), some (.int i2)]) (v := 1) hS dX8_learns_224 rfl (by decide) (fun _ => rfl) (fun i2 ei2 => ?_)
                refine J_goto (tgt := 171) hS dX8_learns_227 (by decide) ?_
                exact ihu (j + 1) i2 g4 (by omega) (by rw [ei2]; exact nI_1 j) f1 f2 (by rw [lrnP_x ejx]; exact f3)
              · have njx : j ≠ x := fun z => c2 (by rw [z])
                have rd : g4 r (B + j) = U (B + j) := by rw [f3.at (by omega) (mkB j hj16)]; exact lrnP_at njx
                refine J_aload_n hS dX8_learns_185 rfl ?_
                refine J_getD (v := .ref r) hS dX8_learns_186 flX8_20 ob162 rfl (wI hr1 w4) ?_
                refine J_iload hS dX8_learns_189 rfl ?_
                refine J_iload hS dX8_learns_191 rfl ?_
                refine J_iadd hS dX8_learns_193 ?_
                refine J_aload_n hS dX8_learns_194 rfl ?_
                refine J_getD (v := .ref r) hS dX8_learns_195 flX8_20 ob162 rfl (wI hr1 w4) ?_
                refine J_iload hS dX8_learns_198 rfl ?_
                refine J_iload hS dX8_learns_200 rfl ?_
                refine J_iadd hS dX8_learns_202 ?_
                refine J_ialdN hS (B + j) dX8_learns_203 hr1.ar (by first | rfl | (simp only [n0, n1, n2, n3, n4, n5, n6, n7, n8, n9, n10, n11, n12, n13, n14, n15, n16, n17, n18, n19, n20, n24, n32, n56, n60, n64, n72, n99, n100, n128, n136, n142, n144, n200, n300, n999, n1000, n1500, n3464, nI_add, pk_mul] <;> first | rfl | (congr 1; omega))) (by omega) (by decide) ?_
                show J S 0 0 (g4) 204 [some (.ref 162), some (.int (nI b)), some (.int (nI y)), some (.int (nI (56 + 142 * b))), some (.int (nI its)), some (.int (nI k)), some (.int (nI p)), some (.int (nI B)), some (.int (nI x)), some (.int (nI j))] [.int _, .int _, .ref r]
                rw [rd]
                refine J_aload_n hS dX8_learns_204 rfl ?_
                refine J_iconst (v := 2) hS dX8_learns_205 (by decide) ?_
                refine J_aload_n hS dX8_learns_206 rfl ?_
                refine J_getD (v := .ref r) hS dX8_learns_207 flX8_20 ob162 rfl (wI hr1 w4) ?_
                refine J_iload hS dX8_learns_210 rfl ?_
                refine J_iload hS dX8_learns_212 rfl ?_
                refine J_iadd hS dX8_learns_214 ?_
                refine J_ialdN hS (B + j) dX8_learns_215 hr1.ar (by first | rfl | (simp only [n0, n1, n2, n3, n4, n5, n6, n7, n8, n9, n10, n11, n12, n13, n14, n15, n16, n17, n18, n19, n20, n24, n32, n56, n60, n64, n72, n99, n100, n128, n136, n142, n144, n200, n300, n999, n1000, n1500, n3464, nI_add, pk_mul] <;> first | rfl | (congr 1; omega))) (by omega) (by decide) ?_
                show J S 0 0 (g4) 216 [some (.ref 162), some (.int (nI b)), some (.int (nI y)), some (.int (nI (56 + 142 * b))), some (.int (nI its)), some (.int (nI k)), some (.int (nI p)), some (.int (nI B)), some (.int (nI x)), some (.int (nI j))] [.int _, .int 2, .ref 162, .int _, .int _, .ref r]
                rw [rd]
                refine J_callV2 (X' := fun _ _ => False) hS dX8_learns_216 mvX8_276 ob162 rfl (by first | decide | omega) (by decide) (Nat.le_of_ble_eq_true rfl) ⟨Nat.le_trans (by decide) hR.1, Nat.le_trans (by decide) hR.2⟩ (fun _ _ q => q.elim) (told g4 2 (U (B + j)) _ _ _ (by decide) f1 (fun j h1 _ => f2 j h1) f3 (fun g5 d1 d2 => ?_))
                refine J_isub hS dX8_learns_219 ?_
                refine J_callS1 (X' := fun _ _ => False) hS dX8_learns_220 msX8_269 rfl (by first | decide | omega) (by decide) (Nat.le_of_ble_eq_true rfl) ⟨Nat.le_trans (by decide) hR.1, Nat.le_trans (by decide) hR.2⟩ (fun _ _ q => q.elim) (m_bounded ?_)
                have row5 := f3.fr (d1 r (by omega) (by omega))
                refine J_iastN hS (B + j) dX8_learns_223 hr1.ar (by first | rfl | (simp only [n0, n1, n2, n3, n4, n5, n6, n7, n8, n9, n10, n11, n12, n13, n14, n15, n16, n17, n18, n19, n20, n24, n32, n56, n60, n64, n72, n99, n100, n128, n136, n142, n144, n200, n300, n999, n1000, n1500, n3464, nI_add, pk_mul] <;> first | rfl | (congr 1; omega))) (by omega) (by decide) (fun g223 eg223 => ?_)
                refine J_iinc (lt := fun i2 => [some (.ref 162), some (.int (nI b)), some (.int (nI y)), some (.int (nI (56 + 142 * b))), some (.int (nI its)), some (.int (nI k)), some (.int (nI p)), some (.int (nI B)), some (.int (nI x)), some (.int i2)]) (v := 1) hS dX8_learns_224 rfl (by decide) (fun _ => rfl) (fun i2 ei2 => ?_)
                refine J_goto (tgt := 171) hS dX8_learns_227 (by decide) ?_
                refine ihu (j + 1) i2 g223 (by omega) (by rw [ei2]; exact nI_1 j) (fun z z1 z2 z3 => by rw [eg223, u2_ne z z1, d1 z z2 z3]; exact f1 z z1 z2 z3) (fun j hj => by rw [eg223, u2_ne _ (by omega), d2 j hj]; exact f2 j hj) ?_
                rw [eg223, ← lrnP_s njx]
                exact row5.put (mkB j hj16)
        refine J_iload hS dX8_learns_57 rfl ?_
        refine J_iconst (v := 3) hS dX8_learns_59 (by decide) ?_
        refine J_icmp_ge (tgt := 236) hS dX8_learns_60 (by decide) (fun c1 => ?_) (fun c1 => ?_)
        · exact absurd c1 (nI_ge hk3 (by decide))
        ·
          refine J_gets hS dX8_learns_63 stX8_291 ro_PLACES ?_
          refine J_iconst (v := 3) hS dX8_learns_66 (by decide) ?_
          refine J_iload hS dX8_learns_67 rfl ?_
          refine J_imul hS dX8_learns_69 ?_
          refine J_iload hS dX8_learns_70 rfl ?_
          refine J_iadd hS dX8_learns_72 ?_
          refine J_taldN hS (its * 3 + k) dX8_learns_73 ro_PLACESt (by rw [n3, pk_mul, nI_add]; congr 1; omega) (by omega) (by decide) ?_
          show J S 0 0 (g3) 74 [some (.ref 162), some (.int (nI b)), some (.int (nI y)), some (.int (nI (56 + 142 * b))), some (.int (nI its)), some (.int (nI k)), none, none, none, none] [.int _]
          rw [zRO_rN hi6 hk3, ← hp]
          refine J_istore (lt := fun z6 => [some (.ref 162), some (.int (nI b)), some (.int (nI y)), some (.int (nI (56 + 142 * b))), some (.int (nI its)), some (.int (nI k)), some (.int z6), none, none, none]) hS dX8_learns_74 (Nat.le_of_ble_eq_true rfl) (fun _ => rfl) (fun z6 ez6 => ?_)
          rw [show z6 = nI p from ez6]
          have after : J S 0 0 g3 108 [some (.ref 162), some (.int (nI b)), some (.int (nI y)), some (.int (nI (56 + 142 * b))), some (.int (nI its)), some (.int (nI k)), some (.int (nI p)), none, none, none] [.int (nI (pt p)), .int (nI p), .int 16, .int (nI (56 + 142 * b) + 8)] := by
            refine J_callS2 (X' := fun _ _ => False) hS dX8_learns_108 msX8_294 rfl (by first | decide | omega) (by decide) (Nat.le_of_ble_eq_true rfl) ⟨Nat.le_trans (by decide) hR.1, Nat.le_trans (by decide) hR.2⟩ (fun _ _ q => q.elim) (m_concept (show p < 2 ^ 31 by omega) ?_)
            refine J_imul hS dX8_learns_111 ?_
            refine J_iadd hS dX8_learns_112 ?_
            show J S 0 0 (g3) 113 [some (.ref 162), some (.int (nI b)), some (.int (nI y)), some (.int (nI (56 + 142 * b))), some (.int (nI its)), some (.int (nI k)), some (.int (nI p)), none, none, none] [.int _]
            rw [show nI (56 + 142 * b) + 8 + 16 * nI (con p (pt p)) = nI B by rw [n8, n16, pk_mul, nI_add, nI_add, hB]; rfl]
            refine J_istore (lt := fun z7 => [some (.ref 162), some (.int (nI b)), some (.int (nI y)), some (.int (nI (56 + 142 * b))), some (.int (nI its)), some (.int (nI k)), some (.int (nI p)), some (.int z7), none, none]) hS dX8_learns_113 (Nat.le_of_ble_eq_true rfl) (fun _ => rfl) (fun z7 ez7 => ?_)
            rw [show z7 = nI B from ez7]
            refine J_aload_n hS dX8_learns_115 rfl ?_
            refine J_iload_n hS dX8_learns_116 rfl ?_
            refine J_aload_n hS dX8_learns_117 rfl ?_
            refine J_getR (t := 198) hS dX8_learns_118 flX8_59 ob162 rfl ?_
            refine J_iload hS dX8_learns_121 rfl ?_
            refine J_ialdN hS (k) dX8_learns_123 (show Ar lay NC .int 198 3 from arM 35 3 (by decide) (by decide) rfl) (by first | rfl | (simp only [n0, n1, n2, n3, n4, n5, n6, n7, n8, n9, n10, n11, n12, n13, n14, n15, n16, n17, n18, n19, n20, n24, n32, n56, n60, n64, n72, n99, n100, n128, n136, n142, n144, n200, n300, n999, n1000, n1500, n3464, nI_add, pk_mul] <;> first | rfl | (congr 1; omega))) (by omega) (by decide) ?_
            show J S 0 0 (g3) 124 [some (.ref 162), some (.int (nI b)), some (.int (nI y)), some (.int (nI (56 + 142 * b))), some (.int (nI its)), some (.int (nI k)), some (.int (nI p)), some (.int (nI B)), none, none] [.int _, .int (nI y), .ref 162]
            rw [show g3 198 k = nI (s k) by rw [k1 198 (by omega) (by decide) (by decide)]; exact hsd k hk3]
            refine J_callV2 (X' := fun _ _ => False) hS dX8_learns_124 mvX8_314 ob162 rfl (by first | decide | omega) (by decide) (Nat.le_of_ble_eq_true rfl) ⟨Nat.le_trans (by decide) hR.1, Nat.le_trans (by decide) hR.2⟩ (fun _ _ q => q.elim) (m_seenAs hr1 w3 k3 hy (hs k) ?_)
            rw [← hx]
            refine J_istore (lt := fun z8 => [some (.ref 162), some (.int (nI b)), some (.int (nI y)), some (.int (nI (56 + 142 * b))), some (.int (nI its)), some (.int (nI k)), some (.int (nI p)), some (.int (nI B)), some (.int z8), none]) hS dX8_learns_127 (Nat.le_of_ble_eq_true rfl) (fun _ => rfl) (fun z8 ez8 => ?_)
            rw [show z8 = nI x from ez8]
            have rd : g3 r (B + x) = U (B + x) := k3.at (by omega) (mkB x hx16)
            refine J_aload_n hS dX8_learns_129 rfl ?_
            refine J_getD (v := .ref r) hS dX8_learns_130 flX8_20 ob162 rfl (wI hr1 w3) ?_
            refine J_iload hS dX8_learns_133 rfl ?_
            refine J_iload hS dX8_learns_135 rfl ?_
            refine J_iadd hS dX8_learns_137 ?_
            refine J_aload_n hS dX8_learns_138 rfl ?_
            refine J_getD (v := .ref r) hS dX8_learns_139 flX8_20 ob162 rfl (wI hr1 w3) ?_
            refine J_iload hS dX8_learns_142 rfl ?_
            refine J_iload hS dX8_learns_144 rfl ?_
            refine J_iadd hS dX8_learns_146 ?_
            refine J_ialdN hS (B + x) dX8_learns_147 hr1.ar (by first | rfl | (simp only [n0, n1, n2, n3, n4, n5, n6, n7, n8, n9, n10, n11, n12, n13, n14, n15, n16, n17, n18, n19, n20, n24, n32, n56, n60, n64, n72, n99, n100, n128, n136, n142, n144, n200, n300, n999, n1000, n1500, n3464, nI_add, pk_mul] <;> first | rfl | (congr 1; omega))) (by omega) (by decide) ?_
            show J S 0 0 (g3) 148 [some (.ref 162), some (.int (nI b)), some (.int (nI y)), some (.int (nI (56 + 142 * b))), some (.int (nI its)), some (.int (nI k)), some (.int (nI p)), some (.int (nI B)), some (.int (nI x)), none] [.int _, .int _, .ref r]
            rw [rd]
            refine J_aload_n hS dX8_learns_148 rfl ?_
            refine J_iconst (v := 0) hS dX8_learns_149 (by decide) ?_
            refine J_aload_n hS dX8_learns_150 rfl ?_
            refine J_getD (v := .ref r) hS dX8_learns_151 flX8_20 ob162 rfl (wI hr1 w3) ?_
            refine J_iload hS dX8_learns_154 rfl ?_
            refine J_iload hS dX8_learns_156 rfl ?_
            refine J_iadd hS dX8_learns_158 ?_
            refine J_ialdN hS (B + x) dX8_learns_159 hr1.ar (by first | rfl | (simp only [n0, n1, n2, n3, n4, n5, n6, n7, n8, n9, n10, n11, n12, n13, n14, n15, n16, n17, n18, n19, n20, n24, n32, n56, n60, n64, n72, n99, n100, n128, n136, n142, n144, n200, n300, n999, n1000, n1500, n3464, nI_add, pk_mul] <;> first | rfl | (congr 1; omega))) (by omega) (by decide) ?_
            show J S 0 0 (g3) 160 [some (.ref 162), some (.int (nI b)), some (.int (nI y)), some (.int (nI (56 + 142 * b))), some (.int (nI its)), some (.int (nI k)), some (.int (nI p)), some (.int (nI B)), some (.int (nI x)), none] [.int _, .int 0, .ref 162, .int _, .int _, .ref r]
            rw [rd]
            refine J_callV2 (X' := fun _ _ => False) hS dX8_learns_160 mvX8_276 ob162 rfl (by first | decide | omega) (by decide) (Nat.le_of_ble_eq_true rfl) ⟨Nat.le_trans (by decide) hR.1, Nat.le_trans (by decide) hR.2⟩ (fun _ _ q => q.elim) (told g3 0 (U (B + x)) _ _ _ (by decide) k1 (fun j h1 _ => k2 j h1) k3 (fun g5 d1 d2 => ?_))
            refine J_iadd hS dX8_learns_163 ?_
            refine J_callS1 (X' := fun _ _ => False) hS dX8_learns_164 msX8_269 rfl (by first | decide | omega) (by decide) (Nat.le_of_ble_eq_true rfl) ⟨Nat.le_trans (by decide) hR.1, Nat.le_trans (by decide) hR.2⟩ (fun _ _ q => q.elim) (m_bounded ?_)
            have row5 := k3.fr (d1 r (by omega) (by omega))
            refine J_iastN hS (B + x) dX8_learns_167 hr1.ar (by first | rfl | (simp only [n0, n1, n2, n3, n4, n5, n6, n7, n8, n9, n10, n11, n12, n13, n14, n15, n16, n17, n18, n19, n20, n24, n32, n56, n60, n64, n72, n99, n100, n128, n136, n142, n144, n200, n300, n999, n1000, n1500, n3464, nI_add, pk_mul] <;> first | rfl | (congr 1; omega))) (by omega) (by decide) (fun g167 eg167 => ?_)
            refine J_iconst (v := 0) hS dX8_learns_168 (by decide) ?_
            refine J_istore (lt := fun i2 => [some (.ref 162), some (.int (nI b)), some (.int (nI y)), some (.int (nI (56 + 142 * b))), some (.int (nI its)), some (.int (nI k)), some (.int (nI p)), some (.int (nI B)), some (.int (nI x)), some (.int i2)]) hS dX8_learns_169 (Nat.le_of_ble_eq_true rfl) (fun _ => rfl) (fun i2 ei2 => ?_)
            refine inner 16 0 i2 g167 (by omega) ei2 (fun z z1 z2 z3 => by rw [eg167, u2_ne z z1, d1 z z2 z3]; exact k1 z z1 z2 z3) (fun j hj => by rw [eg167, u2_ne _ (by omega), d2 j hj]; exact k2 j hj) ?_
            rw [eg167, ← lrnP_0]
            exact row5.put (mkB x hx16)
          have s33 : g3 162 33 = sh := by rw [k2 33 (by decide), b2 33 (by decide)]; exact e33
          refine J_iload_n hS dX8_learns_76 rfl ?_
          refine J_bipush (v := 8) hS dX8_learns_77 (by decide) ?_
          refine J_iadd hS dX8_learns_79 ?_
          refine J_bipush (v := 16) hS dX8_learns_80 (by decide) ?_
          refine J_iload hS dX8_learns_82 rfl ?_
          refine J_aload_n hS dX8_learns_84 rfl ?_
          refine J_getI hS dX8_learns_85 flX8_311 ob162 rfl ?_
          show J S 0 0 (g3) 88 [some (.ref 162), some (.int (nI b)), some (.int (nI y)), some (.int (nI (56 + 142 * b))), some (.int (nI its)), some (.int (nI k)), some (.int (nI p)), none, none, none] [.int _, .int (nI p), .int 16, .int _]
          rw [s33]
          refine J_if_eq (tgt := 101) hS dX8_learns_88 (by decide) (fun c2 => ?_) (fun c2 => ?_)
          · have ep : pt = tk := by rw [hpt, if_pos c2]
            refine J_aload_n hS dX8_learns_101 rfl ?_
            refine J_getR (t := 199) hS dX8_learns_102 flX8_62 ob162 rfl ?_
            refine J_iload hS dX8_learns_105 rfl ?_
            refine J_ialdN hS (p) dX8_learns_107 (show Ar lay NC .int 199 3 from arM 36 3 (by decide) (by decide) rfl) (by first | rfl | (simp only [n0, n1, n2, n3, n4, n5, n6, n7, n8, n9, n10, n11, n12, n13, n14, n15, n16, n17, n18, n19, n20, n24, n32, n56, n60, n64, n72, n99, n100, n128, n136, n142, n144, n200, n300, n999, n1000, n1500, n3464, nI_add, pk_mul] <;> first | rfl | (congr 1; omega))) (by omega) (by decide) ?_
            show J S 0 0 (g3) 108 [some (.ref 162), some (.int (nI b)), some (.int (nI y)), some (.int (nI (56 + 142 * b))), some (.int (nI its)), some (.int (nI k)), some (.int (nI p)), none, none, none] [.int _, .int (nI p), .int 16, .int _]
            rw [show g3 199 p = nI (pt p) by rw [k1 199 (by omega) (by decide) (by decide), ep]; exact hto p hp3]
            exact after
          · have ep : pt = mt := by rw [hpt, if_neg c2]
            refine J_aload_n hS dX8_learns_91 rfl ?_
            refine J_getR (t := 197) hS dX8_learns_92 flX8_56 ob162 rfl ?_
            refine J_iload hS dX8_learns_95 rfl ?_
            refine J_ialdN hS (p) dX8_learns_97 (show Ar lay NC .int 197 3 from arM 34 3 (by decide) (by decide) rfl) (by first | rfl | (simp only [n0, n1, n2, n3, n4, n5, n6, n7, n8, n9, n10, n11, n12, n13, n14, n15, n16, n17, n18, n19, n20, n24, n32, n56, n60, n64, n72, n99, n100, n128, n136, n142, n144, n200, n300, n999, n1000, n1500, n3464, nI_add, pk_mul] <;> first | rfl | (congr 1; omega))) (by omega) (by decide) ?_
            show J S 0 0 (g3) 98 [some (.ref 162), some (.int (nI b)), some (.int (nI y)), some (.int (nI (56 + 142 * b))), some (.int (nI its)), some (.int (nI k)), some (.int (nI p)), none, none, none] [.int _, .int (nI p), .int 16, .int _]
            rw [show g3 197 p = nI (pt p) by rw [k1 197 (by omega) (by decide) (by decide), ep]; exact hme p hp3]
            refine J_goto (tgt := 108) hS dX8_learns_98 (by decide) ?_
            exact after
    refine J_aload_n hS dX8_learns_34 rfl ?_
    refine J_getI hS dX8_learns_35 flX8_311 ob162 rfl ?_
    show J S 0 0 (g1) 38 [some (.ref 162), some (.int (nI b)), some (.int (nI y)), some (.int (nI (56 + 142 * b))), none, none, none, none, none, none] [.int _]
    rw [show g1 162 33 = sh by rw [b2 33 (by decide)]; exact e33]
    refine J_if_eq (tgt := 48) hS dX8_learns_38 (by decide) (fun c1 => ?_) (fun c1 => ?_)
    ·
      refine J_aload_n hS dX8_learns_48 rfl ?_
      refine J_getI hS dX8_learns_49 flX8_300 ob162 rfl ?_
      refine step_its _ ?_
      rw [b2 30 (by decide), e30, hits, if_pos c1]
    ·
      refine J_aload_n hS dX8_learns_41 rfl ?_
      refine J_getI hS dX8_learns_42 flX8_288 ob162 rfl ?_
      show J S 0 0 (g1) 45 [some (.ref 162), some (.int (nI b)), some (.int (nI y)), some (.int (nI (56 + 142 * b))), none, none, none, none, none, none] [.int _]
      rw [show g1 162 29 = nI its by rw [b2 29 (by decide), e29, hits, if_neg c1]]
      refine J_goto (tgt := 52) hS dX8_learns_45 (by decide) ?_
      exact step_its _ rfl
  have A1 : J S 0 0 g 19 [some (.ref 162), some (.int (nI b)), some (.int (nI y)), some (.int (nI (56 + 142 * b))), none, none, none, none, none, none] [.int rt, .int (nI b), .ref 162] := by
    refine J_aload_n hS dX8_learns_19 rfl ?_
    refine J_getI hS dX8_learns_20 flX8_311 ob162 rfl ?_
    show J S 0 0 (g) 23 [some (.ref 162), some (.int (nI b)), some (.int (nI y)), some (.int (nI (56 + 142 * b))), none, none, none, none, none, none] [.int _, .int rt, .int (nI b), .ref 162]
    rw [e33]
    refine J_if_eq (tgt := 30) hS dX8_learns_23 (by decide) (fun c1 => ?_) (fun c1 => ?_)
    ·
      refine J_iconst (v := 0) hS dX8_learns_30 (by decide) ?_
      rw [c1] at A2; exact A2
    ·
      refine J_iconst (v := 1) hS dX8_learns_26 (by decide) ?_
      refine J_goto (tgt := 31) hS dX8_learns_27 (by decide) ?_
      rw [hsh.resolve_left c1] at A2; exact A2
  refine J_aload_n hS dX8_learns_5 rfl ?_
  refine J_iload_n hS dX8_learns_6 rfl ?_
  refine J_aload_n hS dX8_learns_7 rfl ?_
  refine J_getI hS dX8_learns_8 flX8_307 ob162 rfl ?_
  show J S 0 0 (g) 11 [some (.ref 162), some (.int (nI b)), some (.int (nI y)), some (.int (nI (56 + 142 * b))), none, none, none, none, none, none] [.int _, .int (nI b), .ref 162]
  rw [e32]
  refine J_if_eq (tgt := 18) hS dX8_learns_11 (by decide) (fun c1 => ?_) (fun c1 => ?_)
  ·
    refine J_iconst (v := 0) hS dX8_learns_18 (by decide) ?_
    rw [c1] at A1; exact A1
  ·
    refine J_iconst (v := 1) hS dX8_learns_14 (by decide) ?_
    refine J_goto (tgt := 19) hS dX8_learns_15 (by decide) ?_
    rw [hrt.resolve_left c1] at A1; exact A1
end RefL


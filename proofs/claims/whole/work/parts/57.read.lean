/-! THE CLASS: fits and read -/
/-- a film as the class holds it -/
def FmC (g : Mm) (f fr mn : Nat) (na nb ny : Nat → Nat) (nm : Nat → Nat → Nat) : Prop :=
  g (101 + 2 * f) 2 = nI fr ∧ g (101 + 2 * f) 3 = nI mn ∧ mn ≤ 100 ∧ fr + mn ≤ 1500 ∧ (∀ i, ny i < 3) ∧ (∀ i r, nm i r < 4) ∧
  (∀ i, i < mn → na i < 24 ∧ nb i < 24 ∧ g 144 ((fr + i) * 19 + 1) = nI (na i) ∧ g 144 ((fr + i) * 19 + 2) = nI (nb i) ∧ g 144 ((fr + i) * 19 + 3) = nI (nm i 0) ∧ g 144 ((fr + i) * 19 + 4) = nI (nm i 1) ∧ g 144 ((fr + i) * 19 + 5) = nI (nm i 2)) ∧
  (∀ i, i < mn → wv g (68 + 11 * f) (56 + 142 * na i) = nI (ny i) ∧ wv g (68 + 11 * f) (56 + 142 * nb i) = nI (ny i)) ∧ ∀ c, c < 24 → Wt (wv g (68 + 11 * f)) c
theorem FmC.fr {g g' : Mm} {f fr mn : Nat} {na nb ny : Nat → Nat} {nm : Nat → Nat → Nat} (h : FmC g f fr mn na nb ny nm) (hf : f < 3) (e : ∀ z, 24 ≤ z → z < 148 → g' z = g z) : FmC g' f fr mn na nb ny nm := by
  obtain ⟨h1, h2, h3, h4, h5, h6, h7, h8, h9⟩ := h
  have ew : wv g' (68 + 11 * f) = wv g (68 + 11 * f) := wv_fr (fun a z1 z2 => e a (by omega) (by omega))
  refine ⟨by rw [e _ (by omega) (by omega)]; exact h1, by rw [e _ (by omega) (by omega)]; exact h2, h3, h4, h5, h6, fun i hi => by rw [e 144 (by omega) (by omega)]; exact h7 i hi, fun i hi => by rw [ew]; exact h8 i hi, fun c hc => by rw [ew]; exact h9 c hc⟩
def lwI (e : Nat) : Int32 := if e = 0 then -1 else nI (e - 1)
def rdB (F : Nat → Bool) : Nat → Int32
  | 0 => 0
  | e + 1 => if F e = true then rdB F e ||| (1 <<< ((if e = 0 then 6 else lwI e) &&& 31)) else rdB F e
section ClsRd
variable {l : Launch} {E : Ey} {g : Mm} {Q : Option Value → Mm → Prop} {X : String → Mm → Prop} {h : Nat}
/-- a film's first talks that come out alike: r of mn -/
def alN (g : Mm) (f fr mn : Nat) (lw : Option (List Cls)) (na nb ny : Nat → Nat) (nm : Nat → Nat → Nat) (r : Nat) : Prop :=
  r ≤ mn ∧ (∀ j, j < r → alOk g (101 + 2 * f) fr lw (-1) na nb ny nm (wv g (68 + 11 * f)) j) ∧ (r < mn → ¬ alOk g (101 + 2 * f) fr lw (-1) na nb ny nm (wv g (68 + 11 * f)) r)
def FrA (g g' : Mm) : Prop := ∀ z, (z < 13 ∨ 23 < z) → (z < 148 ∨ 154 < z) → g' z = g z
theorem c_alike {f fr mn : Nat} {v : Int32} {Ls : List (List Cls)} {na nb ny : Nat → Nat} {nm : Nat → Nat → Nat} (hf : f < 3) (hl : LawsC g Ls) (hv : isLw Ls.length v) (hF : FmC g f fr mn na nb ny nm) (q : ∀ (g' : Mm) (r : Nat), FrA g g' → alN g f fr mn (lwOf Ls v) na nb ny nm r → Q (some (.int (nI r))) g') : Ct l E lay NC 6 0 0 yX7_countAlike [.ref 1, .ref (101 + 2 * f), .int v] g Q X := by
  obtain ⟨h1, h2, h3, h4, h5, h6, h7, h8, h9⟩ := hF
  have e : 68 + 11 * ((101 + 2 * f - 101) / 2) = 68 + 11 * f := by omega
  have := c_countAlike (l := l) (E := E) (g := g) (Q := Q) (X := X) (h := 101 + 2 * f) ⟨f, hf, rfl⟩ hl hv h1 h2 h3 h4 h5 h6 h7 (by rw [e]; exact h8) (by rw [e]; exact h9)
    (fun g' r k1 k2 k3 k4 => q g' r (fun z z1 z2 => k1 z z1 (by omega) (by omega) (by omega) (by omega) (by omega) (by omega) (by omega)) ⟨k2, by rw [e] at k3; exact k3, by rw [e] at k4; exact k4⟩)
  exact this
theorem alOk_fr {g g' : Mm} {f fr : Nat} {lw : Option (List Cls)} {lo : Int32} {na nb ny : Nat → Nat} {nm : Nat → Nat → Nat} {j : Nat} (hf : f < 3) (e : FrA g g') : alOk g' (101 + 2 * f) fr lw lo na nb ny nm (wv g' (68 + 11 * f)) j ↔ alOk g (101 + 2 * f) fr lw lo na nb ny nm (wv g (68 + 11 * f)) j := by
  unfold alOk
  rw [e _ (by omega) (by omega), e 144 (by omega) (by omega), show wv g' (68 + 11 * f) = wv g (68 + 11 * f) from wv_fr (fun a z1 z2 => e a (by omega) (by omega))]
theorem c_fits {f0 v : Int32} {fc : Nat} {Ls : List (List Cls)} {fr mn : Nat → Nat} {na nb ny : Nat → Nat → Nat} {nm : Nat → Nat → Nat → Nat} (hfc : fc ≤ 3) (efc : g 1 15 = nI fc) (hl : LawsC g Ls) (hF : ∀ f, f < fc → FmC g f (fr f) (mn f) (na f) (nb f) (ny f) (nm f)) (x : (ou fc f0 ∨ (v < -1 ∨ nI Ls.length ≤ v)) → X eIB g)
    (q : ∀ f, f < fc → f0 = nI f → isLw Ls.length v → ∀ (g' : Mm) (r : Nat), FrA g g' → alN g f (fr f) (mn f) (lwOf Ls v) (na f) (nb f) (ny f) (nm f) r → Q (some (.int (nI r))) g') : Ct l E lay NC 8 1 6 yX7_fits [.ref 1, .int f0, .int v] g Q X := by
  have hl6 := hl.1
  refine Ct_in k_yX7_fits (by decide) rfl (Nat.le_of_ble_eq_true rfl) rfl ?_
  intro S hS hZ hr ht hR
  show J S 0 0 (g) 0 [some (.ref 1), some (.int f0), some (.int v)] []
  refine J_aload_n hS dX7_fits_0 rfl ?_
  refine J_iload_n hS dX7_fits_1 rfl ?_
  rcases in_or (y := f0) (b := fc) (by first | decide | omega) with ⟨f, hf, ef⟩ | hbf
  ·
    subst ef
    refine J_callV1 (X' := fun _ _ => False) hS dX7_fits_2 mvX7_278 ob1 rfl (by decide) (by decide) (Nat.le_of_ble_eq_true rfl) ⟨Nat.le_trans (by decide) hR.1, Nat.le_trans (by decide) hR.2⟩ (fun _ _ q => q.elim) (c_checkFilmOk efc hf hfc ?_)
    refine J_aload_n hS dX7_fits_5 rfl ?_
    refine J_iload_n hS dX7_fits_6 rfl ?_
    by_cases hb : v < -1 ∨ g 1 14 ≤ v
    ·
      refine J_callV1 hS dX7_fits_7 mvX7_202 ob1 rfl (by decide) (by decide) (Nat.le_of_ble_eq_true rfl) ⟨Nat.le_trans (by decide) hR.1, Nat.le_trans (by decide) hR.2⟩ (fun _ _ q => q) (c_checkLawBad hb (JX_out hS hZ ht (by omega) (by omega) (x (Or.inr (by rw [← hl.2.1]; exact hb)))))
    · have h1 : ¬ v < -1 := fun z => hb (Or.inl z)
      have h2 : v < g 1 14 := Int32.not_le.mp (fun z => hb (Or.inr z))
      have hv : isLw Ls.length v := isLw_of h1 (by rw [← hl.2.1]; exact h2) (by omega)
      refine J_callV1 (X' := fun _ _ => False) hS dX7_fits_7 mvX7_202 ob1 rfl (by decide) (by decide) (Nat.le_of_ble_eq_true rfl) ⟨Nat.le_trans (by decide) hR.1, Nat.le_trans (by decide) hR.2⟩ (fun _ _ q => q.elim) (c_checkLawOk h1 h2 ?_)
      refine J_aload_n hS dX7_fits_10 rfl ?_
      refine J_aload_n hS dX7_fits_11 rfl ?_
      refine J_getR (t := 160) hS dX7_fits_12 flX7_25 ob1 rfl ?_
      refine J_iload_n hS dX7_fits_15 rfl ?_
      refine J_aaldN (t0 := 4) (t := 101 + 2 * f) hS (f) dX7_fits_16 aq160 (fun _ => rfl) (by first | rfl | (simp only [n0, n1, n2, n3, n4, n5, n6, n7, n8, n9, n10, n11, n12, n13, n14, n15, n16, n17, n18, n19, n20, n24, n32, n56, n60, n64, n72, n99, n100, n128, n136, n142, n144, n200, n300, n999, n1000, n1500, n3464, nI_add, pk_mul] <;> first | rfl | (congr 1; omega))) (by omega) (by decide) rfl ?_
      refine J_iload_n hS dX7_fits_17 rfl ?_
      refine J_callV2 (X' := fun _ _ => False) hS dX7_fits_18 mvX7_287 ob1 rfl (by decide) (by decide) (Nat.le_of_ble_eq_true rfl) ⟨Nat.le_trans (by decide) hR.1, Nat.le_trans (by decide) hR.2⟩ (fun _ _ q => q.elim) (c_alike (show f < 3 by omega) hl hv (hF f hf) (fun g1 r b1 b2 => ?_))
      refine J_iret hS hZ hr dX7_fits_21 (by omega) (by omega) ?_
      exact q f hf rfl hv g1 r b1 b2
  ·
    refine J_callV1 hS dX7_fits_2 mvX7_278 ob1 rfl (by decide) (by decide) (Nat.le_of_ble_eq_true rfl) ⟨Nat.le_trans (by decide) hR.1, Nat.le_trans (by decide) hR.2⟩ (fun _ _ q => q) (c_checkFilmBad (by rw [efc]; exact hbf) (JX_out hS hZ ht (by omega) (by omega) (x (Or.inl hbf))))
set_option maxRecDepth 10000 in
theorem c_read {fc : Nat} {Ls : List (List Cls)} {fr mn : Nat → Nat} {na nb ny : Nat → Nat → Nat} {nm : Nat → Nat → Nat → Nat} (hfc : fc ≤ 3) (efc : g 1 15 = nI fc) (hl : LawsC g Ls) (hF : ∀ f, f < fc → FmC g f (fr f) (mn f) (na f) (nb f) (ny f) (nm f)) {F : Nat → Bool} (hFt : ∀ e, e ≤ Ls.length → (F e = true ↔ ∀ f, f < fc → ∀ j, j < mn f → alOk g (101 + 2 * f) (fr f) (lwOf Ls (lwI e)) (-1) (na f) (nb f) (ny f) (nm f) (wv g (68 + 11 * f)) j))
    (q : ∀ g', FrA g g' → Q (some (.int (rdB F (Ls.length + 1)))) g') : Ct l E lay NC 8 0 0 yX7_read [.ref 1] g Q X := by
  have hl6 := hl.1
  refine Ct_in k_yX7_read (by decide) rfl (Nat.le_of_ble_eq_true rfl) rfl ?_
  intro S hS hZ hr ht hR
  show J S 0 0 (g) 0 [some (.ref 1), none, none, none, none] []
  refine J_iconst (v := 0) hS dX7_read_0 (by decide) ?_
  refine J_istore_n (lt := fun b1 => [some (.ref 1), some (.int b1), none, none, none]) hS dX7_read_1 (Nat.le_of_ble_eq_true rfl) (fun _ => rfl) (fun b1 eb1 => ?_)
  refine J_iconst (v := (-1)) hS dX7_read_2 (by decide) ?_
  refine J_istore_n (lt := fun v1 => [some (.ref 1), some (.int b1), some (.int v1), none, none]) hS dX7_read_3 (Nat.le_of_ble_eq_true rfl) (fun _ => rfl) (fun v1 ev1 => ?_)
  suffices H : ∀ (r e : Nat) (b v : Int32) (g1 : Mm), e + r = Ls.length + 1 → v = lwI e → b = rdB F e → FrA g g1 → J S 0 0 g1 4 [some (.ref 1), some (.int b), some (.int v), none, none] [] by
    exact H (Ls.length + 1) 0 b1 v1 g (by omega) ev1 eb1 (fun _ _ _ => rfl)
  intro r
  induction r with
  | zero =>
    intro e b v g1 he hv hb k1
    have ee : e = Ls.length + 1 := by omega
    subst hv
    refine J_iload_n hS dX7_read_4 rfl ?_
    refine J_aload_n hS dX7_read_5 rfl ?_
    refine J_getI hS dX7_read_6 flX7_80 ob1 rfl ?_
    show J S 0 0 (g1) 9 [some (.ref 1), some (.int b), some (.int (lwI e)), none, none] [.int _, .int (lwI e)]
    rw [k1 1 (by decide) (by decide), hl.2.1, show lwI e = nI Ls.length by unfold lwI; rw [if_neg (by omega), ee]; rfl]
    refine J_icmp_ge (tgt := 93) hS dX7_read_9 (by decide) (fun c1 => ?_) (fun c1 => ?_)
    ·
      refine J_iload_n hS dX7_read_93 rfl ?_
      refine J_iret hS hZ hr dX7_read_94 (by omega) (by omega) ?_
      rw [hb, ee]; exact q g1 k1
    · exact absurd (Int32.le_refl _) c1
  | succ r ih =>
    intro e b v g1 he hv hb k1
    have hes : e ≤ Ls.length := by omega
    have hvl : isLw Ls.length (lwI e) := by
      unfold lwI
      by_cases z : e = 0
      · rw [if_pos z]; exact Or.inl rfl
      · rw [if_neg z]; exact Or.inr ⟨e - 1, by omega, rfl⟩
    have hlt : lwI e < nI Ls.length := by
      unfold lwI
      by_cases z : e = 0
      · rw [if_pos z]; exact Int32.lt_of_lt_of_le (show (-1 : Int32) < nI 0 by decide) (nI_le (Nat.zero_le _) (by omega))
      · rw [if_neg z]; exact nI_lt (by omega) (by omega)
    have nxt : lwI e + 1 = lwI (e + 1) := by
      unfold lwI
      by_cases z : e = 0
      · subst z; rfl
      · rw [if_neg z, if_neg (by omega), nI_1]; congr 1; omega
    subst hv
    have hft := hFt e hes
    obtain ⟨lv, hlv⟩ : ∃ lv : Int32, lv = lwI e := ⟨_, rfl⟩
    rw [← hlv] at hvl hlt nxt hft
    have hrd : rdB F (e + 1) = if F e = true then rdB F e ||| (1 <<< ((if e = 0 then 6 else lwI e) &&& 31)) else rdB F e := rfl
    have after : ∀ (ok i : Int32) (g2 : Mm), FrA g g2 → (ok = 0 ∨ ok = 1) → (ok = 1 ↔ F e = true) → J S 0 0 g2 67 [some (.ref 1), some (.int b), some (.int lv), some (.int ok), some (.int i)] [] := by
      intro ok i g2 k2 ho hi
      refine J_iload_n hS dX7_read_67 rfl ?_
      refine J_if_eq (tgt := 87) hS dX7_read_68 (by decide) (fun c3 => ?_) (fun c3 => ?_)
      · have hno : ¬ F e = true := fun z => by rw [hi.mpr z] at c3; exact absurd c3 (by decide)
        refine J_iinc (lt := fun v2 => [some (.ref 1), some (.int b), some (.int v2), some (.int ok), some (.int i)]) (v := 1) hS dX7_read_87 rfl (by decide) (fun _ => rfl) (fun v2 ev2 => ?_)
        refine J_goto (tgt := 4) hS dX7_read_90 (by decide) ?_
        refine J_weak (ls' := [some (.ref 1), some (.int b), some (.int v2), none, none]) ⟨Or.inr rfl, Or.inr rfl, Or.inr rfl, Or.inl rfl, Or.inl rfl, trivial⟩ ?_
        exact ih (e + 1) b v2 g2 (by omega) (by rw [ev2]; exact nxt) (by rw [hb, hrd, if_neg hno]) k2
      · have hyes : F e = true := hi.mp (ho.resolve_left c3)
        have en : ∀ w : Int32, w = (if e = 0 then 6 else lwI e) → J S 0 0 g2 84 [some (.ref 1), some (.int b), some (.int lv), some (.int ok), some (.int i)] [.int w, .int 1, .int b] := by
          intro w hw
          refine J_ishl hS dX7_read_84 ?_
          refine J_ior hS dX7_read_85 ?_
          refine J_istore_n (lt := fun b2 => [some (.ref 1), some (.int b2), some (.int lv), some (.int ok), some (.int i)]) hS dX7_read_86 (Nat.le_of_ble_eq_true rfl) (fun _ => rfl) (fun b2 eb2 => ?_)
          refine J_iinc (lt := fun v2 => [some (.ref 1), some (.int b2), some (.int v2), some (.int ok), some (.int i)]) (v := 1) hS dX7_read_87 rfl (by decide) (fun _ => rfl) (fun v2 ev2 => ?_)
          refine J_goto (tgt := 4) hS dX7_read_90 (by decide) ?_
          refine J_weak (ls' := [some (.ref 1), some (.int b2), some (.int v2), none, none]) ⟨Or.inr rfl, Or.inr rfl, Or.inr rfl, Or.inl rfl, Or.inl rfl, trivial⟩ ?_
          exact ih (e + 1) b2 v2 g2 (by omega) (by rw [ev2]; exact nxt) (by rw [eb2, hb, hrd, if_pos hyes, hw]) k2
        refine J_iload_n hS dX7_read_71 rfl ?_
        refine J_iconst (v := 1) hS dX7_read_72 (by decide) ?_
        refine J_iload_n hS dX7_read_73 rfl ?_
        refine J_iconst (v := (-1)) hS dX7_read_74 (by decide) ?_
        refine J_icmp_ne (tgt := 83) hS dX7_read_75 (by decide) (fun c4 => ?_) (fun c4 => ?_)
        ·
          refine J_iload_n hS dX7_read_83 rfl ?_
          refine en lv ?_
          rw [if_neg (fun z => c4 (by rw [hlv, z]; rfl))]; exact hlv
        ·
          refine J_bipush (v := 6) hS dX7_read_78 (by decide) ?_
          refine J_goto (tgt := 84) hS dX7_read_80 (by decide) ?_
          refine en 6 ?_
          have : e = 0 := by
            rcases Nat.eq_zero_or_pos e with z | z
            · exact z
            · rw [hlv] at c4; unfold lwI at c4; rw [if_neg (by omega)] at c4; exact absurd c4 (nI_nem1 (by omega))
          rw [if_pos this]
    have inner : ∀ (s i : Nat) (ok v : Int32) (g2 : Mm), i + s = fc → v = nI i → FrA g g2 → (ok = 0 ∨ ok = 1) → (ok = 1 ↔ ∀ f, f < i → ∀ j, j < mn f → alOk g (101 + 2 * f) (fr f) (lwOf Ls lv) (-1) (na f) (nb f) (ny f) (nm f) (wv g (68 + 11 * f)) j) → J S 0 0 g2 17 [some (.ref 1), some (.int b), some (.int lv), some (.int ok), some (.int v)] [] := by
      intro s
      induction s with
      | zero =>
        intro i ok v g2 hi hv k2 ho hk
        have ei : i = fc := by omega
        subst hv
        refine J_iload hS dX7_read_17 rfl ?_
        refine J_aload_n hS dX7_read_19 rfl ?_
        refine J_getI hS dX7_read_20 flX7_83 ob1 rfl ?_
        show J S 0 0 (g2) 23 [some (.ref 1), some (.int b), some (.int lv), some (.int ok), some (.int (nI i))] [.int _, .int (nI i)]
        rw [k2 1 (by decide) (by decide), efc]
        refine J_icmp_ge (tgt := 67) hS dX7_read_23 (by decide) (fun c2 => ?_) (fun c2 => ?_)
        · exact after ok _ g2 k2 ho (by rw [hk, hft, ei])
        · exact absurd (nI_le (show fc ≤ i by omega) (by omega)) c2
      | succ s ih2 =>
        intro i ok v g2 hi hv k2 ho hk
        subst hv
        have hif : i < fc := by omega
        have hF2 : Fm (101 + 2 * i) := ⟨i, by omega, rfl⟩
        refine J_iload hS dX7_read_17 rfl ?_
        refine J_aload_n hS dX7_read_19 rfl ?_
        refine J_getI hS dX7_read_20 flX7_83 ob1 rfl ?_
        show J S 0 0 (g2) 23 [some (.ref 1), some (.int b), some (.int lv), some (.int ok), some (.int (nI i))] [.int _, .int (nI i)]
        rw [k2 1 (by decide) (by decide), efc]
        refine J_icmp_ge (tgt := 67) hS dX7_read_23 (by decide) (fun c2 => ?_) (fun c2 => ?_)
        · exact absurd c2 (nI_ge hif (by omega))
        ·
          refine J_iload_n hS dX7_read_26 rfl ?_
          refine J_if_eq (tgt := 67) hS dX7_read_27 (by decide) (fun c3 => ?_) (fun c3 => ?_)
          · refine after ok _ g2 k2 ho ?_
            rw [hft]
            refine ⟨fun z => absurd z (by rw [c3]; decide), fun z => absurd (hk.mpr (fun f h1 => z f (by omega))) (by rw [c3]; decide)⟩
          · have hall := hk.mp (ho.resolve_left c3)
            have hl2 : LawsC g2 Ls := hl.fr (by rw [k2 1 (by decide) (by decide)]) (fun a h1 h2 => k2 a (by omega) (by omega))
            have hF3 := (hF i hif).fr (g' := g2) (by omega) (fun z h1 h2 => k2 z (by omega) (by omega))
            refine J_aload_n hS dX7_read_30 rfl ?_
            refine J_aload_n hS dX7_read_31 rfl ?_
            refine J_getR (t := 160) hS dX7_read_32 flX7_25 ob1 rfl ?_
            refine J_iload hS dX7_read_35 rfl ?_
            refine J_aaldN (t0 := 4) (t := 101 + 2 * i) hS (i) dX7_read_37 aq160 (fun _ => rfl) (by first | rfl | (simp only [n0, n1, n2, n3, n4, n5, n6, n7, n8, n9, n10, n11, n12, n13, n14, n15, n16, n17, n18, n19, n20, n24, n32, n56, n60, n64, n72, n99, n100, n128, n136, n142, n144, n200, n300, n999, n1000, n1500, n3464, nI_add, pk_mul] <;> first | rfl | (congr 1; omega))) (by omega) (by decide) rfl ?_
            refine J_iload_n hS dX7_read_38 rfl ?_
            refine J_callV2 (X' := fun _ _ => False) hS dX7_read_39 mvX7_287 ob1 rfl (by decide) (by decide) (Nat.le_of_ble_eq_true rfl) ⟨Nat.le_trans (by decide) hR.1, Nat.le_trans (by decide) hR.2⟩ (fun _ _ q => q.elim) (c_alike (show i < 3 by omega) hl2 hvl hF3 (fun g3 rr d1 d2 => ?_))
            have k3 : FrA g g3 := fun z h1 h2 => by rw [d1 z h1 h2]; exact k2 z h1 h2
            have mn1 := (hF i hif).2.1
            have mn2 := (hF i hif).2.2.1
            obtain ⟨a1, a2, a3⟩ := d2
            have hall2 : rr = mn i ↔ ∀ j, j < mn i → alOk g (101 + 2 * i) (fr i) (lwOf Ls lv) (-1) (na i) (nb i) (ny i) (nm i) (wv g (68 + 11 * i)) j := by
              constructor
              · intro z j hj; exact (alOk_fr (by omega) k2).mp (a2 j (by omega))
              · intro z
                rcases Nat.lt_or_ge rr (mn i) with y1 | y1
                · exact absurd ((alOk_fr (by omega) k2).mpr (z rr y1)) (a3 y1)
                · omega
            refine J_aload_n hS dX7_read_42 rfl ?_
            refine J_getR (t := 160) hS dX7_read_43 flX7_25 ob1 rfl ?_
            refine J_iload hS dX7_read_46 rfl ?_
            refine J_aaldN (t0 := 4) (t := 101 + 2 * i) hS (i) dX7_read_48 aq160 (fun _ => rfl) (by first | rfl | (simp only [n0, n1, n2, n3, n4, n5, n6, n7, n8, n9, n10, n11, n12, n13, n14, n15, n16, n17, n18, n19, n20, n24, n32, n56, n60, n64, n72, n99, n100, n128, n136, n142, n144, n200, n300, n999, n1000, n1500, n3464, nI_add, pk_mul] <;> first | rfl | (congr 1; omega))) (by omega) (by decide) rfl ?_
            refine J_getI hS dX7_read_49 flX7_277 hF2.ob rfl ?_
            show J S 0 0 (g3) 52 [some (.ref 1), some (.int b), some (.int lv), some (.int ok), some (.int (nI i))] [.int _, .int _]
            rw [show g3 (101 + 2 * i) 3 = nI (mn i) by rw [k3 _ (by omega) (by omega)]; exact mn1]
            refine J_icmp_ne (tgt := 59) hS dX7_read_52 (by decide) (fun c4 => ?_) (fun c4 => ?_)
            ·
              refine J_iconst (v := 0) hS dX7_read_59 (by decide) ?_
              refine J_istore_n (lt := fun o2 => [some (.ref 1), some (.int b), some (.int lv), some (.int o2), some (.int (nI i))]) hS dX7_read_60 (Nat.le_of_ble_eq_true rfl) (fun _ => rfl) (fun o2 eo2 => ?_)
              refine J_iinc (lt := fun v2 => [some (.ref 1), some (.int b), some (.int lv), some (.int o2), some (.int v2)]) (v := 1) hS dX7_read_61 rfl (by decide) (fun _ => rfl) (fun v2 ev2 => ?_)
              refine J_goto (tgt := 17) hS dX7_read_64 (by decide) ?_
              refine ih2 (i + 1) o2 v2 g3 (by omega) (by rw [ev2]; exact nI_1 i) k3 (Or.inl eo2) ?_
              rw [eo2]
              refine ⟨fun z => absurd z (by decide), fun z => absurd (hall2.mpr (z i (by omega))) (fun y1 => c4 (by rw [y1]))⟩
            · have er : rr = mn i := (nI_eq (by omega) (by omega)).mp c4
              refine J_iconst (v := 1) hS dX7_read_55 (by decide) ?_
              refine J_goto (tgt := 60) hS dX7_read_56 (by decide) ?_
              refine J_istore_n (lt := fun o2 => [some (.ref 1), some (.int b), some (.int lv), some (.int o2), some (.int (nI i))]) hS dX7_read_60 (Nat.le_of_ble_eq_true rfl) (fun _ => rfl) (fun o2 eo2 => ?_)
              refine J_iinc (lt := fun v2 => [some (.ref 1), some (.int b), some (.int lv), some (.int o2), some (.int v2)]) (v := 1) hS dX7_read_61 rfl (by decide) (fun _ => rfl) (fun v2 ev2 => ?_)
              refine J_goto (tgt := 17) hS dX7_read_64 (by decide) ?_
              refine ih2 (i + 1) o2 v2 g3 (by omega) (by rw [ev2]; exact nI_1 i) k3 (Or.inr eo2) ?_
              rw [eo2]
              refine ⟨fun _ f hf => ?_, fun _ => rfl⟩
              rcases Nat.lt_or_ge f i with y1 | y1
              · exact hall f y1
              · have : f = i := by omega
                subst this; exact hall2.mp er
    rw [← hlv]
    refine J_iload_n hS dX7_read_4 rfl ?_
    refine J_aload_n hS dX7_read_5 rfl ?_
    refine J_getI hS dX7_read_6 flX7_80 ob1 rfl ?_
    show J S 0 0 (g1) 9 [some (.ref 1), some (.int b), some (.int lv), none, none] [.int _, .int lv]
    rw [k1 1 (by decide) (by decide), hl.2.1]
    refine J_icmp_ge (tgt := 93) hS dX7_read_9 (by decide) (fun c1 => ?_) (fun c1 => ?_)
    · exact absurd hlt (Int32.not_lt.mpr c1)
    ·
      refine J_iconst (v := 1) hS dX7_read_12 (by decide) ?_
      refine J_istore_n (lt := fun o1 => [some (.ref 1), some (.int b), some (.int lv), some (.int o1), none]) hS dX7_read_13 (Nat.le_of_ble_eq_true rfl) (fun _ => rfl) (fun o1 eo1 => ?_)
      refine J_iconst (v := 0) hS dX7_read_14 (by decide) ?_
      refine J_istore (lt := fun i1 => [some (.ref 1), some (.int b), some (.int lv), some (.int o1), some (.int i1)]) hS dX7_read_15 (Nat.le_of_ble_eq_true rfl) (fun _ => rfl) (fun i1 ei1 => ?_)
      exact inner fc 0 o1 i1 g1 (by omega) ei1 k1 (Or.inr eo1) (by rw [eo1]; exact ⟨fun _ f h1 => absurd h1 (by omega), fun _ => rfl⟩)
end ClsRd


/-! THE READER: sums and products; either and both -/
def CtP (l : Launch) (E : Ey) (y : MethodName) (dd o : Nat) (T : Wr) (n h : Nat) (F : Nat → Res) : Prop :=
  ∀ (g : Mm) (m s : Nat) (Q : Option Value → Mm → Prop) (X : String → Mm → Prop), PreP T n h g m s → (∀ L s' g', F s = .inr (L, s') → POk T n h g g' m L s' → Q (some (.int 1)) g') → (∀ e g', F s = .inl e → PBd h g g' e → Q (some (.int 0)) g') → Ct l E lay NC dd 0 0 y [.ref 155, .int (nI o)] g Q X
theorem Lw.ab {h : Nat} (hL : Lw h) : ab 2 (nI h) = .ref h := by
  obtain ⟨i, hi, e⟩ := hL
  exact ab_nI (by omega) (by omega)
theorem isC_end {T : Wr} {n s : Nat} {c : Int32} (h : n ≤ s) : isC T n s c = false := by
  cases e : isC T n s c with
  | false => rfl
  | true => exact absurd (isC_lt e) (by omega)
theorem isW_end {T : Wr} {n s i : Nat} (h : n ≤ s) : isW T n s i = false := by
  cases e : isW T n s i with
  | false => rfl
  | true => exact absurd (isW_lt e) (by omega)
theorem opR_no {T : Wr} {n r s : Nat} {look : Nat → Option Nat} {u : Nat → Res} {L : List Tok} (h : look s = none) : opR T n look u (r + 1) L s = .inr (L, s) := by
  show (match look s with
    | none => (.inr (L, s) : Res)
    | some c => rb (u (nx T n s)) (fun L2 s2 => opR T n look u r (L ++ L2 ++ [(c, 0)]) s2)) = _
  rw [h]
theorem opR_yes {T : Wr} {n r s c : Nat} {look : Nat → Option Nat} {u : Nat → Res} {L : List Tok} (h : look s = some c) : opR T n look u (r + 1) L s = rb (u (nx T n s)) (fun L2 s2 => opR T n look u r (L ++ L2 ++ [(c, 0)]) s2) := by
  show (match look s with
    | none => (.inr (L, s) : Res)
    | some c => rb (u (nx T n s)) (fun L2 s2 => opR T n look u r (L ++ L2 ++ [(c, 0)]) s2)) = _
  rw [h]
theorem POk.num {T : Wr} {n h : Nat} {g g' : Mm} {m s' : Nat} {L : List Tok} (a : POk T n h g g' m L s') : g' 155 1 = nI n ∧ g' 155 2 = nI h ∧ s' ≤ n ∧ n ≤ 300 := ⟨a.2.1.1.2.1, a.2.1.2.1, a.2.1.2.2.1, a.2.1.1.2.2.1⟩
section RdP
variable {l : Launch} {E : Ey} {h : Nat} {T : Wr} {n : Nat}
set_option maxRecDepth 10000 in
set_option maxHeartbeats 4000000 in
theorem c_readProduct {dd o : Nat} {u : Nat → Res} (hL : Lw h) (hdd : 4 ≤ dd) (hu : CtP l E yX2_readUnit dd o T n h u) (hg : ∀ s, s ≤ n → gd n false s (u s)) : CtP l E yX2_readProduct (dd + 1) o T n h (chn T n (lkP T n) u) := by
  intro g m s Q X hp q1 q0
  have hn3 := hp.1.1.2.2.1
  have hsn := hp.1.2.2.1
  have hms := hp.2.2
  refine Ct_in k_yX2_readProduct (by decide) rfl (Nat.le_of_ble_eq_true rfl) rfl ?_
  intro S hS hZ hr ht hR
  show J S 0 0 (g) 0 [some (.ref 155), some (.int (nI o)), none, none, none] []
  have bad : ∀ (g1 : Mm) (e : Nat × Nat) (i : Int32) (x : Option Value), chn T n (lkP T n) u s = .inl e → PBd h g g1 e → J S 0 0 g1 8 [some (.ref 155), some (.int (nI o)), some (.int 0), some (.int i), x] [] := by
    intro g1 e i x he hb
    refine J_weak (ls' := [some (.ref 155), some (.int (nI o)), some (.int 0), some (.int i), none]) ⟨Or.inr rfl, Or.inr rfl, Or.inr rfl, Or.inr rfl, Or.inl rfl, trivial⟩ ?_
    refine J_iload_n hS dX2_readProduct_8 rfl ?_
    refine J_aload_n hS dX2_readProduct_9 rfl ?_
    refine J_getI hS dX2_readProduct_10 flX2_15 ob155 rfl ?_
    refine J_icmp_ge (tgt := 83) hS dX2_readProduct_13 (by decide) (fun c1 => ?_) (fun c1 => ?_)
    ·
      refine J_iload_n hS dX2_readProduct_83 rfl ?_
      refine J_zret hS hZ hr dX2_readProduct_84 (by decide) (by omega) (by omega) ?_
      exact q0 e g1 he hb
    ·
      refine J_iload_n hS dX2_readProduct_16 rfl ?_
      refine J_if_eq (tgt := 83) hS dX2_readProduct_17 (by decide) (fun c2 => ?_) (fun c2 => ?_)
      ·
        refine J_iload_n hS dX2_readProduct_83 rfl ?_
        refine J_zret hS hZ hr dX2_readProduct_84 (by decide) (by omega) (by omega) ?_
        exact q0 e g1 he hb
      · exact absurd rfl c2
  have H : ∀ (r i : Nat) (L : List Tok) (s1 : Nat) (v : Int32) (x : Option Value) (g1 : Mm), i + r = n + 1 → i ≤ s1 → v = nI i → m + L.length ≤ s1 → POk T n h g g1 m L s1 → chn T n (lkP T n) u s = opR T n (lkP T n) u r L s1 → J S 0 0 g1 8 [some (.ref 155), some (.int (nI o)), some (.int 1), some (.int v), x] [] := by
    intro r
    induction r with
    | zero =>
      intro i L s1 v x g1 hi his hv hml hok heq
      have := hok.num
      omega
    | succ r ih =>
      intro i L s1 v x g1 hi his hv hml hok heq
      obtain ⟨e1, e2, e3, e4⟩ := hok.num
      have hC1 := hok.2.1
      refine J_weak (ls' := [some (.ref 155), some (.int (nI o)), some (.int 1), some (.int v), none]) ⟨Or.inr rfl, Or.inr rfl, Or.inr rfl, Or.inr rfl, Or.inl rfl, trivial⟩ ?_
      have out : lkP T n s1 = none → J S 0 0 g1 83 [some (.ref 155), some (.int (nI o)), some (.int 1), some (.int v), none] [] := by
        intro hno
        refine J_iload_n hS dX2_readProduct_83 rfl ?_
        refine J_zret hS hZ hr dX2_readProduct_84 (by decide) (by omega) (by omega) ?_
        exact q1 L s1 g1 (by rw [heq, opR_no hno]) hok
      have mid : ∀ (c : Nat) (xv : Int32), lkP T n s1 = some c → xv = encC (c, 0) → J S 0 0 g1 56 [some (.ref 155), some (.int (nI o)), some (.int 1), some (.int v), none] [.int xv] := by
        intro c xv hc hxv
        refine J_istore (lt := fun x4 => [some (.ref 155), some (.int (nI o)), some (.int 1), some (.int v), some (.int x4)]) hS dX2_readProduct_56 (Nat.le_of_ble_eq_true rfl) (fun _ => rfl) (fun x4 ex4 => ?_)
        refine J_aload_n hS dX2_readProduct_58 rfl ?_
        refine J_callV0 (X' := fun _ _ => False) hS dX2_readProduct_59 mvX2_52 ob155 rfl (by first | decide | omega) (by decide) (Nat.le_of_ble_eq_true rfl) ⟨Nat.le_trans (by decide) hR.1, Nat.le_trans (by decide) hR.2⟩ (fun _ _ q => q.elim) (c_step hC1.1 hC1.2.1 (tkE_le e3).2.1 hC1.2.2.2.2.2.1 (fun g2 b1 b2 => ?_))
        have gx := (nx_le (T := T) e3)
        have hlt := (lkP_ok hc).1
        have p2 : POk T n h g g2 m L (nx T n s1) := by
          have := hok.trans (POk.tok hL b1 hok.2.2.1 b2)
          rw [List.append_nil] at this; exact this
        refine J_aload_n hS dX2_readProduct_62 rfl ?_
        refine J_iload_n hS dX2_readProduct_63 rfl ?_
        refine J_callV1 (X' := fun _ _ => False) hS dX2_readProduct_64 mvX2_122 ob155 rfl (by first | decide | omega) (by decide) (Nat.le_of_ble_eq_true rfl) ⟨Nat.le_trans (by decide) hR.1, Nat.le_trans (by decide) hR.2⟩ (fun _ _ q => q.elim) (hu g2 (m + L.length) (nx T n s1) _ _ ⟨b2, p2.2.2.1, by omega⟩ (fun L2 s2 g3 f1 f2 => ?_) (fun e g3 f1 f2 => ?_))
        · obtain ⟨d1, d2, d3, d4, d5⟩ := hg _ gx.2.1 L2 s2 f1
          have p3 := p2.trans f2
          refine J_istore_n (lt := fun w2 => [some (.ref 155), some (.int (nI o)), some (.int w2), some (.int v), some (.int x4)]) hS dX2_readProduct_67 (Nat.le_of_ble_eq_true rfl) (fun _ => rfl) (fun w2 ew2 => ?_)
          subst ew2
          have hlen : m + (L ++ L2).length < 300 := by simp only [List.length_append]; omega
          refine J_aload_n hS dX2_readProduct_68 rfl ?_
          refine J_getD (v := .ref h) hS dX2_readProduct_69 flX2_19 ob155 rfl (by rw [p3.num.2.1]; exact hL.ab) ?_
          refine J_iload hS dX2_readProduct_72 rfl ?_
          refine J_callV1 (X' := fun _ _ => False) hS dX2_readProduct_74 mvX2_119 hL.ob rfl (by first | decide | omega) (by decide) (Nat.le_of_ble_eq_true rfl) ⟨Nat.le_trans (by decide) hR.1, Nat.le_trans (by decide) hR.2⟩ (fun _ _ q => q.elim) (c_put hL (m := m + (L ++ L2).length) (by omega) p3.2.2.1 (fun _ => ?_) (fun z => absurd z (by omega)))
          have p4 := p3.put (t := (c, 0)) hL
          rw [← hxv, ← ex4] at p4
          refine J_iinc (lt := fun v2 => [some (.ref 155), some (.int (nI o)), some (.int 1), some (.int v2), some (.int x4)]) (v := 1) hS dX2_readProduct_77 rfl (by decide) (fun _ => rfl) (fun v2 ev2 => ?_)
          refine J_goto (tgt := 8) hS dX2_readProduct_80 (by decide) ?_
          refine ih (i + 1) (L ++ L2 ++ [(c, 0)]) s2 v2 (some (.int x4)) _ (by omega) (by omega) (by rw [ev2, hv]; exact nI_1 i) (by simp only [List.length_append, List.length_cons, List.length_nil]; omega) p4 ?_
          rw [heq, opR_yes hc, f1]; rfl
        · have p3 := p2.bad f2
          have he : chn T n (lkP T n) u s = .inl e := by rw [heq, opR_yes hc, f1]; rfl
          refine J_istore_n (lt := fun w2 => [some (.ref 155), some (.int (nI o)), some (.int w2), some (.int v), some (.int x4)]) hS dX2_readProduct_67 (Nat.le_of_ble_eq_true rfl) (fun _ => rfl) (fun w2 ew2 => ?_)
          subst ew2
          refine J_aload_n hS dX2_readProduct_68 rfl ?_
          refine J_getD (v := .ref h) hS dX2_readProduct_69 flX2_19 ob155 rfl (by rw [p3.2.1]; exact hL.ab) ?_
          refine J_iload hS dX2_readProduct_72 rfl ?_
          refine J_callV1 (X' := fun _ _ => False) hS dX2_readProduct_74 mvX2_119 hL.ob rfl (by first | decide | omega) (by decide) (Nat.le_of_ble_eq_true rfl) ⟨Nat.le_trans (by decide) hR.1, Nat.le_trans (by decide) hR.2⟩ (fun _ _ q => q.elim) (PBd.put hL p3 (fun g4 p4 => ?_))
          refine J_iinc (lt := fun v2 => [some (.ref 155), some (.int (nI o)), some (.int 0), some (.int v2), some (.int x4)]) (v := 1) hS dX2_readProduct_77 rfl (by decide) (fun _ => rfl) (fun v2 ev2 => ?_)
          refine J_goto (tgt := 8) hS dX2_readProduct_80 (by decide) ?_
          exact bad g4 e v2 (some (.int x4)) he p4
      subst hv
      refine J_iload_n hS dX2_readProduct_8 rfl ?_
      refine J_aload_n hS dX2_readProduct_9 rfl ?_
      refine J_getI hS dX2_readProduct_10 flX2_15 ob155 rfl ?_
      show J S 0 0 (g1) 13 [some (.ref 155), some (.int (nI o)), some (.int 1), some (.int (nI i)), none] [.int _, .int (nI i)]
      rw [e1]
      refine J_icmp_ge (tgt := 83) hS dX2_readProduct_13 (by decide) (fun k1 => ?_) (fun k1 => ?_)
      · have : n ≤ s1 := by
          rcases Nat.lt_or_ge i n with z | z
          · exact absurd k1 (nI_ge z (by omega))
          · omega
        exact out (by unfold lkP; rw [isC_end this, isC_end this]; rfl)
      ·
        refine J_iload_n hS dX2_readProduct_16 rfl ?_
        refine J_if_eq (tgt := 83) hS dX2_readProduct_17 (by decide) (fun k2 => ?_) (fun k2 => ?_)
        · exact absurd k2 (by decide)
        ·
          refine J_aload_n hS dX2_readProduct_20 rfl ?_
          refine J_bipush (v := 42) hS dX2_readProduct_21 (by decide) ?_
          refine J_callV1 (X' := fun _ _ => False) hS dX2_readProduct_23 mvX2_74 ob155 rfl (by first | decide | omega) (by decide) (Nat.le_of_ble_eq_true rfl) ⟨Nat.le_trans (by decide) hR.1, Nat.le_trans (by decide) hR.2⟩ (fun _ _ q => q.elim) (c_isAt hC1 (fun r3 t3 u3 => ?_))
          refine J_if_ne (tgt := 38) hS dX2_readProduct_26 (by decide) (fun k3 => ?_) (fun k3 => ?_)
          · have y3 : isC T n s1 42 = true := u3.mp (t3.resolve_left k3)
            refine J_aload_n hS dX2_readProduct_38 rfl ?_
            refine J_bipush (v := 42) hS dX2_readProduct_39 (by decide) ?_
            refine J_callV1 (X' := fun _ _ => False) hS dX2_readProduct_41 mvX2_74 ob155 rfl (by first | decide | omega) (by decide) (Nat.le_of_ble_eq_true rfl) ⟨Nat.le_trans (by decide) hR.1, Nat.le_trans (by decide) hR.2⟩ (fun _ _ q => q.elim) (c_isAt hC1 (fun r4 t4 u4 => ?_))
            refine J_if_eq (tgt := 53) hS dX2_readProduct_44 (by decide) (fun k4 => ?_) (fun k4 => ?_)
            · rw [u4.mpr y3] at k4; exact absurd k4 (by decide)
            ·
              refine J_sipush (v := 2002) hS dX2_readProduct_47 (by decide) ?_
              refine J_goto (tgt := 56) hS dX2_readProduct_50 (by decide) ?_
              exact mid 9 _ (by unfold lkP; rw [if_pos y3]) (by rfl)
          · have n3 : ¬ isC T n s1 42 = true := fun z => by rw [u3.mpr z] at k3; exact absurd k3 (by decide)
            refine J_aload_n hS dX2_readProduct_29 rfl ?_
            refine J_bipush (v := 47) hS dX2_readProduct_30 (by decide) ?_
            refine J_callV1 (X' := fun _ _ => False) hS dX2_readProduct_32 mvX2_74 ob155 rfl (by first | decide | omega) (by decide) (Nat.le_of_ble_eq_true rfl) ⟨Nat.le_trans (by decide) hR.1, Nat.le_trans (by decide) hR.2⟩ (fun _ _ q => q.elim) (c_isAt hC1 (fun r5 t5 u5 => ?_))
            refine J_if_eq (tgt := 83) hS dX2_readProduct_35 (by decide) (fun k5 => ?_) (fun k5 => ?_)
            · have n5 : ¬ isC T n s1 47 = true := fun z => by rw [u5.mpr z] at k5; exact absurd k5 (by decide)
              exact out (by unfold lkP; rw [if_neg n3, if_neg n5])
            · have y5 : isC T n s1 47 = true := u5.mp (t5.resolve_left k5)
              refine J_aload_n hS dX2_readProduct_38 rfl ?_
              refine J_bipush (v := 42) hS dX2_readProduct_39 (by decide) ?_
              refine J_callV1 (X' := fun _ _ => False) hS dX2_readProduct_41 mvX2_74 ob155 rfl (by first | decide | omega) (by decide) (Nat.le_of_ble_eq_true rfl) ⟨Nat.le_trans (by decide) hR.1, Nat.le_trans (by decide) hR.2⟩ (fun _ _ q => q.elim) (c_isAt hC1 (fun r4 t4 u4 => ?_))
              refine J_if_eq (tgt := 53) hS dX2_readProduct_44 (by decide) (fun k4 => ?_) (fun k4 => ?_)
              ·
                refine J_sipush (v := 2003) hS dX2_readProduct_53 (by decide) ?_
                exact mid 10 _ (by unfold lkP; rw [if_neg n3, if_pos y5]) (by rfl)
              · exact absurd (u4.mp (t4.resolve_left k4)) n3
  refine J_aload_n hS dX2_readProduct_0 rfl ?_
  refine J_iload_n hS dX2_readProduct_1 rfl ?_
  refine J_callV1 (X' := fun _ _ => False) hS dX2_readProduct_2 mvX2_122 ob155 rfl (by first | decide | omega) (by decide) (Nat.le_of_ble_eq_true rfl) ⟨Nat.le_trans (by decide) hR.1, Nat.le_trans (by decide) hR.2⟩ (fun _ _ q => q.elim) (hu g m s _ _ hp (fun L s1 g1 f1 f2 => ?_) (fun e g1 f1 f2 => ?_))
  · obtain ⟨d1, d2, d3, d4, d5⟩ := hg s hsn L s1 f1
    refine J_istore_n (lt := fun w2 => [some (.ref 155), some (.int (nI o)), some (.int w2), none, none]) hS dX2_readProduct_5 (Nat.le_of_ble_eq_true rfl) (fun _ => rfl) (fun w2 ew2 => ?_)
    refine J_iconst (v := 0) hS dX2_readProduct_6 (by decide) ?_
    refine J_istore_n (lt := fun i1 => [some (.ref 155), some (.int (nI o)), some (.int w2), some (.int i1), none]) hS dX2_readProduct_7 (Nat.le_of_ble_eq_true rfl) (fun _ => rfl) (fun i1 ei1 => ?_)
    subst ew2
    exact H (n + 1) 0 L s1 i1 none g1 (by omega) (by omega) ei1 (by omega) f2 (by unfold chn; rw [f1]; rfl)
  ·
    refine J_istore_n (lt := fun w2 => [some (.ref 155), some (.int (nI o)), some (.int w2), none, none]) hS dX2_readProduct_5 (Nat.le_of_ble_eq_true rfl) (fun _ => rfl) (fun w2 ew2 => ?_)
    refine J_iconst (v := 0) hS dX2_readProduct_6 (by decide) ?_
    refine J_istore_n (lt := fun i1 => [some (.ref 155), some (.int (nI o)), some (.int w2), some (.int i1), none]) hS dX2_readProduct_7 (Nat.le_of_ble_eq_true rfl) (fun _ => rfl) (fun i1 ei1 => ?_)
    subst ew2
    exact bad g1 e i1 none (by unfold chn; rw [f1]; rfl) f2
set_option maxRecDepth 10000 in
set_option maxHeartbeats 4000000 in
theorem c_readSum {dd o : Nat} {u : Nat → Res} (hL : Lw h) (hdd : 4 ≤ dd) (hu : CtP l E yX2_readProduct dd o T n h u) (hg : ∀ s, s ≤ n → gd n false s (u s)) : CtP l E yX2_readSum (dd + 1) o T n h (chn T n (lkS T n) u) := by
  intro g m s Q X hp q1 q0
  have hn3 := hp.1.1.2.2.1
  have hsn := hp.1.2.2.1
  have hms := hp.2.2
  refine Ct_in k_yX2_readSum (by decide) rfl (Nat.le_of_ble_eq_true rfl) rfl ?_
  intro S hS hZ hr ht hR
  show J S 0 0 (g) 0 [some (.ref 155), some (.int (nI o)), none, none, none] []
  have bad : ∀ (g1 : Mm) (e : Nat × Nat) (i : Int32) (x : Option Value), chn T n (lkS T n) u s = .inl e → PBd h g g1 e → J S 0 0 g1 8 [some (.ref 155), some (.int (nI o)), some (.int 0), some (.int i), x] [] := by
    intro g1 e i x he hb
    refine J_weak (ls' := [some (.ref 155), some (.int (nI o)), some (.int 0), some (.int i), none]) ⟨Or.inr rfl, Or.inr rfl, Or.inr rfl, Or.inr rfl, Or.inl rfl, trivial⟩ ?_
    refine J_iload_n hS dX2_readSum_8 rfl ?_
    refine J_aload_n hS dX2_readSum_9 rfl ?_
    refine J_getI hS dX2_readSum_10 flX2_15 ob155 rfl ?_
    refine J_icmp_ge (tgt := 83) hS dX2_readSum_13 (by decide) (fun c1 => ?_) (fun c1 => ?_)
    ·
      refine J_iload_n hS dX2_readSum_83 rfl ?_
      refine J_zret hS hZ hr dX2_readSum_84 (by decide) (by omega) (by omega) ?_
      exact q0 e g1 he hb
    ·
      refine J_iload_n hS dX2_readSum_16 rfl ?_
      refine J_if_eq (tgt := 83) hS dX2_readSum_17 (by decide) (fun c2 => ?_) (fun c2 => ?_)
      ·
        refine J_iload_n hS dX2_readSum_83 rfl ?_
        refine J_zret hS hZ hr dX2_readSum_84 (by decide) (by omega) (by omega) ?_
        exact q0 e g1 he hb
      · exact absurd rfl c2
  have H : ∀ (r i : Nat) (L : List Tok) (s1 : Nat) (v : Int32) (x : Option Value) (g1 : Mm), i + r = n + 1 → i ≤ s1 → v = nI i → m + L.length ≤ s1 → POk T n h g g1 m L s1 → chn T n (lkS T n) u s = opR T n (lkS T n) u r L s1 → J S 0 0 g1 8 [some (.ref 155), some (.int (nI o)), some (.int 1), some (.int v), x] [] := by
    intro r
    induction r with
    | zero =>
      intro i L s1 v x g1 hi his hv hml hok heq
      have := hok.num
      omega
    | succ r ih =>
      intro i L s1 v x g1 hi his hv hml hok heq
      obtain ⟨e1, e2, e3, e4⟩ := hok.num
      have hC1 := hok.2.1
      refine J_weak (ls' := [some (.ref 155), some (.int (nI o)), some (.int 1), some (.int v), none]) ⟨Or.inr rfl, Or.inr rfl, Or.inr rfl, Or.inr rfl, Or.inl rfl, trivial⟩ ?_
      have out : lkS T n s1 = none → J S 0 0 g1 83 [some (.ref 155), some (.int (nI o)), some (.int 1), some (.int v), none] [] := by
        intro hno
        refine J_iload_n hS dX2_readSum_83 rfl ?_
        refine J_zret hS hZ hr dX2_readSum_84 (by decide) (by omega) (by omega) ?_
        exact q1 L s1 g1 (by rw [heq, opR_no hno]) hok
      have mid : ∀ (c : Nat) (xv : Int32), lkS T n s1 = some c → xv = encC (c, 0) → J S 0 0 g1 56 [some (.ref 155), some (.int (nI o)), some (.int 1), some (.int v), none] [.int xv] := by
        intro c xv hc hxv
        refine J_istore (lt := fun x4 => [some (.ref 155), some (.int (nI o)), some (.int 1), some (.int v), some (.int x4)]) hS dX2_readSum_56 (Nat.le_of_ble_eq_true rfl) (fun _ => rfl) (fun x4 ex4 => ?_)
        refine J_aload_n hS dX2_readSum_58 rfl ?_
        refine J_callV0 (X' := fun _ _ => False) hS dX2_readSum_59 mvX2_52 ob155 rfl (by first | decide | omega) (by decide) (Nat.le_of_ble_eq_true rfl) ⟨Nat.le_trans (by decide) hR.1, Nat.le_trans (by decide) hR.2⟩ (fun _ _ q => q.elim) (c_step hC1.1 hC1.2.1 (tkE_le e3).2.1 hC1.2.2.2.2.2.1 (fun g2 b1 b2 => ?_))
        have gx := (nx_le (T := T) e3)
        have hlt := (lkS_ok hc).1
        have p2 : POk T n h g g2 m L (nx T n s1) := by
          have := hok.trans (POk.tok hL b1 hok.2.2.1 b2)
          rw [List.append_nil] at this; exact this
        refine J_aload_n hS dX2_readSum_62 rfl ?_
        refine J_iload_n hS dX2_readSum_63 rfl ?_
        refine J_callV1 (X' := fun _ _ => False) hS dX2_readSum_64 mvX2_116 ob155 rfl (by first | decide | omega) (by decide) (Nat.le_of_ble_eq_true rfl) ⟨Nat.le_trans (by decide) hR.1, Nat.le_trans (by decide) hR.2⟩ (fun _ _ q => q.elim) (hu g2 (m + L.length) (nx T n s1) _ _ ⟨b2, p2.2.2.1, by omega⟩ (fun L2 s2 g3 f1 f2 => ?_) (fun e g3 f1 f2 => ?_))
        · obtain ⟨d1, d2, d3, d4, d5⟩ := hg _ gx.2.1 L2 s2 f1
          have p3 := p2.trans f2
          refine J_istore_n (lt := fun w2 => [some (.ref 155), some (.int (nI o)), some (.int w2), some (.int v), some (.int x4)]) hS dX2_readSum_67 (Nat.le_of_ble_eq_true rfl) (fun _ => rfl) (fun w2 ew2 => ?_)
          subst ew2
          have hlen : m + (L ++ L2).length < 300 := by simp only [List.length_append]; omega
          refine J_aload_n hS dX2_readSum_68 rfl ?_
          refine J_getD (v := .ref h) hS dX2_readSum_69 flX2_19 ob155 rfl (by rw [p3.num.2.1]; exact hL.ab) ?_
          refine J_iload hS dX2_readSum_72 rfl ?_
          refine J_callV1 (X' := fun _ _ => False) hS dX2_readSum_74 mvX2_119 hL.ob rfl (by first | decide | omega) (by decide) (Nat.le_of_ble_eq_true rfl) ⟨Nat.le_trans (by decide) hR.1, Nat.le_trans (by decide) hR.2⟩ (fun _ _ q => q.elim) (c_put hL (m := m + (L ++ L2).length) (by omega) p3.2.2.1 (fun _ => ?_) (fun z => absurd z (by omega)))
          have p4 := p3.put (t := (c, 0)) hL
          rw [← hxv, ← ex4] at p4
          refine J_iinc (lt := fun v2 => [some (.ref 155), some (.int (nI o)), some (.int 1), some (.int v2), some (.int x4)]) (v := 1) hS dX2_readSum_77 rfl (by decide) (fun _ => rfl) (fun v2 ev2 => ?_)
          refine J_goto (tgt := 8) hS dX2_readSum_80 (by decide) ?_
          refine ih (i + 1) (L ++ L2 ++ [(c, 0)]) s2 v2 (some (.int x4)) _ (by omega) (by omega) (by rw [ev2, hv]; exact nI_1 i) (by simp only [List.length_append, List.length_cons, List.length_nil]; omega) p4 ?_
          rw [heq, opR_yes hc, f1]; rfl
        · have p3 := p2.bad f2
          have he : chn T n (lkS T n) u s = .inl e := by rw [heq, opR_yes hc, f1]; rfl
          refine J_istore_n (lt := fun w2 => [some (.ref 155), some (.int (nI o)), some (.int w2), some (.int v), some (.int x4)]) hS dX2_readSum_67 (Nat.le_of_ble_eq_true rfl) (fun _ => rfl) (fun w2 ew2 => ?_)
          subst ew2
          refine J_aload_n hS dX2_readSum_68 rfl ?_
          refine J_getD (v := .ref h) hS dX2_readSum_69 flX2_19 ob155 rfl (by rw [p3.2.1]; exact hL.ab) ?_
          refine J_iload hS dX2_readSum_72 rfl ?_
          refine J_callV1 (X' := fun _ _ => False) hS dX2_readSum_74 mvX2_119 hL.ob rfl (by first | decide | omega) (by decide) (Nat.le_of_ble_eq_true rfl) ⟨Nat.le_trans (by decide) hR.1, Nat.le_trans (by decide) hR.2⟩ (fun _ _ q => q.elim) (PBd.put hL p3 (fun g4 p4 => ?_))
          refine J_iinc (lt := fun v2 => [some (.ref 155), some (.int (nI o)), some (.int 0), some (.int v2), some (.int x4)]) (v := 1) hS dX2_readSum_77 rfl (by decide) (fun _ => rfl) (fun v2 ev2 => ?_)
          refine J_goto (tgt := 8) hS dX2_readSum_80 (by decide) ?_
          exact bad g4 e v2 (some (.int x4)) he p4
      subst hv
      refine J_iload_n hS dX2_readSum_8 rfl ?_
      refine J_aload_n hS dX2_readSum_9 rfl ?_
      refine J_getI hS dX2_readSum_10 flX2_15 ob155 rfl ?_
      show J S 0 0 (g1) 13 [some (.ref 155), some (.int (nI o)), some (.int 1), some (.int (nI i)), none] [.int _, .int (nI i)]
      rw [e1]
      refine J_icmp_ge (tgt := 83) hS dX2_readSum_13 (by decide) (fun k1 => ?_) (fun k1 => ?_)
      · have : n ≤ s1 := by
          rcases Nat.lt_or_ge i n with z | z
          · exact absurd k1 (nI_ge z (by omega))
          · omega
        exact out (by unfold lkS; rw [isC_end this, isC_end this]; rfl)
      ·
        refine J_iload_n hS dX2_readSum_16 rfl ?_
        refine J_if_eq (tgt := 83) hS dX2_readSum_17 (by decide) (fun k2 => ?_) (fun k2 => ?_)
        · exact absurd k2 (by decide)
        ·
          refine J_aload_n hS dX2_readSum_20 rfl ?_
          refine J_bipush (v := 43) hS dX2_readSum_21 (by decide) ?_
          refine J_callV1 (X' := fun _ _ => False) hS dX2_readSum_23 mvX2_74 ob155 rfl (by first | decide | omega) (by decide) (Nat.le_of_ble_eq_true rfl) ⟨Nat.le_trans (by decide) hR.1, Nat.le_trans (by decide) hR.2⟩ (fun _ _ q => q.elim) (c_isAt hC1 (fun r3 t3 u3 => ?_))
          refine J_if_ne (tgt := 38) hS dX2_readSum_26 (by decide) (fun k3 => ?_) (fun k3 => ?_)
          · have y3 : isC T n s1 43 = true := u3.mp (t3.resolve_left k3)
            refine J_aload_n hS dX2_readSum_38 rfl ?_
            refine J_bipush (v := 43) hS dX2_readSum_39 (by decide) ?_
            refine J_callV1 (X' := fun _ _ => False) hS dX2_readSum_41 mvX2_74 ob155 rfl (by first | decide | omega) (by decide) (Nat.le_of_ble_eq_true rfl) ⟨Nat.le_trans (by decide) hR.1, Nat.le_trans (by decide) hR.2⟩ (fun _ _ q => q.elim) (c_isAt hC1 (fun r4 t4 u4 => ?_))
            refine J_if_eq (tgt := 53) hS dX2_readSum_44 (by decide) (fun k4 => ?_) (fun k4 => ?_)
            · rw [u4.mpr y3] at k4; exact absurd k4 (by decide)
            ·
              refine J_sipush (v := 2000) hS dX2_readSum_47 (by decide) ?_
              refine J_goto (tgt := 56) hS dX2_readSum_50 (by decide) ?_
              exact mid 7 _ (by unfold lkS; rw [if_pos y3]) (by rfl)
          · have n3 : ¬ isC T n s1 43 = true := fun z => by rw [u3.mpr z] at k3; exact absurd k3 (by decide)
            refine J_aload_n hS dX2_readSum_29 rfl ?_
            refine J_bipush (v := 45) hS dX2_readSum_30 (by decide) ?_
            refine J_callV1 (X' := fun _ _ => False) hS dX2_readSum_32 mvX2_74 ob155 rfl (by first | decide | omega) (by decide) (Nat.le_of_ble_eq_true rfl) ⟨Nat.le_trans (by decide) hR.1, Nat.le_trans (by decide) hR.2⟩ (fun _ _ q => q.elim) (c_isAt hC1 (fun r5 t5 u5 => ?_))
            refine J_if_eq (tgt := 83) hS dX2_readSum_35 (by decide) (fun k5 => ?_) (fun k5 => ?_)
            · have n5 : ¬ isC T n s1 45 = true := fun z => by rw [u5.mpr z] at k5; exact absurd k5 (by decide)
              exact out (by unfold lkS; rw [if_neg n3, if_neg n5])
            · have y5 : isC T n s1 45 = true := u5.mp (t5.resolve_left k5)
              refine J_aload_n hS dX2_readSum_38 rfl ?_
              refine J_bipush (v := 43) hS dX2_readSum_39 (by decide) ?_
              refine J_callV1 (X' := fun _ _ => False) hS dX2_readSum_41 mvX2_74 ob155 rfl (by first | decide | omega) (by decide) (Nat.le_of_ble_eq_true rfl) ⟨Nat.le_trans (by decide) hR.1, Nat.le_trans (by decide) hR.2⟩ (fun _ _ q => q.elim) (c_isAt hC1 (fun r4 t4 u4 => ?_))
              refine J_if_eq (tgt := 53) hS dX2_readSum_44 (by decide) (fun k4 => ?_) (fun k4 => ?_)
              ·
                refine J_sipush (v := 2001) hS dX2_readSum_53 (by decide) ?_
                exact mid 8 _ (by unfold lkS; rw [if_neg n3, if_pos y5]) (by rfl)
              · exact absurd (u4.mp (t4.resolve_left k4)) n3
  refine J_aload_n hS dX2_readSum_0 rfl ?_
  refine J_iload_n hS dX2_readSum_1 rfl ?_
  refine J_callV1 (X' := fun _ _ => False) hS dX2_readSum_2 mvX2_116 ob155 rfl (by first | decide | omega) (by decide) (Nat.le_of_ble_eq_true rfl) ⟨Nat.le_trans (by decide) hR.1, Nat.le_trans (by decide) hR.2⟩ (fun _ _ q => q.elim) (hu g m s _ _ hp (fun L s1 g1 f1 f2 => ?_) (fun e g1 f1 f2 => ?_))
  · obtain ⟨d1, d2, d3, d4, d5⟩ := hg s hsn L s1 f1
    refine J_istore_n (lt := fun w2 => [some (.ref 155), some (.int (nI o)), some (.int w2), none, none]) hS dX2_readSum_5 (Nat.le_of_ble_eq_true rfl) (fun _ => rfl) (fun w2 ew2 => ?_)
    refine J_iconst (v := 0) hS dX2_readSum_6 (by decide) ?_
    refine J_istore_n (lt := fun i1 => [some (.ref 155), some (.int (nI o)), some (.int w2), some (.int i1), none]) hS dX2_readSum_7 (Nat.le_of_ble_eq_true rfl) (fun _ => rfl) (fun i1 ei1 => ?_)
    subst ew2
    exact H (n + 1) 0 L s1 i1 none g1 (by omega) (by omega) ei1 (by omega) f2 (by unfold chn; rw [f1]; rfl)
  ·
    refine J_istore_n (lt := fun w2 => [some (.ref 155), some (.int (nI o)), some (.int w2), none, none]) hS dX2_readSum_5 (Nat.le_of_ble_eq_true rfl) (fun _ => rfl) (fun w2 ew2 => ?_)
    refine J_iconst (v := 0) hS dX2_readSum_6 (by decide) ?_
    refine J_istore_n (lt := fun i1 => [some (.ref 155), some (.int (nI o)), some (.int w2), some (.int i1), none]) hS dX2_readSum_7 (Nat.le_of_ble_eq_true rfl) (fun _ => rfl) (fun i1 ei1 => ?_)
    subst ew2
    exact bad g1 e i1 none (by unfold chn; rw [f1]; rfl) f2
set_option maxRecDepth 10000 in
set_option maxHeartbeats 4000000 in
theorem c_readBoth {dd o : Nat} {u : Nat → Res} (hL : Lw h) (hdd : 4 ≤ dd) (hu : CtP l E yX2_readBasic dd o T n h u) (hg : ∀ s, s ≤ n → gd n true s (u s)) : CtP l E yX2_readBoth (dd + 1) o T n h (chn T n (lkA T n) u) := by
  intro g m s Q X hp q1 q0
  have hn3 := hp.1.1.2.2.1
  have hsn := hp.1.2.2.1
  have hms := hp.2.2
  refine Ct_in k_yX2_readBoth (by decide) rfl (Nat.le_of_ble_eq_true rfl) rfl ?_
  intro S hS hZ hr ht hR
  show J S 0 0 (g) 0 [some (.ref 155), some (.int (nI o)), none, none] []
  have bad : ∀ (g1 : Mm) (e : Nat × Nat) (i : Int32), chn T n (lkA T n) u s = .inl e → PBd h g g1 e → J S 0 0 g1 8 [some (.ref 155), some (.int (nI o)), some (.int 0), some (.int i)] [] := by
    intro g1 e i he hb
    skip
    refine J_iload_n hS dX2_readBoth_8 rfl ?_
    refine J_aload_n hS dX2_readBoth_9 rfl ?_
    refine J_getI hS dX2_readBoth_10 flX2_15 ob155 rfl ?_
    refine J_icmp_ge (tgt := 55) hS dX2_readBoth_13 (by decide) (fun c1 => ?_) (fun c1 => ?_)
    ·
      refine J_iload_n hS dX2_readBoth_55 rfl ?_
      refine J_zret hS hZ hr dX2_readBoth_56 (by decide) (by omega) (by omega) ?_
      exact q0 e g1 he hb
    ·
      refine J_iload_n hS dX2_readBoth_16 rfl ?_
      refine J_if_eq (tgt := 55) hS dX2_readBoth_17 (by decide) (fun c2 => ?_) (fun c2 => ?_)
      ·
        refine J_iload_n hS dX2_readBoth_55 rfl ?_
        refine J_zret hS hZ hr dX2_readBoth_56 (by decide) (by omega) (by omega) ?_
        exact q0 e g1 he hb
      · exact absurd rfl c2
  have H : ∀ (r i : Nat) (L : List Tok) (s1 : Nat) (v : Int32) (g1 : Mm), i + r = n + 1 → i ≤ s1 → v = nI i → m + L.length ≤ s1 → POk T n h g g1 m L s1 → chn T n (lkA T n) u s = opR T n (lkA T n) u r L s1 → J S 0 0 g1 8 [some (.ref 155), some (.int (nI o)), some (.int 1), some (.int v)] [] := by
    intro r
    induction r with
    | zero =>
      intro i L s1 v g1 hi his hv hml hok heq
      have := hok.num
      omega
    | succ r ih =>
      intro i L s1 v g1 hi his hv hml hok heq
      obtain ⟨e1, e2, e3, e4⟩ := hok.num
      have hC1 := hok.2.1
      skip
      have out : lkA T n s1 = none → J S 0 0 g1 55 [some (.ref 155), some (.int (nI o)), some (.int 1), some (.int v)] [] := by
        intro hno
        refine J_iload_n hS dX2_readBoth_55 rfl ?_
        refine J_zret hS hZ hr dX2_readBoth_56 (by decide) (by omega) (by omega) ?_
        exact q1 L s1 g1 (by rw [heq, opR_no hno]) hok
      subst hv
      refine J_iload_n hS dX2_readBoth_8 rfl ?_
      refine J_aload_n hS dX2_readBoth_9 rfl ?_
      refine J_getI hS dX2_readBoth_10 flX2_15 ob155 rfl ?_
      show J S 0 0 (g1) 13 [some (.ref 155), some (.int (nI o)), some (.int 1), some (.int (nI i))] [.int _, .int (nI i)]
      rw [e1]
      refine J_icmp_ge (tgt := 55) hS dX2_readBoth_13 (by decide) (fun k1 => ?_) (fun k1 => ?_)
      · have : n ≤ s1 := by
          rcases Nat.lt_or_ge i n with z | z
          · exact absurd k1 (nI_ge z (by omega))
          · omega
        exact out (by unfold lkA; rw [isW_end this]; rfl)
      ·
        refine J_iload_n hS dX2_readBoth_16 rfl ?_
        refine J_if_eq (tgt := 55) hS dX2_readBoth_17 (by decide) (fun k2 => ?_) (fun k2 => ?_)
        · exact absurd k2 (by decide)
        ·
          refine J_aload_n hS dX2_readBoth_20 rfl ?_
          refine J_ldcS (i := 14) hS (List.mem_of_getElem? (i := 25) rfl) dX2_readBoth_21 ?_
          refine J_callV1 (X' := fun _ _ => False) hS dX2_readBoth_23 mvX2_96 ob155 rfl (by first | decide | omega) (by decide) (Nat.le_of_ble_eq_true rfl) ⟨Nat.le_trans (by decide) hR.1, Nat.le_trans (by decide) hR.2⟩ (fun _ _ q => q.elim) (c_isAtW (i := 14) (by decide) hC1 (fun r3 t3 u3 => ?_))
          refine J_if_eq (tgt := 55) hS dX2_readBoth_26 (by decide) (fun k3 => ?_) (fun k3 => ?_)
          · have n3 : ¬ isW T n s1 14 = true := fun z => by rw [u3.mpr z] at k3; exact absurd k3 (by decide)
            exact out (by unfold lkA; rw [if_neg n3])
          · have y3 : isW T n s1 14 = true := u3.mp (t3.resolve_left k3)
            have hc : lkA T n s1 = some 17 := by unfold lkA; rw [if_pos y3]
            refine J_aload_n hS dX2_readBoth_29 rfl ?_
            refine J_callV0 (X' := fun _ _ => False) hS dX2_readBoth_30 mvX2_52 ob155 rfl (by first | decide | omega) (by decide) (Nat.le_of_ble_eq_true rfl) ⟨Nat.le_trans (by decide) hR.1, Nat.le_trans (by decide) hR.2⟩ (fun _ _ q => q.elim) (c_step hC1.1 hC1.2.1 (tkE_le e3).2.1 hC1.2.2.2.2.2.1 (fun g2 b1 b2 => ?_))
            have gx := (nx_le (T := T) e3)
            have hlt := (lkA_ok hc).1
            have p2 : POk T n h g g2 m L (nx T n s1) := by
              have := hok.trans (POk.tok hL b1 hok.2.2.1 b2)
              rw [List.append_nil] at this; exact this
            refine J_aload_n hS dX2_readBoth_33 rfl ?_
            refine J_iload_n hS dX2_readBoth_34 rfl ?_
            refine J_callV1 (X' := fun _ _ => False) hS dX2_readBoth_35 mvX2_157 ob155 rfl (by first | decide | omega) (by decide) (Nat.le_of_ble_eq_true rfl) ⟨Nat.le_trans (by decide) hR.1, Nat.le_trans (by decide) hR.2⟩ (fun _ _ q => q.elim) (hu g2 (m + L.length) (nx T n s1) _ _ ⟨b2, p2.2.2.1, by omega⟩ (fun L2 s2 g3 f1 f2 => ?_) (fun e g3 f1 f2 => ?_))
            · obtain ⟨d1, d2, d3, d4, d5⟩ := hg _ gx.2.1 L2 s2 f1
              have p3 := p2.trans f2
              refine J_istore_n (lt := fun w2 => [some (.ref 155), some (.int (nI o)), some (.int w2), some (.int (nI i))]) hS dX2_readBoth_38 (Nat.le_of_ble_eq_true rfl) (fun _ => rfl) (fun w2 ew2 => ?_)
              subst ew2
              have hlen : m + (L ++ L2).length < 300 := by simp only [List.length_append]; omega
              refine J_aload_n hS dX2_readBoth_39 rfl ?_
              refine J_getD (v := .ref h) hS dX2_readBoth_40 flX2_19 ob155 rfl (by rw [p3.num.2.1]; exact hL.ab) ?_
              refine J_sipush (v := 2009) hS dX2_readBoth_43 (by decide) ?_
              refine J_callV1 (X' := fun _ _ => False) hS dX2_readBoth_46 mvX2_119 hL.ob rfl (by first | decide | omega) (by decide) (Nat.le_of_ble_eq_true rfl) ⟨Nat.le_trans (by decide) hR.1, Nat.le_trans (by decide) hR.2⟩ (fun _ _ q => q.elim) (c_put hL (m := m + (L ++ L2).length) (by omega) p3.2.2.1 (fun _ => ?_) (fun z => absurd z (by omega)))
              have p4 := p3.put (t := (17, 0)) hL
              rw [show encC (17, 0) = 2009 from rfl] at p4
              refine J_iinc (lt := fun v2 => [some (.ref 155), some (.int (nI o)), some (.int 1), some (.int v2)]) (v := 1) hS dX2_readBoth_49 rfl (by decide) (fun _ => rfl) (fun v2 ev2 => ?_)
              refine J_goto (tgt := 8) hS dX2_readBoth_52 (by decide) ?_
              refine ih (i + 1) (L ++ L2 ++ [(17, 0)]) s2 v2 _ (by omega) (by omega) (by rw [ev2]; exact nI_1 i) (by simp only [List.length_append, List.length_cons, List.length_nil]; omega) p4 ?_
              rw [heq, opR_yes hc, f1]; rfl
            · have p3 := p2.bad f2
              have he : chn T n (lkA T n) u s = .inl e := by rw [heq, opR_yes hc, f1]; rfl
              refine J_istore_n (lt := fun w2 => [some (.ref 155), some (.int (nI o)), some (.int w2), some (.int (nI i))]) hS dX2_readBoth_38 (Nat.le_of_ble_eq_true rfl) (fun _ => rfl) (fun w2 ew2 => ?_)
              subst ew2
              refine J_aload_n hS dX2_readBoth_39 rfl ?_
              refine J_getD (v := .ref h) hS dX2_readBoth_40 flX2_19 ob155 rfl (by rw [p3.2.1]; exact hL.ab) ?_
              refine J_sipush (v := 2009) hS dX2_readBoth_43 (by decide) ?_
              refine J_callV1 (X' := fun _ _ => False) hS dX2_readBoth_46 mvX2_119 hL.ob rfl (by first | decide | omega) (by decide) (Nat.le_of_ble_eq_true rfl) ⟨Nat.le_trans (by decide) hR.1, Nat.le_trans (by decide) hR.2⟩ (fun _ _ q => q.elim) (PBd.put hL p3 (fun g4 p4 => ?_))
              refine J_iinc (lt := fun v2 => [some (.ref 155), some (.int (nI o)), some (.int 0), some (.int v2)]) (v := 1) hS dX2_readBoth_49 rfl (by decide) (fun _ => rfl) (fun v2 ev2 => ?_)
              refine J_goto (tgt := 8) hS dX2_readBoth_52 (by decide) ?_
              exact bad g4 e v2 he p4
  refine J_aload_n hS dX2_readBoth_0 rfl ?_
  refine J_iload_n hS dX2_readBoth_1 rfl ?_
  refine J_callV1 (X' := fun _ _ => False) hS dX2_readBoth_2 mvX2_157 ob155 rfl (by first | decide | omega) (by decide) (Nat.le_of_ble_eq_true rfl) ⟨Nat.le_trans (by decide) hR.1, Nat.le_trans (by decide) hR.2⟩ (fun _ _ q => q.elim) (hu g m s _ _ hp (fun L s1 g1 f1 f2 => ?_) (fun e g1 f1 f2 => ?_))
  · obtain ⟨d1, d2, d3, d4, d5⟩ := hg s hsn L s1 f1
    refine J_istore_n (lt := fun w2 => [some (.ref 155), some (.int (nI o)), some (.int w2), none]) hS dX2_readBoth_5 (Nat.le_of_ble_eq_true rfl) (fun _ => rfl) (fun w2 ew2 => ?_)
    refine J_iconst (v := 0) hS dX2_readBoth_6 (by decide) ?_
    refine J_istore_n (lt := fun i1 => [some (.ref 155), some (.int (nI o)), some (.int w2), some (.int i1)]) hS dX2_readBoth_7 (Nat.le_of_ble_eq_true rfl) (fun _ => rfl) (fun i1 ei1 => ?_)
    subst ew2
    exact H (n + 1) 0 L s1 i1 g1 (by omega) (by omega) ei1 (by omega) f2 (by unfold chn; rw [f1]; rfl)
  ·
    refine J_istore_n (lt := fun w2 => [some (.ref 155), some (.int (nI o)), some (.int w2), none]) hS dX2_readBoth_5 (Nat.le_of_ble_eq_true rfl) (fun _ => rfl) (fun w2 ew2 => ?_)
    refine J_iconst (v := 0) hS dX2_readBoth_6 (by decide) ?_
    refine J_istore_n (lt := fun i1 => [some (.ref 155), some (.int (nI o)), some (.int w2), some (.int i1)]) hS dX2_readBoth_7 (Nat.le_of_ble_eq_true rfl) (fun _ => rfl) (fun i1 ei1 => ?_)
    subst ew2
    exact bad g1 e i1 (by unfold chn; rw [f1]; rfl) f2
set_option maxRecDepth 10000 in
set_option maxHeartbeats 4000000 in
theorem c_readEither {dd o : Nat} {u : Nat → Res} (hL : Lw h) (hdd : 4 ≤ dd) (hu : CtP l E yX2_readBoth dd o T n h u) (hg : ∀ s, s ≤ n → gd n true s (u s)) : CtP l E yX2_readEither (dd + 1) o T n h (chn T n (lkO T n) u) := by
  intro g m s Q X hp q1 q0
  have hn3 := hp.1.1.2.2.1
  have hsn := hp.1.2.2.1
  have hms := hp.2.2
  refine Ct_in k_yX2_readEither (by decide) rfl (Nat.le_of_ble_eq_true rfl) rfl ?_
  intro S hS hZ hr ht hR
  show J S 0 0 (g) 0 [some (.ref 155), some (.int (nI o)), none, none] []
  have bad : ∀ (g1 : Mm) (e : Nat × Nat) (i : Int32), chn T n (lkO T n) u s = .inl e → PBd h g g1 e → J S 0 0 g1 8 [some (.ref 155), some (.int (nI o)), some (.int 0), some (.int i)] [] := by
    intro g1 e i he hb
    skip
    refine J_iload_n hS dX2_readEither_8 rfl ?_
    refine J_aload_n hS dX2_readEither_9 rfl ?_
    refine J_getI hS dX2_readEither_10 flX2_15 ob155 rfl ?_
    refine J_icmp_ge (tgt := 55) hS dX2_readEither_13 (by decide) (fun c1 => ?_) (fun c1 => ?_)
    ·
      refine J_iload_n hS dX2_readEither_55 rfl ?_
      refine J_zret hS hZ hr dX2_readEither_56 (by decide) (by omega) (by omega) ?_
      exact q0 e g1 he hb
    ·
      refine J_iload_n hS dX2_readEither_16 rfl ?_
      refine J_if_eq (tgt := 55) hS dX2_readEither_17 (by decide) (fun c2 => ?_) (fun c2 => ?_)
      ·
        refine J_iload_n hS dX2_readEither_55 rfl ?_
        refine J_zret hS hZ hr dX2_readEither_56 (by decide) (by omega) (by omega) ?_
        exact q0 e g1 he hb
      · exact absurd rfl c2
  have H : ∀ (r i : Nat) (L : List Tok) (s1 : Nat) (v : Int32) (g1 : Mm), i + r = n + 1 → i ≤ s1 → v = nI i → m + L.length ≤ s1 → POk T n h g g1 m L s1 → chn T n (lkO T n) u s = opR T n (lkO T n) u r L s1 → J S 0 0 g1 8 [some (.ref 155), some (.int (nI o)), some (.int 1), some (.int v)] [] := by
    intro r
    induction r with
    | zero =>
      intro i L s1 v g1 hi his hv hml hok heq
      have := hok.num
      omega
    | succ r ih =>
      intro i L s1 v g1 hi his hv hml hok heq
      obtain ⟨e1, e2, e3, e4⟩ := hok.num
      have hC1 := hok.2.1
      skip
      have out : lkO T n s1 = none → J S 0 0 g1 55 [some (.ref 155), some (.int (nI o)), some (.int 1), some (.int v)] [] := by
        intro hno
        refine J_iload_n hS dX2_readEither_55 rfl ?_
        refine J_zret hS hZ hr dX2_readEither_56 (by decide) (by omega) (by omega) ?_
        exact q1 L s1 g1 (by rw [heq, opR_no hno]) hok
      subst hv
      refine J_iload_n hS dX2_readEither_8 rfl ?_
      refine J_aload_n hS dX2_readEither_9 rfl ?_
      refine J_getI hS dX2_readEither_10 flX2_15 ob155 rfl ?_
      show J S 0 0 (g1) 13 [some (.ref 155), some (.int (nI o)), some (.int 1), some (.int (nI i))] [.int _, .int (nI i)]
      rw [e1]
      refine J_icmp_ge (tgt := 55) hS dX2_readEither_13 (by decide) (fun k1 => ?_) (fun k1 => ?_)
      · have : n ≤ s1 := by
          rcases Nat.lt_or_ge i n with z | z
          · exact absurd k1 (nI_ge z (by omega))
          · omega
        exact out (by unfold lkO; rw [isW_end this]; rfl)
      ·
        refine J_iload_n hS dX2_readEither_16 rfl ?_
        refine J_if_eq (tgt := 55) hS dX2_readEither_17 (by decide) (fun k2 => ?_) (fun k2 => ?_)
        · exact absurd k2 (by decide)
        ·
          refine J_aload_n hS dX2_readEither_20 rfl ?_
          refine J_ldcS (i := 13) hS (List.mem_of_getElem? (i := 26) rfl) dX2_readEither_21 ?_
          refine J_callV1 (X' := fun _ _ => False) hS dX2_readEither_23 mvX2_96 ob155 rfl (by first | decide | omega) (by decide) (Nat.le_of_ble_eq_true rfl) ⟨Nat.le_trans (by decide) hR.1, Nat.le_trans (by decide) hR.2⟩ (fun _ _ q => q.elim) (c_isAtW (i := 13) (by decide) hC1 (fun r3 t3 u3 => ?_))
          refine J_if_eq (tgt := 55) hS dX2_readEither_26 (by decide) (fun k3 => ?_) (fun k3 => ?_)
          · have n3 : ¬ isW T n s1 13 = true := fun z => by rw [u3.mpr z] at k3; exact absurd k3 (by decide)
            exact out (by unfold lkO; rw [if_neg n3])
          · have y3 : isW T n s1 13 = true := u3.mp (t3.resolve_left k3)
            have hc : lkO T n s1 = some 16 := by unfold lkO; rw [if_pos y3]
            refine J_aload_n hS dX2_readEither_29 rfl ?_
            refine J_callV0 (X' := fun _ _ => False) hS dX2_readEither_30 mvX2_52 ob155 rfl (by first | decide | omega) (by decide) (Nat.le_of_ble_eq_true rfl) ⟨Nat.le_trans (by decide) hR.1, Nat.le_trans (by decide) hR.2⟩ (fun _ _ q => q.elim) (c_step hC1.1 hC1.2.1 (tkE_le e3).2.1 hC1.2.2.2.2.2.1 (fun g2 b1 b2 => ?_))
            have gx := (nx_le (T := T) e3)
            have hlt := (lkO_ok hc).1
            have p2 : POk T n h g g2 m L (nx T n s1) := by
              have := hok.trans (POk.tok hL b1 hok.2.2.1 b2)
              rw [List.append_nil] at this; exact this
            refine J_aload_n hS dX2_readEither_33 rfl ?_
            refine J_iload_n hS dX2_readEither_34 rfl ?_
            refine J_callV1 (X' := fun _ _ => False) hS dX2_readEither_35 mvX2_152 ob155 rfl (by first | decide | omega) (by decide) (Nat.le_of_ble_eq_true rfl) ⟨Nat.le_trans (by decide) hR.1, Nat.le_trans (by decide) hR.2⟩ (fun _ _ q => q.elim) (hu g2 (m + L.length) (nx T n s1) _ _ ⟨b2, p2.2.2.1, by omega⟩ (fun L2 s2 g3 f1 f2 => ?_) (fun e g3 f1 f2 => ?_))
            · obtain ⟨d1, d2, d3, d4, d5⟩ := hg _ gx.2.1 L2 s2 f1
              have p3 := p2.trans f2
              refine J_istore_n (lt := fun w2 => [some (.ref 155), some (.int (nI o)), some (.int w2), some (.int (nI i))]) hS dX2_readEither_38 (Nat.le_of_ble_eq_true rfl) (fun _ => rfl) (fun w2 ew2 => ?_)
              subst ew2
              have hlen : m + (L ++ L2).length < 300 := by simp only [List.length_append]; omega
              refine J_aload_n hS dX2_readEither_39 rfl ?_
              refine J_getD (v := .ref h) hS dX2_readEither_40 flX2_19 ob155 rfl (by rw [p3.num.2.1]; exact hL.ab) ?_
              refine J_sipush (v := 2010) hS dX2_readEither_43 (by decide) ?_
              refine J_callV1 (X' := fun _ _ => False) hS dX2_readEither_46 mvX2_119 hL.ob rfl (by first | decide | omega) (by decide) (Nat.le_of_ble_eq_true rfl) ⟨Nat.le_trans (by decide) hR.1, Nat.le_trans (by decide) hR.2⟩ (fun _ _ q => q.elim) (c_put hL (m := m + (L ++ L2).length) (by omega) p3.2.2.1 (fun _ => ?_) (fun z => absurd z (by omega)))
              have p4 := p3.put (t := (16, 0)) hL
              rw [show encC (16, 0) = 2010 from rfl] at p4
              refine J_iinc (lt := fun v2 => [some (.ref 155), some (.int (nI o)), some (.int 1), some (.int v2)]) (v := 1) hS dX2_readEither_49 rfl (by decide) (fun _ => rfl) (fun v2 ev2 => ?_)
              refine J_goto (tgt := 8) hS dX2_readEither_52 (by decide) ?_
              refine ih (i + 1) (L ++ L2 ++ [(16, 0)]) s2 v2 _ (by omega) (by omega) (by rw [ev2]; exact nI_1 i) (by simp only [List.length_append, List.length_cons, List.length_nil]; omega) p4 ?_
              rw [heq, opR_yes hc, f1]; rfl
            · have p3 := p2.bad f2
              have he : chn T n (lkO T n) u s = .inl e := by rw [heq, opR_yes hc, f1]; rfl
              refine J_istore_n (lt := fun w2 => [some (.ref 155), some (.int (nI o)), some (.int w2), some (.int (nI i))]) hS dX2_readEither_38 (Nat.le_of_ble_eq_true rfl) (fun _ => rfl) (fun w2 ew2 => ?_)
              subst ew2
              refine J_aload_n hS dX2_readEither_39 rfl ?_
              refine J_getD (v := .ref h) hS dX2_readEither_40 flX2_19 ob155 rfl (by rw [p3.2.1]; exact hL.ab) ?_
              refine J_sipush (v := 2010) hS dX2_readEither_43 (by decide) ?_
              refine J_callV1 (X' := fun _ _ => False) hS dX2_readEither_46 mvX2_119 hL.ob rfl (by first | decide | omega) (by decide) (Nat.le_of_ble_eq_true rfl) ⟨Nat.le_trans (by decide) hR.1, Nat.le_trans (by decide) hR.2⟩ (fun _ _ q => q.elim) (PBd.put hL p3 (fun g4 p4 => ?_))
              refine J_iinc (lt := fun v2 => [some (.ref 155), some (.int (nI o)), some (.int 0), some (.int v2)]) (v := 1) hS dX2_readEither_49 rfl (by decide) (fun _ => rfl) (fun v2 ev2 => ?_)
              refine J_goto (tgt := 8) hS dX2_readEither_52 (by decide) ?_
              exact bad g4 e v2 he p4
  refine J_aload_n hS dX2_readEither_0 rfl ?_
  refine J_iload_n hS dX2_readEither_1 rfl ?_
  refine J_callV1 (X' := fun _ _ => False) hS dX2_readEither_2 mvX2_152 ob155 rfl (by first | decide | omega) (by decide) (Nat.le_of_ble_eq_true rfl) ⟨Nat.le_trans (by decide) hR.1, Nat.le_trans (by decide) hR.2⟩ (fun _ _ q => q.elim) (hu g m s _ _ hp (fun L s1 g1 f1 f2 => ?_) (fun e g1 f1 f2 => ?_))
  · obtain ⟨d1, d2, d3, d4, d5⟩ := hg s hsn L s1 f1
    refine J_istore_n (lt := fun w2 => [some (.ref 155), some (.int (nI o)), some (.int w2), none]) hS dX2_readEither_5 (Nat.le_of_ble_eq_true rfl) (fun _ => rfl) (fun w2 ew2 => ?_)
    refine J_iconst (v := 0) hS dX2_readEither_6 (by decide) ?_
    refine J_istore_n (lt := fun i1 => [some (.ref 155), some (.int (nI o)), some (.int w2), some (.int i1)]) hS dX2_readEither_7 (Nat.le_of_ble_eq_true rfl) (fun _ => rfl) (fun i1 ei1 => ?_)
    subst ew2
    exact H (n + 1) 0 L s1 i1 g1 (by omega) (by omega) ei1 (by omega) f2 (by unfold chn; rw [f1]; rfl)
  ·
    refine J_istore_n (lt := fun w2 => [some (.ref 155), some (.int (nI o)), some (.int w2), none]) hS dX2_readEither_5 (Nat.le_of_ble_eq_true rfl) (fun _ => rfl) (fun w2 ew2 => ?_)
    refine J_iconst (v := 0) hS dX2_readEither_6 (by decide) ?_
    refine J_istore_n (lt := fun i1 => [some (.ref 155), some (.int (nI o)), some (.int w2), some (.int i1)]) hS dX2_readEither_7 (Nat.le_of_ble_eq_true rfl) (fun _ => rfl) (fun i1 ei1 => ?_)
    subst ew2
    exact bad g1 e i1 (by unfold chn; rw [f1]; rfl) f2
end RdP


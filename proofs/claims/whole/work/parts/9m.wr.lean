/-! THE LAW'S WRAPPERS -/
section Wraps
variable {l : Launch} {E : Ey} {g : Mm} {Q : Option Value → Mm → Prop} {X : String → Mm → Prop} {d mc ms : Nat}
set_option maxRecDepth 100000 in
theorem kw_come : Cond.codeWith yL_come cL_come 6 (some .int) [(0, 12, 15, 13)] ∈ gw := gw_t 592 (by rfl) (by rfl)
set_option maxRecDepth 100000 in
theorem msw_come : MSW RL 145 yL_come cL_come 6 (some .int) [(0, 12, 15, 13)] 5 := ⟨gw_t 590 (by rfl) (by rfl), gw_t 591 (by rfl) (by rfl), in_YardTalkLaw, kw_come, by decide +kernel, by decide +kernel⟩
theorem w_come {a0 a1 a2 : Int32} (h : Ct l E lay NC d mc ms yX7_come [.ref 1, .int a0, .int a1, .int a2] g (fun r g' => ∃ v : Int32, r = some (.int v) ∧ Q (some (.int 0)) (u2 g' 219 0 v)) (fun C g' => (C = eIA ∧ Q (some (.int 1)) g'))) : Ct l E lay NC (d + 1) mc ms yL_come [.ref 1, .int a0, .int a1, .int a2, .ref 219] g Q X := by
  refine Ct_ofH (by decide) kw_come (fun v hv => ?_) (Nat.le_of_ble_eq_true rfl) (fun S hS hZ hr ht hR => ?_)
  · simp only [List.mem_cons, List.not_mem_nil, or_false] at hv
    rcases hv with e | e | e | e | e <;> subst e <;> rfl
  show J S 0 0 g 0 [some (.ref 1), some (.int a0), some (.int a1), some (.int a2), some (.ref 219), none] []
  refine J_aload hS dL_come_0 rfl ?_
  refine J_iconst (v := 0) hS dL_come_2 (by decide) ?_
  refine J_aload_n hS dL_come_3 rfl ?_
  refine J_iload_n hS dL_come_4 rfl ?_
  refine J_iload_n hS dL_come_5 rfl ?_
  refine J_iload_n hS dL_come_6 rfl ?_
  refine J_callV3 (X' := fun C g' => (C = eIA ∧ Q (some (.int 1)) g')) hS dL_come_7 mvL_7 ob1 rfl (by omega) (by decide) (Nat.le_of_ble_eq_true rfl) ⟨by omega, by omega⟩ (fun C g' hx => ?_) (h.mono (fun r g' hq => ?_) (fun _ _ hx => hx))
  · obtain ⟨e, hq⟩ := hx
    subst e
    exact JX_h2 hS hZ hr [] ⟨0, 12, 15, 13⟩ [] (by rw [ht]; rfl) (fun z hz => nomatch hz) (by decide) (by decide) clL_13 (by decide) rfl dL_come_15 (Nat.le_of_ble_eq_true rfl) dL_come_17 (by decide) dL_come_18 (by omega) (by omega) hq
  · obtain ⟨v, e, hq⟩ := hq
    subst e
    show J S (0 + mc) (0 + ms) g' 10 [some (.ref 1), some (.int a0), some (.int a1), some (.int a2), some (.ref 219), none] [.int v, .int 0, .ref 219]
    refine J_i2l hS dL_come_10 ?_
    refine J_last (x := v) hS dL_come_11 al219 (by unfold vp_in; decide) rfl (fun g2 e2 => ?_)
    have e2 : g2 = u2 g' 219 0 v := e2
    refine J_goto (tgt := 19) hS dL_come_12 (by decide) ?_
    refine J_iconst (v := 0) hS dL_come_19 (by decide) ?_
    refine J_iret hS hZ hr dL_come_20 (by omega) (by omega) ?_
    rw [e2]; exact hq
set_option maxRecDepth 100000 in
theorem kw_leave : Cond.codeWith yL_leave cL_leave 4 (some .int) [(0, 9, 12, 19)] ∈ gw := gw_t 681 (by rfl) (by rfl)
set_option maxRecDepth 100000 in
theorem msw_leave : MSW RL 155 yL_leave cL_leave 4 (some .int) [(0, 9, 12, 19)] 3 := ⟨gw_t 679 (by rfl) (by rfl), gw_t 680 (by rfl) (by rfl), in_YardTalkLaw, kw_leave, by decide +kernel, by decide +kernel⟩
theorem w_leave {a0 : Int32} (h : Ct l E lay NC d mc ms yX7_leave [.ref 1, .int a0] g (fun r g' => ∃ v : Int32, r = some (.int v) ∧ Q (some (.int 0)) (u2 g' 219 0 v)) (fun C g' => (C = eNS ∧ Q (some (.int 1)) g'))) : Ct l E lay NC (d + 1) mc ms yL_leave [.ref 1, .int a0, .ref 219] g Q X := by
  refine Ct_ofH (by decide) kw_leave (fun v hv => ?_) (Nat.le_of_ble_eq_true rfl) (fun S hS hZ hr ht hR => ?_)
  · simp only [List.mem_cons, List.not_mem_nil, or_false] at hv
    rcases hv with e | e | e <;> subst e <;> rfl
  show J S 0 0 g 0 [some (.ref 1), some (.int a0), some (.ref 219), none] []
  refine J_aload_n hS dL_leave_0 rfl ?_
  refine J_iconst (v := 0) hS dL_leave_1 (by decide) ?_
  refine J_aload_n hS dL_leave_2 rfl ?_
  refine J_iload_n hS dL_leave_3 rfl ?_
  refine J_callV1 (X' := fun C g' => (C = eNS ∧ Q (some (.int 1)) g')) hS dL_leave_4 mvL_15 ob1 rfl (by omega) (by decide) (Nat.le_of_ble_eq_true rfl) ⟨by omega, by omega⟩ (fun C g' hx => ?_) (h.mono (fun r g' hq => ?_) (fun _ _ hx => hx))
  · obtain ⟨e, hq⟩ := hx
    subst e
    exact JX_h1 hS hZ hr [] ⟨0, 9, 12, 19⟩ [] (by rw [ht]; rfl) (fun z hz => nomatch hz) (by decide) (by decide) clL_19 (by decide) rfl dL_leave_12 (Nat.le_of_ble_eq_true rfl) dL_leave_13 (by decide) dL_leave_14 (by omega) (by omega) hq
  · obtain ⟨v, e, hq⟩ := hq
    subst e
    show J S (0 + mc) (0 + ms) g' 7 [some (.ref 1), some (.int a0), some (.ref 219), none] [.int v, .int 0, .ref 219]
    refine J_i2l hS dL_leave_7 ?_
    refine J_last (x := v) hS dL_leave_8 al219 (by unfold vp_in; decide) rfl (fun g2 e2 => ?_)
    have e2 : g2 = u2 g' 219 0 v := e2
    refine J_goto (tgt := 15) hS dL_leave_9 (by decide) ?_
    refine J_iconst (v := 0) hS dL_leave_15 (by decide) ?_
    refine J_iret hS hZ hr dL_leave_16 (by omega) (by omega) ?_
    rw [e2]; exact hq
set_option maxRecDepth 100000 in
theorem kw_visit : Cond.codeWith yL_visit cL_visit 5 (some .int) [(0, 10, 13, 19), (0, 10, 17, 13)] ∈ gw := gw_t 709 (by rfl) (by rfl)
set_option maxRecDepth 100000 in
theorem msw_visit : MSW RL 159 yL_visit cL_visit 5 (some .int) [(0, 10, 13, 19), (0, 10, 17, 13)] 4 := ⟨gw_t 707 (by rfl) (by rfl), gw_t 708 (by rfl) (by rfl), in_YardTalkLaw, kw_visit, by decide +kernel, by decide +kernel⟩
theorem w_visit {a0 a1 : Int32} (h : Ct l E lay NC d mc ms yX7_visit [.ref 1, .int a0, .int a1] g (fun r g' => ∃ v : Int32, r = some (.int v) ∧ Q (some (.int 0)) (u2 g' 219 0 v)) (fun C g' => (C = eNS ∧ Q (some (.int 1)) g') ∨ (C = eIA ∧ Q (some (.int 2)) g'))) : Ct l E lay NC (d + 1) mc ms yL_visit [.ref 1, .int a0, .int a1, .ref 219] g Q X := by
  refine Ct_ofH (by decide) kw_visit (fun v hv => ?_) (Nat.le_of_ble_eq_true rfl) (fun S hS hZ hr ht hR => ?_)
  · simp only [List.mem_cons, List.not_mem_nil, or_false] at hv
    rcases hv with e | e | e | e <;> subst e <;> rfl
  show J S 0 0 g 0 [some (.ref 1), some (.int a0), some (.int a1), some (.ref 219), none] []
  refine J_aload_n hS dL_visit_0 rfl ?_
  refine J_iconst (v := 0) hS dL_visit_1 (by decide) ?_
  refine J_aload_n hS dL_visit_2 rfl ?_
  refine J_iload_n hS dL_visit_3 rfl ?_
  refine J_iload_n hS dL_visit_4 rfl ?_
  refine J_callV2 (X' := fun C g' => (C = eNS ∧ Q (some (.int 1)) g') ∨ (C = eIA ∧ Q (some (.int 2)) g')) hS dL_visit_5 mvL_21 ob1 rfl (by omega) (by decide) (Nat.le_of_ble_eq_true rfl) ⟨by omega, by omega⟩ (fun C g' hx => ?_) (h.mono (fun r g' hq => ?_) (fun _ _ hx => hx))
  · rcases hx with ⟨e, hq⟩ | ⟨e, hq⟩
    · subst e
      exact JX_h2 hS hZ hr [] ⟨0, 10, 13, 19⟩ [⟨0, 10, 17, 13⟩] (by rw [ht]; rfl) (fun z hz => nomatch hz) (by decide) (by decide) clL_19 (by decide) rfl dL_visit_13 (Nat.le_of_ble_eq_true rfl) dL_visit_15 (by decide) dL_visit_16 (by omega) (by omega) hq
    · subst e
      exact JX_h2 hS hZ hr [⟨0, 10, 13, 19⟩] ⟨0, 10, 17, 13⟩ [] (by rw [ht]; rfl) (fun z hz => by cases List.mem_singleton.mp hz; exact ⟨(by decide : 19 ≠ 0), _, clL_19, by decide⟩) (by decide) (by decide) clL_13 (by decide) rfl dL_visit_17 (Nat.le_of_ble_eq_true rfl) dL_visit_19 (by decide) dL_visit_20 (by omega) (by omega) hq
  · obtain ⟨v, e, hq⟩ := hq
    subst e
    show J S (0 + mc) (0 + ms) g' 8 [some (.ref 1), some (.int a0), some (.int a1), some (.ref 219), none] [.int v, .int 0, .ref 219]
    refine J_i2l hS dL_visit_8 ?_
    refine J_last (x := v) hS dL_visit_9 al219 (by unfold vp_in; decide) rfl (fun g2 e2 => ?_)
    have e2 : g2 = u2 g' 219 0 v := e2
    refine J_goto (tgt := 21) hS dL_visit_10 (by decide) ?_
    refine J_iconst (v := 0) hS dL_visit_21 (by decide) ?_
    refine J_iret hS hZ hr dL_visit_22 (by omega) (by omega) ?_
    rw [e2]; exact hq
set_option maxRecDepth 100000 in
theorem kw_of : Cond.codeWith yL_of cL_of 5 (some .int) [(0, 10, 13, 19), (0, 10, 17, 13)] ∈ gw := gw_t 716 (by rfl) (by rfl)
set_option maxRecDepth 100000 in
theorem msw_of : MSW RL 163 yL_of cL_of 5 (some .int) [(0, 10, 13, 19), (0, 10, 17, 13)] 4 := ⟨gw_t 714 (by rfl) (by rfl), gw_t 715 (by rfl) (by rfl), in_YardTalkLaw, kw_of, by decide +kernel, by decide +kernel⟩
theorem w_of {a0 a1 : Int32} (h : Ct l E lay NC d mc ms yX7_of [.ref 1, .int a0, .int a1] g (fun r g' => ∃ v : Int32, r = some (.int v) ∧ Q (some (.int 0)) (u2 g' 219 0 v)) (fun C g' => (C = eNS ∧ Q (some (.int 1)) g') ∨ (C = eIA ∧ Q (some (.int 2)) g'))) : Ct l E lay NC (d + 1) mc ms yL_of [.ref 1, .int a0, .int a1, .ref 219] g Q X := by
  refine Ct_ofH (by decide) kw_of (fun v hv => ?_) (Nat.le_of_ble_eq_true rfl) (fun S hS hZ hr ht hR => ?_)
  · simp only [List.mem_cons, List.not_mem_nil, or_false] at hv
    rcases hv with e | e | e | e <;> subst e <;> rfl
  show J S 0 0 g 0 [some (.ref 1), some (.int a0), some (.int a1), some (.ref 219), none] []
  refine J_aload_n hS dL_of_0 rfl ?_
  refine J_iconst (v := 0) hS dL_of_1 (by decide) ?_
  refine J_aload_n hS dL_of_2 rfl ?_
  refine J_iload_n hS dL_of_3 rfl ?_
  refine J_iload_n hS dL_of_4 rfl ?_
  refine J_callV2 (X' := fun C g' => (C = eNS ∧ Q (some (.int 1)) g') ∨ (C = eIA ∧ Q (some (.int 2)) g')) hS dL_of_5 mvL_25 ob1 rfl (by omega) (by decide) (Nat.le_of_ble_eq_true rfl) ⟨by omega, by omega⟩ (fun C g' hx => ?_) (h.mono (fun r g' hq => ?_) (fun _ _ hx => hx))
  · rcases hx with ⟨e, hq⟩ | ⟨e, hq⟩
    · subst e
      exact JX_h2 hS hZ hr [] ⟨0, 10, 13, 19⟩ [⟨0, 10, 17, 13⟩] (by rw [ht]; rfl) (fun z hz => nomatch hz) (by decide) (by decide) clL_19 (by decide) rfl dL_of_13 (Nat.le_of_ble_eq_true rfl) dL_of_15 (by decide) dL_of_16 (by omega) (by omega) hq
    · subst e
      exact JX_h2 hS hZ hr [⟨0, 10, 13, 19⟩] ⟨0, 10, 17, 13⟩ [] (by rw [ht]; rfl) (fun z hz => by cases List.mem_singleton.mp hz; exact ⟨(by decide : 19 ≠ 0), _, clL_19, by decide⟩) (by decide) (by decide) clL_13 (by decide) rfl dL_of_17 (Nat.le_of_ble_eq_true rfl) dL_of_19 (by decide) dL_of_20 (by omega) (by omega) hq
  · obtain ⟨v, e, hq⟩ := hq
    subst e
    show J S (0 + mc) (0 + ms) g' 8 [some (.ref 1), some (.int a0), some (.int a1), some (.ref 219), none] [.int v, .int 0, .ref 219]
    refine J_i2l hS dL_of_8 ?_
    refine J_last (x := v) hS dL_of_9 al219 (by unfold vp_in; decide) rfl (fun g2 e2 => ?_)
    have e2 : g2 = u2 g' 219 0 v := e2
    refine J_goto (tgt := 21) hS dL_of_10 (by decide) ?_
    refine J_iconst (v := 0) hS dL_of_21 (by decide) ?_
    refine J_iret hS hZ hr dL_of_22 (by omega) (by omega) ?_
    rw [e2]; exact hq
set_option maxRecDepth 100000 in
theorem kw_sign : Cond.codeWith yL_sign cL_sign 6 (some .int) [(0, 12, 15, 19), (0, 12, 19, 13)] ∈ gw := gw_t 740 (by rfl) (by rfl)
set_option maxRecDepth 100000 in
theorem msw_sign : MSW RL 166 yL_sign cL_sign 6 (some .int) [(0, 12, 15, 19), (0, 12, 19, 13)] 5 := ⟨gw_t 738 (by rfl) (by rfl), gw_t 739 (by rfl) (by rfl), in_YardTalkLaw, kw_sign, by decide +kernel, by decide +kernel⟩
theorem w_sign {a0 a1 a2 : Int32} (h : Ct l E lay NC d mc ms yX7_sign [.ref 1, .int a0, .int a1, .int a2] g (fun r g' => ∃ v : Int32, r = some (.int v) ∧ Q (some (.int 0)) (u2 g' 219 0 v)) (fun C g' => (C = eNS ∧ Q (some (.int 1)) g') ∨ (C = eIA ∧ Q (some (.int 2)) g'))) : Ct l E lay NC (d + 1) mc ms yL_sign [.ref 1, .int a0, .int a1, .int a2, .ref 219] g Q X := by
  refine Ct_ofH (by decide) kw_sign (fun v hv => ?_) (Nat.le_of_ble_eq_true rfl) (fun S hS hZ hr ht hR => ?_)
  · simp only [List.mem_cons, List.not_mem_nil, or_false] at hv
    rcases hv with e | e | e | e | e <;> subst e <;> rfl
  show J S 0 0 g 0 [some (.ref 1), some (.int a0), some (.int a1), some (.int a2), some (.ref 219), none] []
  refine J_aload hS dL_sign_0 rfl ?_
  refine J_iconst (v := 0) hS dL_sign_2 (by decide) ?_
  refine J_aload_n hS dL_sign_3 rfl ?_
  refine J_iload_n hS dL_sign_4 rfl ?_
  refine J_iload_n hS dL_sign_5 rfl ?_
  refine J_iload_n hS dL_sign_6 rfl ?_
  refine J_callV3 (X' := fun C g' => (C = eNS ∧ Q (some (.int 1)) g') ∨ (C = eIA ∧ Q (some (.int 2)) g')) hS dL_sign_7 mvL_28 ob1 rfl (by omega) (by decide) (Nat.le_of_ble_eq_true rfl) ⟨by omega, by omega⟩ (fun C g' hx => ?_) (h.mono (fun r g' hq => ?_) (fun _ _ hx => hx))
  · rcases hx with ⟨e, hq⟩ | ⟨e, hq⟩
    · subst e
      exact JX_h2 hS hZ hr [] ⟨0, 12, 15, 19⟩ [⟨0, 12, 19, 13⟩] (by rw [ht]; rfl) (fun z hz => nomatch hz) (by decide) (by decide) clL_19 (by decide) rfl dL_sign_15 (Nat.le_of_ble_eq_true rfl) dL_sign_17 (by decide) dL_sign_18 (by omega) (by omega) hq
    · subst e
      exact JX_h2 hS hZ hr [⟨0, 12, 15, 19⟩] ⟨0, 12, 19, 13⟩ [] (by rw [ht]; rfl) (fun z hz => by cases List.mem_singleton.mp hz; exact ⟨(by decide : 19 ≠ 0), _, clL_19, by decide⟩) (by decide) (by decide) clL_13 (by decide) rfl dL_sign_19 (Nat.le_of_ble_eq_true rfl) dL_sign_21 (by decide) dL_sign_22 (by omega) (by omega) hq
  · obtain ⟨v, e, hq⟩ := hq
    subst e
    show J S (0 + mc) (0 + ms) g' 10 [some (.ref 1), some (.int a0), some (.int a1), some (.int a2), some (.ref 219), none] [.int v, .int 0, .ref 219]
    refine J_i2l hS dL_sign_10 ?_
    refine J_last (x := v) hS dL_sign_11 al219 (by unfold vp_in; decide) rfl (fun g2 e2 => ?_)
    have e2 : g2 = u2 g' 219 0 v := e2
    refine J_goto (tgt := 23) hS dL_sign_12 (by decide) ?_
    refine J_iconst (v := 0) hS dL_sign_23 (by decide) ?_
    refine J_iret hS hZ hr dL_sign_24 (by omega) (by omega) ?_
    rw [e2]; exact hq
set_option maxRecDepth 100000 in
theorem kw_order : Cond.codeWith yL_order cL_order 5 (some .int) [(0, 10, 13, 19), (0, 10, 17, 13)] ∈ gw := gw_t 756 (by rfl) (by rfl)
set_option maxRecDepth 100000 in
theorem msw_order : MSW RL 170 yL_order cL_order 5 (some .int) [(0, 10, 13, 19), (0, 10, 17, 13)] 4 := ⟨gw_t 754 (by rfl) (by rfl), gw_t 755 (by rfl) (by rfl), in_YardTalkLaw, kw_order, by decide +kernel, by decide +kernel⟩
theorem w_order {a0 a1 : Int32} (h : Ct l E lay NC d mc ms yX7_order [.ref 1, .int a0, .int a1] g (fun r g' => ∃ v : Int32, r = some (.int v) ∧ Q (some (.int 0)) (u2 g' 219 0 v)) (fun C g' => (C = eNS ∧ Q (some (.int 1)) g') ∨ (C = eIA ∧ Q (some (.int 2)) g'))) : Ct l E lay NC (d + 1) mc ms yL_order [.ref 1, .int a0, .int a1, .ref 219] g Q X := by
  refine Ct_ofH (by decide) kw_order (fun v hv => ?_) (Nat.le_of_ble_eq_true rfl) (fun S hS hZ hr ht hR => ?_)
  · simp only [List.mem_cons, List.not_mem_nil, or_false] at hv
    rcases hv with e | e | e | e <;> subst e <;> rfl
  show J S 0 0 g 0 [some (.ref 1), some (.int a0), some (.int a1), some (.ref 219), none] []
  refine J_aload_n hS dL_order_0 rfl ?_
  refine J_iconst (v := 0) hS dL_order_1 (by decide) ?_
  refine J_aload_n hS dL_order_2 rfl ?_
  refine J_iload_n hS dL_order_3 rfl ?_
  refine J_iload_n hS dL_order_4 rfl ?_
  refine J_callV2 (X' := fun C g' => (C = eNS ∧ Q (some (.int 1)) g') ∨ (C = eIA ∧ Q (some (.int 2)) g')) hS dL_order_5 mvL_32 ob1 rfl (by omega) (by decide) (Nat.le_of_ble_eq_true rfl) ⟨by omega, by omega⟩ (fun C g' hx => ?_) (h.mono (fun r g' hq => ?_) (fun _ _ hx => hx))
  · rcases hx with ⟨e, hq⟩ | ⟨e, hq⟩
    · subst e
      exact JX_h2 hS hZ hr [] ⟨0, 10, 13, 19⟩ [⟨0, 10, 17, 13⟩] (by rw [ht]; rfl) (fun z hz => nomatch hz) (by decide) (by decide) clL_19 (by decide) rfl dL_order_13 (Nat.le_of_ble_eq_true rfl) dL_order_15 (by decide) dL_order_16 (by omega) (by omega) hq
    · subst e
      exact JX_h2 hS hZ hr [⟨0, 10, 13, 19⟩] ⟨0, 10, 17, 13⟩ [] (by rw [ht]; rfl) (fun z hz => by cases List.mem_singleton.mp hz; exact ⟨(by decide : 19 ≠ 0), _, clL_19, by decide⟩) (by decide) (by decide) clL_13 (by decide) rfl dL_order_17 (Nat.le_of_ble_eq_true rfl) dL_order_19 (by decide) dL_order_20 (by omega) (by omega) hq
  · obtain ⟨v, e, hq⟩ := hq
    subst e
    show J S (0 + mc) (0 + ms) g' 8 [some (.ref 1), some (.int a0), some (.int a1), some (.ref 219), none] [.int v, .int 0, .ref 219]
    refine J_i2l hS dL_order_8 ?_
    refine J_last (x := v) hS dL_order_9 al219 (by unfold vp_in; decide) rfl (fun g2 e2 => ?_)
    have e2 : g2 = u2 g' 219 0 v := e2
    refine J_goto (tgt := 21) hS dL_order_10 (by decide) ?_
    refine J_iconst (v := 0) hS dL_order_21 (by decide) ?_
    refine J_iret hS hZ hr dL_order_22 (by omega) (by omega) ?_
    rw [e2]; exact hq
set_option maxRecDepth 100000 in
theorem kw_holds : Cond.codeWith yL_holds cL_holds 5 (some .int) [(0, 17, 20, 19), (0, 17, 24, 13)] ∈ gw := gw_t 767 (by rfl) (by rfl)
set_option maxRecDepth 100000 in
theorem msw_holds : MSW RL 173 yL_holds cL_holds 5 (some .int) [(0, 17, 20, 19), (0, 17, 24, 13)] 4 := ⟨gw_t 765 (by rfl) (by rfl), gw_t 766 (by rfl) (by rfl), in_YardTalkLaw, kw_holds, by decide +kernel, by decide +kernel⟩
theorem w_holds {a0 a1 : Int32} (h : Ct l E lay NC d mc ms yX7_holds [.ref 1, .int a0, .int a1] g (fun r g' => ∃ v : Int32, r = some (.int v) ∧ Q (some (.int 0)) (u2 g' 219 0 (if v = 0 then 0 else 1))) (fun C g' => (C = eNS ∧ Q (some (.int 1)) g') ∨ (C = eIA ∧ Q (some (.int 2)) g'))) : Ct l E lay NC (d + 1) mc ms yL_holds [.ref 1, .int a0, .int a1, .ref 219] g Q X := by
  refine Ct_ofH (by decide) kw_holds (fun v hv => ?_) (Nat.le_of_ble_eq_true rfl) (fun S hS hZ hr ht hR => ?_)
  · simp only [List.mem_cons, List.not_mem_nil, or_false] at hv
    rcases hv with e | e | e | e <;> subst e <;> rfl
  show J S 0 0 g 0 [some (.ref 1), some (.int a0), some (.int a1), some (.ref 219), none] []
  refine J_aload_n hS dL_holds_0 rfl ?_
  refine J_iconst (v := 0) hS dL_holds_1 (by decide) ?_
  refine J_aload_n hS dL_holds_2 rfl ?_
  refine J_iload_n hS dL_holds_3 rfl ?_
  refine J_iload_n hS dL_holds_4 rfl ?_
  refine J_callV2 (X' := fun C g' => (C = eNS ∧ Q (some (.int 1)) g') ∨ (C = eIA ∧ Q (some (.int 2)) g')) hS dL_holds_5 mvL_35 ob1 rfl (by omega) (by decide) (Nat.le_of_ble_eq_true rfl) ⟨by omega, by omega⟩ (fun C g' hx => ?_) (h.mono (fun r g' hq => ?_) (fun _ _ hx => hx))
  · rcases hx with ⟨e, hq⟩ | ⟨e, hq⟩
    · subst e
      exact JX_h2 hS hZ hr [] ⟨0, 17, 20, 19⟩ [⟨0, 17, 24, 13⟩] (by rw [ht]; rfl) (fun z hz => nomatch hz) (by decide) (by decide) clL_19 (by decide) rfl dL_holds_20 (Nat.le_of_ble_eq_true rfl) dL_holds_22 (by decide) dL_holds_23 (by omega) (by omega) hq
    · subst e
      exact JX_h2 hS hZ hr [⟨0, 17, 20, 19⟩] ⟨0, 17, 24, 13⟩ [] (by rw [ht]; rfl) (fun z hz => by cases List.mem_singleton.mp hz; exact ⟨(by decide : 19 ≠ 0), _, clL_19, by decide⟩) (by decide) (by decide) clL_13 (by decide) rfl dL_holds_24 (Nat.le_of_ble_eq_true rfl) dL_holds_26 (by decide) dL_holds_27 (by omega) (by omega) hq
  · obtain ⟨v, e, hq⟩ := hq
    subst e
    show J S (0 + mc) (0 + ms) g' 8 [some (.ref 1), some (.int a0), some (.int a1), some (.ref 219), none] [.int v, .int 0, .ref 219]
    refine J_if_eq (tgt := 15) hS dL_holds_8 (by decide) (fun c => ?_) (fun c => ?_)
    · refine J_lconst (v := 0) hS dL_holds_15 rfl ?_
      refine J_last (x := 0) hS dL_holds_16 al219 (by unfold vp_in; decide) rfl (fun g2 e2 => ?_)
      have e2 : g2 = u2 g' 219 0 0 := e2
      refine J_goto (tgt := 28) hS dL_holds_17 (by decide) ?_
      refine J_iconst (v := 0) hS dL_holds_28 (by decide) ?_
      refine J_iret hS hZ hr dL_holds_29 (by omega) (by omega) ?_
      rw [if_pos c] at hq; rw [e2]; exact hq
    · refine J_lconst (v := 1) hS dL_holds_11 rfl ?_
      refine J_goto (tgt := 16) hS dL_holds_12 (by decide) ?_
      refine J_last (x := 1) hS dL_holds_16 al219 (by unfold vp_in; decide) rfl (fun g2 e2 => ?_)
      have e2 : g2 = u2 g' 219 0 1 := e2
      refine J_goto (tgt := 28) hS dL_holds_17 (by decide) ?_
      refine J_iconst (v := 0) hS dL_holds_28 (by decide) ?_
      refine J_iret hS hZ hr dL_holds_29 (by omega) (by omega) ?_
      rw [if_neg c] at hq; rw [e2]; exact hq
set_option maxRecDepth 100000 in
theorem kw_set : Cond.codeWith yL_set cL_set 5 (some .int) [(0, 10, 13, 13)] ∈ gw := gw_t 774 (by rfl) (by rfl)
set_option maxRecDepth 100000 in
theorem msw_set : MSW RL 176 yL_set cL_set 5 (some .int) [(0, 10, 13, 13)] 4 := ⟨gw_t 772 (by rfl) (by rfl), gw_t 773 (by rfl) (by rfl), in_YardTalkLaw, kw_set, by decide +kernel, by decide +kernel⟩
theorem w_set {a0 a1 : Int32} (h : Ct l E lay NC d mc ms yX7_set [.ref 1, .int a0, .int a1] g (fun r g' => ∃ v : Int32, r = some (.int v) ∧ Q (some (.int 0)) (u2 g' 219 0 v)) (fun C g' => (C = eIA ∧ Q (some (.int 1)) g'))) : Ct l E lay NC (d + 1) mc ms yL_set [.ref 1, .int a0, .int a1, .ref 219] g Q X := by
  refine Ct_ofH (by decide) kw_set (fun v hv => ?_) (Nat.le_of_ble_eq_true rfl) (fun S hS hZ hr ht hR => ?_)
  · simp only [List.mem_cons, List.not_mem_nil, or_false] at hv
    rcases hv with e | e | e | e <;> subst e <;> rfl
  show J S 0 0 g 0 [some (.ref 1), some (.int a0), some (.int a1), some (.ref 219), none] []
  refine J_aload_n hS dL_set_0 rfl ?_
  refine J_iconst (v := 0) hS dL_set_1 (by decide) ?_
  refine J_aload_n hS dL_set_2 rfl ?_
  refine J_iload_n hS dL_set_3 rfl ?_
  refine J_iload_n hS dL_set_4 rfl ?_
  refine J_callV2 (X' := fun C g' => (C = eIA ∧ Q (some (.int 1)) g')) hS dL_set_5 mvL_39 ob1 rfl (by omega) (by decide) (Nat.le_of_ble_eq_true rfl) ⟨by omega, by omega⟩ (fun C g' hx => ?_) (h.mono (fun r g' hq => ?_) (fun _ _ hx => hx))
  · obtain ⟨e, hq⟩ := hx
    subst e
    exact JX_h2 hS hZ hr [] ⟨0, 10, 13, 13⟩ [] (by rw [ht]; rfl) (fun z hz => nomatch hz) (by decide) (by decide) clL_13 (by decide) rfl dL_set_13 (Nat.le_of_ble_eq_true rfl) dL_set_15 (by decide) dL_set_16 (by omega) (by omega) hq
  · obtain ⟨v, e, hq⟩ := hq
    subst e
    show J S (0 + mc) (0 + ms) g' 8 [some (.ref 1), some (.int a0), some (.int a1), some (.ref 219), none] [.int v, .int 0, .ref 219]
    refine J_i2l hS dL_set_8 ?_
    refine J_last (x := v) hS dL_set_9 al219 (by unfold vp_in; decide) rfl (fun g2 e2 => ?_)
    have e2 : g2 = u2 g' 219 0 v := e2
    refine J_goto (tgt := 17) hS dL_set_10 (by decide) ?_
    refine J_iconst (v := 0) hS dL_set_17 (by decide) ?_
    refine J_iret hS hZ hr dL_set_18 (by omega) (by omega) ?_
    rw [e2]; exact hq
set_option maxRecDepth 100000 in
theorem kw_years : Cond.codeWith yL_years cL_years 4 (some .int) [(0, 9, 12, 13), (0, 9, 15, 45)] ∈ gw := gw_t 782 (by rfl) (by rfl)
set_option maxRecDepth 100000 in
theorem msw_years : MSW RL 179 yL_years cL_years 4 (some .int) [(0, 9, 12, 13), (0, 9, 15, 45)] 3 := ⟨gw_t 780 (by rfl) (by rfl), gw_t 781 (by rfl) (by rfl), in_YardTalkLaw, kw_years, by decide +kernel, by decide +kernel⟩
theorem w_years {a0 : Int32} (h : Ct l E lay NC d mc ms yX7_years [.ref 1, .int a0] g (fun r g' => ∃ v : Int32, r = some (.int v) ∧ Q (some (.int 0)) (u2 g' 219 0 v)) (fun C g' => (C = eIA ∧ Q (some (.int 1)) g') ∨ (C = eIS ∧ Q (some (.int 2)) g'))) : Ct l E lay NC (d + 1) mc ms yL_years [.ref 1, .int a0, .ref 219] g Q X := by
  refine Ct_ofH (by decide) kw_years (fun v hv => ?_) (Nat.le_of_ble_eq_true rfl) (fun S hS hZ hr ht hR => ?_)
  · simp only [List.mem_cons, List.not_mem_nil, or_false] at hv
    rcases hv with e | e | e <;> subst e <;> rfl
  show J S 0 0 g 0 [some (.ref 1), some (.int a0), some (.ref 219), none] []
  refine J_aload_n hS dL_years_0 rfl ?_
  refine J_iconst (v := 0) hS dL_years_1 (by decide) ?_
  refine J_aload_n hS dL_years_2 rfl ?_
  refine J_iload_n hS dL_years_3 rfl ?_
  refine J_callV1 (X' := fun C g' => (C = eIA ∧ Q (some (.int 1)) g') ∨ (C = eIS ∧ Q (some (.int 2)) g')) hS dL_years_4 mvL_42 ob1 rfl (by omega) (by decide) (Nat.le_of_ble_eq_true rfl) ⟨by omega, by omega⟩ (fun C g' hx => ?_) (h.mono (fun r g' hq => ?_) (fun _ _ hx => hx))
  · rcases hx with ⟨e, hq⟩ | ⟨e, hq⟩
    · subst e
      exact JX_h1 hS hZ hr [] ⟨0, 9, 12, 13⟩ [⟨0, 9, 15, 45⟩] (by rw [ht]; rfl) (fun z hz => nomatch hz) (by decide) (by decide) clL_13 (by decide) rfl dL_years_12 (Nat.le_of_ble_eq_true rfl) dL_years_13 (by decide) dL_years_14 (by omega) (by omega) hq
    · subst e
      exact JX_h1 hS hZ hr [⟨0, 9, 12, 13⟩] ⟨0, 9, 15, 45⟩ [] (by rw [ht]; rfl) (fun z hz => by cases List.mem_singleton.mp hz; exact ⟨(by decide : 13 ≠ 0), _, clL_13, by decide⟩) (by decide) (by decide) clL_45 (by decide) rfl dL_years_15 (Nat.le_of_ble_eq_true rfl) dL_years_16 (by decide) dL_years_17 (by omega) (by omega) hq
  · obtain ⟨v, e, hq⟩ := hq
    subst e
    show J S (0 + mc) (0 + ms) g' 7 [some (.ref 1), some (.int a0), some (.ref 219), none] [.int v, .int 0, .ref 219]
    refine J_i2l hS dL_years_7 ?_
    refine J_last (x := v) hS dL_years_8 al219 (by unfold vp_in; decide) rfl (fun g2 e2 => ?_)
    have e2 : g2 = u2 g' 219 0 v := e2
    refine J_goto (tgt := 18) hS dL_years_9 (by decide) ?_
    refine J_iconst (v := 0) hS dL_years_18 (by decide) ?_
    refine J_iret hS hZ hr dL_years_19 (by omega) (by omega) ?_
    rw [e2]; exact hq
set_option maxRecDepth 100000 in
theorem kw_law : Cond.codeWith yL_law cL_law 4 (some .int) [(0, 9, 12, 13)] ∈ gw := gw_t 807 (by rfl) (by rfl)
set_option maxRecDepth 100000 in
theorem msw_law : MSW RL 186 yL_law cL_law 4 (some .int) [(0, 9, 12, 13)] 3 := ⟨gw_t 805 (by rfl) (by rfl), gw_t 806 (by rfl) (by rfl), in_YardTalkLaw, kw_law, by decide +kernel, by decide +kernel⟩
theorem w_law {a0 : Int32} (h : Ct l E lay NC d mc ms yX7_law [.ref 1, .int a0] g (fun r g' => ∃ v : Int32, r = some (.int v) ∧ Q (some (.int 0)) (u2 g' 219 0 v)) (fun C g' => (C = eIA ∧ Q (some (.int 1)) g'))) : Ct l E lay NC (d + 1) mc ms yL_law [.ref 1, .int a0, .ref 219] g Q X := by
  refine Ct_ofH (by decide) kw_law (fun v hv => ?_) (Nat.le_of_ble_eq_true rfl) (fun S hS hZ hr ht hR => ?_)
  · simp only [List.mem_cons, List.not_mem_nil, or_false] at hv
    rcases hv with e | e | e <;> subst e <;> rfl
  show J S 0 0 g 0 [some (.ref 1), some (.int a0), some (.ref 219), none] []
  refine J_aload_n hS dL_law_0 rfl ?_
  refine J_iconst (v := 0) hS dL_law_1 (by decide) ?_
  refine J_aload_n hS dL_law_2 rfl ?_
  refine J_iload_n hS dL_law_3 rfl ?_
  refine J_callV1 (X' := fun C g' => (C = eIA ∧ Q (some (.int 1)) g')) hS dL_law_4 mvL_47 ob1 rfl (by omega) (by decide) (Nat.le_of_ble_eq_true rfl) ⟨by omega, by omega⟩ (fun C g' hx => ?_) (h.mono (fun r g' hq => ?_) (fun _ _ hx => hx))
  · obtain ⟨e, hq⟩ := hx
    subst e
    exact JX_h1 hS hZ hr [] ⟨0, 9, 12, 13⟩ [] (by rw [ht]; rfl) (fun z hz => nomatch hz) (by decide) (by decide) clL_13 (by decide) rfl dL_law_12 (Nat.le_of_ble_eq_true rfl) dL_law_13 (by decide) dL_law_14 (by omega) (by omega) hq
  · obtain ⟨v, e, hq⟩ := hq
    subst e
    show J S (0 + mc) (0 + ms) g' 7 [some (.ref 1), some (.int a0), some (.ref 219), none] [.int v, .int 0, .ref 219]
    refine J_i2l hS dL_law_7 ?_
    refine J_last (x := v) hS dL_law_8 al219 (by unfold vp_in; decide) rfl (fun g2 e2 => ?_)
    have e2 : g2 = u2 g' 219 0 v := e2
    refine J_goto (tgt := 15) hS dL_law_9 (by decide) ?_
    refine J_iconst (v := 0) hS dL_law_15 (by decide) ?_
    refine J_iret hS hZ hr dL_law_16 (by omega) (by omega) ?_
    rw [e2]; exact hq
set_option maxRecDepth 100000 in
theorem kw_force : Cond.codeWith yL_force cL_force 4 (some .int) [(0, 9, 12, 53)] ∈ gw := gw_t 978 (by rfl) (by rfl)
set_option maxRecDepth 100000 in
theorem msw_force : MSW RL 193 yL_force cL_force 4 (some .int) [(0, 9, 12, 53)] 3 := ⟨gw_t 976 (by rfl) (by rfl), gw_t 977 (by rfl) (by rfl), in_YardTalkLaw, kw_force, by decide +kernel, by decide +kernel⟩
theorem w_force {a0 : Int32} (h : Ct l E lay NC d mc ms yX7_force [.ref 1, .int a0] g (fun r g' => ∃ v : Int32, r = some (.int v) ∧ Q (some (.int 0)) (u2 g' 219 0 v)) (fun C g' => (C = eIB ∧ Q (some (.int 1)) g'))) : Ct l E lay NC (d + 1) mc ms yL_force [.ref 1, .int a0, .ref 219] g Q X := by
  refine Ct_ofH (by decide) kw_force (fun v hv => ?_) (Nat.le_of_ble_eq_true rfl) (fun S hS hZ hr ht hR => ?_)
  · simp only [List.mem_cons, List.not_mem_nil, or_false] at hv
    rcases hv with e | e | e <;> subst e <;> rfl
  show J S 0 0 g 0 [some (.ref 1), some (.int a0), some (.ref 219), none] []
  refine J_aload_n hS dL_force_0 rfl ?_
  refine J_iconst (v := 0) hS dL_force_1 (by decide) ?_
  refine J_aload_n hS dL_force_2 rfl ?_
  refine J_iload_n hS dL_force_3 rfl ?_
  refine J_callV1 (X' := fun C g' => (C = eIB ∧ Q (some (.int 1)) g')) hS dL_force_4 mvL_50 ob1 rfl (by omega) (by decide) (Nat.le_of_ble_eq_true rfl) ⟨by omega, by omega⟩ (fun C g' hx => ?_) (h.mono (fun r g' hq => ?_) (fun _ _ hx => hx))
  · obtain ⟨e, hq⟩ := hx
    subst e
    exact JX_h1 hS hZ hr [] ⟨0, 9, 12, 53⟩ [] (by rw [ht]; rfl) (fun z hz => nomatch hz) (by decide) (by decide) clL_53 (by decide) rfl dL_force_12 (Nat.le_of_ble_eq_true rfl) dL_force_13 (by decide) dL_force_14 (by omega) (by omega) hq
  · obtain ⟨v, e, hq⟩ := hq
    subst e
    show J S (0 + mc) (0 + ms) g' 7 [some (.ref 1), some (.int a0), some (.ref 219), none] [.int v, .int 0, .ref 219]
    refine J_i2l hS dL_force_7 ?_
    refine J_last (x := v) hS dL_force_8 al219 (by unfold vp_in; decide) rfl (fun g2 e2 => ?_)
    have e2 : g2 = u2 g' 219 0 v := e2
    refine J_goto (tgt := 15) hS dL_force_9 (by decide) ?_
    refine J_iconst (v := 0) hS dL_force_15 (by decide) ?_
    refine J_iret hS hZ hr dL_force_16 (by omega) (by omega) ?_
    rw [e2]; exact hq
set_option maxRecDepth 100000 in
theorem kw_talk : Cond.codeWith yL_talk cL_talk 8 (some .int) [(0, 16, 19, 19), (0, 16, 23, 13)] ∈ gw := gw_t 1006 (by rfl) (by rfl)
set_option maxRecDepth 100000 in
theorem msw_talk : MSW RL 196 yL_talk cL_talk 8 (some .int) [(0, 16, 19, 19), (0, 16, 23, 13)] 7 := ⟨gw_t 1004 (by rfl) (by rfl), gw_t 1005 (by rfl) (by rfl), in_YardTalkLaw, kw_talk, by decide +kernel, by decide +kernel⟩
theorem w_talk {a0 a1 a2 a3 a4 : Int32} (h : Ct l E lay NC d mc ms yX7_talk [.ref 1, .int a0, .int a1, .int a2, .int a3, .int a4] g (fun r g' => ∃ v : Int32, r = some (.int v) ∧ Q (some (.int 0)) (u2 g' 219 0 v)) (fun C g' => (C = eNS ∧ Q (some (.int 1)) g') ∨ (C = eIA ∧ Q (some (.int 2)) g'))) : Ct l E lay NC (d + 1) mc ms yL_talk [.ref 1, .int a0, .int a1, .int a2, .int a3, .int a4, .ref 219] g Q X := by
  refine Ct_ofH (by decide) kw_talk (fun v hv => ?_) (Nat.le_of_ble_eq_true rfl) (fun S hS hZ hr ht hR => ?_)
  · simp only [List.mem_cons, List.not_mem_nil, or_false] at hv
    rcases hv with e | e | e | e | e | e | e <;> subst e <;> rfl
  show J S 0 0 g 0 [some (.ref 1), some (.int a0), some (.int a1), some (.int a2), some (.int a3), some (.int a4), some (.ref 219), none] []
  refine J_aload hS dL_talk_0 rfl ?_
  refine J_iconst (v := 0) hS dL_talk_2 (by decide) ?_
  refine J_aload_n hS dL_talk_3 rfl ?_
  refine J_iload_n hS dL_talk_4 rfl ?_
  refine J_iload_n hS dL_talk_5 rfl ?_
  refine J_iload_n hS dL_talk_6 rfl ?_
  refine J_iload hS dL_talk_7 rfl ?_
  refine J_iload hS dL_talk_9 rfl ?_
  refine J_callV5 (X' := fun C g' => (C = eNS ∧ Q (some (.int 1)) g') ∨ (C = eIA ∧ Q (some (.int 2)) g')) hS dL_talk_11 mvL_55 ob1 rfl (by omega) (by decide) (Nat.le_of_ble_eq_true rfl) ⟨by omega, by omega⟩ (fun C g' hx => ?_) (h.mono (fun r g' hq => ?_) (fun _ _ hx => hx))
  · rcases hx with ⟨e, hq⟩ | ⟨e, hq⟩
    · subst e
      exact JX_h2 hS hZ hr [] ⟨0, 16, 19, 19⟩ [⟨0, 16, 23, 13⟩] (by rw [ht]; rfl) (fun z hz => nomatch hz) (by decide) (by decide) clL_19 (by decide) rfl dL_talk_19 (Nat.le_of_ble_eq_true rfl) dL_talk_21 (by decide) dL_talk_22 (by omega) (by omega) hq
    · subst e
      exact JX_h2 hS hZ hr [⟨0, 16, 19, 19⟩] ⟨0, 16, 23, 13⟩ [] (by rw [ht]; rfl) (fun z hz => by cases List.mem_singleton.mp hz; exact ⟨(by decide : 19 ≠ 0), _, clL_19, by decide⟩) (by decide) (by decide) clL_13 (by decide) rfl dL_talk_23 (Nat.le_of_ble_eq_true rfl) dL_talk_25 (by decide) dL_talk_26 (by omega) (by omega) hq
  · obtain ⟨v, e, hq⟩ := hq
    subst e
    show J S (0 + mc) (0 + ms) g' 14 [some (.ref 1), some (.int a0), some (.int a1), some (.int a2), some (.int a3), some (.int a4), some (.ref 219), none] [.int v, .int 0, .ref 219]
    refine J_i2l hS dL_talk_14 ?_
    refine J_last (x := v) hS dL_talk_15 al219 (by unfold vp_in; decide) rfl (fun g2 e2 => ?_)
    have e2 : g2 = u2 g' 219 0 v := e2
    refine J_goto (tgt := 27) hS dL_talk_16 (by decide) ?_
    refine J_iconst (v := 0) hS dL_talk_27 (by decide) ?_
    refine J_iret hS hZ hr dL_talk_28 (by omega) (by omega) ?_
    rw [e2]; exact hq
set_option maxRecDepth 100000 in
theorem kw_run : Cond.codeWith yL_run cL_run 5 (some .int) [(0, 10, 13, 13)] ∈ gw := gw_t 1034 (by rfl) (by rfl)
set_option maxRecDepth 100000 in
theorem msw_run : MSW RL 200 yL_run cL_run 5 (some .int) [(0, 10, 13, 13)] 4 := ⟨gw_t 1032 (by rfl) (by rfl), gw_t 1033 (by rfl) (by rfl), in_YardTalkLaw, kw_run, by decide +kernel, by decide +kernel⟩
theorem w_run {a0 a1 : Int32} (h : Ct l E lay NC d mc ms yX7_run [.ref 1, .int a0, .int a1] g (fun r g' => ∃ v : Int32, r = some (.int v) ∧ Q (some (.int 0)) (u2 g' 219 0 v)) (fun C g' => (C = eIA ∧ Q (some (.int 1)) g'))) : Ct l E lay NC (d + 1) mc ms yL_run [.ref 1, .int a0, .int a1, .ref 219] g Q X := by
  refine Ct_ofH (by decide) kw_run (fun v hv => ?_) (Nat.le_of_ble_eq_true rfl) (fun S hS hZ hr ht hR => ?_)
  · simp only [List.mem_cons, List.not_mem_nil, or_false] at hv
    rcases hv with e | e | e | e <;> subst e <;> rfl
  show J S 0 0 g 0 [some (.ref 1), some (.int a0), some (.int a1), some (.ref 219), none] []
  refine J_aload_n hS dL_run_0 rfl ?_
  refine J_iconst (v := 0) hS dL_run_1 (by decide) ?_
  refine J_aload_n hS dL_run_2 rfl ?_
  refine J_iload_n hS dL_run_3 rfl ?_
  refine J_iload_n hS dL_run_4 rfl ?_
  refine J_callV2 (X' := fun C g' => (C = eIA ∧ Q (some (.int 1)) g')) hS dL_run_5 mvL_59 ob1 rfl (by omega) (by decide) (Nat.le_of_ble_eq_true rfl) ⟨by omega, by omega⟩ (fun C g' hx => ?_) (h.mono (fun r g' hq => ?_) (fun _ _ hx => hx))
  · obtain ⟨e, hq⟩ := hx
    subst e
    exact JX_h2 hS hZ hr [] ⟨0, 10, 13, 13⟩ [] (by rw [ht]; rfl) (fun z hz => nomatch hz) (by decide) (by decide) clL_13 (by decide) rfl dL_run_13 (Nat.le_of_ble_eq_true rfl) dL_run_15 (by decide) dL_run_16 (by omega) (by omega) hq
  · obtain ⟨v, e, hq⟩ := hq
    subst e
    show J S (0 + mc) (0 + ms) g' 8 [some (.ref 1), some (.int a0), some (.int a1), some (.ref 219), none] [.int v, .int 0, .ref 219]
    refine J_i2l hS dL_run_8 ?_
    refine J_last (x := v) hS dL_run_9 al219 (by unfold vp_in; decide) rfl (fun g2 e2 => ?_)
    have e2 : g2 = u2 g' 219 0 v := e2
    refine J_goto (tgt := 17) hS dL_run_10 (by decide) ?_
    refine J_iconst (v := 0) hS dL_run_17 (by decide) ?_
    refine J_iret hS hZ hr dL_run_18 (by omega) (by omega) ?_
    rw [e2]; exact hq
set_option maxRecDepth 100000 in
theorem kw_note : Cond.codeWith yL_note cL_note 5 (some .int) [(0, 10, 13, 53), (0, 10, 17, 13)] ∈ gw := gw_t 1057 (by rfl) (by rfl)
set_option maxRecDepth 100000 in
theorem msw_note : MSW RL 203 yL_note cL_note 5 (some .int) [(0, 10, 13, 53), (0, 10, 17, 13)] 4 := ⟨gw_t 1055 (by rfl) (by rfl), gw_t 1056 (by rfl) (by rfl), in_YardTalkLaw, kw_note, by decide +kernel, by decide +kernel⟩
theorem w_note {a0 a1 : Int32} (h : Ct l E lay NC d mc ms yX7_note [.ref 1, .int a0, .int a1] g (fun r g' => ∃ v : Int32, r = some (.int v) ∧ Q (some (.int 0)) (u2 g' 219 0 v)) (fun C g' => (C = eIB ∧ Q (some (.int 1)) g') ∨ (C = eIA ∧ Q (some (.int 2)) g'))) : Ct l E lay NC (d + 1) mc ms yL_note [.ref 1, .int a0, .int a1, .ref 219] g Q X := by
  refine Ct_ofH (by decide) kw_note (fun v hv => ?_) (Nat.le_of_ble_eq_true rfl) (fun S hS hZ hr ht hR => ?_)
  · simp only [List.mem_cons, List.not_mem_nil, or_false] at hv
    rcases hv with e | e | e | e <;> subst e <;> rfl
  show J S 0 0 g 0 [some (.ref 1), some (.int a0), some (.int a1), some (.ref 219), none] []
  refine J_aload_n hS dL_note_0 rfl ?_
  refine J_iconst (v := 0) hS dL_note_1 (by decide) ?_
  refine J_aload_n hS dL_note_2 rfl ?_
  refine J_iload_n hS dL_note_3 rfl ?_
  refine J_iload_n hS dL_note_4 rfl ?_
  refine J_callV2 (X' := fun C g' => (C = eIB ∧ Q (some (.int 1)) g') ∨ (C = eIA ∧ Q (some (.int 2)) g')) hS dL_note_5 mvL_62 ob1 rfl (by omega) (by decide) (Nat.le_of_ble_eq_true rfl) ⟨by omega, by omega⟩ (fun C g' hx => ?_) (h.mono (fun r g' hq => ?_) (fun _ _ hx => hx))
  · rcases hx with ⟨e, hq⟩ | ⟨e, hq⟩
    · subst e
      exact JX_h2 hS hZ hr [] ⟨0, 10, 13, 53⟩ [⟨0, 10, 17, 13⟩] (by rw [ht]; rfl) (fun z hz => nomatch hz) (by decide) (by decide) clL_53 (by decide) rfl dL_note_13 (Nat.le_of_ble_eq_true rfl) dL_note_15 (by decide) dL_note_16 (by omega) (by omega) hq
    · subst e
      exact JX_h2 hS hZ hr [⟨0, 10, 13, 53⟩] ⟨0, 10, 17, 13⟩ [] (by rw [ht]; rfl) (fun z hz => by cases List.mem_singleton.mp hz; exact ⟨(by decide : 53 ≠ 0), _, clL_53, by decide⟩) (by decide) (by decide) clL_13 (by decide) rfl dL_note_17 (Nat.le_of_ble_eq_true rfl) dL_note_19 (by decide) dL_note_20 (by omega) (by omega) hq
  · obtain ⟨v, e, hq⟩ := hq
    subst e
    show J S (0 + mc) (0 + ms) g' 8 [some (.ref 1), some (.int a0), some (.int a1), some (.ref 219), none] [.int v, .int 0, .ref 219]
    refine J_i2l hS dL_note_8 ?_
    refine J_last (x := v) hS dL_note_9 al219 (by unfold vp_in; decide) rfl (fun g2 e2 => ?_)
    have e2 : g2 = u2 g' 219 0 v := e2
    refine J_goto (tgt := 21) hS dL_note_10 (by decide) ?_
    refine J_iconst (v := 0) hS dL_note_21 (by decide) ?_
    refine J_iret hS hZ hr dL_note_22 (by omega) (by omega) ?_
    rw [e2]; exact hq
set_option maxRecDepth 100000 in
theorem kw_share : Cond.codeWith yL_share cL_share 7 (some .int) [(0, 14, 17, 13)] ∈ gw := gw_t 1065 (by rfl) (by rfl)
set_option maxRecDepth 100000 in
theorem msw_share : MSW RL 206 yL_share cL_share 7 (some .int) [(0, 14, 17, 13)] 6 := ⟨gw_t 1063 (by rfl) (by rfl), gw_t 1064 (by rfl) (by rfl), in_YardTalkLaw, kw_share, by decide +kernel, by decide +kernel⟩
theorem w_share {a0 a1 a2 a3 : Int32} (h : Ct l E lay NC d mc ms yX7_share [.ref 1, .int a0, .int a1, .int a2, .int a3] g (fun r g' => ∃ v : Int32, r = some (.int v) ∧ Q (some (.int 0)) (u2 g' 219 0 v)) (fun C g' => (C = eIA ∧ Q (some (.int 1)) g'))) : Ct l E lay NC (d + 1) mc ms yL_share [.ref 1, .int a0, .int a1, .int a2, .int a3, .ref 219] g Q X := by
  refine Ct_ofH (by decide) kw_share (fun v hv => ?_) (Nat.le_of_ble_eq_true rfl) (fun S hS hZ hr ht hR => ?_)
  · simp only [List.mem_cons, List.not_mem_nil, or_false] at hv
    rcases hv with e | e | e | e | e | e <;> subst e <;> rfl
  show J S 0 0 g 0 [some (.ref 1), some (.int a0), some (.int a1), some (.int a2), some (.int a3), some (.ref 219), none] []
  refine J_aload hS dL_share_0 rfl ?_
  refine J_iconst (v := 0) hS dL_share_2 (by decide) ?_
  refine J_aload_n hS dL_share_3 rfl ?_
  refine J_iload_n hS dL_share_4 rfl ?_
  refine J_iload_n hS dL_share_5 rfl ?_
  refine J_iload_n hS dL_share_6 rfl ?_
  refine J_iload hS dL_share_7 rfl ?_
  refine J_callV4 (X' := fun C g' => (C = eIA ∧ Q (some (.int 1)) g')) hS dL_share_9 mvL_65 ob1 rfl (by omega) (by decide) (Nat.le_of_ble_eq_true rfl) ⟨by omega, by omega⟩ (fun C g' hx => ?_) (h.mono (fun r g' hq => ?_) (fun _ _ hx => hx))
  · obtain ⟨e, hq⟩ := hx
    subst e
    exact JX_h2 hS hZ hr [] ⟨0, 14, 17, 13⟩ [] (by rw [ht]; rfl) (fun z hz => nomatch hz) (by decide) (by decide) clL_13 (by decide) rfl dL_share_17 (Nat.le_of_ble_eq_true rfl) dL_share_19 (by decide) dL_share_20 (by omega) (by omega) hq
  · obtain ⟨v, e, hq⟩ := hq
    subst e
    show J S (0 + mc) (0 + ms) g' 12 [some (.ref 1), some (.int a0), some (.int a1), some (.int a2), some (.int a3), some (.ref 219), none] [.int v, .int 0, .ref 219]
    refine J_i2l hS dL_share_12 ?_
    refine J_last (x := v) hS dL_share_13 al219 (by unfold vp_in; decide) rfl (fun g2 e2 => ?_)
    have e2 : g2 = u2 g' 219 0 v := e2
    refine J_goto (tgt := 21) hS dL_share_14 (by decide) ?_
    refine J_iconst (v := 0) hS dL_share_21 (by decide) ?_
    refine J_iret hS hZ hr dL_share_22 (by omega) (by omega) ?_
    rw [e2]; exact hq
set_option maxRecDepth 100000 in
theorem kw_held : Cond.codeWith yL_held cL_held 5 (some .int) [(0, 10, 13, 13)] ∈ gw := gw_t 1076 (by rfl) (by rfl)
set_option maxRecDepth 100000 in
theorem msw_held : MSW RL 210 yL_held cL_held 5 (some .int) [(0, 10, 13, 13)] 4 := ⟨gw_t 1074 (by rfl) (by rfl), gw_t 1075 (by rfl) (by rfl), in_YardTalkLaw, kw_held, by decide +kernel, by decide +kernel⟩
theorem w_held {a0 a1 : Int32} (h : Ct l E lay NC d mc ms yX7_held [.ref 1, .int a0, .int a1] g (fun r g' => ∃ v : Int32, r = some (.int v) ∧ Q (some (.int 0)) (u2 g' 219 0 v)) (fun C g' => (C = eIA ∧ Q (some (.int 1)) g'))) : Ct l E lay NC (d + 1) mc ms yL_held [.ref 1, .int a0, .int a1, .ref 219] g Q X := by
  refine Ct_ofH (by decide) kw_held (fun v hv => ?_) (Nat.le_of_ble_eq_true rfl) (fun S hS hZ hr ht hR => ?_)
  · simp only [List.mem_cons, List.not_mem_nil, or_false] at hv
    rcases hv with e | e | e | e <;> subst e <;> rfl
  show J S 0 0 g 0 [some (.ref 1), some (.int a0), some (.int a1), some (.ref 219), none] []
  refine J_aload_n hS dL_held_0 rfl ?_
  refine J_iconst (v := 0) hS dL_held_1 (by decide) ?_
  refine J_aload_n hS dL_held_2 rfl ?_
  refine J_iload_n hS dL_held_3 rfl ?_
  refine J_iload_n hS dL_held_4 rfl ?_
  refine J_callV2 (X' := fun C g' => (C = eIA ∧ Q (some (.int 1)) g')) hS dL_held_5 mvL_69 ob1 rfl (by omega) (by decide) (Nat.le_of_ble_eq_true rfl) ⟨by omega, by omega⟩ (fun C g' hx => ?_) (h.mono (fun r g' hq => ?_) (fun _ _ hx => hx))
  · obtain ⟨e, hq⟩ := hx
    subst e
    exact JX_h2 hS hZ hr [] ⟨0, 10, 13, 13⟩ [] (by rw [ht]; rfl) (fun z hz => nomatch hz) (by decide) (by decide) clL_13 (by decide) rfl dL_held_13 (Nat.le_of_ble_eq_true rfl) dL_held_15 (by decide) dL_held_16 (by omega) (by omega) hq
  · obtain ⟨v, e, hq⟩ := hq
    subst e
    show J S (0 + mc) (0 + ms) g' 8 [some (.ref 1), some (.int a0), some (.int a1), some (.ref 219), none] [.int v, .int 0, .ref 219]
    refine J_i2l hS dL_held_8 ?_
    refine J_last (x := v) hS dL_held_9 al219 (by unfold vp_in; decide) rfl (fun g2 e2 => ?_)
    have e2 : g2 = u2 g' 219 0 v := e2
    refine J_goto (tgt := 17) hS dL_held_10 (by decide) ?_
    refine J_iconst (v := 0) hS dL_held_17 (by decide) ?_
    refine J_iret hS hZ hr dL_held_18 (by omega) (by omega) ?_
    rw [e2]; exact hq
set_option maxRecDepth 100000 in
theorem kw_first : Cond.codeWith yL_first cL_first 5 (some .int) [(0, 10, 13, 13)] ∈ gw := gw_t 1088 (by rfl) (by rfl)
set_option maxRecDepth 100000 in
theorem msw_first : MSW RL 213 yL_first cL_first 5 (some .int) [(0, 10, 13, 13)] 4 := ⟨gw_t 1086 (by rfl) (by rfl), gw_t 1087 (by rfl) (by rfl), in_YardTalkLaw, kw_first, by decide +kernel, by decide +kernel⟩
theorem w_first {a0 a1 : Int32} (h : Ct l E lay NC d mc ms yX7_first [.ref 1, .int a0, .int a1] g (fun r g' => ∃ v : Int32, r = some (.int v) ∧ Q (some (.int 0)) (u2 g' 219 0 v)) (fun C g' => (C = eIA ∧ Q (some (.int 1)) g'))) : Ct l E lay NC (d + 1) mc ms yL_first [.ref 1, .int a0, .int a1, .ref 219] g Q X := by
  refine Ct_ofH (by decide) kw_first (fun v hv => ?_) (Nat.le_of_ble_eq_true rfl) (fun S hS hZ hr ht hR => ?_)
  · simp only [List.mem_cons, List.not_mem_nil, or_false] at hv
    rcases hv with e | e | e | e <;> subst e <;> rfl
  show J S 0 0 g 0 [some (.ref 1), some (.int a0), some (.int a1), some (.ref 219), none] []
  refine J_aload_n hS dL_first_0 rfl ?_
  refine J_iconst (v := 0) hS dL_first_1 (by decide) ?_
  refine J_aload_n hS dL_first_2 rfl ?_
  refine J_iload_n hS dL_first_3 rfl ?_
  refine J_iload_n hS dL_first_4 rfl ?_
  refine J_callV2 (X' := fun C g' => (C = eIA ∧ Q (some (.int 1)) g')) hS dL_first_5 mvL_72 ob1 rfl (by omega) (by decide) (Nat.le_of_ble_eq_true rfl) ⟨by omega, by omega⟩ (fun C g' hx => ?_) (h.mono (fun r g' hq => ?_) (fun _ _ hx => hx))
  · obtain ⟨e, hq⟩ := hx
    subst e
    exact JX_h2 hS hZ hr [] ⟨0, 10, 13, 13⟩ [] (by rw [ht]; rfl) (fun z hz => nomatch hz) (by decide) (by decide) clL_13 (by decide) rfl dL_first_13 (Nat.le_of_ble_eq_true rfl) dL_first_15 (by decide) dL_first_16 (by omega) (by omega) hq
  · obtain ⟨v, e, hq⟩ := hq
    subst e
    show J S (0 + mc) (0 + ms) g' 8 [some (.ref 1), some (.int a0), some (.int a1), some (.ref 219), none] [.int v, .int 0, .ref 219]
    refine J_i2l hS dL_first_8 ?_
    refine J_last (x := v) hS dL_first_9 al219 (by unfold vp_in; decide) rfl (fun g2 e2 => ?_)
    have e2 : g2 = u2 g' 219 0 v := e2
    refine J_goto (tgt := 17) hS dL_first_10 (by decide) ?_
    refine J_iconst (v := 0) hS dL_first_17 (by decide) ?_
    refine J_iret hS hZ hr dL_first_18 (by omega) (by omega) ?_
    rw [e2]; exact hq
set_option maxRecDepth 100000 in
theorem kw_back : Cond.codeWith yL_back cL_back 6 (some .int) [(0, 12, 15, 19), (0, 12, 19, 13)] ∈ gw := gw_t 1095 (by rfl) (by rfl)
set_option maxRecDepth 100000 in
theorem msw_back : MSW RL 216 yL_back cL_back 6 (some .int) [(0, 12, 15, 19), (0, 12, 19, 13)] 5 := ⟨gw_t 1093 (by rfl) (by rfl), gw_t 1094 (by rfl) (by rfl), in_YardTalkLaw, kw_back, by decide +kernel, by decide +kernel⟩
theorem w_back {a0 a1 a2 : Int32} (h : Ct l E lay NC d mc ms yX7_back [.ref 1, .int a0, .int a1, .int a2] g (fun r g' => ∃ v : Int32, r = some (.int v) ∧ Q (some (.int 0)) (u2 g' 219 0 v)) (fun C g' => (C = eNS ∧ Q (some (.int 1)) g') ∨ (C = eIA ∧ Q (some (.int 2)) g'))) : Ct l E lay NC (d + 1) mc ms yL_back [.ref 1, .int a0, .int a1, .int a2, .ref 219] g Q X := by
  refine Ct_ofH (by decide) kw_back (fun v hv => ?_) (Nat.le_of_ble_eq_true rfl) (fun S hS hZ hr ht hR => ?_)
  · simp only [List.mem_cons, List.not_mem_nil, or_false] at hv
    rcases hv with e | e | e | e | e <;> subst e <;> rfl
  show J S 0 0 g 0 [some (.ref 1), some (.int a0), some (.int a1), some (.int a2), some (.ref 219), none] []
  refine J_aload hS dL_back_0 rfl ?_
  refine J_iconst (v := 0) hS dL_back_2 (by decide) ?_
  refine J_aload_n hS dL_back_3 rfl ?_
  refine J_iload_n hS dL_back_4 rfl ?_
  refine J_iload_n hS dL_back_5 rfl ?_
  refine J_iload_n hS dL_back_6 rfl ?_
  refine J_callV3 (X' := fun C g' => (C = eNS ∧ Q (some (.int 1)) g') ∨ (C = eIA ∧ Q (some (.int 2)) g')) hS dL_back_7 mvL_75 ob1 rfl (by omega) (by decide) (Nat.le_of_ble_eq_true rfl) ⟨by omega, by omega⟩ (fun C g' hx => ?_) (h.mono (fun r g' hq => ?_) (fun _ _ hx => hx))
  · rcases hx with ⟨e, hq⟩ | ⟨e, hq⟩
    · subst e
      exact JX_h2 hS hZ hr [] ⟨0, 12, 15, 19⟩ [⟨0, 12, 19, 13⟩] (by rw [ht]; rfl) (fun z hz => nomatch hz) (by decide) (by decide) clL_19 (by decide) rfl dL_back_15 (Nat.le_of_ble_eq_true rfl) dL_back_17 (by decide) dL_back_18 (by omega) (by omega) hq
    · subst e
      exact JX_h2 hS hZ hr [⟨0, 12, 15, 19⟩] ⟨0, 12, 19, 13⟩ [] (by rw [ht]; rfl) (fun z hz => by cases List.mem_singleton.mp hz; exact ⟨(by decide : 19 ≠ 0), _, clL_19, by decide⟩) (by decide) (by decide) clL_13 (by decide) rfl dL_back_19 (Nat.le_of_ble_eq_true rfl) dL_back_21 (by decide) dL_back_22 (by omega) (by omega) hq
  · obtain ⟨v, e, hq⟩ := hq
    subst e
    show J S (0 + mc) (0 + ms) g' 10 [some (.ref 1), some (.int a0), some (.int a1), some (.int a2), some (.ref 219), none] [.int v, .int 0, .ref 219]
    refine J_i2l hS dL_back_10 ?_
    refine J_last (x := v) hS dL_back_11 al219 (by unfold vp_in; decide) rfl (fun g2 e2 => ?_)
    have e2 : g2 = u2 g' 219 0 v := e2
    refine J_goto (tgt := 23) hS dL_back_12 (by decide) ?_
    refine J_iconst (v := 0) hS dL_back_23 (by decide) ?_
    refine J_iret hS hZ hr dL_back_24 (by omega) (by omega) ?_
    rw [e2]; exact hq
set_option maxRecDepth 100000 in
theorem kw_uses : Cond.codeWith yL_uses cL_uses 5 (some .int) [(0, 10, 13, 13)] ∈ gw := gw_t 1106 (by rfl) (by rfl)
set_option maxRecDepth 100000 in
theorem msw_uses : MSW RL 219 yL_uses cL_uses 5 (some .int) [(0, 10, 13, 13)] 4 := ⟨gw_t 1104 (by rfl) (by rfl), gw_t 1105 (by rfl) (by rfl), in_YardTalkLaw, kw_uses, by decide +kernel, by decide +kernel⟩
theorem w_uses {a0 a1 : Int32} (h : Ct l E lay NC d mc ms yX7_uses [.ref 1, .int a0, .int a1] g (fun r g' => ∃ v : Int32, r = some (.int v) ∧ Q (some (.int 0)) (u2 g' 219 0 v)) (fun C g' => (C = eIA ∧ Q (some (.int 1)) g'))) : Ct l E lay NC (d + 1) mc ms yL_uses [.ref 1, .int a0, .int a1, .ref 219] g Q X := by
  refine Ct_ofH (by decide) kw_uses (fun v hv => ?_) (Nat.le_of_ble_eq_true rfl) (fun S hS hZ hr ht hR => ?_)
  · simp only [List.mem_cons, List.not_mem_nil, or_false] at hv
    rcases hv with e | e | e | e <;> subst e <;> rfl
  show J S 0 0 g 0 [some (.ref 1), some (.int a0), some (.int a1), some (.ref 219), none] []
  refine J_aload_n hS dL_uses_0 rfl ?_
  refine J_iconst (v := 0) hS dL_uses_1 (by decide) ?_
  refine J_aload_n hS dL_uses_2 rfl ?_
  refine J_iload_n hS dL_uses_3 rfl ?_
  refine J_iload_n hS dL_uses_4 rfl ?_
  refine J_callV2 (X' := fun C g' => (C = eIA ∧ Q (some (.int 1)) g')) hS dL_uses_5 mvL_78 ob1 rfl (by omega) (by decide) (Nat.le_of_ble_eq_true rfl) ⟨by omega, by omega⟩ (fun C g' hx => ?_) (h.mono (fun r g' hq => ?_) (fun _ _ hx => hx))
  · obtain ⟨e, hq⟩ := hx
    subst e
    exact JX_h2 hS hZ hr [] ⟨0, 10, 13, 13⟩ [] (by rw [ht]; rfl) (fun z hz => nomatch hz) (by decide) (by decide) clL_13 (by decide) rfl dL_uses_13 (Nat.le_of_ble_eq_true rfl) dL_uses_15 (by decide) dL_uses_16 (by omega) (by omega) hq
  · obtain ⟨v, e, hq⟩ := hq
    subst e
    show J S (0 + mc) (0 + ms) g' 8 [some (.ref 1), some (.int a0), some (.int a1), some (.ref 219), none] [.int v, .int 0, .ref 219]
    refine J_i2l hS dL_uses_8 ?_
    refine J_last (x := v) hS dL_uses_9 al219 (by unfold vp_in; decide) rfl (fun g2 e2 => ?_)
    have e2 : g2 = u2 g' 219 0 v := e2
    refine J_goto (tgt := 17) hS dL_uses_10 (by decide) ?_
    refine J_iconst (v := 0) hS dL_uses_17 (by decide) ?_
    refine J_iret hS hZ hr dL_uses_18 (by omega) (by omega) ?_
    rw [e2]; exact hq
set_option maxRecDepth 100000 in
theorem kw_seen : Cond.codeWith yL_seen cL_seen 5 (some .int) [(0, 10, 13, 13)] ∈ gw := gw_t 1113 (by rfl) (by rfl)
set_option maxRecDepth 100000 in
theorem msw_seen : MSW RL 222 yL_seen cL_seen 5 (some .int) [(0, 10, 13, 13)] 4 := ⟨gw_t 1111 (by rfl) (by rfl), gw_t 1112 (by rfl) (by rfl), in_YardTalkLaw, kw_seen, by decide +kernel, by decide +kernel⟩
theorem w_seen {a0 a1 : Int32} (h : Ct l E lay NC d mc ms yX7_seen [.ref 1, .int a0, .int a1] g (fun r g' => ∃ v : Int32, r = some (.int v) ∧ Q (some (.int 0)) (u2 g' 219 0 v)) (fun C g' => (C = eIA ∧ Q (some (.int 1)) g'))) : Ct l E lay NC (d + 1) mc ms yL_seen [.ref 1, .int a0, .int a1, .ref 219] g Q X := by
  refine Ct_ofH (by decide) kw_seen (fun v hv => ?_) (Nat.le_of_ble_eq_true rfl) (fun S hS hZ hr ht hR => ?_)
  · simp only [List.mem_cons, List.not_mem_nil, or_false] at hv
    rcases hv with e | e | e | e <;> subst e <;> rfl
  show J S 0 0 g 0 [some (.ref 1), some (.int a0), some (.int a1), some (.ref 219), none] []
  refine J_aload_n hS dL_seen_0 rfl ?_
  refine J_iconst (v := 0) hS dL_seen_1 (by decide) ?_
  refine J_aload_n hS dL_seen_2 rfl ?_
  refine J_iload_n hS dL_seen_3 rfl ?_
  refine J_iload_n hS dL_seen_4 rfl ?_
  refine J_callV2 (X' := fun C g' => (C = eIA ∧ Q (some (.int 1)) g')) hS dL_seen_5 mvL_81 ob1 rfl (by omega) (by decide) (Nat.le_of_ble_eq_true rfl) ⟨by omega, by omega⟩ (fun C g' hx => ?_) (h.mono (fun r g' hq => ?_) (fun _ _ hx => hx))
  · obtain ⟨e, hq⟩ := hx
    subst e
    exact JX_h2 hS hZ hr [] ⟨0, 10, 13, 13⟩ [] (by rw [ht]; rfl) (fun z hz => nomatch hz) (by decide) (by decide) clL_13 (by decide) rfl dL_seen_13 (Nat.le_of_ble_eq_true rfl) dL_seen_15 (by decide) dL_seen_16 (by omega) (by omega) hq
  · obtain ⟨v, e, hq⟩ := hq
    subst e
    show J S (0 + mc) (0 + ms) g' 8 [some (.ref 1), some (.int a0), some (.int a1), some (.ref 219), none] [.int v, .int 0, .ref 219]
    refine J_i2l hS dL_seen_8 ?_
    refine J_last (x := v) hS dL_seen_9 al219 (by unfold vp_in; decide) rfl (fun g2 e2 => ?_)
    have e2 : g2 = u2 g' 219 0 v := e2
    refine J_goto (tgt := 17) hS dL_seen_10 (by decide) ?_
    refine J_iconst (v := 0) hS dL_seen_17 (by decide) ?_
    refine J_iret hS hZ hr dL_seen_18 (by omega) (by omega) ?_
    rw [e2]; exact hq
set_option maxRecDepth 100000 in
theorem kw_gap : Cond.codeWith yL_gap cL_gap 5 (some .int) [(0, 10, 13, 53), (0, 10, 17, 13)] ∈ gw := gw_t 1121 (by rfl) (by rfl)
set_option maxRecDepth 100000 in
theorem msw_gap : MSW RL 233 yL_gap cL_gap 5 (some .int) [(0, 10, 13, 53), (0, 10, 17, 13)] 4 := ⟨gw_t 1119 (by rfl) (by rfl), gw_t 1120 (by rfl) (by rfl), in_YardTalkLaw, kw_gap, by decide +kernel, by decide +kernel⟩
theorem w_gap {a0 a1 : Int32} (h : Ct l E lay NC d mc ms yX7_gap [.ref 1, .int a0, .int a1] g (fun r g' => ∃ v : Int32, r = some (.int v) ∧ Q (some (.int 0)) (u2 g' 219 0 v)) (fun C g' => (C = eIB ∧ Q (some (.int 1)) g') ∨ (C = eIA ∧ Q (some (.int 2)) g'))) : Ct l E lay NC (d + 1) mc ms yL_gap [.ref 1, .int a0, .int a1, .ref 219] g Q X := by
  refine Ct_ofH (by decide) kw_gap (fun v hv => ?_) (Nat.le_of_ble_eq_true rfl) (fun S hS hZ hr ht hR => ?_)
  · simp only [List.mem_cons, List.not_mem_nil, or_false] at hv
    rcases hv with e | e | e | e <;> subst e <;> rfl
  show J S 0 0 g 0 [some (.ref 1), some (.int a0), some (.int a1), some (.ref 219), none] []
  refine J_aload_n hS dL_gap_0 rfl ?_
  refine J_iconst (v := 0) hS dL_gap_1 (by decide) ?_
  refine J_aload_n hS dL_gap_2 rfl ?_
  refine J_iload_n hS dL_gap_3 rfl ?_
  refine J_iload_n hS dL_gap_4 rfl ?_
  refine J_callV2 (X' := fun C g' => (C = eIB ∧ Q (some (.int 1)) g') ∨ (C = eIA ∧ Q (some (.int 2)) g')) hS dL_gap_5 mvL_84 ob1 rfl (by omega) (by decide) (Nat.le_of_ble_eq_true rfl) ⟨by omega, by omega⟩ (fun C g' hx => ?_) (h.mono (fun r g' hq => ?_) (fun _ _ hx => hx))
  · rcases hx with ⟨e, hq⟩ | ⟨e, hq⟩
    · subst e
      exact JX_h2 hS hZ hr [] ⟨0, 10, 13, 53⟩ [⟨0, 10, 17, 13⟩] (by rw [ht]; rfl) (fun z hz => nomatch hz) (by decide) (by decide) clL_53 (by decide) rfl dL_gap_13 (Nat.le_of_ble_eq_true rfl) dL_gap_15 (by decide) dL_gap_16 (by omega) (by omega) hq
    · subst e
      exact JX_h2 hS hZ hr [⟨0, 10, 13, 53⟩] ⟨0, 10, 17, 13⟩ [] (by rw [ht]; rfl) (fun z hz => by cases List.mem_singleton.mp hz; exact ⟨(by decide : 53 ≠ 0), _, clL_53, by decide⟩) (by decide) (by decide) clL_13 (by decide) rfl dL_gap_17 (Nat.le_of_ble_eq_true rfl) dL_gap_19 (by decide) dL_gap_20 (by omega) (by omega) hq
  · obtain ⟨v, e, hq⟩ := hq
    subst e
    show J S (0 + mc) (0 + ms) g' 8 [some (.ref 1), some (.int a0), some (.int a1), some (.ref 219), none] [.int v, .int 0, .ref 219]
    refine J_i2l hS dL_gap_8 ?_
    refine J_last (x := v) hS dL_gap_9 al219 (by unfold vp_in; decide) rfl (fun g2 e2 => ?_)
    have e2 : g2 = u2 g' 219 0 v := e2
    refine J_goto (tgt := 21) hS dL_gap_10 (by decide) ?_
    refine J_iconst (v := 0) hS dL_gap_21 (by decide) ?_
    refine J_iret hS hZ hr dL_gap_22 (by omega) (by omega) ?_
    rw [e2]; exact hq
set_option maxRecDepth 100000 in
theorem kw_fits : Cond.codeWith yL_fits cL_fits 5 (some .int) [(0, 10, 13, 53)] ∈ gw := gw_t 1134 (by rfl) (by rfl)
set_option maxRecDepth 100000 in
theorem msw_fits : MSW RL 236 yL_fits cL_fits 5 (some .int) [(0, 10, 13, 53)] 4 := ⟨gw_t 1132 (by rfl) (by rfl), gw_t 1133 (by rfl) (by rfl), in_YardTalkLaw, kw_fits, by decide +kernel, by decide +kernel⟩
theorem w_fits {a0 a1 : Int32} (h : Ct l E lay NC d mc ms yX7_fits [.ref 1, .int a0, .int a1] g (fun r g' => ∃ v : Int32, r = some (.int v) ∧ Q (some (.int 0)) (u2 g' 219 0 v)) (fun C g' => (C = eIB ∧ Q (some (.int 1)) g'))) : Ct l E lay NC (d + 1) mc ms yL_fits [.ref 1, .int a0, .int a1, .ref 219] g Q X := by
  refine Ct_ofH (by decide) kw_fits (fun v hv => ?_) (Nat.le_of_ble_eq_true rfl) (fun S hS hZ hr ht hR => ?_)
  · simp only [List.mem_cons, List.not_mem_nil, or_false] at hv
    rcases hv with e | e | e | e <;> subst e <;> rfl
  show J S 0 0 g 0 [some (.ref 1), some (.int a0), some (.int a1), some (.ref 219), none] []
  refine J_aload_n hS dL_fits_0 rfl ?_
  refine J_iconst (v := 0) hS dL_fits_1 (by decide) ?_
  refine J_aload_n hS dL_fits_2 rfl ?_
  refine J_iload_n hS dL_fits_3 rfl ?_
  refine J_iload_n hS dL_fits_4 rfl ?_
  refine J_callV2 (X' := fun C g' => (C = eIB ∧ Q (some (.int 1)) g')) hS dL_fits_5 mvL_87 ob1 rfl (by omega) (by decide) (Nat.le_of_ble_eq_true rfl) ⟨by omega, by omega⟩ (fun C g' hx => ?_) (h.mono (fun r g' hq => ?_) (fun _ _ hx => hx))
  · obtain ⟨e, hq⟩ := hx
    subst e
    exact JX_h2 hS hZ hr [] ⟨0, 10, 13, 53⟩ [] (by rw [ht]; rfl) (fun z hz => nomatch hz) (by decide) (by decide) clL_53 (by decide) rfl dL_fits_13 (Nat.le_of_ble_eq_true rfl) dL_fits_15 (by decide) dL_fits_16 (by omega) (by omega) hq
  · obtain ⟨v, e, hq⟩ := hq
    subst e
    show J S (0 + mc) (0 + ms) g' 8 [some (.ref 1), some (.int a0), some (.int a1), some (.ref 219), none] [.int v, .int 0, .ref 219]
    refine J_i2l hS dL_fits_8 ?_
    refine J_last (x := v) hS dL_fits_9 al219 (by unfold vp_in; decide) rfl (fun g2 e2 => ?_)
    have e2 : g2 = u2 g' 219 0 v := e2
    refine J_goto (tgt := 17) hS dL_fits_10 (by decide) ?_
    refine J_iconst (v := 0) hS dL_fits_17 (by decide) ?_
    refine J_iret hS hZ hr dL_fits_18 (by omega) (by omega) ?_
    rw [e2]; exact hq
set_option maxRecDepth 100000 in
theorem kw_trial : Cond.codeWith yL_trial cL_trial 7 (some .int) [(0, 14, 17, 53), (0, 14, 21, 13)] ∈ gw := gw_t 1141 (by rfl) (by rfl)
set_option maxRecDepth 100000 in
theorem msw_trial : MSW RL 243 yL_trial cL_trial 7 (some .int) [(0, 14, 17, 53), (0, 14, 21, 13)] 6 := ⟨gw_t 1139 (by rfl) (by rfl), gw_t 1140 (by rfl) (by rfl), in_YardTalkLaw, kw_trial, by decide +kernel, by decide +kernel⟩
theorem w_trial {a0 a1 a2 a3 : Int32} (h : Ct l E lay NC d mc ms yX7_trial [.ref 1, .int a0, .int a1, .int a2, .int a3] g (fun r g' => ∃ v : Int32, r = some (.int v) ∧ Q (some (.int 0)) (u2 g' 219 0 v)) (fun C g' => (C = eIB ∧ Q (some (.int 1)) g') ∨ (C = eIA ∧ Q (some (.int 2)) g'))) : Ct l E lay NC (d + 1) mc ms yL_trial [.ref 1, .int a0, .int a1, .int a2, .int a3, .ref 219] g Q X := by
  refine Ct_ofH (by decide) kw_trial (fun v hv => ?_) (Nat.le_of_ble_eq_true rfl) (fun S hS hZ hr ht hR => ?_)
  · simp only [List.mem_cons, List.not_mem_nil, or_false] at hv
    rcases hv with e | e | e | e | e | e <;> subst e <;> rfl
  show J S 0 0 g 0 [some (.ref 1), some (.int a0), some (.int a1), some (.int a2), some (.int a3), some (.ref 219), none] []
  refine J_aload hS dL_trial_0 rfl ?_
  refine J_iconst (v := 0) hS dL_trial_2 (by decide) ?_
  refine J_aload_n hS dL_trial_3 rfl ?_
  refine J_iload_n hS dL_trial_4 rfl ?_
  refine J_iload_n hS dL_trial_5 rfl ?_
  refine J_iload_n hS dL_trial_6 rfl ?_
  refine J_iload hS dL_trial_7 rfl ?_
  refine J_callV4 (X' := fun C g' => (C = eIB ∧ Q (some (.int 1)) g') ∨ (C = eIA ∧ Q (some (.int 2)) g')) hS dL_trial_9 mvL_90 ob1 rfl (by omega) (by decide) (Nat.le_of_ble_eq_true rfl) ⟨by omega, by omega⟩ (fun C g' hx => ?_) (h.mono (fun r g' hq => ?_) (fun _ _ hx => hx))
  · rcases hx with ⟨e, hq⟩ | ⟨e, hq⟩
    · subst e
      exact JX_h2 hS hZ hr [] ⟨0, 14, 17, 53⟩ [⟨0, 14, 21, 13⟩] (by rw [ht]; rfl) (fun z hz => nomatch hz) (by decide) (by decide) clL_53 (by decide) rfl dL_trial_17 (Nat.le_of_ble_eq_true rfl) dL_trial_19 (by decide) dL_trial_20 (by omega) (by omega) hq
    · subst e
      exact JX_h2 hS hZ hr [⟨0, 14, 17, 53⟩] ⟨0, 14, 21, 13⟩ [] (by rw [ht]; rfl) (fun z hz => by cases List.mem_singleton.mp hz; exact ⟨(by decide : 53 ≠ 0), _, clL_53, by decide⟩) (by decide) (by decide) clL_13 (by decide) rfl dL_trial_21 (Nat.le_of_ble_eq_true rfl) dL_trial_23 (by decide) dL_trial_24 (by omega) (by omega) hq
  · obtain ⟨v, e, hq⟩ := hq
    subst e
    show J S (0 + mc) (0 + ms) g' 12 [some (.ref 1), some (.int a0), some (.int a1), some (.int a2), some (.int a3), some (.ref 219), none] [.int v, .int 0, .ref 219]
    refine J_i2l hS dL_trial_12 ?_
    refine J_last (x := v) hS dL_trial_13 al219 (by unfold vp_in; decide) rfl (fun g2 e2 => ?_)
    have e2 : g2 = u2 g' 219 0 v := e2
    refine J_goto (tgt := 25) hS dL_trial_14 (by decide) ?_
    refine J_iconst (v := 0) hS dL_trial_25 (by decide) ?_
    refine J_iret hS hZ hr dL_trial_26 (by omega) (by omega) ?_
    rw [e2]; exact hq
set_option maxRecDepth 100000 in
theorem kw_fewest : Cond.codeWith yL_fewest cL_fewest 7 (some .int) [(0, 14, 17, 13)] ∈ gw := gw_t 1155 (by rfl) (by rfl)
set_option maxRecDepth 100000 in
theorem msw_fewest : MSW RL 247 yL_fewest cL_fewest 7 (some .int) [(0, 14, 17, 13)] 6 := ⟨gw_t 1153 (by rfl) (by rfl), gw_t 1154 (by rfl) (by rfl), in_YardTalkLaw, kw_fewest, by decide +kernel, by decide +kernel⟩
theorem w_fewest {a0 a1 a2 a3 : Int32} (h : Ct l E lay NC d mc ms yX7_fewest [.ref 1, .int a0, .int a1, .int a2, .int a3] g (fun r g' => ∃ v : Int32, r = some (.int v) ∧ Q (some (.int 0)) (u2 g' 219 0 v)) (fun C g' => (C = eIA ∧ Q (some (.int 1)) g'))) : Ct l E lay NC (d + 1) mc ms yL_fewest [.ref 1, .int a0, .int a1, .int a2, .int a3, .ref 219] g Q X := by
  refine Ct_ofH (by decide) kw_fewest (fun v hv => ?_) (Nat.le_of_ble_eq_true rfl) (fun S hS hZ hr ht hR => ?_)
  · simp only [List.mem_cons, List.not_mem_nil, or_false] at hv
    rcases hv with e | e | e | e | e | e <;> subst e <;> rfl
  show J S 0 0 g 0 [some (.ref 1), some (.int a0), some (.int a1), some (.int a2), some (.int a3), some (.ref 219), none] []
  refine J_aload hS dL_fewest_0 rfl ?_
  refine J_iconst (v := 0) hS dL_fewest_2 (by decide) ?_
  refine J_aload_n hS dL_fewest_3 rfl ?_
  refine J_iload_n hS dL_fewest_4 rfl ?_
  refine J_iload_n hS dL_fewest_5 rfl ?_
  refine J_iload_n hS dL_fewest_6 rfl ?_
  refine J_iload hS dL_fewest_7 rfl ?_
  refine J_callV4 (X' := fun C g' => (C = eIA ∧ Q (some (.int 1)) g')) hS dL_fewest_9 mvL_94 ob1 rfl (by omega) (by decide) (Nat.le_of_ble_eq_true rfl) ⟨by omega, by omega⟩ (fun C g' hx => ?_) (h.mono (fun r g' hq => ?_) (fun _ _ hx => hx))
  · obtain ⟨e, hq⟩ := hx
    subst e
    exact JX_h2 hS hZ hr [] ⟨0, 14, 17, 13⟩ [] (by rw [ht]; rfl) (fun z hz => nomatch hz) (by decide) (by decide) clL_13 (by decide) rfl dL_fewest_17 (Nat.le_of_ble_eq_true rfl) dL_fewest_19 (by decide) dL_fewest_20 (by omega) (by omega) hq
  · obtain ⟨v, e, hq⟩ := hq
    subst e
    show J S (0 + mc) (0 + ms) g' 12 [some (.ref 1), some (.int a0), some (.int a1), some (.int a2), some (.int a3), some (.ref 219), none] [.int v, .int 0, .ref 219]
    refine J_i2l hS dL_fewest_12 ?_
    refine J_last (x := v) hS dL_fewest_13 al219 (by unfold vp_in; decide) rfl (fun g2 e2 => ?_)
    have e2 : g2 = u2 g' 219 0 v := e2
    refine J_goto (tgt := 21) hS dL_fewest_14 (by decide) ?_
    refine J_iconst (v := 0) hS dL_fewest_21 (by decide) ?_
    refine J_iret hS hZ hr dL_fewest_22 (by omega) (by omega) ?_
    rw [e2]; exact hq
set_option maxRecDepth 100000 in
theorem kw_needed : Cond.codeWith yL_needed cL_needed 6 (some .int) [(0, 12, 15, 13)] ∈ gw := gw_t 1167 (by rfl) (by rfl)
set_option maxRecDepth 100000 in
theorem msw_needed : MSW RL 250 yL_needed cL_needed 6 (some .int) [(0, 12, 15, 13)] 5 := ⟨gw_t 1165 (by rfl) (by rfl), gw_t 1166 (by rfl) (by rfl), in_YardTalkLaw, kw_needed, by decide +kernel, by decide +kernel⟩
theorem w_needed {a0 a1 a2 : Int32} (h : Ct l E lay NC d mc ms yX7_needed [.ref 1, .int a0, .int a1, .int a2] g (fun r g' => ∃ v : Int32, r = some (.int v) ∧ Q (some (.int 0)) (u2 g' 219 0 v)) (fun C g' => (C = eIA ∧ Q (some (.int 1)) g'))) : Ct l E lay NC (d + 1) mc ms yL_needed [.ref 1, .int a0, .int a1, .int a2, .ref 219] g Q X := by
  refine Ct_ofH (by decide) kw_needed (fun v hv => ?_) (Nat.le_of_ble_eq_true rfl) (fun S hS hZ hr ht hR => ?_)
  · simp only [List.mem_cons, List.not_mem_nil, or_false] at hv
    rcases hv with e | e | e | e | e <;> subst e <;> rfl
  show J S 0 0 g 0 [some (.ref 1), some (.int a0), some (.int a1), some (.int a2), some (.ref 219), none] []
  refine J_aload hS dL_needed_0 rfl ?_
  refine J_iconst (v := 0) hS dL_needed_2 (by decide) ?_
  refine J_aload_n hS dL_needed_3 rfl ?_
  refine J_iload_n hS dL_needed_4 rfl ?_
  refine J_iload_n hS dL_needed_5 rfl ?_
  refine J_iload_n hS dL_needed_6 rfl ?_
  refine J_callV3 (X' := fun C g' => (C = eIA ∧ Q (some (.int 1)) g')) hS dL_needed_7 mvL_97 ob1 rfl (by omega) (by decide) (Nat.le_of_ble_eq_true rfl) ⟨by omega, by omega⟩ (fun C g' hx => ?_) (h.mono (fun r g' hq => ?_) (fun _ _ hx => hx))
  · obtain ⟨e, hq⟩ := hx
    subst e
    exact JX_h2 hS hZ hr [] ⟨0, 12, 15, 13⟩ [] (by rw [ht]; rfl) (fun z hz => nomatch hz) (by decide) (by decide) clL_13 (by decide) rfl dL_needed_15 (Nat.le_of_ble_eq_true rfl) dL_needed_17 (by decide) dL_needed_18 (by omega) (by omega) hq
  · obtain ⟨v, e, hq⟩ := hq
    subst e
    show J S (0 + mc) (0 + ms) g' 10 [some (.ref 1), some (.int a0), some (.int a1), some (.int a2), some (.ref 219), none] [.int v, .int 0, .ref 219]
    refine J_i2l hS dL_needed_10 ?_
    refine J_last (x := v) hS dL_needed_11 al219 (by unfold vp_in; decide) rfl (fun g2 e2 => ?_)
    have e2 : g2 = u2 g' 219 0 v := e2
    refine J_goto (tgt := 19) hS dL_needed_12 (by decide) ?_
    refine J_iconst (v := 0) hS dL_needed_19 (by decide) ?_
    refine J_iret hS hZ hr dL_needed_20 (by omega) (by omega) ?_
    rw [e2]; exact hq
set_option maxRecDepth 100000 in
theorem kw_unlike : Cond.codeWith yL_unlike cL_unlike 5 (some .int) [(0, 10, 13, 13)] ∈ gw := gw_t 1174 (by rfl) (by rfl)
set_option maxRecDepth 100000 in
theorem msw_unlike : MSW RL 253 yL_unlike cL_unlike 5 (some .int) [(0, 10, 13, 13)] 4 := ⟨gw_t 1172 (by rfl) (by rfl), gw_t 1173 (by rfl) (by rfl), in_YardTalkLaw, kw_unlike, by decide +kernel, by decide +kernel⟩
theorem w_unlike {a0 a1 : Int32} (h : Ct l E lay NC d mc ms yX7_unlike [.ref 1, .int a0, .int a1] g (fun r g' => ∃ v : Int32, r = some (.int v) ∧ Q (some (.int 0)) (u2 g' 219 0 v)) (fun C g' => (C = eIA ∧ Q (some (.int 1)) g'))) : Ct l E lay NC (d + 1) mc ms yL_unlike [.ref 1, .int a0, .int a1, .ref 219] g Q X := by
  refine Ct_ofH (by decide) kw_unlike (fun v hv => ?_) (Nat.le_of_ble_eq_true rfl) (fun S hS hZ hr ht hR => ?_)
  · simp only [List.mem_cons, List.not_mem_nil, or_false] at hv
    rcases hv with e | e | e | e <;> subst e <;> rfl
  show J S 0 0 g 0 [some (.ref 1), some (.int a0), some (.int a1), some (.ref 219), none] []
  refine J_aload_n hS dL_unlike_0 rfl ?_
  refine J_iconst (v := 0) hS dL_unlike_1 (by decide) ?_
  refine J_aload_n hS dL_unlike_2 rfl ?_
  refine J_iload_n hS dL_unlike_3 rfl ?_
  refine J_iload_n hS dL_unlike_4 rfl ?_
  refine J_callV2 (X' := fun C g' => (C = eIA ∧ Q (some (.int 1)) g')) hS dL_unlike_5 mvL_100 ob1 rfl (by omega) (by decide) (Nat.le_of_ble_eq_true rfl) ⟨by omega, by omega⟩ (fun C g' hx => ?_) (h.mono (fun r g' hq => ?_) (fun _ _ hx => hx))
  · obtain ⟨e, hq⟩ := hx
    subst e
    exact JX_h2 hS hZ hr [] ⟨0, 10, 13, 13⟩ [] (by rw [ht]; rfl) (fun z hz => nomatch hz) (by decide) (by decide) clL_13 (by decide) rfl dL_unlike_13 (Nat.le_of_ble_eq_true rfl) dL_unlike_15 (by decide) dL_unlike_16 (by omega) (by omega) hq
  · obtain ⟨v, e, hq⟩ := hq
    subst e
    show J S (0 + mc) (0 + ms) g' 8 [some (.ref 1), some (.int a0), some (.int a1), some (.ref 219), none] [.int v, .int 0, .ref 219]
    refine J_i2l hS dL_unlike_8 ?_
    refine J_last (x := v) hS dL_unlike_9 al219 (by unfold vp_in; decide) rfl (fun g2 e2 => ?_)
    have e2 : g2 = u2 g' 219 0 v := e2
    refine J_goto (tgt := 17) hS dL_unlike_10 (by decide) ?_
    refine J_iconst (v := 0) hS dL_unlike_17 (by decide) ?_
    refine J_iret hS hZ hr dL_unlike_18 (by omega) (by omega) ?_
    rw [e2]; exact hq
set_option maxRecDepth 100000 in
theorem kw_meets : Cond.codeWith yL_meets cL_meets 5 (some .int) [(0, 10, 13, 19), (0, 10, 17, 13)] ∈ gw := gw_t 1193 (by rfl) (by rfl)
set_option maxRecDepth 100000 in
theorem msw_meets : MSW RL 256 yL_meets cL_meets 5 (some .int) [(0, 10, 13, 19), (0, 10, 17, 13)] 4 := ⟨gw_t 1191 (by rfl) (by rfl), gw_t 1192 (by rfl) (by rfl), in_YardTalkLaw, kw_meets, by decide +kernel, by decide +kernel⟩
theorem w_meets {a0 a1 : Int32} (h : Ct l E lay NC d mc ms yX7_meets [.ref 1, .int a0, .int a1] g (fun r g' => ∃ v : Int32, r = some (.int v) ∧ Q (some (.int 0)) (u2 g' 219 0 v)) (fun C g' => (C = eNS ∧ Q (some (.int 1)) g') ∨ (C = eIA ∧ Q (some (.int 2)) g'))) : Ct l E lay NC (d + 1) mc ms yL_meets [.ref 1, .int a0, .int a1, .ref 219] g Q X := by
  refine Ct_ofH (by decide) kw_meets (fun v hv => ?_) (Nat.le_of_ble_eq_true rfl) (fun S hS hZ hr ht hR => ?_)
  · simp only [List.mem_cons, List.not_mem_nil, or_false] at hv
    rcases hv with e | e | e | e <;> subst e <;> rfl
  show J S 0 0 g 0 [some (.ref 1), some (.int a0), some (.int a1), some (.ref 219), none] []
  refine J_aload_n hS dL_meets_0 rfl ?_
  refine J_iconst (v := 0) hS dL_meets_1 (by decide) ?_
  refine J_aload_n hS dL_meets_2 rfl ?_
  refine J_iload_n hS dL_meets_3 rfl ?_
  refine J_iload_n hS dL_meets_4 rfl ?_
  refine J_callV2 (X' := fun C g' => (C = eNS ∧ Q (some (.int 1)) g') ∨ (C = eIA ∧ Q (some (.int 2)) g')) hS dL_meets_5 mvL_103 ob1 rfl (by omega) (by decide) (Nat.le_of_ble_eq_true rfl) ⟨by omega, by omega⟩ (fun C g' hx => ?_) (h.mono (fun r g' hq => ?_) (fun _ _ hx => hx))
  · rcases hx with ⟨e, hq⟩ | ⟨e, hq⟩
    · subst e
      exact JX_h2 hS hZ hr [] ⟨0, 10, 13, 19⟩ [⟨0, 10, 17, 13⟩] (by rw [ht]; rfl) (fun z hz => nomatch hz) (by decide) (by decide) clL_19 (by decide) rfl dL_meets_13 (Nat.le_of_ble_eq_true rfl) dL_meets_15 (by decide) dL_meets_16 (by omega) (by omega) hq
    · subst e
      exact JX_h2 hS hZ hr [⟨0, 10, 13, 19⟩] ⟨0, 10, 17, 13⟩ [] (by rw [ht]; rfl) (fun z hz => by cases List.mem_singleton.mp hz; exact ⟨(by decide : 19 ≠ 0), _, clL_19, by decide⟩) (by decide) (by decide) clL_13 (by decide) rfl dL_meets_17 (Nat.le_of_ble_eq_true rfl) dL_meets_19 (by decide) dL_meets_20 (by omega) (by omega) hq
  · obtain ⟨v, e, hq⟩ := hq
    subst e
    show J S (0 + mc) (0 + ms) g' 8 [some (.ref 1), some (.int a0), some (.int a1), some (.ref 219), none] [.int v, .int 0, .ref 219]
    refine J_i2l hS dL_meets_8 ?_
    refine J_last (x := v) hS dL_meets_9 al219 (by unfold vp_in; decide) rfl (fun g2 e2 => ?_)
    have e2 : g2 = u2 g' 219 0 v := e2
    refine J_goto (tgt := 21) hS dL_meets_10 (by decide) ?_
    refine J_iconst (v := 0) hS dL_meets_21 (by decide) ?_
    refine J_iret hS hZ hr dL_meets_22 (by omega) (by omega) ?_
    rw [e2]; exact hq
set_option maxRecDepth 100000 in
theorem kw_plain : Cond.codeWith yL_plain cL_plain 4 (some .int) [(0, 9, 12, 19)] ∈ gw := gw_t 1207 (by rfl) (by rfl)
set_option maxRecDepth 100000 in
theorem msw_plain : MSW RL 267 yL_plain cL_plain 4 (some .int) [(0, 9, 12, 19)] 3 := ⟨gw_t 1205 (by rfl) (by rfl), gw_t 1206 (by rfl) (by rfl), in_YardTalkLaw, kw_plain, by decide +kernel, by decide +kernel⟩
theorem w_plain {a0 : Int32} (h : Ct l E lay NC d mc ms yX7_plain [.ref 1, .int a0] g (fun r g' => ∃ v : Int32, r = some (.int v) ∧ Q (some (.int 0)) (u2 g' 219 0 v)) (fun C g' => (C = eNS ∧ Q (some (.int 1)) g'))) : Ct l E lay NC (d + 1) mc ms yL_plain [.ref 1, .int a0, .ref 219] g Q X := by
  refine Ct_ofH (by decide) kw_plain (fun v hv => ?_) (Nat.le_of_ble_eq_true rfl) (fun S hS hZ hr ht hR => ?_)
  · simp only [List.mem_cons, List.not_mem_nil, or_false] at hv
    rcases hv with e | e | e <;> subst e <;> rfl
  show J S 0 0 g 0 [some (.ref 1), some (.int a0), some (.ref 219), none] []
  refine J_aload_n hS dL_plain_0 rfl ?_
  refine J_iconst (v := 0) hS dL_plain_1 (by decide) ?_
  refine J_aload_n hS dL_plain_2 rfl ?_
  refine J_iload_n hS dL_plain_3 rfl ?_
  refine J_callV1 (X' := fun C g' => (C = eNS ∧ Q (some (.int 1)) g')) hS dL_plain_4 mvL_106 ob1 rfl (by omega) (by decide) (Nat.le_of_ble_eq_true rfl) ⟨by omega, by omega⟩ (fun C g' hx => ?_) (h.mono (fun r g' hq => ?_) (fun _ _ hx => hx))
  · obtain ⟨e, hq⟩ := hx
    subst e
    exact JX_h1 hS hZ hr [] ⟨0, 9, 12, 19⟩ [] (by rw [ht]; rfl) (fun z hz => nomatch hz) (by decide) (by decide) clL_19 (by decide) rfl dL_plain_12 (Nat.le_of_ble_eq_true rfl) dL_plain_13 (by decide) dL_plain_14 (by omega) (by omega) hq
  · obtain ⟨v, e, hq⟩ := hq
    subst e
    show J S (0 + mc) (0 + ms) g' 7 [some (.ref 1), some (.int a0), some (.ref 219), none] [.int v, .int 0, .ref 219]
    refine J_i2l hS dL_plain_7 ?_
    refine J_last (x := v) hS dL_plain_8 al219 (by unfold vp_in; decide) rfl (fun g2 e2 => ?_)
    have e2 : g2 = u2 g' 219 0 v := e2
    refine J_goto (tgt := 15) hS dL_plain_9 (by decide) ?_
    refine J_iconst (v := 0) hS dL_plain_15 (by decide) ?_
    refine J_iret hS hZ hr dL_plain_16 (by omega) (by omega) ?_
    rw [e2]; exact hq
set_option maxRecDepth 100000 in
theorem kw_word : Cond.codeWith yL_word cL_word 5 (some .int) [(0, 10, 13, 13)] ∈ gw := gw_t 1224 (by rfl) (by rfl)
set_option maxRecDepth 100000 in
theorem msw_word : MSW RL 270 yL_word cL_word 5 (some .int) [(0, 10, 13, 13)] 4 := ⟨gw_t 1222 (by rfl) (by rfl), gw_t 1223 (by rfl) (by rfl), in_YardTalkLaw, kw_word, by decide +kernel, by decide +kernel⟩
theorem w_word {a0 a1 : Int32} (h : Ct l E lay NC d mc ms yX7_word [.ref 1, .int a0, .int a1] g (fun r g' => ∃ v : Int32, r = some (.int v) ∧ Q (some (.int 0)) (u2 g' 219 0 v)) (fun C g' => (C = eIA ∧ Q (some (.int 1)) g'))) : Ct l E lay NC (d + 1) mc ms yL_word [.ref 1, .int a0, .int a1, .ref 219] g Q X := by
  refine Ct_ofH (by decide) kw_word (fun v hv => ?_) (Nat.le_of_ble_eq_true rfl) (fun S hS hZ hr ht hR => ?_)
  · simp only [List.mem_cons, List.not_mem_nil, or_false] at hv
    rcases hv with e | e | e | e <;> subst e <;> rfl
  show J S 0 0 g 0 [some (.ref 1), some (.int a0), some (.int a1), some (.ref 219), none] []
  refine J_aload_n hS dL_word_0 rfl ?_
  refine J_iconst (v := 0) hS dL_word_1 (by decide) ?_
  refine J_aload_n hS dL_word_2 rfl ?_
  refine J_iload_n hS dL_word_3 rfl ?_
  refine J_iload_n hS dL_word_4 rfl ?_
  refine J_callV2 (X' := fun C g' => (C = eIA ∧ Q (some (.int 1)) g')) hS dL_word_5 mvL_109 ob1 rfl (by omega) (by decide) (Nat.le_of_ble_eq_true rfl) ⟨by omega, by omega⟩ (fun C g' hx => ?_) (h.mono (fun r g' hq => ?_) (fun _ _ hx => hx))
  · obtain ⟨e, hq⟩ := hx
    subst e
    exact JX_h2 hS hZ hr [] ⟨0, 10, 13, 13⟩ [] (by rw [ht]; rfl) (fun z hz => nomatch hz) (by decide) (by decide) clL_13 (by decide) rfl dL_word_13 (Nat.le_of_ble_eq_true rfl) dL_word_15 (by decide) dL_word_16 (by omega) (by omega) hq
  · obtain ⟨v, e, hq⟩ := hq
    subst e
    show J S (0 + mc) (0 + ms) g' 8 [some (.ref 1), some (.int a0), some (.int a1), some (.ref 219), none] [.int v, .int 0, .ref 219]
    refine J_i2l hS dL_word_8 ?_
    refine J_last (x := v) hS dL_word_9 al219 (by unfold vp_in; decide) rfl (fun g2 e2 => ?_)
    have e2 : g2 = u2 g' 219 0 v := e2
    refine J_goto (tgt := 17) hS dL_word_10 (by decide) ?_
    refine J_iconst (v := 0) hS dL_word_17 (by decide) ?_
    refine J_iret hS hZ hr dL_word_18 (by omega) (by omega) ?_
    rw [e2]; exact hq
set_option maxRecDepth 100000 in
theorem kw_blurred : Cond.codeWith yL_blurred cL_blurred 5 (some .int) [(0, 10, 13, 13)] ∈ gw := gw_t 1231 (by rfl) (by rfl)
set_option maxRecDepth 100000 in
theorem msw_blurred : MSW RL 273 yL_blurred cL_blurred 5 (some .int) [(0, 10, 13, 13)] 4 := ⟨gw_t 1229 (by rfl) (by rfl), gw_t 1230 (by rfl) (by rfl), in_YardTalkLaw, kw_blurred, by decide +kernel, by decide +kernel⟩
theorem w_blurred {a0 a1 : Int32} (h : Ct l E lay NC d mc ms yX7_blurred [.ref 1, .int a0, .int a1] g (fun r g' => ∃ v : Int32, r = some (.int v) ∧ Q (some (.int 0)) (u2 g' 219 0 v)) (fun C g' => (C = eIA ∧ Q (some (.int 1)) g'))) : Ct l E lay NC (d + 1) mc ms yL_blurred [.ref 1, .int a0, .int a1, .ref 219] g Q X := by
  refine Ct_ofH (by decide) kw_blurred (fun v hv => ?_) (Nat.le_of_ble_eq_true rfl) (fun S hS hZ hr ht hR => ?_)
  · simp only [List.mem_cons, List.not_mem_nil, or_false] at hv
    rcases hv with e | e | e | e <;> subst e <;> rfl
  show J S 0 0 g 0 [some (.ref 1), some (.int a0), some (.int a1), some (.ref 219), none] []
  refine J_aload_n hS dL_blurred_0 rfl ?_
  refine J_iconst (v := 0) hS dL_blurred_1 (by decide) ?_
  refine J_aload_n hS dL_blurred_2 rfl ?_
  refine J_iload_n hS dL_blurred_3 rfl ?_
  refine J_iload_n hS dL_blurred_4 rfl ?_
  refine J_callV2 (X' := fun C g' => (C = eIA ∧ Q (some (.int 1)) g')) hS dL_blurred_5 mvL_112 ob1 rfl (by omega) (by decide) (Nat.le_of_ble_eq_true rfl) ⟨by omega, by omega⟩ (fun C g' hx => ?_) (h.mono (fun r g' hq => ?_) (fun _ _ hx => hx))
  · obtain ⟨e, hq⟩ := hx
    subst e
    exact JX_h2 hS hZ hr [] ⟨0, 10, 13, 13⟩ [] (by rw [ht]; rfl) (fun z hz => nomatch hz) (by decide) (by decide) clL_13 (by decide) rfl dL_blurred_13 (Nat.le_of_ble_eq_true rfl) dL_blurred_15 (by decide) dL_blurred_16 (by omega) (by omega) hq
  · obtain ⟨v, e, hq⟩ := hq
    subst e
    show J S (0 + mc) (0 + ms) g' 8 [some (.ref 1), some (.int a0), some (.int a1), some (.ref 219), none] [.int v, .int 0, .ref 219]
    refine J_i2l hS dL_blurred_8 ?_
    refine J_last (x := v) hS dL_blurred_9 al219 (by unfold vp_in; decide) rfl (fun g2 e2 => ?_)
    have e2 : g2 = u2 g' 219 0 v := e2
    refine J_goto (tgt := 17) hS dL_blurred_10 (by decide) ?_
    refine J_iconst (v := 0) hS dL_blurred_17 (by decide) ?_
    refine J_iret hS hZ hr dL_blurred_18 (by omega) (by omega) ?_
    rw [e2]; exact hq
set_option maxRecDepth 100000 in
theorem kw_nearest : Cond.codeWith yL_nearest cL_nearest 4 (some .int) [(0, 9, 12, 13)] ∈ gw := gw_t 1242 (by rfl) (by rfl)
set_option maxRecDepth 100000 in
theorem msw_nearest : MSW RL 276 yL_nearest cL_nearest 4 (some .int) [(0, 9, 12, 13)] 3 := ⟨gw_t 1240 (by rfl) (by rfl), gw_t 1241 (by rfl) (by rfl), in_YardTalkLaw, kw_nearest, by decide +kernel, by decide +kernel⟩
theorem w_nearest {a0 : Int32} (h : Ct l E lay NC d mc ms yX7_nearest [.ref 1, .int a0] g (fun r g' => ∃ v : Int32, r = some (.int v) ∧ Q (some (.int 0)) (u2 g' 219 0 v)) (fun C g' => (C = eIA ∧ Q (some (.int 1)) g'))) : Ct l E lay NC (d + 1) mc ms yL_nearest [.ref 1, .int a0, .ref 219] g Q X := by
  refine Ct_ofH (by decide) kw_nearest (fun v hv => ?_) (Nat.le_of_ble_eq_true rfl) (fun S hS hZ hr ht hR => ?_)
  · simp only [List.mem_cons, List.not_mem_nil, or_false] at hv
    rcases hv with e | e | e <;> subst e <;> rfl
  show J S 0 0 g 0 [some (.ref 1), some (.int a0), some (.ref 219), none] []
  refine J_aload_n hS dL_nearest_0 rfl ?_
  refine J_iconst (v := 0) hS dL_nearest_1 (by decide) ?_
  refine J_aload_n hS dL_nearest_2 rfl ?_
  refine J_iload_n hS dL_nearest_3 rfl ?_
  refine J_callV1 (X' := fun C g' => (C = eIA ∧ Q (some (.int 1)) g')) hS dL_nearest_4 mvL_115 ob1 rfl (by omega) (by decide) (Nat.le_of_ble_eq_true rfl) ⟨by omega, by omega⟩ (fun C g' hx => ?_) (h.mono (fun r g' hq => ?_) (fun _ _ hx => hx))
  · obtain ⟨e, hq⟩ := hx
    subst e
    exact JX_h1 hS hZ hr [] ⟨0, 9, 12, 13⟩ [] (by rw [ht]; rfl) (fun z hz => nomatch hz) (by decide) (by decide) clL_13 (by decide) rfl dL_nearest_12 (Nat.le_of_ble_eq_true rfl) dL_nearest_13 (by decide) dL_nearest_14 (by omega) (by omega) hq
  · obtain ⟨v, e, hq⟩ := hq
    subst e
    show J S (0 + mc) (0 + ms) g' 7 [some (.ref 1), some (.int a0), some (.ref 219), none] [.int v, .int 0, .ref 219]
    refine J_i2l hS dL_nearest_7 ?_
    refine J_last (x := v) hS dL_nearest_8 al219 (by unfold vp_in; decide) rfl (fun g2 e2 => ?_)
    have e2 : g2 = u2 g' 219 0 v := e2
    refine J_goto (tgt := 15) hS dL_nearest_9 (by decide) ?_
    refine J_iconst (v := 0) hS dL_nearest_15 (by decide) ?_
    refine J_iret hS hZ hr dL_nearest_16 (by omega) (by omega) ?_
    rw [e2]; exact hq
set_option maxRecDepth 100000 in
theorem kw_since : Cond.codeWith yL_since cL_since 5 (some .int) [(0, 10, 13, 19), (0, 10, 17, 13)] ∈ gw := gw_t 1249 (by rfl) (by rfl)
set_option maxRecDepth 100000 in
theorem msw_since : MSW RL 279 yL_since cL_since 5 (some .int) [(0, 10, 13, 19), (0, 10, 17, 13)] 4 := ⟨gw_t 1247 (by rfl) (by rfl), gw_t 1248 (by rfl) (by rfl), in_YardTalkLaw, kw_since, by decide +kernel, by decide +kernel⟩
theorem w_since {a0 a1 : Int32} (h : Ct l E lay NC d mc ms yX7_since [.ref 1, .int a0, .int a1] g (fun r g' => ∃ v : Int32, r = some (.int v) ∧ Q (some (.int 0)) (u2 g' 219 0 v)) (fun C g' => (C = eNS ∧ Q (some (.int 1)) g') ∨ (C = eIA ∧ Q (some (.int 2)) g'))) : Ct l E lay NC (d + 1) mc ms yL_since [.ref 1, .int a0, .int a1, .ref 219] g Q X := by
  refine Ct_ofH (by decide) kw_since (fun v hv => ?_) (Nat.le_of_ble_eq_true rfl) (fun S hS hZ hr ht hR => ?_)
  · simp only [List.mem_cons, List.not_mem_nil, or_false] at hv
    rcases hv with e | e | e | e <;> subst e <;> rfl
  show J S 0 0 g 0 [some (.ref 1), some (.int a0), some (.int a1), some (.ref 219), none] []
  refine J_aload_n hS dL_since_0 rfl ?_
  refine J_iconst (v := 0) hS dL_since_1 (by decide) ?_
  refine J_aload_n hS dL_since_2 rfl ?_
  refine J_iload_n hS dL_since_3 rfl ?_
  refine J_iload_n hS dL_since_4 rfl ?_
  refine J_callV2 (X' := fun C g' => (C = eNS ∧ Q (some (.int 1)) g') ∨ (C = eIA ∧ Q (some (.int 2)) g')) hS dL_since_5 mvL_118 ob1 rfl (by omega) (by decide) (Nat.le_of_ble_eq_true rfl) ⟨by omega, by omega⟩ (fun C g' hx => ?_) (h.mono (fun r g' hq => ?_) (fun _ _ hx => hx))
  · rcases hx with ⟨e, hq⟩ | ⟨e, hq⟩
    · subst e
      exact JX_h2 hS hZ hr [] ⟨0, 10, 13, 19⟩ [⟨0, 10, 17, 13⟩] (by rw [ht]; rfl) (fun z hz => nomatch hz) (by decide) (by decide) clL_19 (by decide) rfl dL_since_13 (Nat.le_of_ble_eq_true rfl) dL_since_15 (by decide) dL_since_16 (by omega) (by omega) hq
    · subst e
      exact JX_h2 hS hZ hr [⟨0, 10, 13, 19⟩] ⟨0, 10, 17, 13⟩ [] (by rw [ht]; rfl) (fun z hz => by cases List.mem_singleton.mp hz; exact ⟨(by decide : 19 ≠ 0), _, clL_19, by decide⟩) (by decide) (by decide) clL_13 (by decide) rfl dL_since_17 (Nat.le_of_ble_eq_true rfl) dL_since_19 (by decide) dL_since_20 (by omega) (by omega) hq
  · obtain ⟨v, e, hq⟩ := hq
    subst e
    show J S (0 + mc) (0 + ms) g' 8 [some (.ref 1), some (.int a0), some (.int a1), some (.ref 219), none] [.int v, .int 0, .ref 219]
    refine J_i2l hS dL_since_8 ?_
    refine J_last (x := v) hS dL_since_9 al219 (by unfold vp_in; decide) rfl (fun g2 e2 => ?_)
    have e2 : g2 = u2 g' 219 0 v := e2
    refine J_goto (tgt := 21) hS dL_since_10 (by decide) ?_
    refine J_iconst (v := 0) hS dL_since_21 (by decide) ?_
    refine J_iret hS hZ hr dL_since_22 (by omega) (by omega) ?_
    rw [e2]; exact hq
set_option maxRecDepth 100000 in
theorem kw_taught : Cond.codeWith yL_taught cL_taught 5 (some .int) [(0, 10, 13, 19), (0, 10, 17, 13)] ∈ gw := gw_t 1256 (by rfl) (by rfl)
set_option maxRecDepth 100000 in
theorem msw_taught : MSW RL 282 yL_taught cL_taught 5 (some .int) [(0, 10, 13, 19), (0, 10, 17, 13)] 4 := ⟨gw_t 1254 (by rfl) (by rfl), gw_t 1255 (by rfl) (by rfl), in_YardTalkLaw, kw_taught, by decide +kernel, by decide +kernel⟩
theorem w_taught {a0 a1 : Int32} (h : Ct l E lay NC d mc ms yX7_taught [.ref 1, .int a0, .int a1] g (fun r g' => ∃ v : Int32, r = some (.int v) ∧ Q (some (.int 0)) (u2 g' 219 0 v)) (fun C g' => (C = eNS ∧ Q (some (.int 1)) g') ∨ (C = eIA ∧ Q (some (.int 2)) g'))) : Ct l E lay NC (d + 1) mc ms yL_taught [.ref 1, .int a0, .int a1, .ref 219] g Q X := by
  refine Ct_ofH (by decide) kw_taught (fun v hv => ?_) (Nat.le_of_ble_eq_true rfl) (fun S hS hZ hr ht hR => ?_)
  · simp only [List.mem_cons, List.not_mem_nil, or_false] at hv
    rcases hv with e | e | e | e <;> subst e <;> rfl
  show J S 0 0 g 0 [some (.ref 1), some (.int a0), some (.int a1), some (.ref 219), none] []
  refine J_aload_n hS dL_taught_0 rfl ?_
  refine J_iconst (v := 0) hS dL_taught_1 (by decide) ?_
  refine J_aload_n hS dL_taught_2 rfl ?_
  refine J_iload_n hS dL_taught_3 rfl ?_
  refine J_iload_n hS dL_taught_4 rfl ?_
  refine J_callV2 (X' := fun C g' => (C = eNS ∧ Q (some (.int 1)) g') ∨ (C = eIA ∧ Q (some (.int 2)) g')) hS dL_taught_5 mvL_121 ob1 rfl (by omega) (by decide) (Nat.le_of_ble_eq_true rfl) ⟨by omega, by omega⟩ (fun C g' hx => ?_) (h.mono (fun r g' hq => ?_) (fun _ _ hx => hx))
  · rcases hx with ⟨e, hq⟩ | ⟨e, hq⟩
    · subst e
      exact JX_h2 hS hZ hr [] ⟨0, 10, 13, 19⟩ [⟨0, 10, 17, 13⟩] (by rw [ht]; rfl) (fun z hz => nomatch hz) (by decide) (by decide) clL_19 (by decide) rfl dL_taught_13 (Nat.le_of_ble_eq_true rfl) dL_taught_15 (by decide) dL_taught_16 (by omega) (by omega) hq
    · subst e
      exact JX_h2 hS hZ hr [⟨0, 10, 13, 19⟩] ⟨0, 10, 17, 13⟩ [] (by rw [ht]; rfl) (fun z hz => by cases List.mem_singleton.mp hz; exact ⟨(by decide : 19 ≠ 0), _, clL_19, by decide⟩) (by decide) (by decide) clL_13 (by decide) rfl dL_taught_17 (Nat.le_of_ble_eq_true rfl) dL_taught_19 (by decide) dL_taught_20 (by omega) (by omega) hq
  · obtain ⟨v, e, hq⟩ := hq
    subst e
    show J S (0 + mc) (0 + ms) g' 8 [some (.ref 1), some (.int a0), some (.int a1), some (.ref 219), none] [.int v, .int 0, .ref 219]
    refine J_i2l hS dL_taught_8 ?_
    refine J_last (x := v) hS dL_taught_9 al219 (by unfold vp_in; decide) rfl (fun g2 e2 => ?_)
    have e2 : g2 = u2 g' 219 0 v := e2
    refine J_goto (tgt := 21) hS dL_taught_10 (by decide) ?_
    refine J_iconst (v := 0) hS dL_taught_21 (by decide) ?_
    refine J_iret hS hZ hr dL_taught_22 (by omega) (by omega) ?_
    rw [e2]; exact hq
set_option maxRecDepth 100000 in
theorem kw_root : Cond.codeWith yL_root cL_root 5 (some .int) [(0, 10, 13, 19), (0, 10, 17, 13)] ∈ gw := gw_t 1267 (by rfl) (by rfl)
set_option maxRecDepth 100000 in
theorem msw_root : MSW RL 285 yL_root cL_root 5 (some .int) [(0, 10, 13, 19), (0, 10, 17, 13)] 4 := ⟨gw_t 1265 (by rfl) (by rfl), gw_t 1266 (by rfl) (by rfl), in_YardTalkLaw, kw_root, by decide +kernel, by decide +kernel⟩
theorem w_root {a0 a1 : Int32} (h : Ct l E lay NC d mc ms yX7_root [.ref 1, .int a0, .int a1] g (fun r g' => ∃ v : Int32, r = some (.int v) ∧ Q (some (.int 0)) (u2 g' 219 0 v)) (fun C g' => (C = eNS ∧ Q (some (.int 1)) g') ∨ (C = eIA ∧ Q (some (.int 2)) g'))) : Ct l E lay NC (d + 1) mc ms yL_root [.ref 1, .int a0, .int a1, .ref 219] g Q X := by
  refine Ct_ofH (by decide) kw_root (fun v hv => ?_) (Nat.le_of_ble_eq_true rfl) (fun S hS hZ hr ht hR => ?_)
  · simp only [List.mem_cons, List.not_mem_nil, or_false] at hv
    rcases hv with e | e | e | e <;> subst e <;> rfl
  show J S 0 0 g 0 [some (.ref 1), some (.int a0), some (.int a1), some (.ref 219), none] []
  refine J_aload_n hS dL_root_0 rfl ?_
  refine J_iconst (v := 0) hS dL_root_1 (by decide) ?_
  refine J_aload_n hS dL_root_2 rfl ?_
  refine J_iload_n hS dL_root_3 rfl ?_
  refine J_iload_n hS dL_root_4 rfl ?_
  refine J_callV2 (X' := fun C g' => (C = eNS ∧ Q (some (.int 1)) g') ∨ (C = eIA ∧ Q (some (.int 2)) g')) hS dL_root_5 mvL_124 ob1 rfl (by omega) (by decide) (Nat.le_of_ble_eq_true rfl) ⟨by omega, by omega⟩ (fun C g' hx => ?_) (h.mono (fun r g' hq => ?_) (fun _ _ hx => hx))
  · rcases hx with ⟨e, hq⟩ | ⟨e, hq⟩
    · subst e
      exact JX_h2 hS hZ hr [] ⟨0, 10, 13, 19⟩ [⟨0, 10, 17, 13⟩] (by rw [ht]; rfl) (fun z hz => nomatch hz) (by decide) (by decide) clL_19 (by decide) rfl dL_root_13 (Nat.le_of_ble_eq_true rfl) dL_root_15 (by decide) dL_root_16 (by omega) (by omega) hq
    · subst e
      exact JX_h2 hS hZ hr [⟨0, 10, 13, 19⟩] ⟨0, 10, 17, 13⟩ [] (by rw [ht]; rfl) (fun z hz => by cases List.mem_singleton.mp hz; exact ⟨(by decide : 19 ≠ 0), _, clL_19, by decide⟩) (by decide) (by decide) clL_13 (by decide) rfl dL_root_17 (Nat.le_of_ble_eq_true rfl) dL_root_19 (by decide) dL_root_20 (by omega) (by omega) hq
  · obtain ⟨v, e, hq⟩ := hq
    subst e
    show J S (0 + mc) (0 + ms) g' 8 [some (.ref 1), some (.int a0), some (.int a1), some (.ref 219), none] [.int v, .int 0, .ref 219]
    refine J_i2l hS dL_root_8 ?_
    refine J_last (x := v) hS dL_root_9 al219 (by unfold vp_in; decide) rfl (fun g2 e2 => ?_)
    have e2 : g2 = u2 g' 219 0 v := e2
    refine J_goto (tgt := 21) hS dL_root_10 (by decide) ?_
    refine J_iconst (v := 0) hS dL_root_21 (by decide) ?_
    refine J_iret hS hZ hr dL_root_22 (by omega) (by omega) ?_
    rw [e2]; exact hq
set_option maxRecDepth 100000 in
theorem kw_untaught : Cond.codeWith yL_untaught cL_untaught 6 (some .int) [(0, 12, 15, 13)] ∈ gw := gw_t 1274 (by rfl) (by rfl)
set_option maxRecDepth 100000 in
theorem msw_untaught : MSW RL 288 yL_untaught cL_untaught 6 (some .int) [(0, 12, 15, 13)] 5 := ⟨gw_t 1272 (by rfl) (by rfl), gw_t 1273 (by rfl) (by rfl), in_YardTalkLaw, kw_untaught, by decide +kernel, by decide +kernel⟩
theorem w_untaught {a0 a1 a2 : Int32} (h : Ct l E lay NC d mc ms yX7_untaught [.ref 1, .int a0, .int a1, .int a2] g (fun r g' => ∃ v : Int32, r = some (.int v) ∧ Q (some (.int 0)) (u2 g' 219 0 v)) (fun C g' => (C = eIA ∧ Q (some (.int 1)) g'))) : Ct l E lay NC (d + 1) mc ms yL_untaught [.ref 1, .int a0, .int a1, .int a2, .ref 219] g Q X := by
  refine Ct_ofH (by decide) kw_untaught (fun v hv => ?_) (Nat.le_of_ble_eq_true rfl) (fun S hS hZ hr ht hR => ?_)
  · simp only [List.mem_cons, List.not_mem_nil, or_false] at hv
    rcases hv with e | e | e | e | e <;> subst e <;> rfl
  show J S 0 0 g 0 [some (.ref 1), some (.int a0), some (.int a1), some (.int a2), some (.ref 219), none] []
  refine J_aload hS dL_untaught_0 rfl ?_
  refine J_iconst (v := 0) hS dL_untaught_2 (by decide) ?_
  refine J_aload_n hS dL_untaught_3 rfl ?_
  refine J_iload_n hS dL_untaught_4 rfl ?_
  refine J_iload_n hS dL_untaught_5 rfl ?_
  refine J_iload_n hS dL_untaught_6 rfl ?_
  refine J_callV3 (X' := fun C g' => (C = eIA ∧ Q (some (.int 1)) g')) hS dL_untaught_7 mvL_127 ob1 rfl (by omega) (by decide) (Nat.le_of_ble_eq_true rfl) ⟨by omega, by omega⟩ (fun C g' hx => ?_) (h.mono (fun r g' hq => ?_) (fun _ _ hx => hx))
  · obtain ⟨e, hq⟩ := hx
    subst e
    exact JX_h2 hS hZ hr [] ⟨0, 12, 15, 13⟩ [] (by rw [ht]; rfl) (fun z hz => nomatch hz) (by decide) (by decide) clL_13 (by decide) rfl dL_untaught_15 (Nat.le_of_ble_eq_true rfl) dL_untaught_17 (by decide) dL_untaught_18 (by omega) (by omega) hq
  · obtain ⟨v, e, hq⟩ := hq
    subst e
    show J S (0 + mc) (0 + ms) g' 10 [some (.ref 1), some (.int a0), some (.int a1), some (.int a2), some (.ref 219), none] [.int v, .int 0, .ref 219]
    refine J_i2l hS dL_untaught_10 ?_
    refine J_last (x := v) hS dL_untaught_11 al219 (by unfold vp_in; decide) rfl (fun g2 e2 => ?_)
    have e2 : g2 = u2 g' 219 0 v := e2
    refine J_goto (tgt := 19) hS dL_untaught_12 (by decide) ?_
    refine J_iconst (v := 0) hS dL_untaught_19 (by decide) ?_
    refine J_iret hS hZ hr dL_untaught_20 (by omega) (by omega) ?_
    rw [e2]; exact hq
set_option maxRecDepth 100000 in
theorem kw_odds : Cond.codeWith yL_odds cL_odds 7 (some .int) [(0, 14, 17, 13)] ∈ gw := gw_t 1285 (by rfl) (by rfl)
set_option maxRecDepth 100000 in
theorem msw_odds : MSW RL 291 yL_odds cL_odds 7 (some .int) [(0, 14, 17, 13)] 6 := ⟨gw_t 1283 (by rfl) (by rfl), gw_t 1284 (by rfl) (by rfl), in_YardTalkLaw, kw_odds, by decide +kernel, by decide +kernel⟩
theorem w_odds {a0 a1 a2 a3 : Int32} (h : Ct l E lay NC d mc ms yX7_odds [.ref 1, .int a0, .int a1, .int a2, .int a3] g (fun r g' => ∃ v : Int32, r = some (.int v) ∧ Q (some (.int 0)) (u2 g' 219 0 v)) (fun C g' => (C = eIA ∧ Q (some (.int 1)) g'))) : Ct l E lay NC (d + 1) mc ms yL_odds [.ref 1, .int a0, .int a1, .int a2, .int a3, .ref 219] g Q X := by
  refine Ct_ofH (by decide) kw_odds (fun v hv => ?_) (Nat.le_of_ble_eq_true rfl) (fun S hS hZ hr ht hR => ?_)
  · simp only [List.mem_cons, List.not_mem_nil, or_false] at hv
    rcases hv with e | e | e | e | e | e <;> subst e <;> rfl
  show J S 0 0 g 0 [some (.ref 1), some (.int a0), some (.int a1), some (.int a2), some (.int a3), some (.ref 219), none] []
  refine J_aload hS dL_odds_0 rfl ?_
  refine J_iconst (v := 0) hS dL_odds_2 (by decide) ?_
  refine J_aload_n hS dL_odds_3 rfl ?_
  refine J_iload_n hS dL_odds_4 rfl ?_
  refine J_iload_n hS dL_odds_5 rfl ?_
  refine J_iload_n hS dL_odds_6 rfl ?_
  refine J_iload hS dL_odds_7 rfl ?_
  refine J_callV4 (X' := fun C g' => (C = eIA ∧ Q (some (.int 1)) g')) hS dL_odds_9 mvL_130 ob1 rfl (by omega) (by decide) (Nat.le_of_ble_eq_true rfl) ⟨by omega, by omega⟩ (fun C g' hx => ?_) (h.mono (fun r g' hq => ?_) (fun _ _ hx => hx))
  · obtain ⟨e, hq⟩ := hx
    subst e
    exact JX_h2 hS hZ hr [] ⟨0, 14, 17, 13⟩ [] (by rw [ht]; rfl) (fun z hz => nomatch hz) (by decide) (by decide) clL_13 (by decide) rfl dL_odds_17 (Nat.le_of_ble_eq_true rfl) dL_odds_19 (by decide) dL_odds_20 (by omega) (by omega) hq
  · obtain ⟨v, e, hq⟩ := hq
    subst e
    show J S (0 + mc) (0 + ms) g' 12 [some (.ref 1), some (.int a0), some (.int a1), some (.int a2), some (.int a3), some (.ref 219), none] [.int v, .int 0, .ref 219]
    refine J_i2l hS dL_odds_12 ?_
    refine J_last (x := v) hS dL_odds_13 al219 (by unfold vp_in; decide) rfl (fun g2 e2 => ?_)
    have e2 : g2 = u2 g' 219 0 v := e2
    refine J_goto (tgt := 21) hS dL_odds_14 (by decide) ?_
    refine J_iconst (v := 0) hS dL_odds_21 (by decide) ?_
    refine J_iret hS hZ hr dL_odds_22 (by omega) (by omega) ?_
    rw [e2]; exact hq
set_option maxRecDepth 100000 in
theorem kw_right : Cond.codeWith yL_right cL_right 6 (some .int) [(0, 12, 15, 19), (0, 12, 19, 13)] ∈ gw := gw_t 1293 (by rfl) (by rfl)
set_option maxRecDepth 100000 in
theorem msw_right : MSW RL 294 yL_right cL_right 6 (some .int) [(0, 12, 15, 19), (0, 12, 19, 13)] 5 := ⟨gw_t 1291 (by rfl) (by rfl), gw_t 1292 (by rfl) (by rfl), in_YardTalkLaw, kw_right, by decide +kernel, by decide +kernel⟩
theorem w_right {a0 a1 a2 : Int32} (h : Ct l E lay NC d mc ms yX7_right [.ref 1, .int a0, .int a1, .int a2] g (fun r g' => ∃ v : Int32, r = some (.int v) ∧ Q (some (.int 0)) (u2 g' 219 0 v)) (fun C g' => (C = eNS ∧ Q (some (.int 1)) g') ∨ (C = eIA ∧ Q (some (.int 2)) g'))) : Ct l E lay NC (d + 1) mc ms yL_right [.ref 1, .int a0, .int a1, .int a2, .ref 219] g Q X := by
  refine Ct_ofH (by decide) kw_right (fun v hv => ?_) (Nat.le_of_ble_eq_true rfl) (fun S hS hZ hr ht hR => ?_)
  · simp only [List.mem_cons, List.not_mem_nil, or_false] at hv
    rcases hv with e | e | e | e | e <;> subst e <;> rfl
  show J S 0 0 g 0 [some (.ref 1), some (.int a0), some (.int a1), some (.int a2), some (.ref 219), none] []
  refine J_aload hS dL_right_0 rfl ?_
  refine J_iconst (v := 0) hS dL_right_2 (by decide) ?_
  refine J_aload_n hS dL_right_3 rfl ?_
  refine J_iload_n hS dL_right_4 rfl ?_
  refine J_iload_n hS dL_right_5 rfl ?_
  refine J_iload_n hS dL_right_6 rfl ?_
  refine J_callV3 (X' := fun C g' => (C = eNS ∧ Q (some (.int 1)) g') ∨ (C = eIA ∧ Q (some (.int 2)) g')) hS dL_right_7 mvL_133 ob1 rfl (by omega) (by decide) (Nat.le_of_ble_eq_true rfl) ⟨by omega, by omega⟩ (fun C g' hx => ?_) (h.mono (fun r g' hq => ?_) (fun _ _ hx => hx))
  · rcases hx with ⟨e, hq⟩ | ⟨e, hq⟩
    · subst e
      exact JX_h2 hS hZ hr [] ⟨0, 12, 15, 19⟩ [⟨0, 12, 19, 13⟩] (by rw [ht]; rfl) (fun z hz => nomatch hz) (by decide) (by decide) clL_19 (by decide) rfl dL_right_15 (Nat.le_of_ble_eq_true rfl) dL_right_17 (by decide) dL_right_18 (by omega) (by omega) hq
    · subst e
      exact JX_h2 hS hZ hr [⟨0, 12, 15, 19⟩] ⟨0, 12, 19, 13⟩ [] (by rw [ht]; rfl) (fun z hz => by cases List.mem_singleton.mp hz; exact ⟨(by decide : 19 ≠ 0), _, clL_19, by decide⟩) (by decide) (by decide) clL_13 (by decide) rfl dL_right_19 (Nat.le_of_ble_eq_true rfl) dL_right_21 (by decide) dL_right_22 (by omega) (by omega) hq
  · obtain ⟨v, e, hq⟩ := hq
    subst e
    show J S (0 + mc) (0 + ms) g' 10 [some (.ref 1), some (.int a0), some (.int a1), some (.int a2), some (.ref 219), none] [.int v, .int 0, .ref 219]
    refine J_i2l hS dL_right_10 ?_
    refine J_last (x := v) hS dL_right_11 al219 (by unfold vp_in; decide) rfl (fun g2 e2 => ?_)
    have e2 : g2 = u2 g' 219 0 v := e2
    refine J_goto (tgt := 23) hS dL_right_12 (by decide) ?_
    refine J_iconst (v := 0) hS dL_right_23 (by decide) ?_
    refine J_iret hS hZ hr dL_right_24 (by omega) (by omega) ?_
    rw [e2]; exact hq
end Wraps

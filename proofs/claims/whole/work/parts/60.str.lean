/-! THE WORDS OF THE READER: String's length and charAt, walked. The words are the cells 1100 + i, their bytes the cells 1200 + i -/
theorem ro_vk {E : Ey} {U : State} {H : Heap} (h : Ro E U H) : vk_S 16 wdLen wdByt (fun i => E.ad (1100 + i)) (fun i => E.ad (1200 + i)) E.A U H := h.2.2.2.2.1
section StrRows
variable {S : Sx} {k n : Nat} {g : Mm} {pc : Nat} {ls : List (Option Value)} {st : List Value} {cc : ByteArray} {own : String} {nL d : Nat} {l : Launch} {E : Ey} {L : Nat → Ly} {N : List Nat}
theorem J_strV (hS : Kx S l E L N cc own nL d) {i idx : Nat} (hi : i < 16) (hd : decode cc pc = .ok (.getfield idx, 3)) (hw : Cond.fieldLink own idx "java/lang/String" "value" "[B" ∈ gw) (h : J S k n g (pc + 3) ls (.ref (1200 + i) :: st)) : J S k n g pc ls (.ref (1100 + i) :: st) :=
  fun H locs la hW hV hl => vk_getf hS.1 hS.2.1 ((ro_vk hS.2.2.2.2.2.2.1).1 i hi).2.2.1 hV hS.2.2.1 (hS.2.2.2.1 _ hw) (fun _ q => q) hd (h H locs la hW hV hl)
theorem J_strC (hS : Kx S l E L N cc own nL d) {i idx : Nat} (hi : i < 16) (hd : decode cc pc = .ok (.getfield idx, 3)) (hw : Cond.fieldLink own idx "java/lang/String" "coder" "B" ∈ gw) (h : J S k n g (pc + 3) ls (.int 0 :: st)) : J S k n g pc ls (.ref (1100 + i) :: st) :=
  fun H locs la hW hV hl => vk_getf hS.1 hS.2.1 ((ro_vk hS.2.2.2.2.2.2.1).1 i hi).2.1 hV hS.2.2.1 (hS.2.2.2.1 _ hw) (fun _ q => q) hd (h H locs la hW hV hl)
theorem J_strS (hS : Kx S l E L N cc own nL d) {idx : Nat} (hd : decode cc pc = .ok (.getstatic idx, 3)) (hw : Cond.fieldLink own idx "java/lang/String" "COMPACT_STRINGS" "Z" ∈ gw) (h : J S k n g (pc + 3) ls (.int 1 :: st)) : J S k n g pc ls st :=
  fun H locs la hW hV hl => va_gets hS.1 hS.2.1 hS.2.2.2.2.2.2.1.2.2.2.2.2.1 hV hS.2.2.1 (hS.2.2.2.1 _ hw) (fun _ q => q) hd (h H locs la hW hV hl)
theorem J_strF (hS : Kx S l E L N cc own nL d) {idx : Nat} (hd : decode cc pc = .ok (.getstatic idx, 3)) (hw : Cond.fieldLink own idx "jdk/internal/util/Preconditions" "SIOOBE_FORMATTER" "Ljava/util/function/BiFunction;" ∈ gw) (h1 : J S k n g (pc + 3) ls (.null :: st)) (h2 : J S k n g (pc + 3) ls (.ref 1400 :: st)) : J S k n g pc ls st := by
  intro H locs la hW hV hl
  rcases hS.2.2.2.2.2.2.1.2.2.2.2.2.2 with z | z
  · exact va_gets hS.1 hS.2.1 z hV hS.2.2.1 (hS.2.2.2.1 _ hw) (fun _ q => q) hd (h1 H locs la hW hV hl)
  · exact va_gets hS.1 hS.2.1 z hV hS.2.2.1 (hS.2.2.2.1 _ hw) (fun _ q => q) hd (h2 H locs la hW hV hl)
theorem J_strL (hS : Kx S l E L N cc own nL d) {i : Nat} (hi : i < 16) (hd : decode cc pc = .ok (.arraylength, 1)) (h : J S k n g (pc + 1) ls (.int (nI (wdLen.getD i 0)) :: st)) : J S k n g pc ls (.ref (1200 + i) :: st) :=
  fun H locs la hW hV hl => va_tlen hS.1 hS.2.1 ((ro_vk hS.2.2.2.2.2.2.1).1 i hi).2.2.2 hV rfl hd (h H locs la hW hV hl)
theorem J_strB (hS : Kx S l E L N cc own nL d) {i j : Nat} (hi : i < 16) (hj : j < wdLen.getD i 0) (hd : decode cc pc = .ok (.baload, 1)) (h : J S k n g (pc + 1) ls (.int ((wdByt.getD i []).getD j 0) :: st)) : J S k n g pc ls (.int (nI j) :: .ref (1200 + i) :: st) := by
  intro H locs la hW hV hl
  have hj6 : wdLen.getD i 0 ≤ 6 := by
    have : ∀ i, i < 16 → wdLen.getD i 0 ≤ 6 := by decide
    exact this i hi
  exact va_tb hS.1 hS.2.1 ((ro_vk hS.2.2.2.2.2.2.1).1 i hi).2.2.2 hV (vp_in_nI hj (by omega)) (by rw [nI_clamp (by omega)]; rfl) hd (h H locs la hW hV hl)
theorem J_i2c (hS : Kx S l E L N cc own nL d) {x v : Int32} (hd : decode cc pc = .ok (.i2c, 1)) (hv : (x.toUInt32 % 65536).toInt32 = v) (h : J S k n g (pc + 1) ls (.int v :: st)) : J S k n g pc ls (.int x :: st) :=
  fun H locs la hW hV hl => lv_i2c hS.1 hS.2.1 hd hv (h H locs la hW hV hl)
/-- a call on a word -/
theorem J_callK (hS : Kx S l E L N cc own nL d) {idx i maxL dC : Nat} {y : MethodName} {bytes : ByteArray} {ret : Option FieldType} {av : List Value} (hi : i < 16) (hd : decode cc pc = .ok (.invokevirtual idx, 3)) (hc0 : y.cls = "java/lang/String") (m1 : Cond.methodLink own idx y ∈ gw) (m2 : Cond.instanceMethod y ∈ gw) (m3 : Cond.selects y.cls y y ∈ gw) (m4 : Cond.initialized y.cls ∈ gw) (m5 : Cond.code y bytes maxL ret ∈ gw) (m7 : (parseMethodDescriptor y.desc).map (fun d => d.parameters.length) = some av.length) (hn : nL = ls.length) (hdc : dC + 1 ≤ d) (hml : maxL ≤ 45) (hst : (st.map fun v => v.category).sum ≤ 8) (hrm : k ≤ S.R.cells ∧ n ≤ S.R.slots)
    (hc : Ct l E L N dC 0 0 y (.ref (1100 + i) :: av) g (fun r g' => J S k n g' (pc + 3) ls (pu r st)) (fun _ _ => False)) : J S k n g pc ls (av.reverse ++ .ref (1100 + i) :: st) := by
  intro H locs la hW hV hl
  have hlc := hS.2.2.2.2.2.2.2.2.2.2.2.1
  have hfr := hS.2.2.2.2.2.2.2.2.2.2.1
  have hts := hS.2.2.2.1
  have hc' := hc (by rw [← hS.l_eq]; exact hS.2.2.2.2.2.2.2.2.1)
  have hrc := vk_recv (ro_vk hS.2.2.2.2.2.2.1) hi hV
  rw [← hc0] at hrc
  refine J_back hS (st := st) (mc := 0) (ms := 0) (X' := fun _ _ => False) (a9 := (Value.ref (S.E.ad (1100 + i)) :: av.map (mv S.E.ad)).toArray) hV hl (fun _ _ q => q.elim) ?_
  have hE := hS.E_eq
  have hLq := hS.L_eq
  have hNq := hS.N_eq
  have hlq := hS.l_eq
  subst hE; subst hLq; subst hNq; subst hlq
  refine vx_runV (As := av.map (mv S.E.ad)) (n := av.length) (Ts := gw) (C := y.cls) (b := S.E.ad (1100 + i)) ⟨hS.1, hS.2.1, hS.2.2.2.2.1, hS.2.2.1, hts⟩ hc' ⟨⟨rfl, rfl, Nat.le_trans hdc hfr, ?_, pay_in hts gw_good, m5, hts _ m5, hts _ m4, by rw [hc0]; decide, len_of m7, hts _ m1⟩, hts _ m2, hts _ m3⟩ ⟨Pc_blind, hrc, fun U hU hWm => ⟨rfl, by rw [hU]; exact hW.moved hWm.alike, hS.2.2.2.2.2.2.2.1.warm hWm⟩⟩ rfl (by simp) (by rw [show (F0 S.m pc la ((av.reverse ++ .ref (1100 + i) :: st).map (mv S.E.ad))).locals = la from rfl, hl.1, hn]) (by simp [List.map_reverse, mv]) ?_ hd hrm
  · show 8 + (maxL + 11) + 64 * dC ≤ S.R.locals
    omega
  · show 2 * 0 + _ ≤ 8
    rw [cat_sum]; omega
theorem J_ldcS (hS : Kx S l E L N cc own nL d) {i idx : Nat} {tx : String} (hm : (own, idx, tx, 1100 + i) ∈ srL) (hd : decode cc pc = .ok (.ldc idx, 2)) (h : J S k n g (pc + 2) ls (.ref (1100 + i) :: st)) : J S k n g pc ls st :=
  fun H locs la hW hV hl => va_ldcS hS.1 hS.2.1 hS.2.2.1 (hS.2.2.2.2.2.2.2.1.2.1 _ hm) hd (h H locs la hW hV hl)
end StrRows
section NarRet
variable {S : Sx} {k n : Nat} {g : Mm} {pc : Nat} {ls : List (Option Value)} {cc : ByteArray} {own : String} {nL d mc ms : Nat} {l : Launch} {E : Ey} {L : Nat → Ly} {N : List Nat} {Q : Option Value → Mm → Prop} {X : String → Mm → Prop}
/-- a return of a narrow number -/
theorem J_nret (hS : Kx S l E L N cc own nL d) (hZ : Zx S mc ms Q X) {ty : FieldType} (hr : S.meth.sig.returnType = some ty) {v : Int32} (hd : decode cc pc = .ok (.ireturn, 1)) (hv : narrow ty (.int v) = .int v) (hk : k ≤ mc) (hn : n ≤ ms) (h : Q (some (.int v)) g) : J S k n g pc ls [.int v] := by
  intro H locs la hW hV hl
  rw [hZ]
  refine vx_ret (W.widen (k := mc) (n := ms) hk hn ?_)
  exact W.zret hS.1 hS.2.1 hr hv (fun t ht hWm => ⟨some (.int v), g, rfl, h, by rw [ht]; exact hW.moved hWm.alike⟩) hV.2.2 hd (hlocks := hS.2.2.2.2.2.1)
end NarRet
section StrM
variable {l : Launch} {E : Ey} {g : Mm} {Q : Option Value → Mm → Prop} {X : String → Mm → Prop}
set_option maxRecDepth 20000 in
theorem kJ_coder : Cond.code yJ0_coder_7d493 cJ0_coder_7d493 1 (some .byte) ∈ gw := gw_t 852 (by rfl) (by rfl)
set_option maxRecDepth 20000 in
theorem kJ_len : Cond.code yJ0_length_8abf5 cJ0_length_8abf5 1 (some .int) ∈ gw := gw_t 848 (by rfl) (by rfl)
set_option maxRecDepth 20000 in
theorem kJ_lat : Cond.code yJ0_isLatin1_aae02 cJ0_isLatin1_aae02 1 (some .boolean) ∈ gw := gw_t 862 (by rfl) (by rfl)
set_option maxRecDepth 20000 in
theorem kJ_chr : Cond.code yJ0_charAt_5068e cJ0_charAt_5068e 2 (some .char) ∈ gw := gw_t 858 (by rfl) (by rfl)
set_option maxRecDepth 20000 in
theorem kJ_chk : Cond.code yJ0_checkIndex_df160 cJ0_checkIndex_df160 2 none ∈ gw := gw_t 868 (by rfl) (by rfl)
set_option maxRecDepth 20000 in
theorem kJ_ch1 : Cond.code yJ1_charAt_3b067 cJ1_charAt_3b067 2 (some .char) ∈ gw := gw_t 865 (by rfl) (by rfl)
set_option maxRecDepth 20000 in
theorem kJ_pre : Cond.code yJ3_checkIndex_8e157 cJ3_checkIndex_8e157 3 (some .int) ∈ gw := gw_t 873 (by rfl) (by rfl)
set_option maxRecDepth 20000 in
theorem inJ0 : Cond.initialized RJ0 ∈ gw := gw_t 17 (by rfl) (by rfl)
set_option maxRecDepth 20000 in
theorem c_strCoder {i : Nat} (hi : i < 16) (q : Q (some (.int 0)) g) : Ct l E lay NC 0 0 0 yJ0_coder_7d493 [.ref (1100 + i)] g Q X := by
  refine Ct_in kJ_coder (by decide) rfl (Nat.le_of_ble_eq_true rfl) rfl ?_
  intro S hS hZ hr ht hR
  show J S 0 0 g 0 [some (.ref (1100 + i))] []
  refine J_strS hS (idx := 38) (by decide +kernel) (gw_t 853 (by rfl) (by rfl)) ?_
  refine J_if_eq (tgt := 13) hS (off := 10) (by decide +kernel) (by decide) (fun c => absurd c (by decide)) (fun _ => ?_)
  refine J_aload_n (i := 0) hS (by decide +kernel) rfl ?_
  refine J_strC hS (idx := 15) hi (by decide +kernel) (gw_t 1926 (by rfl) (by rfl)) ?_
  refine J_goto (off := 4) (tgt := 14) hS (by decide +kernel) (by decide) ?_
  exact J_nret hS hZ hr (by decide +kernel) rfl (by omega) (by omega) q
set_option maxRecDepth 20000 in
theorem c_strLen {i : Nat} (hi : i < 16) (q : Q (some (.int (nI (wdLen.getD i 0)))) g) : Ct l E lay NC 1 0 0 yJ0_length_8abf5 [.ref (1100 + i)] g Q X := by
  refine Ct_in kJ_len (by decide) rfl (Nat.le_of_ble_eq_true rfl) rfl ?_
  intro S hS hZ hr ht hR
  show J S 0 0 g 0 [some (.ref (1100 + i))] []
  refine J_aload_n (i := 0) hS (by decide +kernel) rfl ?_
  refine J_strV hS (idx := 9) hi (by decide +kernel) (gw_t 1925 (by rfl) (by rfl)) ?_
  refine J_strL hS hi (by decide +kernel) ?_
  refine J_aload_n (i := 0) hS (by decide +kernel) rfl ?_
  refine J_callK (av := []) hS (idx := 335) hi (by decide +kernel) rfl (gw_t 849 (by rfl) (by rfl)) (gw_t 850 (by rfl) (by rfl)) (gw_t 851 (by rfl) (by rfl)) inJ0 kJ_coder (by decide +kernel) rfl (by decide) (by decide) (Nat.le_of_ble_eq_true rfl) ⟨by omega, by omega⟩ (c_strCoder hi ?_)
  refine J_ishr hS (by decide +kernel) ?_
  refine J_top (y := nI (wdLen.getD i 0)) ?_ ?_
  · have : ∀ i, i < 16 → nI (wdLen.getD i 0) >>> ((0 : Int32) &&& 31) = nI (wdLen.getD i 0) := by decide
    exact this i hi
  exact J_iret hS hZ hr (by decide +kernel) (by omega) (by omega) q
set_option maxRecDepth 20000 in
theorem c_strLat {i : Nat} (hi : i < 16) (q : Q (some (.int 1)) g) : Ct l E lay NC 0 0 0 yJ0_isLatin1_aae02 [.ref (1100 + i)] g Q X := by
  refine Ct_in kJ_lat (by decide) rfl (Nat.le_of_ble_eq_true rfl) rfl ?_
  intro S hS hZ hr ht hR
  show J S 0 0 g 0 [some (.ref (1100 + i))] []
  refine J_strS hS (idx := 38) (by decide +kernel) (gw_t 853 (by rfl) (by rfl)) ?_
  refine J_if_eq (tgt := 17) hS (off := 14) (by decide +kernel) (by decide) (fun c => absurd c (by decide)) (fun _ => ?_)
  refine J_aload_n (i := 0) hS (by decide +kernel) rfl ?_
  refine J_strC hS (idx := 15) hi (by decide +kernel) (gw_t 1926 (by rfl) (by rfl)) ?_
  refine J_if_ne (tgt := 17) hS (off := 7) (by decide +kernel) (by decide) (fun c => absurd rfl c) (fun _ => ?_)
  refine J_iconst (v := 1) (c := 1) hS (by decide +kernel) (by decide) ?_
  refine J_goto (off := 4) (tgt := 18) hS (by decide +kernel) (by decide) ?_
  exact J_zret hS hZ hr (by decide +kernel) (by decide) (by omega) (by omega) q
set_option maxRecDepth 20000 in
theorem c_strPre {j m : Nat} {v : Value} (hv : v = .null ∨ v = .ref 1400) (hj : j < m) (hm : m < 2 ^ 31) (q : Q (some (.int (nI j))) g) : Ct l E lay NC 0 0 0 yJ3_checkIndex_8e157 [.int (nI j), .int (nI m), v] g Q X := by
  refine Ct_in kJ_pre (by decide) (by rcases hv with e | e <;> subst e <;> rfl) (Nat.le_of_ble_eq_true rfl) rfl ?_
  intro S hS hZ hr ht hR
  show J S 0 0 g 0 [some (.int (nI j)), some (.int (nI m)), some v] []
  refine J_iload_n (i := 0) hS (by decide +kernel) rfl ?_
  refine J_if_lt (tgt := 9) hS (off := 8) (by decide +kernel) (by decide) (fun c => absurd c (nI_npos (by omega))) (fun _ => ?_)
  refine J_iload_n (i := 0) hS (by decide +kernel) rfl ?_
  refine J_iload_n (i := 1) hS (by decide +kernel) rfl ?_
  refine J_icmp_lt (tgt := 16) hS (off := 10) (by decide +kernel) (by decide) (fun _ => ?_) (fun c => absurd (nI_lt hj hm) c)
  refine J_iload_n (i := 0) hS (by decide +kernel) rfl ?_
  exact J_iret hS hZ hr (by decide +kernel) (by omega) (by omega) q
set_option maxRecDepth 20000 in
theorem c_strChk {j m : Nat} (hj : j < m) (hm : m < 2 ^ 31) (q : Q none g) : Ct l E lay NC 1 0 0 yJ0_checkIndex_df160 [.int (nI j), .int (nI m)] g Q X := by
  refine Ct_in kJ_chk (by decide) rfl (Nat.le_of_ble_eq_true rfl) rfl ?_
  intro S hS hZ hr ht hR
  show J S 0 0 g 0 [some (.int (nI j)), some (.int (nI m))] []
  refine J_iload_n (i := 0) hS (by decide +kernel) rfl ?_
  refine J_iload_n (i := 1) hS (by decide +kernel) rfl ?_
  have step : ∀ v : Value, (v = .null ∨ v = .ref 1400) → J S 0 0 g 5 [some (.int (nI j)), some (.int (nI m))] [v, .int (nI m), .int (nI j)] := by
    intro v hv
    refine J_callS3 (X' := fun _ _ => False) hS (idx := 1059) (by decide +kernel) ⟨gw_t 871 (by rfl) (by rfl), gw_t 872 (by rfl) (by rfl), gw_t 19 (by rfl) (by rfl), kJ_pre, by decide, by decide +kernel⟩ rfl (by decide) (by decide) (Nat.le_of_ble_eq_true rfl) ⟨by omega, by omega⟩ (fun _ _ q => q.elim) (c_strPre hv hj hm ?_)
    refine J_pop hS (by decide +kernel) rfl ?_
    exact J_vret hS hZ hr (by decide +kernel) (by omega) (by omega) q
  exact J_strF hS (idx := 1053) (by decide +kernel) (gw_t 869 (by rfl) (by rfl)) (step .null (Or.inl rfl)) (step (.ref 1400) (Or.inr rfl))
set_option maxRecDepth 20000 in
theorem wd_len6 : ∀ i, i < 16 → wdLen.getD i 0 ≤ 6 := by decide
set_option maxRecDepth 20000 in
theorem wd_chr : ∀ i, i < 16 → ∀ j, j < 6 → (((wdByt.getD i []).getD j 0 &&& 255).toUInt32 % 65536).toInt32 = (wdByt.getD i []).getD j 0 := by decide
set_option maxRecDepth 20000 in
theorem wd_cok : ∀ i, i < 16 → ∀ j, j < 6 → narrow .char (.int ((wdByt.getD i []).getD j 0)) = .int ((wdByt.getD i []).getD j 0) := by decide
set_option maxRecDepth 20000 in
theorem c_strCh1 {i j : Nat} (hi : i < 16) (hj : j < wdLen.getD i 0) (q : Q (some (.int ((wdByt.getD i []).getD j 0))) g) : Ct l E lay NC 2 0 0 yJ1_charAt_3b067 [.ref (1200 + i), .int (nI j)] g Q X := by
  have h6 := wd_len6 i hi
  refine Ct_in kJ_ch1 (by decide) rfl (Nat.le_of_ble_eq_true rfl) rfl ?_
  intro S hS hZ hr ht hR
  show J S 0 0 g 0 [some (.ref (1200 + i)), some (.int (nI j))] []
  refine J_iload_n (i := 1) hS (by decide +kernel) rfl ?_
  refine J_aload_n (i := 0) hS (by decide +kernel) rfl ?_
  refine J_strL hS hi (by decide +kernel) ?_
  refine J_callS2 (X' := fun _ _ => False) hS (idx := 9) (by decide +kernel) ⟨gw_t 866 (by rfl) (by rfl), gw_t 867 (by rfl) (by rfl), inJ0, kJ_chk, by decide, by decide +kernel⟩ rfl (by decide) (by decide) (Nat.le_of_ble_eq_true rfl) ⟨by omega, by omega⟩ (fun _ _ q => q.elim) (c_strChk hj (by omega) ?_)
  refine J_aload_n (i := 0) hS (by decide +kernel) rfl ?_
  refine J_iload_n (i := 1) hS (by decide +kernel) rfl ?_
  refine J_strB hS hi hj (by decide +kernel) ?_
  refine J_sipush (c := 255) (v := 255) hS (by decide +kernel) (by decide) ?_
  refine J_iand hS (by decide +kernel) ?_
  refine J_i2c hS (by decide +kernel) (wd_chr i hi j (by omega)) ?_
  exact J_nret hS hZ hr (by decide +kernel) (wd_cok i hi j (by omega)) (by omega) (by omega) q
set_option maxRecDepth 20000 in
theorem c_strChr {i j : Nat} (hi : i < 16) (hj : j < wdLen.getD i 0) (q : Q (some (.int ((wdByt.getD i []).getD j 0))) g) : Ct l E lay NC 3 0 0 yJ0_charAt_5068e [.ref (1100 + i), .int (nI j)] g Q X := by
  have h6 := wd_len6 i hi
  refine Ct_in kJ_chr (by decide) rfl (Nat.le_of_ble_eq_true rfl) rfl ?_
  intro S hS hZ hr ht hR
  show J S 0 0 g 0 [some (.ref (1100 + i)), some (.int (nI j))] []
  refine J_aload_n (i := 0) hS (by decide +kernel) rfl ?_
  refine J_callK (av := []) hS (idx := 492) hi (by decide +kernel) rfl (gw_t 859 (by rfl) (by rfl)) (gw_t 860 (by rfl) (by rfl)) (gw_t 861 (by rfl) (by rfl)) inJ0 kJ_lat (by decide +kernel) rfl (by decide) (by decide) (Nat.le_of_ble_eq_true rfl) ⟨by omega, by omega⟩ (c_strLat hi ?_)
  refine J_if_eq (tgt := 16) hS (off := 12) (by decide +kernel) (by decide) (fun c => absurd c (by decide)) (fun _ => ?_)
  refine J_aload_n (i := 0) hS (by decide +kernel) rfl ?_
  refine J_strV hS (idx := 9) hi (by decide +kernel) (gw_t 1925 (by rfl) (by rfl)) ?_
  refine J_iload_n (i := 1) hS (by decide +kernel) rfl ?_
  refine J_callS2 (X' := fun _ _ => False) hS (idx := 495) (by decide +kernel) ⟨gw_t 863 (by rfl) (by rfl), gw_t 864 (by rfl) (by rfl), gw_t 18 (by rfl) (by rfl), kJ_ch1, by decide, by decide +kernel⟩ rfl (by decide) (by decide) (Nat.le_of_ble_eq_true rfl) ⟨by omega, by omega⟩ (fun _ _ q => q.elim) (c_strCh1 hi hj ?_)
  exact J_nret hS hZ hr (by decide +kernel) (wd_cok i hi j (by omega)) (by omega) (by omega) q
end StrM

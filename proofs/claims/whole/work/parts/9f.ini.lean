/-! CONSTRUCTORS: the growing layout and the links -/
def gK (ci : Nat) : Nat → Nat := match ci with
  | 0 => fun k => if k < 2 then 2 else 0
  | 1 => fun k => if k = 0 then 0 else if k = 6 then 0 else 2
  | 2 => fun k => if k = 0 then 2 else if k = 2 then 2 else 0
  | 3 => fun k => if k = 0 then 0 else 2
  | 4 => fun k => if k < 3 then 2 else 0
  | 5 => fun k => if k = 2 then 2 else if k = 4 then 2 else if k = 6 then 2 else 0
  | 6 => fun k => if k < 7 then 0 else 2
  | 7 => fun k => if k < 12 then 2 else 0
  | _ => fun k => if k = 3 then 2 else if mLen k = 0 then 0 else 2
def gA (ty : FieldType) : Nat → Nat := match ty with
  | .object _ => fun _ => 2
  | .long => fun _ => 1
  | _ => fun _ => 0
def layG (a : Nat) : Ly := match (lay a).1 with
  | .inl ci => (.inl ci, (lay a).2.1, gK ci)
  | .inr ty => (.inr ty, (lay a).2.1, gA ty)
theorem lg_o {a ci m : Nat} {kd : Nat → Nat} (h : lay a = (.inl ci, m, kd)) : layG a = (.inl ci, m, gK ci) := by unfold layG; rw [h]
theorem lg_a {a m : Nat} {ty : FieldType} {kd : Nat → Nat} (h : lay a = (.inr ty, m, kd)) : layG a = (.inr ty, m, gA ty) := by unfold layG; rw [h]
theorem lg_r {a m : Nat} {ty : FieldType} (h : Ar lay NC ty a m) : layG a = (.inr ty, m, gA ty) := by obtain ⟨_, kd, e, _⟩ := h; exact lg_a e
theorem lgW {b : Nat} (h : Wo b) : layG b = (.inl 6, 17, gK 6) := lg_o h.ob.2
theorem lgWa {b : Nat} (h : Wo b) (j len : Nat) (h1 : 0 < j) (h2 : j < 11) (h3 : wLen j = len) : layG (b + j) = (.inr .int, len, gA .int) := by rw [← h3]; exact lg_r (h.ar j h1 h2)
theorem lgL {b : Nat} (h : Lw b) : layG b = (.inl 1, 7, gK 1) := lg_o h.ob.2
theorem lgLa {b : Nat} (h : Lw b) (j len : Nat) (h1 : 0 < j) (h2 : j < 6) (h3 : (if j = 5 then 300 else 12) = len) : layG (b + j) = (.inr .int, len, gA .int) := by rw [← h3]; exact lg_r (h.ar j h1 h2)
theorem lgF {b : Nat} (h : Fm b) : layG b = (.inl 0, 4, gK 0) := lg_o h.ob.2
theorem lgFa {b : Nat} (h : Fm b) : layG (b + 1) = (.inr .boolean, 100, gA .boolean) := lg_r h.ar
theorem ni_a {N : List Nat} {a x : Nat} (h : a ∉ N) (hx : a ≠ x) : a ∉ N ++ [x] := fun z => (List.mem_append.mp z).elim h (fun y => hx (List.mem_singleton.mp y))
theorem ni_l {N L : List Nat} {a : Nat} (h : a ∉ N) (hx : a ∉ L) : a ∉ N ++ L := fun z => (List.mem_append.mp z).elim h hx
theorem mi_a {N : List Nat} {a x : Nat} (h : a ∈ N) : a ∈ N ++ [x] := List.mem_append_left _ h
theorem mi_s {N : List Nat} {x : Nat} : x ∈ N ++ [x] := List.mem_append_right _ List.mem_cons_self
theorem rn_0 {N : List Nat} : ∀ v ∈ ([] : List Value), rin N v := fun _ h => nomatch h
theorem rn_c {N : List Nat} {v : Value} {st : List Value} (h : rin N v) (t : ∀ v ∈ st, rin N v) : ∀ w ∈ v :: st, rin N w := fun w hw => by
  rcases List.mem_cons.mp hw with e | e
  · rw [e]; exact h
  · exact t w e
theorem rl_0 {N : List Nat} : ∀ v, some v ∈ ([] : List (Option Value)) → rin N v := fun _ h => nomatch h
theorem rl_c {N : List Nat} {v : Value} {ls : List (Option Value)} (h : rin N v) (t : ∀ v, some v ∈ ls → rin N v) : ∀ w, some w ∈ some v :: ls → rin N w := fun w hw => by
  rcases List.mem_cons.mp hw with e | e
  · cases e; exact h
  · exact t w e
theorem rl_n {N : List Nat} {ls : List (Option Value)} (t : ∀ v, some v ∈ ls → rin N v) : ∀ w, some w ∈ (none : Option Value) :: ls → rin N w := fun w hw => by
  rcases List.mem_cons.mp hw with e | e
  · cases e
  · exact t w e
set_option maxRecDepth 100000 in
theorem ac_I : Cond.arrayClass .int ∈ gw := gw_t 116 (by rfl) (by rfl)
set_option maxRecDepth 100000 in
theorem ac_Z : Cond.arrayClass .boolean ∈ gw := gw_t 276 (by rfl) (by rfl)
set_option maxRecDepth 100000 in
theorem ac_J : Cond.arrayClass .long ∈ gw := gw_t 1908 (by rfl) (by rfl)
set_option maxRecDepth 100000 in
theorem ob_i : Cond.instanceMethod Lib.objectInit ∈ gw := gw_t 29 (by rfl) (by rfl)
set_option maxRecDepth 100000 in
theorem ob_c : Cond.code Lib.objectInit ⟨#[0xb1]⟩ 1 none ∈ gw := gw_t 30 (by rfl) (by rfl)
set_option maxRecDepth 100000 in
theorem iz_0 : Cond.instantiable RX0 4 ∈ gw := gw_t 252 (by rfl) (by rfl)
theorem df_0 : ∀ j, j < 4 → (gK 0 j = 0 ∨ gK 0 j = 2) ∧ defaultValue (tyX0 j) = ab (gK 0 j) 0 := by decide +kernel
set_option maxRecDepth 100000 in
theorem iz_1 : Cond.instantiable RX1 7 ∈ gw := gw_t 277 (by rfl) (by rfl)
theorem df_1 : ∀ j, j < 7 → (gK 1 j = 0 ∨ gK 1 j = 2) ∧ defaultValue (tyX1 j) = ab (gK 1 j) 0 := by decide +kernel
set_option maxRecDepth 100000 in
theorem iz_2 : Cond.instantiable RX2 9 ∈ gw := gw_t 218 (by rfl) (by rfl)
theorem df_2 : ∀ j, j < 9 → (gK 2 j = 0 ∨ gK 2 j = 2) ∧ defaultValue (tyX2 j) = ab (gK 2 j) 0 := by decide +kernel
set_option maxRecDepth 100000 in
theorem iz_3 : Cond.instantiable RX3 5 ∈ gw := gw_t 123 (by rfl) (by rfl)
theorem df_3 : ∀ j, j < 5 → (gK 3 j = 0 ∨ gK 3 j = 2) ∧ defaultValue (tyX3 j) = ab (gK 3 j) 0 := by decide +kernel
set_option maxRecDepth 100000 in
theorem iz_4 : Cond.instantiable RX4 4 ∈ gw := gw_t 199 (by rfl) (by rfl)
theorem df_4 : ∀ j, j < 4 → (gK 4 j = 0 ∨ gK 4 j = 2) ∧ defaultValue (tyX4 j) = ab (gK 4 j) 0 := by decide +kernel
set_option maxRecDepth 100000 in
theorem iz_5 : Cond.instantiable RX5 10 ∈ gw := gw_t 149 (by rfl) (by rfl)
theorem df_5 : ∀ j, j < 10 → (gK 5 j = 0 ∨ gK 5 j = 2) ∧ defaultValue (tyX5 j) = ab (gK 5 j) 0 := by decide +kernel
set_option maxRecDepth 100000 in
theorem iz_6 : Cond.instantiable RX6 17 ∈ gw := gw_t 32 (by rfl) (by rfl)
theorem df_6 : ∀ j, j < 17 → (gK 6 j = 0 ∨ gK 6 j = 2) ∧ defaultValue (tyX6 j) = ab (gK 6 j) 0 := by decide +kernel
set_option maxRecDepth 100000 in
theorem iz_7 : Cond.instantiable RX7 18 ∈ gw := gw_t 24 (by rfl) (by rfl)
theorem df_7 : ∀ j, j < 18 → (gK 7 j = 0 ∨ gK 7 j = 2) ∧ defaultValue (tyX7 j) = ab (gK 7 j) 0 := by decide +kernel
set_option maxRecDepth 100000 in
theorem iz_8 : Cond.instantiable RX8 56 ∈ gw := gw_t 1304 (by rfl) (by rfl)
theorem df_8 : ∀ j, j < 56 → (gK 8 j = 0 ∨ gK 8 j = 2) ∧ defaultValue (tyX8 j) = ab (gK 8 j) 0 := by decide +kernel
theorem noL_8 : NO RL 8 7 18 (gK 7) := ⟨_, _, tyX7, rfl, wX7, tyX7_ok, clL_8, iz_7, in_YardTalk, df_7⟩
theorem noX7_7 : NO RX7 7 6 17 (gK 6) := ⟨_, _, tyX6, rfl, wX6, tyX6_ok, clX7_7, iz_6, in_YardTalk_World, df_6⟩
theorem noX7_23 : NO RX7 23 0 4 (gK 0) := ⟨_, _, tyX0, rfl, wX0, tyX0_ok, clX7_23, iz_0, in_YardTalk_Film, df_0⟩
theorem noX7_29 : NO RX7 29 1 7 (gK 1) := ⟨_, _, tyX1, rfl, wX1, tyX1_ok, clX7_29, iz_1, in_YardTalk_Law, df_1⟩
theorem noX7_35 : NO RX7 35 3 5 (gK 3) := ⟨_, _, tyX3, rfl, wX3, tyX3_ok, clX7_35, iz_3, in_YardTalk_Notes, df_3⟩
theorem noX7_42 : NO RX7 42 5 10 (gK 5) := ⟨_, _, tyX5, rfl, wX5, tyX5_ok, clX7_42, iz_5, in_YardTalk_Speech, df_5⟩
theorem noX7_49 : NO RX7 49 4 4 (gK 4) := ⟨_, _, tyX4, rfl, wX4, tyX4_ok, clX7_49, iz_4, in_YardTalk_Ruling, df_4⟩
theorem noX7_56 : NO RX7 56 2 9 (gK 2) := ⟨_, _, tyX2, rfl, wX2, tyX2_ok, clX7_56, iz_2, in_YardTalk_LawReader, df_2⟩
theorem noX0_9 : NO RX0 9 6 17 (gK 6) := ⟨_, _, tyX6, rfl, wX6, tyX6_ok, clX0_9, iz_6, in_YardTalk_World, df_6⟩
theorem noL_137 : NO RL 137 8 56 (gK 8) := ⟨_, _, tyX8, rfl, wX8, tyX8_ok, clL_137, iz_8, in_YardTalkModel, df_8⟩
set_option maxRecDepth 100000 in
theorem ffX6_33 : FF RX6 33 6 7 17 (.array .int) := ⟨_, _, rfl, by decide, gw_t 53 (by rfl) (by rfl), wX6, rfl, rfl, by decide +kernel, ⟨tyX6, tyX6_ok⟩, nmX6⟩
set_option maxRecDepth 100000 in
theorem ffX6_37 : FF RX6 37 6 8 17 (.array .int) := ⟨_, _, rfl, by decide, gw_t 56 (by rfl) (by rfl), wX6, rfl, rfl, by decide +kernel, ⟨tyX6, tyX6_ok⟩, nmX6⟩
set_option maxRecDepth 100000 in
theorem ffX6_40 : FF RX6 40 6 9 17 (.array .int) := ⟨_, _, rfl, by decide, gw_t 57 (by rfl) (by rfl), wX6, rfl, rfl, by decide +kernel, ⟨tyX6, tyX6_ok⟩, nmX6⟩
set_option maxRecDepth 100000 in
theorem ffX6_43 : FF RX6 43 6 10 17 (.array .int) := ⟨_, _, rfl, by decide, gw_t 58 (by rfl) (by rfl), wX6, rfl, rfl, by decide +kernel, ⟨tyX6, tyX6_ok⟩, nmX6⟩
set_option maxRecDepth 100000 in
theorem ffX6_46 : FF RX6 46 6 11 17 (.array .int) := ⟨_, _, rfl, by decide, gw_t 62 (by rfl) (by rfl), wX6, rfl, rfl, by decide +kernel, ⟨tyX6, tyX6_ok⟩, nmX6⟩
set_option maxRecDepth 100000 in
theorem ffX6_49 : FF RX6 49 6 12 17 (.array .int) := ⟨_, _, rfl, by decide, gw_t 64 (by rfl) (by rfl), wX6, rfl, rfl, by decide +kernel, ⟨tyX6, tyX6_ok⟩, nmX6⟩
set_option maxRecDepth 100000 in
theorem ffX6_52 : FF RX6 52 6 13 17 (.array .int) := ⟨_, _, rfl, by decide, gw_t 68 (by rfl) (by rfl), wX6, rfl, rfl, by decide +kernel, ⟨tyX6, tyX6_ok⟩, nmX6⟩
set_option maxRecDepth 100000 in
theorem ffX6_55 : FF RX6 55 6 14 17 (.array .int) := ⟨_, _, rfl, by decide, gw_t 71 (by rfl) (by rfl), wX6, rfl, rfl, by decide +kernel, ⟨tyX6, tyX6_ok⟩, nmX6⟩
set_option maxRecDepth 100000 in
theorem ffX6_58 : FF RX6 58 6 15 17 (.array .int) := ⟨_, _, rfl, by decide, gw_t 74 (by rfl) (by rfl), wX6, rfl, rfl, by decide +kernel, ⟨tyX6, tyX6_ok⟩, nmX6⟩
set_option maxRecDepth 100000 in
theorem ffX6_61 : FF RX6 61 6 16 17 (.array .int) := ⟨_, _, rfl, by decide, gw_t 78 (by rfl) (by rfl), wX6, rfl, rfl, by decide +kernel, ⟨tyX6, tyX6_ok⟩, nmX6⟩
set_option maxRecDepth 100000 in
theorem ffX3_15 : FF RX3 15 3 1 5 (.array .int) := ⟨_, _, rfl, by decide, gw_t 130 (by rfl) (by rfl), wX3, rfl, rfl, by decide +kernel, ⟨tyX3, tyX3_ok⟩, nmX3⟩
set_option maxRecDepth 100000 in
theorem ffX3_19 : FF RX3 19 3 2 5 (.array .int) := ⟨_, _, rfl, by decide, gw_t 131 (by rfl) (by rfl), wX3, rfl, rfl, by decide +kernel, ⟨tyX3, tyX3_ok⟩, nmX3⟩
set_option maxRecDepth 100000 in
theorem ffX3_22 : FF RX3 22 3 3 5 (.array .int) := ⟨_, _, rfl, by decide, gw_t 133 (by rfl) (by rfl), wX3, rfl, rfl, by decide +kernel, ⟨tyX3, tyX3_ok⟩, nmX3⟩
set_option maxRecDepth 100000 in
theorem ffX3_25 : FF RX3 25 3 4 5 (.array .int) := ⟨_, _, rfl, by decide, gw_t 135 (by rfl) (by rfl), wX3, rfl, rfl, by decide +kernel, ⟨tyX3, tyX3_ok⟩, nmX3⟩
set_option maxRecDepth 100000 in
theorem ffX5_18 : FF RX5 18 5 2 10 (.array .int) := ⟨_, _, rfl, by decide, gw_t 160 (by rfl) (by rfl), wX5, rfl, rfl, by decide +kernel, ⟨tyX5, tyX5_ok⟩, nmX5⟩
set_option maxRecDepth 100000 in
theorem ffX5_25 : FF RX5 25 5 4 10 (.array .int) := ⟨_, _, rfl, by decide, gw_t 164 (by rfl) (by rfl), wX5, rfl, rfl, by decide +kernel, ⟨tyX5, tyX5_ok⟩, nmX5⟩
set_option maxRecDepth 100000 in
theorem ffX5_31 : FF RX5 31 5 6 10 (.array .int) := ⟨_, _, rfl, by decide, gw_t 168 (by rfl) (by rfl), wX5, rfl, rfl, by decide +kernel, ⟨tyX5, tyX5_ok⟩, nmX5⟩
set_option maxRecDepth 100000 in
theorem ffX4_11 : FF RX4 11 4 0 4 (.array .int) := ⟨_, _, rfl, by decide, gw_t 204 (by rfl) (by rfl), wX4, rfl, rfl, by decide +kernel, ⟨tyX4, tyX4_ok⟩, nmX4⟩
set_option maxRecDepth 100000 in
theorem ffX4_17 : FF RX4 17 4 1 4 (.array .int) := ⟨_, _, rfl, by decide, gw_t 205 (by rfl) (by rfl), wX4, rfl, rfl, by decide +kernel, ⟨tyX4, tyX4_ok⟩, nmX4⟩
set_option maxRecDepth 100000 in
theorem ffX0_12 : FF RX0 12 0 0 4 (.object "YardTalk$World") := ⟨_, _, rfl, by decide, gw_t 259 (by rfl) (by rfl), wX0, rfl, rfl, by decide +kernel, ⟨tyX0, tyX0_ok⟩, nmX0⟩
set_option maxRecDepth 100000 in
theorem ffX0_18 : FF RX0 18 0 1 4 (.array .boolean) := ⟨_, _, rfl, by decide, gw_t 261 (by rfl) (by rfl), wX0, rfl, rfl, by decide +kernel, ⟨tyX0, tyX0_ok⟩, nmX0⟩
set_option maxRecDepth 100000 in
theorem ffX1_15 : FF RX1 15 1 1 7 (.array .int) := ⟨_, _, rfl, by decide, gw_t 285 (by rfl) (by rfl), wX1, rfl, rfl, by decide +kernel, ⟨tyX1, tyX1_ok⟩, nmX1⟩
set_option maxRecDepth 100000 in
theorem ffX1_19 : FF RX1 19 1 2 7 (.array .int) := ⟨_, _, rfl, by decide, gw_t 287 (by rfl) (by rfl), wX1, rfl, rfl, by decide +kernel, ⟨tyX1, tyX1_ok⟩, nmX1⟩
set_option maxRecDepth 100000 in
theorem ffX1_22 : FF RX1 22 1 3 7 (.array .int) := ⟨_, _, rfl, by decide, gw_t 289 (by rfl) (by rfl), wX1, rfl, rfl, by decide +kernel, ⟨tyX1, tyX1_ok⟩, nmX1⟩
set_option maxRecDepth 100000 in
theorem ffX1_25 : FF RX1 25 1 4 7 (.array .int) := ⟨_, _, rfl, by decide, gw_t 291 (by rfl) (by rfl), wX1, rfl, rfl, by decide +kernel, ⟨tyX1, tyX1_ok⟩, nmX1⟩
set_option maxRecDepth 100000 in
theorem ffX1_28 : FF RX1 28 1 5 7 (.array .int) := ⟨_, _, rfl, by decide, gw_t 293 (by rfl) (by rfl), wX1, rfl, rfl, by decide +kernel, ⟨tyX1, tyX1_ok⟩, nmX1⟩
set_option maxRecDepth 100000 in
theorem ffX7_10 : FF RX7 10 7 0 18 (.object "YardTalk$World") := ⟨_, _, rfl, by decide, gw_t 310 (by rfl) (by rfl), wX7, rfl, rfl, by decide +kernel, ⟨tyX7, tyX7_ok⟩, nmX7⟩
set_option maxRecDepth 100000 in
theorem ffX7_16 : FF RX7 16 7 1 18 (.object "YardTalk$World") := ⟨_, _, rfl, by decide, gw_t 311 (by rfl) (by rfl), wX7, rfl, rfl, by decide +kernel, ⟨tyX7, tyX7_ok⟩, nmX7⟩
set_option maxRecDepth 100000 in
theorem ffX7_19 : FF RX7 19 7 2 18 (.array (.object "YardTalk$World")) := ⟨_, _, rfl, by decide, gw_t 312 (by rfl) (by rfl), wX7, rfl, rfl, by decide +kernel, ⟨tyX7, tyX7_ok⟩, nmX7⟩
set_option maxRecDepth 100000 in
theorem ffX7_25 : FF RX7 25 7 3 18 (.array (.object "YardTalk$Film")) := ⟨_, _, rfl, by decide, gw_t 313 (by rfl) (by rfl), wX7, rfl, rfl, by decide +kernel, ⟨tyX7, tyX7_ok⟩, nmX7⟩
set_option maxRecDepth 100000 in
theorem ffX7_31 : FF RX7 31 7 4 18 (.array (.object "YardTalk$Law")) := ⟨_, _, rfl, by decide, gw_t 314 (by rfl) (by rfl), wX7, rfl, rfl, by decide +kernel, ⟨tyX7, tyX7_ok⟩, nmX7⟩
set_option maxRecDepth 100000 in
theorem ffX7_38 : FF RX7 38 7 5 18 (.object "YardTalk$Notes") := ⟨_, _, rfl, by decide, gw_t 315 (by rfl) (by rfl), wX7, rfl, rfl, by decide +kernel, ⟨tyX7, tyX7_ok⟩, nmX7⟩
set_option maxRecDepth 100000 in
theorem ffX7_45 : FF RX7 45 7 6 18 (.object "YardTalk$Speech") := ⟨_, _, rfl, by decide, gw_t 316 (by rfl) (by rfl), wX7, rfl, rfl, by decide +kernel, ⟨tyX7, tyX7_ok⟩, nmX7⟩
set_option maxRecDepth 100000 in
theorem ffX7_52 : FF RX7 52 7 7 18 (.object "YardTalk$Ruling") := ⟨_, _, rfl, by decide, gw_t 317 (by rfl) (by rfl), wX7, rfl, rfl, by decide +kernel, ⟨tyX7, tyX7_ok⟩, nmX7⟩
set_option maxRecDepth 100000 in
theorem ffX7_59 : FF RX7 59 7 8 18 (.object "YardTalk$LawReader") := ⟨_, _, rfl, by decide, gw_t 318 (by rfl) (by rfl), wX7, rfl, rfl, by decide +kernel, ⟨tyX7, tyX7_ok⟩, nmX7⟩
set_option maxRecDepth 100000 in
theorem ffX7_63 : FF RX7 63 7 9 18 (.array .int) := ⟨_, _, rfl, by decide, gw_t 319 (by rfl) (by rfl), wX7, rfl, rfl, by decide +kernel, ⟨tyX7, tyX7_ok⟩, nmX7⟩
set_option maxRecDepth 100000 in
theorem ffX7_67 : FF RX7 67 7 10 18 (.array .int) := ⟨_, _, rfl, by decide, gw_t 320 (by rfl) (by rfl), wX7, rfl, rfl, by decide +kernel, ⟨tyX7, tyX7_ok⟩, nmX7⟩
set_option maxRecDepth 100000 in
theorem ffX7_70 : FF RX7 70 7 11 18 (.array .int) := ⟨_, _, rfl, by decide, gw_t 321 (by rfl) (by rfl), wX7, rfl, rfl, by decide +kernel, ⟨tyX7, tyX7_ok⟩, nmX7⟩
set_option maxRecDepth 100000 in
theorem ffX8_13 : FF RX8 13 8 1 56 (.array .int) := ⟨_, _, rfl, by decide, gw_t 1310 (by rfl) (by rfl), wX8, rfl, rfl, by decide +kernel, ⟨tyX8, tyX8_ok⟩, nmX8⟩
set_option maxRecDepth 100000 in
theorem ffX8_17 : FF RX8 17 8 2 56 (.array .int) := ⟨_, _, rfl, by decide, gw_t 1311 (by rfl) (by rfl), wX8, rfl, rfl, by decide +kernel, ⟨tyX8, tyX8_ok⟩, nmX8⟩
set_option maxRecDepth 100000 in
theorem ffX8_26 : FF RX8 26 8 13 56 (.array .int) := ⟨_, _, rfl, by decide, gw_t 1322 (by rfl) (by rfl), wX8, rfl, rfl, by decide +kernel, ⟨tyX8, tyX8_ok⟩, nmX8⟩
set_option maxRecDepth 100000 in
theorem ffX8_29 : FF RX8 29 8 14 56 (.array .int) := ⟨_, _, rfl, by decide, gw_t 1323 (by rfl) (by rfl), wX8, rfl, rfl, by decide +kernel, ⟨tyX8, tyX8_ok⟩, nmX8⟩
set_option maxRecDepth 100000 in
theorem ffX8_32 : FF RX8 32 8 15 56 (.array .int) := ⟨_, _, rfl, by decide, gw_t 1324 (by rfl) (by rfl), wX8, rfl, rfl, by decide +kernel, ⟨tyX8, tyX8_ok⟩, nmX8⟩
set_option maxRecDepth 100000 in
theorem ffX8_35 : FF RX8 35 8 16 56 (.array .int) := ⟨_, _, rfl, by decide, gw_t 1325 (by rfl) (by rfl), wX8, rfl, rfl, by decide +kernel, ⟨tyX8, tyX8_ok⟩, nmX8⟩
set_option maxRecDepth 100000 in
theorem ffX8_38 : FF RX8 38 8 17 56 (.array .int) := ⟨_, _, rfl, by decide, gw_t 1326 (by rfl) (by rfl), wX8, rfl, rfl, by decide +kernel, ⟨tyX8, tyX8_ok⟩, nmX8⟩
set_option maxRecDepth 100000 in
theorem ffX8_41 : FF RX8 41 8 18 56 (.array .int) := ⟨_, _, rfl, by decide, gw_t 1327 (by rfl) (by rfl), wX8, rfl, rfl, by decide +kernel, ⟨tyX8, tyX8_ok⟩, nmX8⟩
set_option maxRecDepth 100000 in
theorem ffX8_44 : FF RX8 44 8 19 56 (.array .int) := ⟨_, _, rfl, by decide, gw_t 1328 (by rfl) (by rfl), wX8, rfl, rfl, by decide +kernel, ⟨tyX8, tyX8_ok⟩, nmX8⟩
set_option maxRecDepth 100000 in
theorem ffX8_47 : FF RX8 47 8 20 56 (.array .int) := ⟨_, _, rfl, by decide, gw_t 1329 (by rfl) (by rfl), wX8, rfl, rfl, by decide +kernel, ⟨tyX8, tyX8_ok⟩, nmX8⟩
set_option maxRecDepth 100000 in
theorem ffX8_53 : FF RX8 53 8 28 56 (.array .int) := ⟨_, _, rfl, by decide, gw_t 1337 (by rfl) (by rfl), wX8, rfl, rfl, by decide +kernel, ⟨tyX8, tyX8_ok⟩, nmX8⟩
set_option maxRecDepth 100000 in
theorem ffX8_56 : FF RX8 56 8 34 56 (.array .int) := ⟨_, _, rfl, by decide, gw_t 1343 (by rfl) (by rfl), wX8, rfl, rfl, by decide +kernel, ⟨tyX8, tyX8_ok⟩, nmX8⟩
set_option maxRecDepth 100000 in
theorem ffX8_59 : FF RX8 59 8 35 56 (.array .int) := ⟨_, _, rfl, by decide, gw_t 1344 (by rfl) (by rfl), wX8, rfl, rfl, by decide +kernel, ⟨tyX8, tyX8_ok⟩, nmX8⟩
set_option maxRecDepth 100000 in
theorem ffX8_62 : FF RX8 62 8 36 56 (.array .int) := ⟨_, _, rfl, by decide, gw_t 1345 (by rfl) (by rfl), wX8, rfl, rfl, by decide +kernel, ⟨tyX8, tyX8_ok⟩, nmX8⟩
set_option maxRecDepth 100000 in
theorem ffX8_65 : FF RX8 65 8 38 56 (.array .int) := ⟨_, _, rfl, by decide, gw_t 1347 (by rfl) (by rfl), wX8, rfl, rfl, by decide +kernel, ⟨tyX8, tyX8_ok⟩, nmX8⟩
set_option maxRecDepth 100000 in
theorem ffX8_68 : FF RX8 68 8 39 56 (.array .int) := ⟨_, _, rfl, by decide, gw_t 1348 (by rfl) (by rfl), wX8, rfl, rfl, by decide +kernel, ⟨tyX8, tyX8_ok⟩, nmX8⟩
set_option maxRecDepth 100000 in
theorem ffX8_71 : FF RX8 71 8 40 56 (.array .int) := ⟨_, _, rfl, by decide, gw_t 1349 (by rfl) (by rfl), wX8, rfl, rfl, by decide +kernel, ⟨tyX8, tyX8_ok⟩, nmX8⟩
set_option maxRecDepth 100000 in
theorem ffX8_74 : FF RX8 74 8 42 56 (.array .int) := ⟨_, _, rfl, by decide, gw_t 1351 (by rfl) (by rfl), wX8, rfl, rfl, by decide +kernel, ⟨tyX8, tyX8_ok⟩, nmX8⟩
set_option maxRecDepth 100000 in
theorem ffX8_80 : FF RX8 80 8 47 56 (.array .int) := ⟨_, _, rfl, by decide, gw_t 1356 (by rfl) (by rfl), wX8, rfl, rfl, by decide +kernel, ⟨tyX8, tyX8_ok⟩, nmX8⟩
set_option maxRecDepth 100000 in
theorem ffX8_83 : FF RX8 83 8 48 56 (.array .int) := ⟨_, _, rfl, by decide, gw_t 1357 (by rfl) (by rfl), wX8, rfl, rfl, by decide +kernel, ⟨tyX8, tyX8_ok⟩, nmX8⟩
set_option maxRecDepth 100000 in
theorem ffX8_86 : FF RX8 86 8 49 56 (.array .int) := ⟨_, _, rfl, by decide, gw_t 1358 (by rfl) (by rfl), wX8, rfl, rfl, by decide +kernel, ⟨tyX8, tyX8_ok⟩, nmX8⟩
set_option maxRecDepth 100000 in
theorem ffX8_89 : FF RX8 89 8 50 56 (.array .boolean) := ⟨_, _, rfl, by decide, gw_t 1359 (by rfl) (by rfl), wX8, rfl, rfl, by decide +kernel, ⟨tyX8, tyX8_ok⟩, nmX8⟩
set_option maxRecDepth 100000 in
theorem ffX8_93 : FF RX8 93 8 51 56 (.array .int) := ⟨_, _, rfl, by decide, gw_t 1360 (by rfl) (by rfl), wX8, rfl, rfl, by decide +kernel, ⟨tyX8, tyX8_ok⟩, nmX8⟩
set_option maxRecDepth 100000 in
theorem ffX8_96 : FF RX8 96 8 52 56 (.array .int) := ⟨_, _, rfl, by decide, gw_t 1361 (by rfl) (by rfl), wX8, rfl, rfl, by decide +kernel, ⟨tyX8, tyX8_ok⟩, nmX8⟩
set_option maxRecDepth 100000 in
theorem ffX8_99 : FF RX8 99 8 53 56 (.array .int) := ⟨_, _, rfl, by decide, gw_t 1362 (by rfl) (by rfl), wX8, rfl, rfl, by decide +kernel, ⟨tyX8, tyX8_ok⟩, nmX8⟩
set_option maxRecDepth 100000 in
theorem ffX8_102 : FF RX8 102 8 55 56 (.array .int) := ⟨_, _, rfl, by decide, gw_t 1364 (by rfl) (by rfl), wX8, rfl, rfl, by decide +kernel, ⟨tyX8, tyX8_ok⟩, nmX8⟩
set_option maxRecDepth 100000 in
theorem miL_136 : MI RL 136 yX7_init cX7_init 2 := ⟨Or.inl mlL_136, rfl, gw_t 26 (by rfl) (by rfl), in_YardTalk, k_yX7_init, by decide +kernel, by decide +kernel⟩
set_option maxRecDepth 100000 in
theorem miX7_37 : MI RX7 37 yX3_init cX3_init 2 := ⟨Or.inl mlX7_37, rfl, gw_t 125 (by rfl) (by rfl), in_YardTalk_Notes, k_yX3_init, by decide +kernel, by decide +kernel⟩
set_option maxRecDepth 100000 in
theorem miL_139 : MI RL 139 yX8_init cX8_init 2 := ⟨Or.inl mlL_139, rfl, gw_t 1306 (by rfl) (by rfl), in_YardTalkModel, k_yX8_init, by decide +kernel, by decide +kernel⟩
set_option maxRecDepth 100000 in
theorem miX7_9 : MI RX7 9 yX6_init cX6_init 1 := ⟨Or.inr ⟨"YardTalk", by decide +kernel⟩, rfl, gw_t 34 (by rfl) (by rfl), in_YardTalk_World, k_yX6_init, by decide +kernel, by decide +kernel⟩
set_option maxRecDepth 100000 in
theorem miX7_44 : MI RX7 44 yX5_init cX5_init 1 := ⟨Or.inr ⟨"YardTalk", by decide +kernel⟩, rfl, gw_t 151 (by rfl) (by rfl), in_YardTalk_Speech, k_yX5_init, by decide +kernel, by decide +kernel⟩
set_option maxRecDepth 100000 in
theorem miX7_51 : MI RX7 51 yX4_init cX4_init 1 := ⟨Or.inr ⟨"YardTalk", by decide +kernel⟩, rfl, gw_t 201 (by rfl) (by rfl), in_YardTalk_Ruling, k_yX4_init, by decide +kernel, by decide +kernel⟩
set_option maxRecDepth 100000 in
theorem miX7_58 : MI RX7 58 yX2_init cX2_init 1 := ⟨Or.inr ⟨"YardTalk", by decide +kernel⟩, rfl, gw_t 220 (by rfl) (by rfl), in_YardTalk_LawReader, k_yX2_init, by decide +kernel, by decide +kernel⟩
set_option maxRecDepth 100000 in
theorem miX7_92 : MI RX7 92 yX0_init cX0_init 1 := ⟨Or.inr ⟨"YardTalk", by decide +kernel⟩, rfl, gw_t 254 (by rfl) (by rfl), in_YardTalk_Film, k_yX0_init, by decide +kernel, by decide +kernel⟩
set_option maxRecDepth 100000 in
theorem miX0_11 : MI RX0 11 yX6_init cX6_init 1 := ⟨Or.inr ⟨"YardTalk", by decide +kernel⟩, rfl, gw_t 34 (by rfl) (by rfl), in_YardTalk_World, k_yX6_init, by decide +kernel, by decide +kernel⟩
set_option maxRecDepth 100000 in
theorem miX7_93 : MI RX7 93 yX1_init cX1_init 1 := ⟨Or.inr ⟨"YardTalk", by decide +kernel⟩, rfl, gw_t 279 (by rfl) (by rfl), in_YardTalk_Law, k_yX1_init, by decide +kernel, by decide +kernel⟩

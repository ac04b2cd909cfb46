/-! LINKS: what the class files' entries name (by program) -/
theorem gw_ws {C : String} {T : u_T} {m : Nat} (ps : List Nat) (h : u_ws C T m = ps.filterMap (fun i => tables_1[i]?)) (hg : (u_ws C T m).all goodWord = true) : ∀ w ∈ u_ws C T m, w ∈ gw := by
  intro w hw
  have h1 := List.all_eq_true.mp hg w hw
  rw [h] at hw
  obtain ⟨i, -, hi⟩ := List.mem_filterMap.mp hw
  exact gw_t i hi h1
set_option maxRecDepth 100000 in
theorem wX0 : ∀ w ∈ u_ws RX0 TX0 4, w ∈ gw := gw_ws [267, 269, 271, 273] (by decide +kernel) (by decide +kernel)
set_option maxRecDepth 100000 in
theorem wX1 : ∀ w ∈ u_ws RX1 TX1 7, w ∈ gw := gw_ws [295, 297, 299, 301, 303, 305, 307] (by decide +kernel) (by decide +kernel)
set_option maxRecDepth 100000 in
theorem wX2 : ∀ w ∈ u_ws RX2 TX2 9, w ∈ gw := gw_ws [233, 235, 237, 239, 241, 243, 245, 247, 249] (by decide +kernel) (by decide +kernel)
set_option maxRecDepth 100000 in
theorem wX3 : ∀ w ∈ u_ws RX3 TX3 5, w ∈ gw := gw_ws [137, 139, 141, 143, 145] (by decide +kernel) (by decide +kernel)
set_option maxRecDepth 100000 in
theorem wX4 : ∀ w ∈ u_ws RX4 TX4 4, w ∈ gw := gw_ws [208, 210, 212, 214] (by decide +kernel) (by decide +kernel)
set_option maxRecDepth 100000 in
theorem wX5 : ∀ w ∈ u_ws RX5 TX5 10, w ∈ gw := gw_ws [177, 179, 181, 183, 185, 187, 189, 191, 193, 195] (by decide +kernel) (by decide +kernel)
set_option maxRecDepth 100000 in
theorem wX6 : ∀ w ∈ u_ws RX6 TX6 17, w ∈ gw := gw_ws [81, 83, 85, 87, 89, 91, 93, 95, 97, 99, 101, 103, 105, 107, 109, 111, 113] (by decide +kernel) (by decide +kernel)
set_option maxRecDepth 100000 in
theorem wX7 : ∀ w ∈ u_ws RX7 TX7 18, w ∈ gw := gw_ws [328, 330, 332, 334, 336, 338, 340, 342, 344, 346, 348, 350, 352, 354, 356, 358, 360, 362] (by decide +kernel) (by decide +kernel)
set_option maxRecDepth 100000 in
theorem wX8 : ∀ w ∈ u_ws RX8 TX8 56, w ∈ gw := gw_ws [1365, 1367, 1369, 1371, 1373, 1375, 1377, 1379, 1381, 1383, 1385, 1387, 1389, 1391, 1393, 1395, 1397, 1399, 1401, 1403, 1405, 1407, 1409, 1411, 1413, 1415, 1417, 1419, 1421, 1423, 1425, 1427, 1429, 1431, 1433, 1435, 1437, 1439, 1441, 1443, 1445, 1447, 1449, 1451, 1453, 1455, 1457, 1459, 1461, 1463, 1465, 1467, 1469, 1471, 1473, 1475] (by decide +kernel) (by decide +kernel)
set_option maxRecDepth 100000 in
theorem flX6_9 : FL RX6 9 6 0 17 := ⟨_, _, rfl, by decide, gw_t 37 (by rfl) (by rfl), wX6⟩
set_option maxRecDepth 100000 in
theorem fpX6_9 : FP RX6 9 6 0 17 .int := ⟨_, _, rfl, by decide, gw_t 37 (by rfl) (by rfl), wX6, rfl, by decide +kernel, ⟨tyX6, tyX6_ok⟩, nmX6⟩
set_option maxRecDepth 100000 in
theorem flX7_94 : FL RX7 94 6 0 17 := ⟨_, _, rfl, by decide, gw_t 38 (by rfl) (by rfl), wX6⟩
set_option maxRecDepth 100000 in
theorem fpX7_94 : FP RX7 94 6 0 17 .int := ⟨_, _, rfl, by decide, gw_t 38 (by rfl) (by rfl), wX6, rfl, by decide +kernel, ⟨tyX6, tyX6_ok⟩, nmX6⟩
set_option maxRecDepth 100000 in
theorem flX6_15 : FL RX6 15 6 1 17 := ⟨_, _, rfl, by decide, gw_t 39 (by rfl) (by rfl), wX6⟩
set_option maxRecDepth 100000 in
theorem fpX6_15 : FP RX6 15 6 1 17 .int := ⟨_, _, rfl, by decide, gw_t 39 (by rfl) (by rfl), wX6, rfl, by decide +kernel, ⟨tyX6, tyX6_ok⟩, nmX6⟩
set_option maxRecDepth 100000 in
theorem flX7_97 : FL RX7 97 6 1 17 := ⟨_, _, rfl, by decide, gw_t 40 (by rfl) (by rfl), wX6⟩
set_option maxRecDepth 100000 in
theorem fpX7_97 : FP RX7 97 6 1 17 .int := ⟨_, _, rfl, by decide, gw_t 40 (by rfl) (by rfl), wX6, rfl, by decide +kernel, ⟨tyX6, tyX6_ok⟩, nmX6⟩
set_option maxRecDepth 100000 in
theorem flX6_18 : FL RX6 18 6 2 17 := ⟨_, _, rfl, by decide, gw_t 41 (by rfl) (by rfl), wX6⟩
set_option maxRecDepth 100000 in
theorem fpX6_18 : FP RX6 18 6 2 17 .int := ⟨_, _, rfl, by decide, gw_t 41 (by rfl) (by rfl), wX6, rfl, by decide +kernel, ⟨tyX6, tyX6_ok⟩, nmX6⟩
set_option maxRecDepth 100000 in
theorem flX3_28 : FL RX3 28 6 2 17 := ⟨_, _, rfl, by decide, gw_t 42 (by rfl) (by rfl), wX6⟩
set_option maxRecDepth 100000 in
theorem fpX3_28 : FP RX3 28 6 2 17 .int := ⟨_, _, rfl, by decide, gw_t 42 (by rfl) (by rfl), wX6, rfl, by decide +kernel, ⟨tyX6, tyX6_ok⟩, nmX6⟩
set_option maxRecDepth 100000 in
theorem flX7_184 : FL RX7 184 6 2 17 := ⟨_, _, rfl, by decide, gw_t 43 (by rfl) (by rfl), wX6⟩
set_option maxRecDepth 100000 in
theorem fpX7_184 : FP RX7 184 6 2 17 .int := ⟨_, _, rfl, by decide, gw_t 43 (by rfl) (by rfl), wX6, rfl, by decide +kernel, ⟨tyX6, tyX6_ok⟩, nmX6⟩
set_option maxRecDepth 100000 in
theorem flX6_21 : FL RX6 21 6 3 17 := ⟨_, _, rfl, by decide, gw_t 44 (by rfl) (by rfl), wX6⟩
set_option maxRecDepth 100000 in
theorem fpX6_21 : FP RX6 21 6 3 17 .int := ⟨_, _, rfl, by decide, gw_t 44 (by rfl) (by rfl), wX6, rfl, by decide +kernel, ⟨tyX6, tyX6_ok⟩, nmX6⟩
set_option maxRecDepth 100000 in
theorem flX7_174 : FL RX7 174 6 3 17 := ⟨_, _, rfl, by decide, gw_t 45 (by rfl) (by rfl), wX6⟩
set_option maxRecDepth 100000 in
theorem fpX7_174 : FP RX7 174 6 3 17 .int := ⟨_, _, rfl, by decide, gw_t 45 (by rfl) (by rfl), wX6, rfl, by decide +kernel, ⟨tyX6, tyX6_ok⟩, nmX6⟩
set_option maxRecDepth 100000 in
theorem flX6_24 : FL RX6 24 6 4 17 := ⟨_, _, rfl, by decide, gw_t 46 (by rfl) (by rfl), wX6⟩
set_option maxRecDepth 100000 in
theorem fpX6_24 : FP RX6 24 6 4 17 .int := ⟨_, _, rfl, by decide, gw_t 46 (by rfl) (by rfl), wX6, rfl, by decide +kernel, ⟨tyX6, tyX6_ok⟩, nmX6⟩
set_option maxRecDepth 100000 in
theorem flX5_57 : FL RX5 57 6 4 17 := ⟨_, _, rfl, by decide, gw_t 47 (by rfl) (by rfl), wX6⟩
set_option maxRecDepth 100000 in
theorem fpX5_57 : FP RX5 57 6 4 17 .int := ⟨_, _, rfl, by decide, gw_t 47 (by rfl) (by rfl), wX6, rfl, by decide +kernel, ⟨tyX6, tyX6_ok⟩, nmX6⟩
set_option maxRecDepth 100000 in
theorem flX7_177 : FL RX7 177 6 4 17 := ⟨_, _, rfl, by decide, gw_t 48 (by rfl) (by rfl), wX6⟩
set_option maxRecDepth 100000 in
theorem fpX7_177 : FP RX7 177 6 4 17 .int := ⟨_, _, rfl, by decide, gw_t 48 (by rfl) (by rfl), wX6, rfl, by decide +kernel, ⟨tyX6, tyX6_ok⟩, nmX6⟩
set_option maxRecDepth 100000 in
theorem flX6_27 : FL RX6 27 6 5 17 := ⟨_, _, rfl, by decide, gw_t 49 (by rfl) (by rfl), wX6⟩
set_option maxRecDepth 100000 in
theorem fpX6_27 : FP RX6 27 6 5 17 .int := ⟨_, _, rfl, by decide, gw_t 49 (by rfl) (by rfl), wX6, rfl, by decide +kernel, ⟨tyX6, tyX6_ok⟩, nmX6⟩
set_option maxRecDepth 100000 in
theorem flX7_205 : FL RX7 205 6 5 17 := ⟨_, _, rfl, by decide, gw_t 50 (by rfl) (by rfl), wX6⟩
set_option maxRecDepth 100000 in
theorem fpX7_205 : FP RX7 205 6 5 17 .int := ⟨_, _, rfl, by decide, gw_t 50 (by rfl) (by rfl), wX6, rfl, by decide +kernel, ⟨tyX6, tyX6_ok⟩, nmX6⟩
set_option maxRecDepth 100000 in
theorem flX6_30 : FL RX6 30 6 6 17 := ⟨_, _, rfl, by decide, gw_t 51 (by rfl) (by rfl), wX6⟩
set_option maxRecDepth 100000 in
theorem fpX6_30 : FP RX6 30 6 6 17 .int := ⟨_, _, rfl, by decide, gw_t 51 (by rfl) (by rfl), wX6, rfl, by decide +kernel, ⟨tyX6, tyX6_ok⟩, nmX6⟩
set_option maxRecDepth 100000 in
theorem flX7_114 : FL RX7 114 6 6 17 := ⟨_, _, rfl, by decide, gw_t 52 (by rfl) (by rfl), wX6⟩
set_option maxRecDepth 100000 in
theorem fpX7_114 : FP RX7 114 6 6 17 .int := ⟨_, _, rfl, by decide, gw_t 52 (by rfl) (by rfl), wX6, rfl, by decide +kernel, ⟨tyX6, tyX6_ok⟩, nmX6⟩
set_option maxRecDepth 100000 in
theorem flX6_33 : FL RX6 33 6 7 17 := ⟨_, _, rfl, by decide, gw_t 53 (by rfl) (by rfl), wX6⟩
set_option maxRecDepth 100000 in
theorem flX5_86 : FL RX5 86 6 7 17 := ⟨_, _, rfl, by decide, gw_t 54 (by rfl) (by rfl), wX6⟩
set_option maxRecDepth 100000 in
theorem flX7_127 : FL RX7 127 6 7 17 := ⟨_, _, rfl, by decide, gw_t 55 (by rfl) (by rfl), wX6⟩
set_option maxRecDepth 100000 in
theorem flX6_37 : FL RX6 37 6 8 17 := ⟨_, _, rfl, by decide, gw_t 56 (by rfl) (by rfl), wX6⟩
set_option maxRecDepth 100000 in
theorem flX6_40 : FL RX6 40 6 9 17 := ⟨_, _, rfl, by decide, gw_t 57 (by rfl) (by rfl), wX6⟩
set_option maxRecDepth 100000 in
theorem flX6_43 : FL RX6 43 6 10 17 := ⟨_, _, rfl, by decide, gw_t 58 (by rfl) (by rfl), wX6⟩
set_option maxRecDepth 100000 in
theorem flX3_66 : FL RX3 66 6 10 17 := ⟨_, _, rfl, by decide, gw_t 59 (by rfl) (by rfl), wX6⟩
set_option maxRecDepth 100000 in
theorem flX7_134 : FL RX7 134 6 10 17 := ⟨_, _, rfl, by decide, gw_t 60 (by rfl) (by rfl), wX6⟩
set_option maxRecDepth 100000 in
theorem flX5_103 : FL RX5 103 6 10 17 := ⟨_, _, rfl, by decide, gw_t 61 (by rfl) (by rfl), wX6⟩
set_option maxRecDepth 100000 in
theorem flX6_46 : FL RX6 46 6 11 17 := ⟨_, _, rfl, by decide, gw_t 62 (by rfl) (by rfl), wX6⟩
set_option maxRecDepth 100000 in
theorem flX7_124 : FL RX7 124 6 11 17 := ⟨_, _, rfl, by decide, gw_t 63 (by rfl) (by rfl), wX6⟩
set_option maxRecDepth 100000 in
theorem flX6_49 : FL RX6 49 6 12 17 := ⟨_, _, rfl, by decide, gw_t 64 (by rfl) (by rfl), wX6⟩
set_option maxRecDepth 100000 in
theorem flX4_37 : FL RX4 37 6 12 17 := ⟨_, _, rfl, by decide, gw_t 65 (by rfl) (by rfl), wX6⟩
set_option maxRecDepth 100000 in
theorem flX5_67 : FL RX5 67 6 12 17 := ⟨_, _, rfl, by decide, gw_t 66 (by rfl) (by rfl), wX6⟩
set_option maxRecDepth 100000 in
theorem flX7_137 : FL RX7 137 6 12 17 := ⟨_, _, rfl, by decide, gw_t 67 (by rfl) (by rfl), wX6⟩
set_option maxRecDepth 100000 in
theorem flX6_52 : FL RX6 52 6 13 17 := ⟨_, _, rfl, by decide, gw_t 68 (by rfl) (by rfl), wX6⟩
set_option maxRecDepth 100000 in
theorem flX5_70 : FL RX5 70 6 13 17 := ⟨_, _, rfl, by decide, gw_t 69 (by rfl) (by rfl), wX6⟩
set_option maxRecDepth 100000 in
theorem flX7_140 : FL RX7 140 6 13 17 := ⟨_, _, rfl, by decide, gw_t 70 (by rfl) (by rfl), wX6⟩
set_option maxRecDepth 100000 in
theorem flX6_55 : FL RX6 55 6 14 17 := ⟨_, _, rfl, by decide, gw_t 71 (by rfl) (by rfl), wX6⟩
set_option maxRecDepth 100000 in
theorem flX7_154 : FL RX7 154 6 14 17 := ⟨_, _, rfl, by decide, gw_t 72 (by rfl) (by rfl), wX6⟩
set_option maxRecDepth 100000 in
theorem flX5_126 : FL RX5 126 6 14 17 := ⟨_, _, rfl, by decide, gw_t 73 (by rfl) (by rfl), wX6⟩
set_option maxRecDepth 100000 in
theorem flX6_58 : FL RX6 58 6 15 17 := ⟨_, _, rfl, by decide, gw_t 74 (by rfl) (by rfl), wX6⟩
set_option maxRecDepth 100000 in
theorem flX4_48 : FL RX4 48 6 15 17 := ⟨_, _, rfl, by decide, gw_t 75 (by rfl) (by rfl), wX6⟩
set_option maxRecDepth 100000 in
theorem flX7_164 : FL RX7 164 6 15 17 := ⟨_, _, rfl, by decide, gw_t 76 (by rfl) (by rfl), wX6⟩
set_option maxRecDepth 100000 in
theorem flX5_137 : FL RX5 137 6 15 17 := ⟨_, _, rfl, by decide, gw_t 77 (by rfl) (by rfl), wX6⟩
set_option maxRecDepth 100000 in
theorem flX6_61 : FL RX6 61 6 16 17 := ⟨_, _, rfl, by decide, gw_t 78 (by rfl) (by rfl), wX6⟩
set_option maxRecDepth 100000 in
theorem flX5_83 : FL RX5 83 6 16 17 := ⟨_, _, rfl, by decide, gw_t 79 (by rfl) (by rfl), wX6⟩
set_option maxRecDepth 100000 in
theorem flX7_269 : FL RX7 269 6 16 17 := ⟨_, _, rfl, by decide, gw_t 80 (by rfl) (by rfl), wX6⟩
set_option maxRecDepth 100000 in
theorem flX3_9 : FL RX3 9 3 0 5 := ⟨_, _, rfl, by decide, gw_t 128 (by rfl) (by rfl), wX3⟩
set_option maxRecDepth 100000 in
theorem fpX3_9 : FP RX3 9 3 0 5 .int := ⟨_, _, rfl, by decide, gw_t 128 (by rfl) (by rfl), wX3, rfl, by decide +kernel, ⟨tyX3, tyX3_ok⟩, nmX3⟩
set_option maxRecDepth 100000 in
theorem flX7_214 : FL RX7 214 3 0 5 := ⟨_, _, rfl, by decide, gw_t 129 (by rfl) (by rfl), wX3⟩
set_option maxRecDepth 100000 in
theorem fpX7_214 : FP RX7 214 3 0 5 .int := ⟨_, _, rfl, by decide, gw_t 129 (by rfl) (by rfl), wX3, rfl, by decide +kernel, ⟨tyX3, tyX3_ok⟩, nmX3⟩
set_option maxRecDepth 100000 in
theorem flX3_15 : FL RX3 15 3 1 5 := ⟨_, _, rfl, by decide, gw_t 130 (by rfl) (by rfl), wX3⟩
set_option maxRecDepth 100000 in
theorem flX3_19 : FL RX3 19 3 2 5 := ⟨_, _, rfl, by decide, gw_t 131 (by rfl) (by rfl), wX3⟩
set_option maxRecDepth 100000 in
theorem flX7_259 : FL RX7 259 3 2 5 := ⟨_, _, rfl, by decide, gw_t 132 (by rfl) (by rfl), wX3⟩
set_option maxRecDepth 100000 in
theorem flX3_22 : FL RX3 22 3 3 5 := ⟨_, _, rfl, by decide, gw_t 133 (by rfl) (by rfl), wX3⟩
set_option maxRecDepth 100000 in
theorem flX7_262 : FL RX7 262 3 3 5 := ⟨_, _, rfl, by decide, gw_t 134 (by rfl) (by rfl), wX3⟩
set_option maxRecDepth 100000 in
theorem flX3_25 : FL RX3 25 3 4 5 := ⟨_, _, rfl, by decide, gw_t 135 (by rfl) (by rfl), wX3⟩
set_option maxRecDepth 100000 in
theorem flX7_348 : FL RX7 348 3 4 5 := ⟨_, _, rfl, by decide, gw_t 136 (by rfl) (by rfl), wX3⟩
set_option maxRecDepth 100000 in
theorem flX5_9 : FL RX5 9 5 0 10 := ⟨_, _, rfl, by decide, gw_t 154 (by rfl) (by rfl), wX5⟩
set_option maxRecDepth 100000 in
theorem fpX5_9 : FP RX5 9 5 0 10 .int := ⟨_, _, rfl, by decide, gw_t 154 (by rfl) (by rfl), wX5, rfl, by decide +kernel, ⟨tyX5, tyX5_ok⟩, nmX5⟩
set_option maxRecDepth 100000 in
theorem flX3_33 : FL RX3 33 5 0 10 := ⟨_, _, rfl, by decide, gw_t 155 (by rfl) (by rfl), wX5⟩
set_option maxRecDepth 100000 in
theorem fpX3_33 : FP RX3 33 5 0 10 .int := ⟨_, _, rfl, by decide, gw_t 155 (by rfl) (by rfl), wX5, rfl, by decide +kernel, ⟨tyX5, tyX5_ok⟩, nmX5⟩
set_option maxRecDepth 100000 in
theorem flX7_414 : FL RX7 414 5 0 10 := ⟨_, _, rfl, by decide, gw_t 156 (by rfl) (by rfl), wX5⟩
set_option maxRecDepth 100000 in
theorem fpX7_414 : FP RX7 414 5 0 10 .int := ⟨_, _, rfl, by decide, gw_t 156 (by rfl) (by rfl), wX5, rfl, by decide +kernel, ⟨tyX5, tyX5_ok⟩, nmX5⟩
set_option maxRecDepth 100000 in
theorem flX5_15 : FL RX5 15 5 1 10 := ⟨_, _, rfl, by decide, gw_t 157 (by rfl) (by rfl), wX5⟩
set_option maxRecDepth 100000 in
theorem fpX5_15 : FP RX5 15 5 1 10 .int := ⟨_, _, rfl, by decide, gw_t 157 (by rfl) (by rfl), wX5, rfl, by decide +kernel, ⟨tyX5, tyX5_ok⟩, nmX5⟩
set_option maxRecDepth 100000 in
theorem flX3_38 : FL RX3 38 5 1 10 := ⟨_, _, rfl, by decide, gw_t 158 (by rfl) (by rfl), wX5⟩
set_option maxRecDepth 100000 in
theorem fpX3_38 : FP RX3 38 5 1 10 .int := ⟨_, _, rfl, by decide, gw_t 158 (by rfl) (by rfl), wX5, rfl, by decide +kernel, ⟨tyX5, tyX5_ok⟩, nmX5⟩
set_option maxRecDepth 100000 in
theorem flX7_407 : FL RX7 407 5 1 10 := ⟨_, _, rfl, by decide, gw_t 159 (by rfl) (by rfl), wX5⟩
set_option maxRecDepth 100000 in
theorem fpX7_407 : FP RX7 407 5 1 10 .int := ⟨_, _, rfl, by decide, gw_t 159 (by rfl) (by rfl), wX5, rfl, by decide +kernel, ⟨tyX5, tyX5_ok⟩, nmX5⟩
set_option maxRecDepth 100000 in
theorem flX5_18 : FL RX5 18 5 2 10 := ⟨_, _, rfl, by decide, gw_t 160 (by rfl) (by rfl), wX5⟩
set_option maxRecDepth 100000 in
theorem flX3_47 : FL RX3 47 5 2 10 := ⟨_, _, rfl, by decide, gw_t 161 (by rfl) (by rfl), wX5⟩
set_option maxRecDepth 100000 in
theorem flX5_22 : FL RX5 22 5 3 10 := ⟨_, _, rfl, by decide, gw_t 162 (by rfl) (by rfl), wX5⟩
set_option maxRecDepth 100000 in
theorem fpX5_22 : FP RX5 22 5 3 10 .int := ⟨_, _, rfl, by decide, gw_t 162 (by rfl) (by rfl), wX5, rfl, by decide +kernel, ⟨tyX5, tyX5_ok⟩, nmX5⟩
set_option maxRecDepth 100000 in
theorem flX3_41 : FL RX3 41 5 3 10 := ⟨_, _, rfl, by decide, gw_t 163 (by rfl) (by rfl), wX5⟩
set_option maxRecDepth 100000 in
theorem fpX3_41 : FP RX3 41 5 3 10 .int := ⟨_, _, rfl, by decide, gw_t 163 (by rfl) (by rfl), wX5, rfl, by decide +kernel, ⟨tyX5, tyX5_ok⟩, nmX5⟩
set_option maxRecDepth 100000 in
theorem flX5_25 : FL RX5 25 5 4 10 := ⟨_, _, rfl, by decide, gw_t 164 (by rfl) (by rfl), wX5⟩
set_option maxRecDepth 100000 in
theorem flX3_50 : FL RX3 50 5 4 10 := ⟨_, _, rfl, by decide, gw_t 165 (by rfl) (by rfl), wX5⟩
set_option maxRecDepth 100000 in
theorem flX5_28 : FL RX5 28 5 5 10 := ⟨_, _, rfl, by decide, gw_t 166 (by rfl) (by rfl), wX5⟩
set_option maxRecDepth 100000 in
theorem fpX5_28 : FP RX5 28 5 5 10 .int := ⟨_, _, rfl, by decide, gw_t 166 (by rfl) (by rfl), wX5, rfl, by decide +kernel, ⟨tyX5, tyX5_ok⟩, nmX5⟩
set_option maxRecDepth 100000 in
theorem flX3_44 : FL RX3 44 5 5 10 := ⟨_, _, rfl, by decide, gw_t 167 (by rfl) (by rfl), wX5⟩
set_option maxRecDepth 100000 in
theorem fpX3_44 : FP RX3 44 5 5 10 .int := ⟨_, _, rfl, by decide, gw_t 167 (by rfl) (by rfl), wX5, rfl, by decide +kernel, ⟨tyX5, tyX5_ok⟩, nmX5⟩
set_option maxRecDepth 100000 in
theorem flX5_31 : FL RX5 31 5 6 10 := ⟨_, _, rfl, by decide, gw_t 168 (by rfl) (by rfl), wX5⟩
set_option maxRecDepth 100000 in
theorem flX3_53 : FL RX3 53 5 6 10 := ⟨_, _, rfl, by decide, gw_t 169 (by rfl) (by rfl), wX5⟩
set_option maxRecDepth 100000 in
theorem flX5_34 : FL RX5 34 5 7 10 := ⟨_, _, rfl, by decide, gw_t 170 (by rfl) (by rfl), wX5⟩
set_option maxRecDepth 100000 in
theorem fpX5_34 : FP RX5 34 5 7 10 .boolean := ⟨_, _, rfl, by decide, gw_t 170 (by rfl) (by rfl), wX5, rfl, by decide +kernel, ⟨tyX5, tyX5_ok⟩, nmX5⟩
set_option maxRecDepth 100000 in
theorem flX3_56 : FL RX3 56 5 7 10 := ⟨_, _, rfl, by decide, gw_t 171 (by rfl) (by rfl), wX5⟩
set_option maxRecDepth 100000 in
theorem fpX3_56 : FP RX3 56 5 7 10 .boolean := ⟨_, _, rfl, by decide, gw_t 171 (by rfl) (by rfl), wX5, rfl, by decide +kernel, ⟨tyX5, tyX5_ok⟩, nmX5⟩
set_option maxRecDepth 100000 in
theorem flX7_228 : FL RX7 228 5 7 10 := ⟨_, _, rfl, by decide, gw_t 172 (by rfl) (by rfl), wX5⟩
set_option maxRecDepth 100000 in
theorem fpX7_228 : FP RX7 228 5 7 10 .boolean := ⟨_, _, rfl, by decide, gw_t 172 (by rfl) (by rfl), wX5, rfl, by decide +kernel, ⟨tyX5, tyX5_ok⟩, nmX5⟩
set_option maxRecDepth 100000 in
theorem flX5_38 : FL RX5 38 5 8 10 := ⟨_, _, rfl, by decide, gw_t 173 (by rfl) (by rfl), wX5⟩
set_option maxRecDepth 100000 in
theorem fpX5_38 : FP RX5 38 5 8 10 .boolean := ⟨_, _, rfl, by decide, gw_t 173 (by rfl) (by rfl), wX5, rfl, by decide +kernel, ⟨tyX5, tyX5_ok⟩, nmX5⟩
set_option maxRecDepth 100000 in
theorem flX3_60 : FL RX3 60 5 8 10 := ⟨_, _, rfl, by decide, gw_t 174 (by rfl) (by rfl), wX5⟩
set_option maxRecDepth 100000 in
theorem fpX3_60 : FP RX3 60 5 8 10 .boolean := ⟨_, _, rfl, by decide, gw_t 174 (by rfl) (by rfl), wX5, rfl, by decide +kernel, ⟨tyX5, tyX5_ok⟩, nmX5⟩
set_option maxRecDepth 100000 in
theorem flX5_41 : FL RX5 41 5 9 10 := ⟨_, _, rfl, by decide, gw_t 175 (by rfl) (by rfl), wX5⟩
set_option maxRecDepth 100000 in
theorem fpX5_41 : FP RX5 41 5 9 10 .int := ⟨_, _, rfl, by decide, gw_t 175 (by rfl) (by rfl), wX5, rfl, by decide +kernel, ⟨tyX5, tyX5_ok⟩, nmX5⟩
set_option maxRecDepth 100000 in
theorem flX3_63 : FL RX3 63 5 9 10 := ⟨_, _, rfl, by decide, gw_t 176 (by rfl) (by rfl), wX5⟩
set_option maxRecDepth 100000 in
theorem fpX3_63 : FP RX3 63 5 9 10 .int := ⟨_, _, rfl, by decide, gw_t 176 (by rfl) (by rfl), wX5, rfl, by decide +kernel, ⟨tyX5, tyX5_ok⟩, nmX5⟩
set_option maxRecDepth 100000 in
theorem flX4_11 : FL RX4 11 4 0 4 := ⟨_, _, rfl, by decide, gw_t 204 (by rfl) (by rfl), wX4⟩
set_option maxRecDepth 100000 in
theorem flX4_17 : FL RX4 17 4 1 4 := ⟨_, _, rfl, by decide, gw_t 205 (by rfl) (by rfl), wX4⟩
set_option maxRecDepth 100000 in
theorem flX4_20 : FL RX4 20 4 2 4 := ⟨_, _, rfl, by decide, gw_t 206 (by rfl) (by rfl), wX4⟩
set_option maxRecDepth 100000 in
theorem fpX4_20 : FP RX4 20 4 2 4 (.object "YardTalk$Law") := ⟨_, _, rfl, by decide, gw_t 206 (by rfl) (by rfl), wX4, rfl, by decide +kernel, ⟨tyX4, tyX4_ok⟩, nmX4⟩
set_option maxRecDepth 100000 in
theorem flX4_24 : FL RX4 24 4 3 4 := ⟨_, _, rfl, by decide, gw_t 207 (by rfl) (by rfl), wX4⟩
set_option maxRecDepth 100000 in
theorem fpX4_24 : FP RX4 24 4 3 4 .int := ⟨_, _, rfl, by decide, gw_t 207 (by rfl) (by rfl), wX4, rfl, by decide +kernel, ⟨tyX4, tyX4_ok⟩, nmX4⟩
set_option maxRecDepth 100000 in
theorem flX2_9 : FL RX2 9 2 0 9 := ⟨_, _, rfl, by decide, gw_t 223 (by rfl) (by rfl), wX2⟩
set_option maxRecDepth 100000 in
theorem fpX2_9 : FP RX2 9 2 0 9 (.array .int) := ⟨_, _, rfl, by decide, gw_t 223 (by rfl) (by rfl), wX2, rfl, by decide +kernel, ⟨tyX2, tyX2_ok⟩, nmX2⟩
set_option maxRecDepth 100000 in
theorem flX2_15 : FL RX2 15 2 1 9 := ⟨_, _, rfl, by decide, gw_t 224 (by rfl) (by rfl), wX2⟩
set_option maxRecDepth 100000 in
theorem fpX2_15 : FP RX2 15 2 1 9 .int := ⟨_, _, rfl, by decide, gw_t 224 (by rfl) (by rfl), wX2, rfl, by decide +kernel, ⟨tyX2, tyX2_ok⟩, nmX2⟩
set_option maxRecDepth 100000 in
theorem flX2_19 : FL RX2 19 2 2 9 := ⟨_, _, rfl, by decide, gw_t 225 (by rfl) (by rfl), wX2⟩
set_option maxRecDepth 100000 in
theorem fpX2_19 : FP RX2 19 2 2 9 (.object "YardTalk$Law") := ⟨_, _, rfl, by decide, gw_t 225 (by rfl) (by rfl), wX2, rfl, by decide +kernel, ⟨tyX2, tyX2_ok⟩, nmX2⟩
set_option maxRecDepth 100000 in
theorem flX2_23 : FL RX2 23 2 3 9 := ⟨_, _, rfl, by decide, gw_t 226 (by rfl) (by rfl), wX2⟩
set_option maxRecDepth 100000 in
theorem fpX2_23 : FP RX2 23 2 3 9 .int := ⟨_, _, rfl, by decide, gw_t 226 (by rfl) (by rfl), wX2, rfl, by decide +kernel, ⟨tyX2, tyX2_ok⟩, nmX2⟩
set_option maxRecDepth 100000 in
theorem flX2_26 : FL RX2 26 2 4 9 := ⟨_, _, rfl, by decide, gw_t 227 (by rfl) (by rfl), wX2⟩
set_option maxRecDepth 100000 in
theorem fpX2_26 : FP RX2 26 2 4 9 .int := ⟨_, _, rfl, by decide, gw_t 227 (by rfl) (by rfl), wX2, rfl, by decide +kernel, ⟨tyX2, tyX2_ok⟩, nmX2⟩
set_option maxRecDepth 100000 in
theorem flX2_29 : FL RX2 29 2 5 9 := ⟨_, _, rfl, by decide, gw_t 228 (by rfl) (by rfl), wX2⟩
set_option maxRecDepth 100000 in
theorem fpX2_29 : FP RX2 29 2 5 9 .int := ⟨_, _, rfl, by decide, gw_t 228 (by rfl) (by rfl), wX2, rfl, by decide +kernel, ⟨tyX2, tyX2_ok⟩, nmX2⟩
set_option maxRecDepth 100000 in
theorem flX2_32 : FL RX2 32 2 6 9 := ⟨_, _, rfl, by decide, gw_t 229 (by rfl) (by rfl), wX2⟩
set_option maxRecDepth 100000 in
theorem fpX2_32 : FP RX2 32 2 6 9 .int := ⟨_, _, rfl, by decide, gw_t 229 (by rfl) (by rfl), wX2, rfl, by decide +kernel, ⟨tyX2, tyX2_ok⟩, nmX2⟩
set_option maxRecDepth 100000 in
theorem flX2_35 : FL RX2 35 2 7 9 := ⟨_, _, rfl, by decide, gw_t 230 (by rfl) (by rfl), wX2⟩
set_option maxRecDepth 100000 in
theorem fpX2_35 : FP RX2 35 2 7 9 .int := ⟨_, _, rfl, by decide, gw_t 230 (by rfl) (by rfl), wX2, rfl, by decide +kernel, ⟨tyX2, tyX2_ok⟩, nmX2⟩
set_option maxRecDepth 100000 in
theorem flX2_38 : FL RX2 38 2 8 9 := ⟨_, _, rfl, by decide, gw_t 231 (by rfl) (by rfl), wX2⟩
set_option maxRecDepth 100000 in
theorem fpX2_38 : FP RX2 38 2 8 9 .int := ⟨_, _, rfl, by decide, gw_t 231 (by rfl) (by rfl), wX2, rfl, by decide +kernel, ⟨tyX2, tyX2_ok⟩, nmX2⟩
set_option maxRecDepth 100000 in
theorem flX7_201 : FL RX7 201 2 8 9 := ⟨_, _, rfl, by decide, gw_t 232 (by rfl) (by rfl), wX2⟩
set_option maxRecDepth 100000 in
theorem fpX7_201 : FP RX7 201 2 8 9 .int := ⟨_, _, rfl, by decide, gw_t 232 (by rfl) (by rfl), wX2, rfl, by decide +kernel, ⟨tyX2, tyX2_ok⟩, nmX2⟩
set_option maxRecDepth 100000 in
theorem flX0_12 : FL RX0 12 0 0 4 := ⟨_, _, rfl, by decide, gw_t 259 (by rfl) (by rfl), wX0⟩
set_option maxRecDepth 100000 in
theorem flX7_417 : FL RX7 417 0 0 4 := ⟨_, _, rfl, by decide, gw_t 260 (by rfl) (by rfl), wX0⟩
set_option maxRecDepth 100000 in
theorem flX0_18 : FL RX0 18 0 1 4 := ⟨_, _, rfl, by decide, gw_t 261 (by rfl) (by rfl), wX0⟩
set_option maxRecDepth 100000 in
theorem flX7_283 : FL RX7 283 0 1 4 := ⟨_, _, rfl, by decide, gw_t 262 (by rfl) (by rfl), wX0⟩
set_option maxRecDepth 100000 in
theorem flX0_22 : FL RX0 22 0 2 4 := ⟨_, _, rfl, by decide, gw_t 263 (by rfl) (by rfl), wX0⟩
set_option maxRecDepth 100000 in
theorem fpX0_22 : FP RX0 22 0 2 4 .int := ⟨_, _, rfl, by decide, gw_t 263 (by rfl) (by rfl), wX0, rfl, by decide +kernel, ⟨tyX0, tyX0_ok⟩, nmX0⟩
set_option maxRecDepth 100000 in
theorem flX7_420 : FL RX7 420 0 2 4 := ⟨_, _, rfl, by decide, gw_t 264 (by rfl) (by rfl), wX0⟩
set_option maxRecDepth 100000 in
theorem fpX7_420 : FP RX7 420 0 2 4 .int := ⟨_, _, rfl, by decide, gw_t 264 (by rfl) (by rfl), wX0, rfl, by decide +kernel, ⟨tyX0, tyX0_ok⟩, nmX0⟩
set_option maxRecDepth 100000 in
theorem flX0_26 : FL RX0 26 0 3 4 := ⟨_, _, rfl, by decide, gw_t 265 (by rfl) (by rfl), wX0⟩
set_option maxRecDepth 100000 in
theorem fpX0_26 : FP RX0 26 0 3 4 .int := ⟨_, _, rfl, by decide, gw_t 265 (by rfl) (by rfl), wX0, rfl, by decide +kernel, ⟨tyX0, tyX0_ok⟩, nmX0⟩
set_option maxRecDepth 100000 in
theorem flX7_277 : FL RX7 277 0 3 4 := ⟨_, _, rfl, by decide, gw_t 266 (by rfl) (by rfl), wX0⟩
set_option maxRecDepth 100000 in
theorem fpX7_277 : FP RX7 277 0 3 4 .int := ⟨_, _, rfl, by decide, gw_t 266 (by rfl) (by rfl), wX0, rfl, by decide +kernel, ⟨tyX0, tyX0_ok⟩, nmX0⟩
set_option maxRecDepth 100000 in
theorem flX1_9 : FL RX1 9 1 0 7 := ⟨_, _, rfl, by decide, gw_t 282 (by rfl) (by rfl), wX1⟩
set_option maxRecDepth 100000 in
theorem fpX1_9 : FP RX1 9 1 0 7 .int := ⟨_, _, rfl, by decide, gw_t 282 (by rfl) (by rfl), wX1, rfl, by decide +kernel, ⟨tyX1, tyX1_ok⟩, nmX1⟩
set_option maxRecDepth 100000 in
theorem flX4_55 : FL RX4 55 1 0 7 := ⟨_, _, rfl, by decide, gw_t 283 (by rfl) (by rfl), wX1⟩
set_option maxRecDepth 100000 in
theorem fpX4_55 : FP RX4 55 1 0 7 .int := ⟨_, _, rfl, by decide, gw_t 283 (by rfl) (by rfl), wX1, rfl, by decide +kernel, ⟨tyX1, tyX1_ok⟩, nmX1⟩
set_option maxRecDepth 100000 in
theorem flX7_316 : FL RX7 316 1 0 7 := ⟨_, _, rfl, by decide, gw_t 284 (by rfl) (by rfl), wX1⟩
set_option maxRecDepth 100000 in
theorem fpX7_316 : FP RX7 316 1 0 7 .int := ⟨_, _, rfl, by decide, gw_t 284 (by rfl) (by rfl), wX1, rfl, by decide +kernel, ⟨tyX1, tyX1_ok⟩, nmX1⟩
set_option maxRecDepth 100000 in
theorem flX1_15 : FL RX1 15 1 1 7 := ⟨_, _, rfl, by decide, gw_t 285 (by rfl) (by rfl), wX1⟩
set_option maxRecDepth 100000 in
theorem flX4_64 : FL RX4 64 1 1 7 := ⟨_, _, rfl, by decide, gw_t 286 (by rfl) (by rfl), wX1⟩
set_option maxRecDepth 100000 in
theorem flX1_19 : FL RX1 19 1 2 7 := ⟨_, _, rfl, by decide, gw_t 287 (by rfl) (by rfl), wX1⟩
set_option maxRecDepth 100000 in
theorem flX4_71 : FL RX4 71 1 2 7 := ⟨_, _, rfl, by decide, gw_t 288 (by rfl) (by rfl), wX1⟩
set_option maxRecDepth 100000 in
theorem flX1_22 : FL RX1 22 1 3 7 := ⟨_, _, rfl, by decide, gw_t 289 (by rfl) (by rfl), wX1⟩
set_option maxRecDepth 100000 in
theorem flX4_58 : FL RX4 58 1 3 7 := ⟨_, _, rfl, by decide, gw_t 290 (by rfl) (by rfl), wX1⟩
set_option maxRecDepth 100000 in
theorem flX1_25 : FL RX1 25 1 4 7 := ⟨_, _, rfl, by decide, gw_t 291 (by rfl) (by rfl), wX1⟩
set_option maxRecDepth 100000 in
theorem flX4_61 : FL RX4 61 1 4 7 := ⟨_, _, rfl, by decide, gw_t 292 (by rfl) (by rfl), wX1⟩
set_option maxRecDepth 100000 in
theorem flX1_28 : FL RX1 28 1 5 7 := ⟨_, _, rfl, by decide, gw_t 293 (by rfl) (by rfl), wX1⟩
set_option maxRecDepth 100000 in
theorem flX1_31 : FL RX1 31 1 6 7 := ⟨_, _, rfl, by decide, gw_t 294 (by rfl) (by rfl), wX1⟩
set_option maxRecDepth 100000 in
theorem fpX1_31 : FP RX1 31 1 6 7 .int := ⟨_, _, rfl, by decide, gw_t 294 (by rfl) (by rfl), wX1, rfl, by decide +kernel, ⟨tyX1, tyX1_ok⟩, nmX1⟩
set_option maxRecDepth 100000 in
theorem flX7_10 : FL RX7 10 7 0 18 := ⟨_, _, rfl, by decide, gw_t 310 (by rfl) (by rfl), wX7⟩
set_option maxRecDepth 100000 in
theorem flX7_16 : FL RX7 16 7 1 18 := ⟨_, _, rfl, by decide, gw_t 311 (by rfl) (by rfl), wX7⟩
set_option maxRecDepth 100000 in
theorem flX7_19 : FL RX7 19 7 2 18 := ⟨_, _, rfl, by decide, gw_t 312 (by rfl) (by rfl), wX7⟩
set_option maxRecDepth 100000 in
theorem flX7_25 : FL RX7 25 7 3 18 := ⟨_, _, rfl, by decide, gw_t 313 (by rfl) (by rfl), wX7⟩
set_option maxRecDepth 100000 in
theorem flX7_31 : FL RX7 31 7 4 18 := ⟨_, _, rfl, by decide, gw_t 314 (by rfl) (by rfl), wX7⟩
set_option maxRecDepth 100000 in
theorem flX7_38 : FL RX7 38 7 5 18 := ⟨_, _, rfl, by decide, gw_t 315 (by rfl) (by rfl), wX7⟩
set_option maxRecDepth 100000 in
theorem flX7_45 : FL RX7 45 7 6 18 := ⟨_, _, rfl, by decide, gw_t 316 (by rfl) (by rfl), wX7⟩
set_option maxRecDepth 100000 in
theorem flX7_52 : FL RX7 52 7 7 18 := ⟨_, _, rfl, by decide, gw_t 317 (by rfl) (by rfl), wX7⟩
set_option maxRecDepth 100000 in
theorem flX7_59 : FL RX7 59 7 8 18 := ⟨_, _, rfl, by decide, gw_t 318 (by rfl) (by rfl), wX7⟩
set_option maxRecDepth 100000 in
theorem flX7_63 : FL RX7 63 7 9 18 := ⟨_, _, rfl, by decide, gw_t 319 (by rfl) (by rfl), wX7⟩
set_option maxRecDepth 100000 in
theorem flX7_67 : FL RX7 67 7 10 18 := ⟨_, _, rfl, by decide, gw_t 320 (by rfl) (by rfl), wX7⟩
set_option maxRecDepth 100000 in
theorem flX7_70 : FL RX7 70 7 11 18 := ⟨_, _, rfl, by decide, gw_t 321 (by rfl) (by rfl), wX7⟩
set_option maxRecDepth 100000 in
theorem flX7_73 : FL RX7 73 7 12 18 := ⟨_, _, rfl, by decide, gw_t 322 (by rfl) (by rfl), wX7⟩
set_option maxRecDepth 100000 in
theorem fpX7_73 : FP RX7 73 7 12 18 .int := ⟨_, _, rfl, by decide, gw_t 322 (by rfl) (by rfl), wX7, rfl, by decide +kernel, ⟨tyX7, tyX7_ok⟩, nmX7⟩
set_option maxRecDepth 100000 in
theorem flX7_77 : FL RX7 77 7 13 18 := ⟨_, _, rfl, by decide, gw_t 323 (by rfl) (by rfl), wX7⟩
set_option maxRecDepth 100000 in
theorem fpX7_77 : FP RX7 77 7 13 18 .int := ⟨_, _, rfl, by decide, gw_t 323 (by rfl) (by rfl), wX7, rfl, by decide +kernel, ⟨tyX7, tyX7_ok⟩, nmX7⟩
set_option maxRecDepth 100000 in
theorem flX7_80 : FL RX7 80 7 14 18 := ⟨_, _, rfl, by decide, gw_t 324 (by rfl) (by rfl), wX7⟩
set_option maxRecDepth 100000 in
theorem fpX7_80 : FP RX7 80 7 14 18 .int := ⟨_, _, rfl, by decide, gw_t 324 (by rfl) (by rfl), wX7, rfl, by decide +kernel, ⟨tyX7, tyX7_ok⟩, nmX7⟩
set_option maxRecDepth 100000 in
theorem flX7_83 : FL RX7 83 7 15 18 := ⟨_, _, rfl, by decide, gw_t 325 (by rfl) (by rfl), wX7⟩
set_option maxRecDepth 100000 in
theorem fpX7_83 : FP RX7 83 7 15 18 .int := ⟨_, _, rfl, by decide, gw_t 325 (by rfl) (by rfl), wX7, rfl, by decide +kernel, ⟨tyX7, tyX7_ok⟩, nmX7⟩
set_option maxRecDepth 100000 in
theorem flX7_86 : FL RX7 86 7 16 18 := ⟨_, _, rfl, by decide, gw_t 326 (by rfl) (by rfl), wX7⟩
set_option maxRecDepth 100000 in
theorem fpX7_86 : FP RX7 86 7 16 18 .int := ⟨_, _, rfl, by decide, gw_t 326 (by rfl) (by rfl), wX7, rfl, by decide +kernel, ⟨tyX7, tyX7_ok⟩, nmX7⟩
set_option maxRecDepth 100000 in
theorem flX7_89 : FL RX7 89 7 17 18 := ⟨_, _, rfl, by decide, gw_t 327 (by rfl) (by rfl), wX7⟩
set_option maxRecDepth 100000 in
theorem fpX7_89 : FP RX7 89 7 17 18 .int := ⟨_, _, rfl, by decide, gw_t 327 (by rfl) (by rfl), wX7, rfl, by decide +kernel, ⟨tyX7, tyX7_ok⟩, nmX7⟩
set_option maxRecDepth 100000 in
theorem stX7_387 : Cond.fieldLink RX7 387 "YardTalk" "ROLES" "[I" ∈ gw := gw_t 463 (by rfl) (by rfl)
set_option maxRecDepth 100000 in
theorem stX4_77 : Cond.fieldLink RX4 77 "YardTalk$Ruling" "WITHOUT" "[I" ∈ gw := gw_t 546 (by rfl) (by rfl)
set_option maxRecDepth 100000 in
theorem flX8_1 : FL RX8 1 8 0 56 := ⟨_, _, rfl, by decide, gw_t 1309 (by rfl) (by rfl), wX8⟩
set_option maxRecDepth 100000 in
theorem fpX8_1 : FP RX8 1 8 0 56 .int := ⟨_, _, rfl, by decide, gw_t 1309 (by rfl) (by rfl), wX8, rfl, by decide +kernel, ⟨tyX8, tyX8_ok⟩, nmX8⟩
set_option maxRecDepth 100000 in
theorem flX8_13 : FL RX8 13 8 1 56 := ⟨_, _, rfl, by decide, gw_t 1310 (by rfl) (by rfl), wX8⟩
set_option maxRecDepth 100000 in
theorem flX8_17 : FL RX8 17 8 2 56 := ⟨_, _, rfl, by decide, gw_t 1311 (by rfl) (by rfl), wX8⟩
set_option maxRecDepth 100000 in
theorem flX8_20 : FL RX8 20 8 3 56 := ⟨_, _, rfl, by decide, gw_t 1312 (by rfl) (by rfl), wX8⟩
set_option maxRecDepth 100000 in
theorem fpX8_20 : FP RX8 20 8 3 56 (.array .int) := ⟨_, _, rfl, by decide, gw_t 1312 (by rfl) (by rfl), wX8, rfl, by decide +kernel, ⟨tyX8, tyX8_ok⟩, nmX8⟩
set_option maxRecDepth 100000 in
theorem flX8_135 : FL RX8 135 8 4 56 := ⟨_, _, rfl, by decide, gw_t 1313 (by rfl) (by rfl), wX8⟩
set_option maxRecDepth 100000 in
theorem fpX8_135 : FP RX8 135 8 4 56 .int := ⟨_, _, rfl, by decide, gw_t 1313 (by rfl) (by rfl), wX8, rfl, by decide +kernel, ⟨tyX8, tyX8_ok⟩, nmX8⟩
set_option maxRecDepth 100000 in
theorem flX8_147 : FL RX8 147 8 5 56 := ⟨_, _, rfl, by decide, gw_t 1314 (by rfl) (by rfl), wX8⟩
set_option maxRecDepth 100000 in
theorem fpX8_147 : FP RX8 147 8 5 56 .int := ⟨_, _, rfl, by decide, gw_t 1314 (by rfl) (by rfl), wX8, rfl, by decide +kernel, ⟨tyX8, tyX8_ok⟩, nmX8⟩
set_option maxRecDepth 100000 in
theorem flX8_144 : FL RX8 144 8 6 56 := ⟨_, _, rfl, by decide, gw_t 1315 (by rfl) (by rfl), wX8⟩
set_option maxRecDepth 100000 in
theorem fpX8_144 : FP RX8 144 8 6 56 .int := ⟨_, _, rfl, by decide, gw_t 1315 (by rfl) (by rfl), wX8, rfl, by decide +kernel, ⟨tyX8, tyX8_ok⟩, nmX8⟩
set_option maxRecDepth 100000 in
theorem flX8_138 : FL RX8 138 8 7 56 := ⟨_, _, rfl, by decide, gw_t 1316 (by rfl) (by rfl), wX8⟩
set_option maxRecDepth 100000 in
theorem fpX8_138 : FP RX8 138 8 7 56 .int := ⟨_, _, rfl, by decide, gw_t 1316 (by rfl) (by rfl), wX8, rfl, by decide +kernel, ⟨tyX8, tyX8_ok⟩, nmX8⟩
set_option maxRecDepth 100000 in
theorem flX8_141 : FL RX8 141 8 8 56 := ⟨_, _, rfl, by decide, gw_t 1317 (by rfl) (by rfl), wX8⟩
set_option maxRecDepth 100000 in
theorem fpX8_141 : FP RX8 141 8 8 56 .int := ⟨_, _, rfl, by decide, gw_t 1317 (by rfl) (by rfl), wX8, rfl, by decide +kernel, ⟨tyX8, tyX8_ok⟩, nmX8⟩
set_option maxRecDepth 100000 in
theorem flX8_174 : FL RX8 174 8 9 56 := ⟨_, _, rfl, by decide, gw_t 1318 (by rfl) (by rfl), wX8⟩
set_option maxRecDepth 100000 in
theorem fpX8_174 : FP RX8 174 8 9 56 .int := ⟨_, _, rfl, by decide, gw_t 1318 (by rfl) (by rfl), wX8, rfl, by decide +kernel, ⟨tyX8, tyX8_ok⟩, nmX8⟩
set_option maxRecDepth 100000 in
theorem flX8_171 : FL RX8 171 8 10 56 := ⟨_, _, rfl, by decide, gw_t 1319 (by rfl) (by rfl), wX8⟩
set_option maxRecDepth 100000 in
theorem fpX8_171 : FP RX8 171 8 10 56 .int := ⟨_, _, rfl, by decide, gw_t 1319 (by rfl) (by rfl), wX8, rfl, by decide +kernel, ⟨tyX8, tyX8_ok⟩, nmX8⟩
set_option maxRecDepth 100000 in
theorem flX8_168 : FL RX8 168 8 11 56 := ⟨_, _, rfl, by decide, gw_t 1320 (by rfl) (by rfl), wX8⟩
set_option maxRecDepth 100000 in
theorem fpX8_168 : FP RX8 168 8 11 56 .int := ⟨_, _, rfl, by decide, gw_t 1320 (by rfl) (by rfl), wX8, rfl, by decide +kernel, ⟨tyX8, tyX8_ok⟩, nmX8⟩
set_option maxRecDepth 100000 in
theorem flX8_23 : FL RX8 23 8 12 56 := ⟨_, _, rfl, by decide, gw_t 1321 (by rfl) (by rfl), wX8⟩
set_option maxRecDepth 100000 in
theorem fpX8_23 : FP RX8 23 8 12 56 .int := ⟨_, _, rfl, by decide, gw_t 1321 (by rfl) (by rfl), wX8, rfl, by decide +kernel, ⟨tyX8, tyX8_ok⟩, nmX8⟩
set_option maxRecDepth 100000 in
theorem flX8_26 : FL RX8 26 8 13 56 := ⟨_, _, rfl, by decide, gw_t 1322 (by rfl) (by rfl), wX8⟩
set_option maxRecDepth 100000 in
theorem flX8_29 : FL RX8 29 8 14 56 := ⟨_, _, rfl, by decide, gw_t 1323 (by rfl) (by rfl), wX8⟩
set_option maxRecDepth 100000 in
theorem flX8_32 : FL RX8 32 8 15 56 := ⟨_, _, rfl, by decide, gw_t 1324 (by rfl) (by rfl), wX8⟩
set_option maxRecDepth 100000 in
theorem flX8_35 : FL RX8 35 8 16 56 := ⟨_, _, rfl, by decide, gw_t 1325 (by rfl) (by rfl), wX8⟩
set_option maxRecDepth 100000 in
theorem flX8_38 : FL RX8 38 8 17 56 := ⟨_, _, rfl, by decide, gw_t 1326 (by rfl) (by rfl), wX8⟩
set_option maxRecDepth 100000 in
theorem flX8_41 : FL RX8 41 8 18 56 := ⟨_, _, rfl, by decide, gw_t 1327 (by rfl) (by rfl), wX8⟩
set_option maxRecDepth 100000 in
theorem flX8_44 : FL RX8 44 8 19 56 := ⟨_, _, rfl, by decide, gw_t 1328 (by rfl) (by rfl), wX8⟩
set_option maxRecDepth 100000 in
theorem flX8_47 : FL RX8 47 8 20 56 := ⟨_, _, rfl, by decide, gw_t 1329 (by rfl) (by rfl), wX8⟩
set_option maxRecDepth 100000 in
theorem flX8_240 : FL RX8 240 8 21 56 := ⟨_, _, rfl, by decide, gw_t 1330 (by rfl) (by rfl), wX8⟩
set_option maxRecDepth 100000 in
theorem fpX8_240 : FP RX8 240 8 21 56 .int := ⟨_, _, rfl, by decide, gw_t 1330 (by rfl) (by rfl), wX8, rfl, by decide +kernel, ⟨tyX8, tyX8_ok⟩, nmX8⟩
set_option maxRecDepth 100000 in
theorem flX8_243 : FL RX8 243 8 22 56 := ⟨_, _, rfl, by decide, gw_t 1331 (by rfl) (by rfl), wX8⟩
set_option maxRecDepth 100000 in
theorem fpX8_243 : FP RX8 243 8 22 56 .int := ⟨_, _, rfl, by decide, gw_t 1331 (by rfl) (by rfl), wX8, rfl, by decide +kernel, ⟨tyX8, tyX8_ok⟩, nmX8⟩
set_option maxRecDepth 100000 in
theorem flX8_246 : FL RX8 246 8 23 56 := ⟨_, _, rfl, by decide, gw_t 1332 (by rfl) (by rfl), wX8⟩
set_option maxRecDepth 100000 in
theorem fpX8_246 : FP RX8 246 8 23 56 .int := ⟨_, _, rfl, by decide, gw_t 1332 (by rfl) (by rfl), wX8, rfl, by decide +kernel, ⟨tyX8, tyX8_ok⟩, nmX8⟩
set_option maxRecDepth 100000 in
theorem flX8_249 : FL RX8 249 8 24 56 := ⟨_, _, rfl, by decide, gw_t 1333 (by rfl) (by rfl), wX8⟩
set_option maxRecDepth 100000 in
theorem fpX8_249 : FP RX8 249 8 24 56 .int := ⟨_, _, rfl, by decide, gw_t 1333 (by rfl) (by rfl), wX8, rfl, by decide +kernel, ⟨tyX8, tyX8_ok⟩, nmX8⟩
set_option maxRecDepth 100000 in
theorem flX8_252 : FL RX8 252 8 25 56 := ⟨_, _, rfl, by decide, gw_t 1334 (by rfl) (by rfl), wX8⟩
set_option maxRecDepth 100000 in
theorem fpX8_252 : FP RX8 252 8 25 56 .int := ⟨_, _, rfl, by decide, gw_t 1334 (by rfl) (by rfl), wX8, rfl, by decide +kernel, ⟨tyX8, tyX8_ok⟩, nmX8⟩
set_option maxRecDepth 100000 in
theorem flX8_255 : FL RX8 255 8 26 56 := ⟨_, _, rfl, by decide, gw_t 1335 (by rfl) (by rfl), wX8⟩
set_option maxRecDepth 100000 in
theorem fpX8_255 : FP RX8 255 8 26 56 .int := ⟨_, _, rfl, by decide, gw_t 1335 (by rfl) (by rfl), wX8, rfl, by decide +kernel, ⟨tyX8, tyX8_ok⟩, nmX8⟩
set_option maxRecDepth 100000 in
theorem flX8_50 : FL RX8 50 8 27 56 := ⟨_, _, rfl, by decide, gw_t 1336 (by rfl) (by rfl), wX8⟩
set_option maxRecDepth 100000 in
theorem fpX8_50 : FP RX8 50 8 27 56 .int := ⟨_, _, rfl, by decide, gw_t 1336 (by rfl) (by rfl), wX8, rfl, by decide +kernel, ⟨tyX8, tyX8_ok⟩, nmX8⟩
set_option maxRecDepth 100000 in
theorem flX8_53 : FL RX8 53 8 28 56 := ⟨_, _, rfl, by decide, gw_t 1337 (by rfl) (by rfl), wX8⟩
set_option maxRecDepth 100000 in
theorem flX8_288 : FL RX8 288 8 29 56 := ⟨_, _, rfl, by decide, gw_t 1338 (by rfl) (by rfl), wX8⟩
set_option maxRecDepth 100000 in
theorem fpX8_288 : FP RX8 288 8 29 56 .int := ⟨_, _, rfl, by decide, gw_t 1338 (by rfl) (by rfl), wX8, rfl, by decide +kernel, ⟨tyX8, tyX8_ok⟩, nmX8⟩
set_option maxRecDepth 100000 in
theorem flX8_300 : FL RX8 300 8 30 56 := ⟨_, _, rfl, by decide, gw_t 1339 (by rfl) (by rfl), wX8⟩
set_option maxRecDepth 100000 in
theorem fpX8_300 : FP RX8 300 8 30 56 .int := ⟨_, _, rfl, by decide, gw_t 1339 (by rfl) (by rfl), wX8, rfl, by decide +kernel, ⟨tyX8, tyX8_ok⟩, nmX8⟩
set_option maxRecDepth 100000 in
theorem flX8_317 : FL RX8 317 8 31 56 := ⟨_, _, rfl, by decide, gw_t 1340 (by rfl) (by rfl), wX8⟩
set_option maxRecDepth 100000 in
theorem fpX8_317 : FP RX8 317 8 31 56 .int := ⟨_, _, rfl, by decide, gw_t 1340 (by rfl) (by rfl), wX8, rfl, by decide +kernel, ⟨tyX8, tyX8_ok⟩, nmX8⟩
set_option maxRecDepth 100000 in
theorem flX8_307 : FL RX8 307 8 32 56 := ⟨_, _, rfl, by decide, gw_t 1341 (by rfl) (by rfl), wX8⟩
set_option maxRecDepth 100000 in
theorem fpX8_307 : FP RX8 307 8 32 56 .boolean := ⟨_, _, rfl, by decide, gw_t 1341 (by rfl) (by rfl), wX8, rfl, by decide +kernel, ⟨tyX8, tyX8_ok⟩, nmX8⟩
set_option maxRecDepth 100000 in
theorem flX8_311 : FL RX8 311 8 33 56 := ⟨_, _, rfl, by decide, gw_t 1342 (by rfl) (by rfl), wX8⟩
set_option maxRecDepth 100000 in
theorem fpX8_311 : FP RX8 311 8 33 56 .boolean := ⟨_, _, rfl, by decide, gw_t 1342 (by rfl) (by rfl), wX8, rfl, by decide +kernel, ⟨tyX8, tyX8_ok⟩, nmX8⟩
set_option maxRecDepth 100000 in
theorem flX8_56 : FL RX8 56 8 34 56 := ⟨_, _, rfl, by decide, gw_t 1343 (by rfl) (by rfl), wX8⟩
set_option maxRecDepth 100000 in
theorem flX8_59 : FL RX8 59 8 35 56 := ⟨_, _, rfl, by decide, gw_t 1344 (by rfl) (by rfl), wX8⟩
set_option maxRecDepth 100000 in
theorem flX8_62 : FL RX8 62 8 36 56 := ⟨_, _, rfl, by decide, gw_t 1345 (by rfl) (by rfl), wX8⟩
set_option maxRecDepth 100000 in
theorem flX8_329 : FL RX8 329 8 37 56 := ⟨_, _, rfl, by decide, gw_t 1346 (by rfl) (by rfl), wX8⟩
set_option maxRecDepth 100000 in
theorem fpX8_329 : FP RX8 329 8 37 56 .int := ⟨_, _, rfl, by decide, gw_t 1346 (by rfl) (by rfl), wX8, rfl, by decide +kernel, ⟨tyX8, tyX8_ok⟩, nmX8⟩
set_option maxRecDepth 100000 in
theorem flX8_65 : FL RX8 65 8 38 56 := ⟨_, _, rfl, by decide, gw_t 1347 (by rfl) (by rfl), wX8⟩
set_option maxRecDepth 100000 in
theorem flX8_68 : FL RX8 68 8 39 56 := ⟨_, _, rfl, by decide, gw_t 1348 (by rfl) (by rfl), wX8⟩
set_option maxRecDepth 100000 in
theorem flX8_71 : FL RX8 71 8 40 56 := ⟨_, _, rfl, by decide, gw_t 1349 (by rfl) (by rfl), wX8⟩
set_option maxRecDepth 100000 in
theorem flX8_335 : FL RX8 335 8 41 56 := ⟨_, _, rfl, by decide, gw_t 1350 (by rfl) (by rfl), wX8⟩
set_option maxRecDepth 100000 in
theorem fpX8_335 : FP RX8 335 8 41 56 .int := ⟨_, _, rfl, by decide, gw_t 1350 (by rfl) (by rfl), wX8, rfl, by decide +kernel, ⟨tyX8, tyX8_ok⟩, nmX8⟩
set_option maxRecDepth 100000 in
theorem flX8_74 : FL RX8 74 8 42 56 := ⟨_, _, rfl, by decide, gw_t 1351 (by rfl) (by rfl), wX8⟩
set_option maxRecDepth 100000 in
theorem flX8_338 : FL RX8 338 8 43 56 := ⟨_, _, rfl, by decide, gw_t 1352 (by rfl) (by rfl), wX8⟩
set_option maxRecDepth 100000 in
theorem fpX8_338 : FP RX8 338 8 43 56 .int := ⟨_, _, rfl, by decide, gw_t 1352 (by rfl) (by rfl), wX8, rfl, by decide +kernel, ⟨tyX8, tyX8_ok⟩, nmX8⟩
set_option maxRecDepth 100000 in
theorem flX8_341 : FL RX8 341 8 44 56 := ⟨_, _, rfl, by decide, gw_t 1353 (by rfl) (by rfl), wX8⟩
set_option maxRecDepth 100000 in
theorem fpX8_341 : FP RX8 341 8 44 56 .int := ⟨_, _, rfl, by decide, gw_t 1353 (by rfl) (by rfl), wX8, rfl, by decide +kernel, ⟨tyX8, tyX8_ok⟩, nmX8⟩
set_option maxRecDepth 100000 in
theorem flX8_356 : FL RX8 356 8 45 56 := ⟨_, _, rfl, by decide, gw_t 1354 (by rfl) (by rfl), wX8⟩
set_option maxRecDepth 100000 in
theorem fpX8_356 : FP RX8 356 8 45 56 .int := ⟨_, _, rfl, by decide, gw_t 1354 (by rfl) (by rfl), wX8, rfl, by decide +kernel, ⟨tyX8, tyX8_ok⟩, nmX8⟩
set_option maxRecDepth 100000 in
theorem flX8_77 : FL RX8 77 8 46 56 := ⟨_, _, rfl, by decide, gw_t 1355 (by rfl) (by rfl), wX8⟩
set_option maxRecDepth 100000 in
theorem fpX8_77 : FP RX8 77 8 46 56 .int := ⟨_, _, rfl, by decide, gw_t 1355 (by rfl) (by rfl), wX8, rfl, by decide +kernel, ⟨tyX8, tyX8_ok⟩, nmX8⟩
set_option maxRecDepth 100000 in
theorem flX8_80 : FL RX8 80 8 47 56 := ⟨_, _, rfl, by decide, gw_t 1356 (by rfl) (by rfl), wX8⟩
set_option maxRecDepth 100000 in
theorem flX8_83 : FL RX8 83 8 48 56 := ⟨_, _, rfl, by decide, gw_t 1357 (by rfl) (by rfl), wX8⟩
set_option maxRecDepth 100000 in
theorem flX8_86 : FL RX8 86 8 49 56 := ⟨_, _, rfl, by decide, gw_t 1358 (by rfl) (by rfl), wX8⟩
set_option maxRecDepth 100000 in
theorem flX8_89 : FL RX8 89 8 50 56 := ⟨_, _, rfl, by decide, gw_t 1359 (by rfl) (by rfl), wX8⟩
set_option maxRecDepth 100000 in
theorem flX8_93 : FL RX8 93 8 51 56 := ⟨_, _, rfl, by decide, gw_t 1360 (by rfl) (by rfl), wX8⟩
set_option maxRecDepth 100000 in
theorem flX8_96 : FL RX8 96 8 52 56 := ⟨_, _, rfl, by decide, gw_t 1361 (by rfl) (by rfl), wX8⟩
set_option maxRecDepth 100000 in
theorem flX8_99 : FL RX8 99 8 53 56 := ⟨_, _, rfl, by decide, gw_t 1362 (by rfl) (by rfl), wX8⟩
set_option maxRecDepth 100000 in
theorem flX8_389 : FL RX8 389 8 54 56 := ⟨_, _, rfl, by decide, gw_t 1363 (by rfl) (by rfl), wX8⟩
set_option maxRecDepth 100000 in
theorem fpX8_389 : FP RX8 389 8 54 56 .int := ⟨_, _, rfl, by decide, gw_t 1363 (by rfl) (by rfl), wX8, rfl, by decide +kernel, ⟨tyX8, tyX8_ok⟩, nmX8⟩
set_option maxRecDepth 100000 in
theorem flX8_102 : FL RX8 102 8 55 56 := ⟨_, _, rfl, by decide, gw_t 1364 (by rfl) (by rfl), wX8⟩
set_option maxRecDepth 100000 in
theorem stX8_291 : Cond.fieldLink RX8 291 "YardTalkModel" "PLACES" "[I" ∈ gw := gw_t 1705 (by rfl) (by rfl)
set_option maxRecDepth 100000 in
theorem k_yX7_init : Cond.code yX7_init cX7_init 2 none ∈ gw := gw_t 27 (by rfl) (by rfl)
set_option maxRecDepth 100000 in
theorem k_yX6_init : Cond.code yX6_init cX6_init 1 none ∈ gw := gw_t 35 (by rfl) (by rfl)
set_option maxRecDepth 100000 in
theorem k_yX3_init : Cond.code yX3_init cX3_init 2 none ∈ gw := gw_t 126 (by rfl) (by rfl)
set_option maxRecDepth 100000 in
theorem k_yX5_init : Cond.code yX5_init cX5_init 1 none ∈ gw := gw_t 152 (by rfl) (by rfl)
set_option maxRecDepth 100000 in
theorem k_yX4_init : Cond.code yX4_init cX4_init 1 none ∈ gw := gw_t 202 (by rfl) (by rfl)
set_option maxRecDepth 100000 in
theorem k_yX2_init : Cond.code yX2_init cX2_init 1 none ∈ gw := gw_t 221 (by rfl) (by rfl)
set_option maxRecDepth 100000 in
theorem k_yX0_init : Cond.code yX0_init cX0_init 1 none ∈ gw := gw_t 255 (by rfl) (by rfl)
set_option maxRecDepth 100000 in
theorem k_yX1_init : Cond.code yX1_init cX1_init 1 none ∈ gw := gw_t 280 (by rfl) (by rfl)
set_option maxRecDepth 100000 in
theorem k_yX7_seeds : Cond.code yX7_seeds cX7_seeds 3 none ∈ gw := gw_t 368 (by rfl) (by rfl)
set_option maxRecDepth 100000 in
theorem k_yX7_stopFilm : Cond.code yX7_stopFilm cX7_stopFilm 1 none ∈ gw := gw_t 372 (by rfl) (by rfl)
set_option maxRecDepth 100000 in
theorem k_yX7_feed : Cond.code yX7_feed cX7_feed 6 (some .int) ∈ gw := gw_t 376 (by rfl) (by rfl)
set_option maxRecDepth 100000 in
theorem k_yX7_putBytes : Cond.code yX7_putBytes cX7_putBytes 3 none ∈ gw := gw_t 380 (by rfl) (by rfl)
set_option maxRecDepth 100000 in
theorem k_yX7_fault : Cond.code yX7_fault cX7_fault 1 (some .int) ∈ gw := gw_t 384 (by rfl) (by rfl)
set_option maxRecDepth 100000 in
theorem k_yX7_film : Cond.code yX7_film cX7_film 1 (some .int) ∈ gw := gw_t 388 (by rfl) (by rfl)
set_option maxRecDepth 100000 in
theorem k_yX0_begin : Cond.code yX0_begin cX0_begin 3 none ∈ gw := gw_t 392 (by rfl) (by rfl)
set_option maxRecDepth 100000 in
theorem k_yX6_become : Cond.code yX6_become cX6_become 2 none ∈ gw := gw_t 396 (by rfl) (by rfl)
set_option maxRecDepth 100000 in
theorem k_yX7_end : Cond.code yX7_end cX7_end 2 (some .int) ∈ gw := gw_t 403 (by rfl) (by rfl)
set_option maxRecDepth 100000 in
theorem k_yX7_read : Cond.code yX7_read cX7_read 5 (some .int) ∈ gw := gw_t 407 (by rfl) (by rfl)
set_option maxRecDepth 100000 in
theorem k_yX7_countAlike : Cond.code yX7_countAlike cX7_countAlike 5 (some .int) ∈ gw := gw_t 411 (by rfl) (by rfl)
set_option maxRecDepth 100000 in
theorem k_yX7_lawOf : Cond.code yX7_lawOf cX7_lawOf 2 (some (.object "YardTalk$Law")) ∈ gw := gw_t 416 (by rfl) (by rfl)
set_option maxRecDepth 100000 in
theorem k_yX4_use : Cond.code yX4_use cX4_use 3 none ∈ gw := gw_t 420 (by rfl) (by rfl)
set_option maxRecDepth 100000 in
theorem k_yX3_at : Cond.code yX3_at cX3_at 3 (some .int) ∈ gw := gw_t 424 (by rfl) (by rfl)
set_option maxRecDepth 100000 in
theorem k_yX5_begin : Cond.code yX5_begin cX5_begin 6 none ∈ gw := gw_t 428 (by rfl) (by rfl)
set_option maxRecDepth 100000 in
theorem k_yX5_makeIn : Cond.code yX5_makeIn cX5_makeIn 3 none ∈ gw := gw_t 432 (by rfl) (by rfl)
set_option maxRecDepth 100000 in
theorem k_yX5_sayIn : Cond.code yX5_sayIn cX5_sayIn 3 none ∈ gw := gw_t 436 (by rfl) (by rfl)
set_option maxRecDepth 100000 in
theorem k_yX6_chooseOrder : Cond.code yX6_chooseOrder cX6_chooseOrder 3 (some .int) ∈ gw := gw_t 440 (by rfl) (by rfl)
set_option maxRecDepth 100000 in
theorem k_yX6_heaviestOrder : Cond.code yX6_heaviestOrder cX6_heaviestOrder 6 (some .int) ∈ gw := gw_t 444 (by rfl) (by rfl)
set_option maxRecDepth 100000 in
theorem k_yX6_drawChance : Cond.code yX6_drawChance cX6_drawChance 2 (some .int) ∈ gw := gw_t 448 (by rfl) (by rfl)
set_option maxRecDepth 100000 in
theorem k_yX6_advance : Cond.code yX6_advance cX6_advance 1 (some .int) ∈ gw := gw_t 451 (by rfl) (by rfl)
set_option maxRecDepth 100000 in
theorem k_yX6_pick : Cond.code yX6_pick cX6_pick 2 (some .int) ∈ gw := gw_t 455 (by rfl) (by rfl)
set_option maxRecDepth 100000 in
theorem k_yX5_conceptMeant : Cond.code yX5_conceptMeant cX5_conceptMeant 3 (some .int) ∈ gw := gw_t 459 (by rfl) (by rfl)
set_option maxRecDepth 100000 in
theorem k_yX7_roleAt : Cond.code yX7_roleAt cX7_roleAt 2 (some .int) ∈ gw := gw_t 462 (by rfl) (by rfl)
set_option maxRecDepth 100000 in
theorem k_yX7_conceptOf : Cond.code yX7_conceptOf cX7_conceptOf 2 (some .int) ∈ gw := gw_t 467 (by rfl) (by rfl)
set_option maxRecDepth 100000 in
theorem k_yX6_chooseSign : Cond.code yX6_chooseSign cX6_chooseSign 4 (some .int) ∈ gw := gw_t 471 (by rfl) (by rfl)
set_option maxRecDepth 100000 in
theorem k_yX6_heaviestSign : Cond.code yX6_heaviestSign cX6_heaviestSign 7 (some .int) ∈ gw := gw_t 475 (by rfl) (by rfl)
set_option maxRecDepth 100000 in
theorem k_yX7_signIndex : Cond.code yX7_signIndex cX7_signIndex 3 (some .int) ∈ gw := gw_t 478 (by rfl) (by rfl)
set_option maxRecDepth 100000 in
theorem k_yX5_takeIn : Cond.code yX5_takeIn cX5_takeIn 4 none ∈ gw := gw_t 482 (by rfl) (by rfl)
set_option maxRecDepth 100000 in
theorem k_yX5_guessPart : Cond.code yX5_guessPart cX5_guessPart 8 (some .int) ∈ gw := gw_t 486 (by rfl) (by rfl)
set_option maxRecDepth 100000 in
theorem k_yX6_weightSeen : Cond.code yX6_weightSeen cX6_weightSeen 5 (some .int) ∈ gw := gw_t 490 (by rfl) (by rfl)
set_option maxRecDepth 100000 in
theorem k_yX6_areBothWorn : Cond.code yX6_areBothWorn cX6_areBothWorn 4 (some .boolean) ∈ gw := gw_t 494 (by rfl) (by rfl)
set_option maxRecDepth 100000 in
theorem k_yX5_learnIn : Cond.code yX5_learnIn cX5_learnIn 7 none ∈ gw := gw_t 499 (by rfl) (by rfl)
set_option maxRecDepth 100000 in
theorem k_yX4_ofChild : Cond.code yX4_ofChild cX4_ofChild 3 none ∈ gw := gw_t 503 (by rfl) (by rfl)
set_option maxRecDepth 100000 in
theorem k_yX6_ageNow : Cond.code yX6_ageNow cX6_ageNow 2 (some .int) ∈ gw := gw_t 507 (by rfl) (by rfl)
set_option maxRecDepth 100000 in
theorem k_yX6_yearsHere : Cond.code yX6_yearsHere cX6_yearsHere 2 (some .int) ∈ gw := gw_t 511 (by rfl) (by rfl)
set_option maxRecDepth 100000 in
theorem k_yX4_ofTalk : Cond.code yX4_ofTalk cX4_ofTalk 3 none ∈ gw := gw_t 516 (by rfl) (by rfl)
set_option maxRecDepth 100000 in
theorem k_yX6_seenAs : Cond.code yX6_seenAs cX6_seenAs 3 (some .int) ∈ gw := gw_t 520 (by rfl) (by rfl)
set_option maxRecDepth 100000 in
theorem k_yX5_learnSign : Cond.code yX5_learnSign cX5_learnSign 7 none ∈ gw := gw_t 524 (by rfl) (by rfl)
set_option maxRecDepth 100000 in
theorem k_yX4_valueOf : Cond.code yX4_valueOf cX4_valueOf 6 (some .int) ∈ gw := gw_t 529 (by rfl) (by rfl)
set_option maxRecDepth 100000 in
theorem k_yX1_work : Cond.code yX1_work cX1_work 8 (some .int) ∈ gw := gw_t 533 (by rfl) (by rfl)
set_option maxRecDepth 100000 in
theorem k_yX1_act : Cond.code yX1_act cX1_act 3 (some .int) ∈ gw := gw_t 536 (by rfl) (by rfl)
set_option maxRecDepth 100000 in
theorem k_yX7_keepInBounds : Cond.code yX7_keepInBounds cX7_keepInBounds 1 (some .int) ∈ gw := gw_t 539 (by rfl) (by rfl)
set_option maxRecDepth 100000 in
theorem k_yJ9_min_7cf53 : Cond.code yJ9_min_7cf53 cJ9_min_7cf53 2 (some .int) ∈ gw := gw_t 542 (by rfl) (by rfl)
set_option maxRecDepth 100000 in
theorem k_yJ9_max_7cf53 : Cond.code yJ9_max_7cf53 cJ9_max_7cf53 2 (some .int) ∈ gw := gw_t 545 (by rfl) (by rfl)
set_option maxRecDepth 100000 in
theorem k_yX6_addToSign : Cond.code yX6_addToSign cX6_addToSign 6 none ∈ gw := gw_t 551 (by rfl) (by rfl)
set_option maxRecDepth 100000 in
theorem k_yX5_learnOrder : Cond.code yX5_learnOrder cX5_learnOrder 7 none ∈ gw := gw_t 556 (by rfl) (by rfl)
set_option maxRecDepth 100000 in
theorem k_yX6_addToOrder : Cond.code yX6_addToOrder cX6_addToOrder 5 none ∈ gw := gw_t 560 (by rfl) (by rfl)
set_option maxRecDepth 100000 in
theorem k_yX5_strengthenIn : Cond.code yX5_strengthenIn cX5_strengthenIn 3 none ∈ gw := gw_t 564 (by rfl) (by rfl)
set_option maxRecDepth 100000 in
theorem k_yX3_hasSigns : Cond.code yX3_hasSigns cX3_hasSigns 4 (some .boolean) ∈ gw := gw_t 568 (by rfl) (by rfl)
set_option maxRecDepth 100000 in
theorem k_yX7_image : Cond.code yX7_image cX7_image 1 (some .int) ∈ gw := gw_t 573 (by rfl) (by rfl)
set_option maxRecDepth 100000 in
theorem k_yX7_restore : Cond.code yX7_restore cX7_restore 1 (some .int) ∈ gw := gw_t 577 (by rfl) (by rfl)
set_option maxRecDepth 100000 in
theorem k_yX7_count : Cond.code yX7_count cX7_count 2 (some .int) ∈ gw := gw_t 581 (by rfl) (by rfl)
set_option maxRecDepth 100000 in
theorem k_yX6_countThere : Cond.code yX6_countThere cX6_countThere 4 (some .int) ∈ gw := gw_t 585 (by rfl) (by rfl)
set_option maxRecDepth 100000 in
theorem k_yX6_isThere : Cond.code yX6_isThere cX6_isThere 3 (some .boolean) ∈ gw := gw_t 589 (by rfl) (by rfl)
set_option maxRecDepth 100000 in
theorem k_yX7_come : Cond.code yX7_come cX7_come 4 (some .int) ∈ gw := gw_t 597 (by rfl) (by rfl)
set_option maxRecDepth 100000 in
theorem k_yX7_checkYard : Cond.code yX7_checkYard cX7_checkYard 1 none ∈ gw := gw_t 600 (by rfl) (by rfl)
set_option maxRecDepth 100000 in
theorem k_yX6_arrive : Cond.code yX6_arrive cX6_arrive 5 (some .int) ∈ gw := gw_t 674 (by rfl) (by rfl)
set_option maxRecDepth 100000 in
theorem k_yX6_giveFirstWeights : Cond.code yX6_giveFirstWeights cX6_giveFirstWeights 3 none ∈ gw := gw_t 678 (by rfl) (by rfl)
set_option maxRecDepth 100000 in
theorem k_yX7_leave : Cond.code yX7_leave cX7_leave 2 (some .int) ∈ gw := gw_t 686 (by rfl) (by rfl)
set_option maxRecDepth 100000 in
theorem k_yX7_checkChild : Cond.code yX7_checkChild cX7_checkChild 2 none ∈ gw := gw_t 690 (by rfl) (by rfl)
set_option maxRecDepth 100000 in
theorem k_yX7_visit : Cond.code yX7_visit cX7_visit 4 (some .int) ∈ gw := gw_t 713 (by rfl) (by rfl)
set_option maxRecDepth 100000 in
theorem k_yX7_of : Cond.code yX7_of cX7_of 3 (some .int) ∈ gw := gw_t 720 (by rfl) (by rfl)
set_option maxRecDepth 100000 in
theorem k_yX7_countOrdersHeld : Cond.code yX7_countOrdersHeld cX7_countOrdersHeld 4 (some .int) ∈ gw := gw_t 725 (by rfl) (by rfl)
set_option maxRecDepth 100000 in
theorem k_yX7_useLawInForce : Cond.code yX7_useLawInForce cX7_useLawInForce 1 none ∈ gw := gw_t 729 (by rfl) (by rfl)
set_option maxRecDepth 100000 in
theorem k_yX4_isHeld : Cond.code yX4_isHeld cX4_isHeld 5 (some .boolean) ∈ gw := gw_t 733 (by rfl) (by rfl)
set_option maxRecDepth 100000 in
theorem k_yX7_sign : Cond.code yX7_sign cX7_sign 4 (some .int) ∈ gw := gw_t 744 (by rfl) (by rfl)
set_option maxRecDepth 100000 in
theorem k_yX7_checkConcept : Cond.code yX7_checkConcept cX7_checkConcept 1 none ∈ gw := gw_t 747 (by rfl) (by rfl)
set_option maxRecDepth 100000 in
theorem k_yX7_checkSign : Cond.code yX7_checkSign cX7_checkSign 1 none ∈ gw := gw_t 751 (by rfl) (by rfl)
set_option maxRecDepth 100000 in
theorem k_yX7_order : Cond.code yX7_order cX7_order 3 (some .int) ∈ gw := gw_t 760 (by rfl) (by rfl)
set_option maxRecDepth 100000 in
theorem k_yX7_checkOrder : Cond.code yX7_checkOrder cX7_checkOrder 1 none ∈ gw := gw_t 763 (by rfl) (by rfl)
set_option maxRecDepth 100000 in
theorem k_yX7_holds : Cond.code yX7_holds cX7_holds 3 (some .boolean) ∈ gw := gw_t 771 (by rfl) (by rfl)
set_option maxRecDepth 100000 in
theorem k_yX7_set : Cond.code yX7_set cX7_set 4 (some .int) ∈ gw := gw_t 778 (by rfl) (by rfl)
set_option maxRecDepth 100000 in
theorem k_yX7_years : Cond.code yX7_years cX7_years 2 (some .int) ∈ gw := gw_t 787 (by rfl) (by rfl)
set_option maxRecDepth 100000 in
theorem k_yX7_law : Cond.code yX7_law cX7_law 3 (some .int) ∈ gw := gw_t 811 (by rfl) (by rfl)
set_option maxRecDepth 100000 in
theorem k_yX2_findFault : Cond.code yX2_findFault cX2_findFault 5 (some .int) ∈ gw := gw_t 816 (by rfl) (by rfl)
set_option maxRecDepth 100000 in
theorem k_yX1_clear : Cond.code yX1_clear cX1_clear 1 none ∈ gw := gw_t 821 (by rfl) (by rfl)
set_option maxRecDepth 100000 in
theorem k_yX2_step : Cond.code yX2_step cX2_step 1 none ∈ gw := gw_t 825 (by rfl) (by rfl)
set_option maxRecDepth 100000 in
theorem k_yX2_isDigit : Cond.code yX2_isDigit cX2_isDigit 1 (some .boolean) ∈ gw := gw_t 828 (by rfl) (by rfl)
set_option maxRecDepth 100000 in
theorem k_yX2_isLetter : Cond.code yX2_isLetter cX2_isLetter 1 (some .boolean) ∈ gw := gw_t 831 (by rfl) (by rfl)
set_option maxRecDepth 100000 in
theorem k_yX2_readClause : Cond.code yX2_readClause cX2_readClause 3 (some .boolean) ∈ gw := gw_t 835 (by rfl) (by rfl)
set_option maxRecDepth 100000 in
theorem k_yX2_clauseWord : Cond.code yX2_clauseWord cX2_clauseWord 1 (some .int) ∈ gw := gw_t 839 (by rfl) (by rfl)
set_option maxRecDepth 100000 in
theorem k_yX2_isAt_ : Cond.code yX2_isAt_ cX2_isAt_ 3 (some .boolean) ∈ gw := gw_t 844 (by rfl) (by rfl)
set_option maxRecDepth 100000 in
theorem k_yJ0_length_8abf5 : Cond.code yJ0_length_8abf5 cJ0_length_8abf5 1 (some .int) ∈ gw := gw_t 848 (by rfl) (by rfl)
set_option maxRecDepth 100000 in
theorem k_yJ0_coder_7d493 : Cond.code yJ0_coder_7d493 cJ0_coder_7d493 1 (some .byte) ∈ gw := gw_t 852 (by rfl) (by rfl)
set_option maxRecDepth 100000 in
theorem k_yJ0_charAt_5068e : Cond.code yJ0_charAt_5068e cJ0_charAt_5068e 2 (some .char) ∈ gw := gw_t 858 (by rfl) (by rfl)
set_option maxRecDepth 100000 in
theorem k_yJ0_isLatin1_aae02 : Cond.code yJ0_isLatin1_aae02 cJ0_isLatin1_aae02 1 (some .boolean) ∈ gw := gw_t 862 (by rfl) (by rfl)
set_option maxRecDepth 100000 in
theorem k_yJ1_charAt_3b067 : Cond.code yJ1_charAt_3b067 cJ1_charAt_3b067 2 (some .char) ∈ gw := gw_t 865 (by rfl) (by rfl)
set_option maxRecDepth 100000 in
theorem k_yJ0_checkIndex_df160 : Cond.code yJ0_checkIndex_df160 cJ0_checkIndex_df160 2 none ∈ gw := gw_t 868 (by rfl) (by rfl)
set_option maxRecDepth 100000 in
theorem k_yJ3_checkIndex_8e157 : Cond.code yJ3_checkIndex_8e157 cJ3_checkIndex_8e157 3 (some .int) ∈ gw := gw_t 873 (by rfl) (by rfl)
set_option maxRecDepth 100000 in
theorem k_yJ2_charAt_3b067 : Cond.code yJ2_charAt_3b067 cJ2_charAt_3b067 2 (some .char) ∈ gw := gw_t 876 (by rfl) (by rfl)
set_option maxRecDepth 100000 in
theorem k_yJ2_checkIndex_2214a : Cond.code yJ2_checkIndex_2214a cJ2_checkIndex_2214a 2 none ∈ gw := gw_t 879 (by rfl) (by rfl)
set_option maxRecDepth 100000 in
theorem k_yJ2_length_9d52b : Cond.code yJ2_length_9d52b cJ2_length_9d52b 1 (some .int) ∈ gw := gw_t 882 (by rfl) (by rfl)
set_option maxRecDepth 100000 in
theorem k_yJ2_getChar_3b067 : Cond.code yJ2_getChar_3b067 cJ2_getChar_3b067 2 (some .char) ∈ gw := gw_t 886 (by rfl) (by rfl)
set_option maxRecDepth 100000 in
theorem k_yX2_refuse : Cond.code yX2_refuse cX2_refuse 2 (some .boolean) ∈ gw := gw_t 899 (by rfl) (by rfl)
set_option maxRecDepth 100000 in
theorem k_yX1_beginClause : Cond.code yX1_beginClause cX1_beginClause 2 none ∈ gw := gw_t 903 (by rfl) (by rfl)
set_option maxRecDepth 100000 in
theorem k_yX2_readSum : Cond.code yX2_readSum cX2_readSum 5 (some .boolean) ∈ gw := gw_t 907 (by rfl) (by rfl)
set_option maxRecDepth 100000 in
theorem k_yX2_readProduct : Cond.code yX2_readProduct cX2_readProduct 5 (some .boolean) ∈ gw := gw_t 911 (by rfl) (by rfl)
set_option maxRecDepth 100000 in
theorem k_yX2_readUnit : Cond.code yX2_readUnit cX2_readUnit 3 (some .boolean) ∈ gw := gw_t 915 (by rfl) (by rfl)
set_option maxRecDepth 100000 in
theorem k_yX1_put : Cond.code yX1_put cX1_put 2 none ∈ gw := gw_t 919 (by rfl) (by rfl)
set_option maxRecDepth 100000 in
theorem k_yX2_isAt : Cond.code yX2_isAt cX2_isAt 2 (some .boolean) ∈ gw := gw_t 923 (by rfl) (by rfl)
set_option maxRecDepth 100000 in
theorem k_yX2_passOpening : Cond.code yX2_passOpening cX2_passOpening 4 (some .boolean) ∈ gw := gw_t 927 (by rfl) (by rfl)
set_option maxRecDepth 100000 in
theorem k_yX2_pass : Cond.code yX2_pass cX2_pass 2 (some .boolean) ∈ gw := gw_t 931 (by rfl) (by rfl)
set_option maxRecDepth 100000 in
theorem k_yX2_readCouple : Cond.code yX2_readCouple cX2_readCouple 4 (some .boolean) ∈ gw := gw_t 936 (by rfl) (by rfl)
set_option maxRecDepth 100000 in
theorem k_yX2_factName : Cond.code yX2_factName cX2_factName 1 (some .int) ∈ gw := gw_t 941 (by rfl) (by rfl)
set_option maxRecDepth 100000 in
theorem k_yX1_closeValue : Cond.code yX1_closeValue cX1_closeValue 1 none ∈ gw := gw_t 951 (by rfl) (by rfl)
set_option maxRecDepth 100000 in
theorem k_yX2_readEither : Cond.code yX2_readEither cX2_readEither 4 (some .boolean) ∈ gw := gw_t 956 (by rfl) (by rfl)
set_option maxRecDepth 100000 in
theorem k_yX2_readBoth : Cond.code yX2_readBoth cX2_readBoth 4 (some .boolean) ∈ gw := gw_t 960 (by rfl) (by rfl)
set_option maxRecDepth 100000 in
theorem k_yX2_readBasic : Cond.code yX2_readBasic cX2_readBasic 4 (some .boolean) ∈ gw := gw_t 964 (by rfl) (by rfl)
set_option maxRecDepth 100000 in
theorem k_yX2_comparison : Cond.code yX2_comparison cX2_comparison 1 (some .int) ∈ gw := gw_t 969 (by rfl) (by rfl)
set_option maxRecDepth 100000 in
theorem k_yX1_closeClause : Cond.code yX1_closeClause cX1_closeClause 1 none ∈ gw := gw_t 975 (by rfl) (by rfl)
set_option maxRecDepth 100000 in
theorem k_yX7_force : Cond.code yX7_force cX7_force 3 (some .int) ∈ gw := gw_t 983 (by rfl) (by rfl)
set_option maxRecDepth 100000 in
theorem k_yX7_checkLaw : Cond.code yX7_checkLaw cX7_checkLaw 2 none ∈ gw := gw_t 987 (by rfl) (by rfl)
set_option maxRecDepth 100000 in
theorem k_yX7_talk : Cond.code yX7_talk cX7_talk 6 (some .int) ∈ gw := gw_t 1010 (by rfl) (by rfl)
set_option maxRecDepth 100000 in
theorem k_yX7_isOfFour : Cond.code yX7_isOfFour cX7_isOfFour 1 (some .boolean) ∈ gw := gw_t 1013 (by rfl) (by rfl)
set_option maxRecDepth 100000 in
theorem k_yX6_areTogether : Cond.code yX6_areTogether cX6_areTogether 3 (some .boolean) ∈ gw := gw_t 1018 (by rfl) (by rfl)
set_option maxRecDepth 100000 in
theorem k_yX7_makeNotedTalk : Cond.code yX7_makeNotedTalk cX7_makeNotedTalk 1 none ∈ gw := gw_t 1022 (by rfl) (by rfl)
set_option maxRecDepth 100000 in
theorem k_yX3_write : Cond.code yX3_write cX3_write 5 none ∈ gw := gw_t 1026 (by rfl) (by rfl)
set_option maxRecDepth 100000 in
theorem k_yX3_askWhatIsHeld : Cond.code yX3_askWhatIsHeld cX3_askWhatIsHeld 6 none ∈ gw := gw_t 1030 (by rfl) (by rfl)
set_option maxRecDepth 100000 in
theorem k_yX7_run : Cond.code yX7_run cX7_run 5 (some .int) ∈ gw := gw_t 1038 (by rfl) (by rfl)
set_option maxRecDepth 100000 in
theorem k_yX7_checkRunLength : Cond.code yX7_checkRunLength cX7_checkRunLength 1 none ∈ gw := gw_t 1041 (by rfl) (by rfl)
set_option maxRecDepth 100000 in
theorem k_yX6_gather : Cond.code yX6_gather cX6_gather 5 (some .int) ∈ gw := gw_t 1046 (by rfl) (by rfl)
set_option maxRecDepth 100000 in
theorem k_yX7_drawTalk : Cond.code yX7_drawTalk cX7_drawTalk 8 none ∈ gw := gw_t 1050 (by rfl) (by rfl)
set_option maxRecDepth 100000 in
theorem k_yX6_drawChoice : Cond.code yX6_drawChoice cX6_drawChoice 2 (some .int) ∈ gw := gw_t 1054 (by rfl) (by rfl)
set_option maxRecDepth 100000 in
theorem k_yX7_note : Cond.code yX7_note cX7_note 3 (some .int) ∈ gw := gw_t 1061 (by rfl) (by rfl)
set_option maxRecDepth 100000 in
theorem k_yX7_share : Cond.code yX7_share cX7_share 7 (some .int) ∈ gw := gw_t 1069 (by rfl) (by rfl)
set_option maxRecDepth 100000 in
theorem k_yX7_checkKind : Cond.code yX7_checkKind cX7_checkKind 1 none ∈ gw := gw_t 1072 (by rfl) (by rfl)
set_option maxRecDepth 100000 in
theorem k_yX7_held : Cond.code yX7_held cX7_held 3 (some .int) ∈ gw := gw_t 1080 (by rfl) (by rfl)
set_option maxRecDepth 100000 in
theorem k_yX7_countHolders : Cond.code yX7_countHolders cX7_countHolders 6 (some .int) ∈ gw := gw_t 1084 (by rfl) (by rfl)
set_option maxRecDepth 100000 in
theorem k_yX7_first : Cond.code yX7_first cX7_first 3 (some .int) ∈ gw := gw_t 1092 (by rfl) (by rfl)
set_option maxRecDepth 100000 in
theorem k_yX7_back : Cond.code yX7_back cX7_back 6 (some .int) ∈ gw := gw_t 1099 (by rfl) (by rfl)
set_option maxRecDepth 100000 in
theorem k_yX3_isLearnt : Cond.code yX3_isLearnt cX3_isLearnt 4 (some .boolean) ∈ gw := gw_t 1103 (by rfl) (by rfl)
set_option maxRecDepth 100000 in
theorem k_yX7_uses : Cond.code yX7_uses cX7_uses 3 (some .int) ∈ gw := gw_t 1110 (by rfl) (by rfl)
set_option maxRecDepth 100000 in
theorem k_yX7_seen : Cond.code yX7_seen cX7_seen 3 (some .int) ∈ gw := gw_t 1117 (by rfl) (by rfl)
set_option maxRecDepth 100000 in
theorem k_yX7_gap : Cond.code yX7_gap cX7_gap 3 (some .int) ∈ gw := gw_t 1125 (by rfl) (by rfl)
set_option maxRecDepth 100000 in
theorem k_yX7_checkFilm : Cond.code yX7_checkFilm cX7_checkFilm 2 none ∈ gw := gw_t 1129 (by rfl) (by rfl)
set_option maxRecDepth 100000 in
theorem k_yX7_fits : Cond.code yX7_fits cX7_fits 3 (some .int) ∈ gw := gw_t 1138 (by rfl) (by rfl)
set_option maxRecDepth 100000 in
theorem k_yX7_trial : Cond.code yX7_trial cX7_trial 5 (some .int) ∈ gw := gw_t 1145 (by rfl) (by rfl)
set_option maxRecDepth 100000 in
theorem k_yX7_checkTrial : Cond.code yX7_checkTrial cX7_checkTrial 3 none ∈ gw := gw_t 1148 (by rfl) (by rfl)
set_option maxRecDepth 100000 in
theorem k_yX7_tryOut : Cond.code yX7_tryOut cX7_tryOut 6 (some .int) ∈ gw := gw_t 1152 (by rfl) (by rfl)
set_option maxRecDepth 100000 in
theorem k_yX7_fewest : Cond.code yX7_fewest cX7_fewest 7 (some .int) ∈ gw := gw_t 1159 (by rfl) (by rfl)
set_option maxRecDepth 100000 in
theorem k_yX6_keepFirst : Cond.code yX6_keepFirst cX6_keepFirst 5 none ∈ gw := gw_t 1164 (by rfl) (by rfl)
set_option maxRecDepth 100000 in
theorem k_yX7_needed : Cond.code yX7_needed cX7_needed 8 (some .int) ∈ gw := gw_t 1171 (by rfl) (by rfl)
set_option maxRecDepth 100000 in
theorem k_yX7_unlike : Cond.code yX7_unlike cX7_unlike 3 (some .int) ∈ gw := gw_t 1178 (by rfl) (by rfl)
set_option maxRecDepth 100000 in
theorem k_yX7_countUnlike : Cond.code yX7_countUnlike cX7_countUnlike 5 (some .int) ∈ gw := gw_t 1182 (by rfl) (by rfl)
set_option maxRecDepth 100000 in
theorem k_yX6_orderOfYard : Cond.code yX6_orderOfYard cX6_orderOfYard 7 (some .int) ∈ gw := gw_t 1186 (by rfl) (by rfl)
set_option maxRecDepth 100000 in
theorem k_yX6_signOfYard : Cond.code yX6_signOfYard cX6_signOfYard 8 (some .int) ∈ gw := gw_t 1190 (by rfl) (by rfl)
set_option maxRecDepth 100000 in
theorem k_yX7_meets : Cond.code yX7_meets cX7_meets 5 (some .int) ∈ gw := gw_t 1197 (by rfl) (by rfl)
set_option maxRecDepth 100000 in
theorem k_yX6_takeBackSaying : Cond.code yX6_takeBackSaying cX6_takeBackSaying 2 none ∈ gw := gw_t 1202 (by rfl) (by rfl)
set_option maxRecDepth 100000 in
theorem k_yX7_plain : Cond.code yX7_plain cX7_plain 4 (some .int) ∈ gw := gw_t 1211 (by rfl) (by rfl)
set_option maxRecDepth 100000 in
theorem k_yX7_countSeenAlone : Cond.code yX7_countSeenAlone cX7_countSeenAlone 7 (some .int) ∈ gw := gw_t 1216 (by rfl) (by rfl)
set_option maxRecDepth 100000 in
theorem k_yX6_seenFor : Cond.code yX6_seenFor cX6_seenFor 4 (some .int) ∈ gw := gw_t 1220 (by rfl) (by rfl)
set_option maxRecDepth 100000 in
theorem k_yX7_word : Cond.code yX7_word cX7_word 3 (some .int) ∈ gw := gw_t 1228 (by rfl) (by rfl)
set_option maxRecDepth 100000 in
theorem k_yX7_blurred : Cond.code yX7_blurred cX7_blurred 7 (some .int) ∈ gw := gw_t 1235 (by rfl) (by rfl)
set_option maxRecDepth 100000 in
theorem k_yX7_areBlurred : Cond.code yX7_areBlurred cX7_areBlurred 6 (some .boolean) ∈ gw := gw_t 1239 (by rfl) (by rfl)
set_option maxRecDepth 100000 in
theorem k_yX7_nearest : Cond.code yX7_nearest cX7_nearest 6 (some .int) ∈ gw := gw_t 1246 (by rfl) (by rfl)
set_option maxRecDepth 100000 in
theorem k_yX7_since : Cond.code yX7_since cX7_since 3 (some .int) ∈ gw := gw_t 1253 (by rfl) (by rfl)
set_option maxRecDepth 100000 in
theorem k_yX7_taught : Cond.code yX7_taught cX7_taught 3 (some .int) ∈ gw := gw_t 1260 (by rfl) (by rfl)
set_option maxRecDepth 100000 in
theorem k_yX7_findTeacher : Cond.code yX7_findTeacher cX7_findTeacher 6 (some .int) ∈ gw := gw_t 1264 (by rfl) (by rfl)
set_option maxRecDepth 100000 in
theorem k_yX7_root : Cond.code yX7_root cX7_root 7 (some .int) ∈ gw := gw_t 1271 (by rfl) (by rfl)
set_option maxRecDepth 100000 in
theorem k_yX7_untaught : Cond.code yX7_untaught cX7_untaught 4 (some .int) ∈ gw := gw_t 1278 (by rfl) (by rfl)
set_option maxRecDepth 100000 in
theorem k_yX6_sendTeachersAway : Cond.code yX6_sendTeachersAway cX6_sendTeachersAway 3 none ∈ gw := gw_t 1282 (by rfl) (by rfl)
set_option maxRecDepth 100000 in
theorem k_yX7_odds : Cond.code yX7_odds cX7_odds 8 (some .int) ∈ gw := gw_t 1289 (by rfl) (by rfl)
set_option maxRecDepth 100000 in
theorem k_yX7_right : Cond.code yX7_right cX7_right 7 (some .int) ∈ gw := gw_t 1297 (by rfl) (by rfl)
set_option maxRecDepth 100000 in
theorem k_yX8_thrown : Cond.code yX8_thrown cX8_thrown 1 (some .int) ∈ gw := gw_t 1302 (by rfl) (by rfl)
set_option maxRecDepth 100000 in
theorem k_yX8_init : Cond.code yX8_init cX8_init 2 none ∈ gw := gw_t 1307 (by rfl) (by rfl)
set_option maxRecDepth 100000 in
theorem k_yX8_seeds : Cond.code yX8_seeds cX8_seeds 3 none ∈ gw := gw_t 1481 (by rfl) (by rfl)
set_option maxRecDepth 100000 in
theorem k_yX8_ends : Cond.code yX8_ends cX8_ends 1 none ∈ gw := gw_t 1485 (by rfl) (by rfl)
set_option maxRecDepth 100000 in
theorem k_yX8_come : Cond.code yX8_come cX8_come 7 (some .int) ∈ gw := gw_t 1489 (by rfl) (by rfl)
set_option maxRecDepth 100000 in
theorem k_yX8_isYard : Cond.code yX8_isYard cX8_isYard 1 (some .boolean) ∈ gw := gw_t 1492 (by rfl) (by rfl)
set_option maxRecDepth 100000 in
theorem k_yX8_within : Cond.code yX8_within cX8_within 3 (some .boolean) ∈ gw := gw_t 1495 (by rfl) (by rfl)
set_option maxRecDepth 100000 in
theorem k_yX8_may : Cond.code yX8_may cX8_may 3 (some .boolean) ∈ gw := gw_t 1499 (by rfl) (by rfl)
set_option maxRecDepth 100000 in
theorem k_yX8_at : Cond.code yX8_at cX8_at 1 (some .int) ∈ gw := gw_t 1502 (by rfl) (by rfl)
set_option maxRecDepth 100000 in
theorem k_yX8_leave : Cond.code yX8_leave cX8_leave 2 (some .int) ∈ gw := gw_t 1506 (by rfl) (by rfl)
set_option maxRecDepth 100000 in
theorem k_yX8_isChild : Cond.code yX8_isChild cX8_isChild 2 (some .boolean) ∈ gw := gw_t 1510 (by rfl) (by rfl)
set_option maxRecDepth 100000 in
theorem k_yX8_visit : Cond.code yX8_visit cX8_visit 4 (some .int) ∈ gw := gw_t 1514 (by rfl) (by rfl)
set_option maxRecDepth 100000 in
theorem k_yX8_of : Cond.code yX8_of cX8_of 6 (some .int) ∈ gw := gw_t 1518 (by rfl) (by rfl)
set_option maxRecDepth 100000 in
theorem k_yX8_holdsNow : Cond.code yX8_holdsNow cX8_holdsNow 4 (some .boolean) ∈ gw := gw_t 1522 (by rfl) (by rfl)
set_option maxRecDepth 100000 in
theorem k_yX8_asks : Cond.code yX8_asks cX8_asks 5 none ∈ gw := gw_t 1526 (by rfl) (by rfl)
set_option maxRecDepth 100000 in
theorem k_yX8_told : Cond.code yX8_told cX8_told 6 (some .int) ∈ gw := gw_t 1530 (by rfl) (by rfl)
set_option maxRecDepth 100000 in
theorem k_yX8_valueOf : Cond.code yX8_valueOf cX8_valueOf 6 (some .int) ∈ gw := gw_t 1534 (by rfl) (by rfl)
set_option maxRecDepth 100000 in
theorem k_yX8_asked : Cond.code yX8_asked cX8_asked 2 (some .int) ∈ gw := gw_t 1538 (by rfl) (by rfl)
set_option maxRecDepth 100000 in
theorem k_yX8_two : Cond.code yX8_two cX8_two 3 (some .int) ∈ gw := gw_t 1541 (by rfl) (by rfl)
set_option maxRecDepth 100000 in
theorem k_yX8_bounded : Cond.code yX8_bounded cX8_bounded 1 (some .int) ∈ gw := gw_t 1544 (by rfl) (by rfl)
set_option maxRecDepth 100000 in
theorem k_yX8_sign : Cond.code yX8_sign cX8_sign 4 (some .int) ∈ gw := gw_t 1548 (by rfl) (by rfl)
set_option maxRecDepth 100000 in
theorem k_yX8_order : Cond.code yX8_order cX8_order 3 (some .int) ∈ gw := gw_t 1552 (by rfl) (by rfl)
set_option maxRecDepth 100000 in
theorem k_yX8_isOrder : Cond.code yX8_isOrder cX8_isOrder 1 (some .boolean) ∈ gw := gw_t 1555 (by rfl) (by rfl)
set_option maxRecDepth 100000 in
theorem k_yX8_holds : Cond.code yX8_holds cX8_holds 3 (some .boolean) ∈ gw := gw_t 1559 (by rfl) (by rfl)
set_option maxRecDepth 100000 in
theorem k_yX8_set : Cond.code yX8_set cX8_set 4 (some .int) ∈ gw := gw_t 1563 (by rfl) (by rfl)
set_option maxRecDepth 100000 in
theorem k_yX8_years : Cond.code yX8_years cX8_years 2 (some .int) ∈ gw := gw_t 1567 (by rfl) (by rfl)
set_option maxRecDepth 100000 in
theorem k_yX8_feed : Cond.code yX8_feed cX8_feed 8 (some .int) ∈ gw := gw_t 1571 (by rfl) (by rfl)
set_option maxRecDepth 100000 in
theorem k_yX8_law : Cond.code yX8_law cX8_law 2 (some .int) ∈ gw := gw_t 1575 (by rfl) (by rfl)
set_option maxRecDepth 100000 in
theorem k_yX8_fine : Cond.code yX8_fine cX8_fine 1 (some .boolean) ∈ gw := gw_t 1579 (by rfl) (by rfl)
set_option maxRecDepth 100000 in
theorem k_yX8_isMore : Cond.code yX8_isMore cX8_isMore 1 (some .boolean) ∈ gw := gw_t 1583 (by rfl) (by rfl)
set_option maxRecDepth 100000 in
theorem k_yX8_here : Cond.code yX8_here cX8_here 1 (some .int) ∈ gw := gw_t 1587 (by rfl) (by rfl)
set_option maxRecDepth 100000 in
theorem k_yX8_readClause : Cond.code yX8_readClause cX8_readClause 4 none ∈ gw := gw_t 1591 (by rfl) (by rfl)
set_option maxRecDepth 100000 in
theorem k_yX8_word : Cond.code yX8_word cX8_word 4 (some .int) ∈ gw := gw_t 1595 (by rfl) (by rfl)
set_option maxRecDepth 100000 in
theorem k_yX8_isSmall : Cond.code yX8_isSmall cX8_isSmall 1 (some .boolean) ∈ gw := gw_t 1598 (by rfl) (by rfl)
set_option maxRecDepth 100000 in
theorem k_yX8_wrong : Cond.code yX8_wrong cX8_wrong 3 none ∈ gw := gw_t 1606 (by rfl) (by rfl)
set_option maxRecDepth 100000 in
theorem k_yX8_pass : Cond.code yX8_pass cX8_pass 1 none ∈ gw := gw_t 1610 (by rfl) (by rfl)
set_option maxRecDepth 100000 in
theorem k_yX8_sum : Cond.code yX8_sum cX8_sum 2 none ∈ gw := gw_t 1614 (by rfl) (by rfl)
set_option maxRecDepth 100000 in
theorem k_yX8_product : Cond.code yX8_product cX8_product 2 none ∈ gw := gw_t 1618 (by rfl) (by rfl)
set_option maxRecDepth 100000 in
theorem k_yX8_unit : Cond.code yX8_unit cX8_unit 3 none ∈ gw := gw_t 1622 (by rfl) (by rfl)
set_option maxRecDepth 100000 in
theorem k_yX8_isDigit : Cond.code yX8_isDigit cX8_isDigit 1 (some .boolean) ∈ gw := gw_t 1625 (by rfl) (by rfl)
set_option maxRecDepth 100000 in
theorem k_yX8_readNumber : Cond.code yX8_readNumber cX8_readNumber 3 (some .int) ∈ gw := gw_t 1629 (by rfl) (by rfl)
set_option maxRecDepth 100000 in
theorem k_yX8_emit : Cond.code yX8_emit cX8_emit 3 none ∈ gw := gw_t 1633 (by rfl) (by rfl)
set_option maxRecDepth 100000 in
theorem k_yX8_opensAt : Cond.code yX8_opensAt cX8_opensAt 3 none ∈ gw := gw_t 1637 (by rfl) (by rfl)
set_option maxRecDepth 100000 in
theorem k_yX8_closesAt : Cond.code yX8_closesAt cX8_closesAt 2 none ∈ gw := gw_t 1641 (by rfl) (by rfl)
set_option maxRecDepth 100000 in
theorem k_yX8_need : Cond.code yX8_need cX8_need 2 none ∈ gw := gw_t 1645 (by rfl) (by rfl)
set_option maxRecDepth 100000 in
theorem k_yX8_name : Cond.code yX8_name cX8_name 1 (some .int) ∈ gw := gw_t 1650 (by rfl) (by rfl)
set_option maxRecDepth 100000 in
theorem k_yX8_anyOf : Cond.code yX8_anyOf cX8_anyOf 1 none ∈ gw := gw_t 1659 (by rfl) (by rfl)
set_option maxRecDepth 100000 in
theorem k_yX8_allOf : Cond.code yX8_allOf cX8_allOf 1 none ∈ gw := gw_t 1663 (by rfl) (by rfl)
set_option maxRecDepth 100000 in
theorem k_yX8_term : Cond.code yX8_term cX8_term 2 none ∈ gw := gw_t 1667 (by rfl) (by rfl)
set_option maxRecDepth 100000 in
theorem k_yX8_fault : Cond.code yX8_fault cX8_fault 1 (some .int) ∈ gw := gw_t 1671 (by rfl) (by rfl)
set_option maxRecDepth 100000 in
theorem k_yX8_force : Cond.code yX8_force cX8_force 3 (some .int) ∈ gw := gw_t 1675 (by rfl) (by rfl)
set_option maxRecDepth 100000 in
theorem k_yX8_isLawOrNone : Cond.code yX8_isLawOrNone cX8_isLawOrNone 2 (some .boolean) ∈ gw := gw_t 1679 (by rfl) (by rfl)
set_option maxRecDepth 100000 in
theorem k_yX8_talk : Cond.code yX8_talk cX8_talk 6 (some .int) ∈ gw := gw_t 1683 (by rfl) (by rfl)
set_option maxRecDepth 100000 in
theorem k_yX8_tells : Cond.code yX8_tells cX8_tells 7 none ∈ gw := gw_t 1687 (by rfl) (by rfl)
set_option maxRecDepth 100000 in
theorem k_yX8_talks : Cond.code yX8_talks cX8_talks 8 none ∈ gw := gw_t 1691 (by rfl) (by rfl)
set_option maxRecDepth 100000 in
theorem k_yX8_saysIt : Cond.code yX8_saysIt cX8_saysIt 8 none ∈ gw := gw_t 1695 (by rfl) (by rfl)
set_option maxRecDepth 100000 in
theorem k_yX8_orderOf : Cond.code yX8_orderOf cX8_orderOf 5 (some .int) ∈ gw := gw_t 1699 (by rfl) (by rfl)
set_option maxRecDepth 100000 in
theorem k_yX8_draw : Cond.code yX8_draw cX8_draw 3 (some .int) ∈ gw := gw_t 1703 (by rfl) (by rfl)
set_option maxRecDepth 100000 in
theorem k_yX8_concept : Cond.code yX8_concept cX8_concept 2 (some .int) ∈ gw := gw_t 1709 (by rfl) (by rfl)
set_option maxRecDepth 100000 in
theorem k_yX8_signOf : Cond.code yX8_signOf cX8_signOf 6 (some .int) ∈ gw := gw_t 1713 (by rfl) (by rfl)
set_option maxRecDepth 100000 in
theorem k_yX8_weightSeen : Cond.code yX8_weightSeen cX8_weightSeen 7 (some .int) ∈ gw := gw_t 1717 (by rfl) (by rfl)
set_option maxRecDepth 100000 in
theorem k_yX8_isWorn : Cond.code yX8_isWorn cX8_isWorn 3 (some .boolean) ∈ gw := gw_t 1721 (by rfl) (by rfl)
set_option maxRecDepth 100000 in
theorem k_yX8_learns : Cond.code yX8_learns cX8_learns 10 none ∈ gw := gw_t 1725 (by rfl) (by rfl)
set_option maxRecDepth 100000 in
theorem k_yX8_seenAs : Cond.code yX8_seenAs cX8_seenAs 3 (some .int) ∈ gw := gw_t 1729 (by rfl) (by rfl)
set_option maxRecDepth 100000 in
theorem k_yX8_run : Cond.code yX8_run cX8_run 4 (some .int) ∈ gw := gw_t 1733 (by rfl) (by rfl)
set_option maxRecDepth 100000 in
theorem k_yX8_findHere : Cond.code yX8_findHere cX8_findHere 3 none ∈ gw := gw_t 1737 (by rfl) (by rfl)
set_option maxRecDepth 100000 in
theorem k_yX8_draws : Cond.code yX8_draws cX8_draws 4 none ∈ gw := gw_t 1741 (by rfl) (by rfl)
set_option maxRecDepth 100000 in
theorem k_yX8_note : Cond.code yX8_note cX8_note 3 (some .int) ∈ gw := gw_t 1745 (by rfl) (by rfl)
set_option maxRecDepth 100000 in
theorem k_yX8_share : Cond.code yX8_share cX8_share 9 (some .int) ∈ gw := gw_t 1749 (by rfl) (by rfl)
set_option maxRecDepth 100000 in
theorem k_yX8_isKind : Cond.code yX8_isKind cX8_isKind 1 (some .boolean) ∈ gw := gw_t 1752 (by rfl) (by rfl)
set_option maxRecDepth 100000 in
theorem k_yX8_held : Cond.code yX8_held cX8_held 3 (some .int) ∈ gw := gw_t 1756 (by rfl) (by rfl)
set_option maxRecDepth 100000 in
theorem k_yX8_heldIn : Cond.code yX8_heldIn cX8_heldIn 5 (some .int) ∈ gw := gw_t 1760 (by rfl) (by rfl)
set_option maxRecDepth 100000 in
theorem k_yX8_first : Cond.code yX8_first cX8_first 3 (some .int) ∈ gw := gw_t 1764 (by rfl) (by rfl)
set_option maxRecDepth 100000 in
theorem k_yX8_back : Cond.code yX8_back cX8_back 6 (some .int) ∈ gw := gw_t 1768 (by rfl) (by rfl)
set_option maxRecDepth 100000 in
theorem k_yX8_uses : Cond.code yX8_uses cX8_uses 3 (some .int) ∈ gw := gw_t 1772 (by rfl) (by rfl)
set_option maxRecDepth 100000 in
theorem k_yX8_seen : Cond.code yX8_seen cX8_seen 3 (some .int) ∈ gw := gw_t 1776 (by rfl) (by rfl)
set_option maxRecDepth 100000 in
theorem k_yX8_film : Cond.code yX8_film cX8_film 2 (some .int) ∈ gw := gw_t 1780 (by rfl) (by rfl)
set_option maxRecDepth 100000 in
theorem k_yX8_end : Cond.code yX8_end cX8_end 2 (some .int) ∈ gw := gw_t 1784 (by rfl) (by rfl)
set_option maxRecDepth 100000 in
theorem k_yX8_gap : Cond.code yX8_gap cX8_gap 3 (some .int) ∈ gw := gw_t 1788 (by rfl) (by rfl)
set_option maxRecDepth 100000 in
theorem k_yX8_isFilm : Cond.code yX8_isFilm cX8_isFilm 2 (some .boolean) ∈ gw := gw_t 1792 (by rfl) (by rfl)
set_option maxRecDepth 100000 in
theorem k_yX8_fits : Cond.code yX8_fits cX8_fits 3 (some .int) ∈ gw := gw_t 1796 (by rfl) (by rfl)
set_option maxRecDepth 100000 in
theorem k_yX8_fitting : Cond.code yX8_fitting cX8_fitting 7 (some .int) ∈ gw := gw_t 1800 (by rfl) (by rfl)
set_option maxRecDepth 100000 in
theorem k_yX8_read : Cond.code yX8_read cX8_read 5 (some .int) ∈ gw := gw_t 1804 (by rfl) (by rfl)
set_option maxRecDepth 100000 in
theorem k_yX8_trial : Cond.code yX8_trial cX8_trial 5 (some .int) ∈ gw := gw_t 1808 (by rfl) (by rfl)
set_option maxRecDepth 100000 in
theorem k_yX8_tryWith : Cond.code yX8_tryWith cX8_tryWith 6 (some .int) ∈ gw := gw_t 1812 (by rfl) (by rfl)
set_option maxRecDepth 100000 in
theorem k_yX8_begins : Cond.code yX8_begins cX8_begins 2 none ∈ gw := gw_t 1816 (by rfl) (by rfl)
set_option maxRecDepth 100000 in
theorem k_yX8_tries : Cond.code yX8_tries cX8_tries 4 none ∈ gw := gw_t 1820 (by rfl) (by rfl)
set_option maxRecDepth 100000 in
theorem k_yX8_fewest : Cond.code yX8_fewest cX8_fewest 8 (some .int) ∈ gw := gw_t 1824 (by rfl) (by rfl)
set_option maxRecDepth 100000 in
theorem k_yX8_isRun : Cond.code yX8_isRun cX8_isRun 3 (some .boolean) ∈ gw := gw_t 1827 (by rfl) (by rfl)
set_option maxRecDepth 100000 in
theorem k_yX8_needed : Cond.code yX8_needed cX8_needed 8 (some .int) ∈ gw := gw_t 1831 (by rfl) (by rfl)
set_option maxRecDepth 100000 in
theorem k_yX8_unlike : Cond.code yX8_unlike cX8_unlike 3 (some .int) ∈ gw := gw_t 1835 (by rfl) (by rfl)
set_option maxRecDepth 100000 in
theorem k_yX8_unlikeOf : Cond.code yX8_unlikeOf cX8_unlikeOf 5 (some .int) ∈ gw := gw_t 1839 (by rfl) (by rfl)
set_option maxRecDepth 100000 in
theorem k_yX8_greatest : Cond.code yX8_greatest cX8_greatest 8 (some .int) ∈ gw := gw_t 1843 (by rfl) (by rfl)
set_option maxRecDepth 100000 in
theorem k_yX8_meets : Cond.code yX8_meets cX8_meets 5 (some .int) ∈ gw := gw_t 1847 (by rfl) (by rfl)
set_option maxRecDepth 100000 in
theorem k_yX8_plain : Cond.code yX8_plain cX8_plain 8 (some .int) ∈ gw := gw_t 1851 (by rfl) (by rfl)
set_option maxRecDepth 100000 in
theorem k_yX8_heaviest : Cond.code yX8_heaviest cX8_heaviest 5 (some .int) ∈ gw := gw_t 1855 (by rfl) (by rfl)
set_option maxRecDepth 100000 in
theorem k_yX8_word_ : Cond.code yX8_word_ cX8_word_ 3 (some .int) ∈ gw := gw_t 1859 (by rfl) (by rfl)
set_option maxRecDepth 100000 in
theorem k_yX8_blurred : Cond.code yX8_blurred cX8_blurred 6 (some .int) ∈ gw := gw_t 1863 (by rfl) (by rfl)
set_option maxRecDepth 100000 in
theorem k_yX8_nearest : Cond.code yX8_nearest cX8_nearest 6 (some .int) ∈ gw := gw_t 1867 (by rfl) (by rfl)
set_option maxRecDepth 100000 in
theorem k_yX8_since : Cond.code yX8_since cX8_since 3 (some .int) ∈ gw := gw_t 1871 (by rfl) (by rfl)
set_option maxRecDepth 100000 in
theorem k_yX8_taught : Cond.code yX8_taught cX8_taught 3 (some .int) ∈ gw := gw_t 1875 (by rfl) (by rfl)
set_option maxRecDepth 100000 in
theorem k_yX8_teacherOf : Cond.code yX8_teacherOf cX8_teacherOf 5 (some .int) ∈ gw := gw_t 1879 (by rfl) (by rfl)
set_option maxRecDepth 100000 in
theorem k_yX8_root : Cond.code yX8_root cX8_root 6 (some .int) ∈ gw := gw_t 1883 (by rfl) (by rfl)
set_option maxRecDepth 100000 in
theorem k_yX8_untaught : Cond.code yX8_untaught cX8_untaught 5 (some .int) ∈ gw := gw_t 1887 (by rfl) (by rfl)
set_option maxRecDepth 100000 in
theorem k_yX8_odds : Cond.code yX8_odds cX8_odds 8 (some .int) ∈ gw := gw_t 1891 (by rfl) (by rfl)
set_option maxRecDepth 100000 in
theorem k_yX8_right : Cond.code yX8_right cX8_right 8 (some .int) ∈ gw := gw_t 1895 (by rfl) (by rfl)
set_option maxRecDepth 100000 in
theorem k_yX8_image : Cond.code yX8_image cX8_image 2 (some .int) ∈ gw := gw_t 1899 (by rfl) (by rfl)
set_option maxRecDepth 100000 in
theorem k_yX8_restore : Cond.code yX8_restore cX8_restore 2 (some .int) ∈ gw := gw_t 1903 (by rfl) (by rfl)
set_option maxRecDepth 100000 in
theorem k_yX8_count : Cond.code yX8_count cX8_count 4 (some .int) ∈ gw := gw_t 1907 (by rfl) (by rfl)
set_option maxRecDepth 100000 in
theorem mlL_136 : Cond.methodLink RL 136 yX7_init ∈ gw := gw_t 25 (by rfl) (by rfl)
set_option maxRecDepth 100000 in
theorem mlX7_1 : Cond.methodLink RX7 1 ⟨"java/lang/Object", "<init>", "()V"⟩ ∈ gw := gw_t 28 (by rfl) (by rfl)
set_option maxRecDepth 100000 in
theorem mlX6_3 : Cond.methodLink RX6 3 ⟨"java/lang/Object", "<init>", "()V"⟩ ∈ gw := gw_t 36 (by rfl) (by rfl)
set_option maxRecDepth 100000 in
theorem mlX7_37 : Cond.methodLink RX7 37 yX3_init ∈ gw := gw_t 124 (by rfl) (by rfl)
set_option maxRecDepth 100000 in
theorem mlX3_3 : Cond.methodLink RX3 3 ⟨"java/lang/Object", "<init>", "()V"⟩ ∈ gw := gw_t 127 (by rfl) (by rfl)
set_option maxRecDepth 100000 in
theorem mlX5_3 : Cond.methodLink RX5 3 ⟨"java/lang/Object", "<init>", "()V"⟩ ∈ gw := gw_t 153 (by rfl) (by rfl)
set_option maxRecDepth 100000 in
theorem mlX4_3 : Cond.methodLink RX4 3 ⟨"java/lang/Object", "<init>", "()V"⟩ ∈ gw := gw_t 203 (by rfl) (by rfl)
set_option maxRecDepth 100000 in
theorem mlX2_3 : Cond.methodLink RX2 3 ⟨"java/lang/Object", "<init>", "()V"⟩ ∈ gw := gw_t 222 (by rfl) (by rfl)
set_option maxRecDepth 100000 in
theorem mlX0_3 : Cond.methodLink RX0 3 ⟨"java/lang/Object", "<init>", "()V"⟩ ∈ gw := gw_t 256 (by rfl) (by rfl)
set_option maxRecDepth 100000 in
theorem mlX1_3 : Cond.methodLink RX1 3 ⟨"java/lang/Object", "<init>", "()V"⟩ ∈ gw := gw_t 281 (by rfl) (by rfl)
set_option maxRecDepth 100000 in
theorem mvL_140 : MV RL 140 7 yX7_seeds cX7_seeds 3 none (((parseMethodDescriptor "(II)V").map (fun d => d.parameters.length)).getD 0) := ⟨gw_t 365 (by rfl) (by rfl), gw_t 366 (by rfl) (by rfl), gw_t 367 (by rfl) (by rfl), gw_t 1 (by rfl) (by rfl), k_yX7_seeds, by decide +kernel, by decide +kernel, _, _, rfl⟩
set_option maxRecDepth 100000 in
theorem mvX7_100 : MV RX7 100 7 yX7_stopFilm cX7_stopFilm 1 none (((parseMethodDescriptor "()V").map (fun d => d.parameters.length)).getD 0) := ⟨gw_t 369 (by rfl) (by rfl), gw_t 371 (by rfl) (by rfl), gw_p 0 (by rfl) (by rfl), gw_t 1 (by rfl) (by rfl), k_yX7_stopFilm, by decide +kernel, by decide +kernel, _, _, rfl⟩
set_option maxRecDepth 100000 in
theorem mvL_182 : MV RL 182 7 yX7_feed cX7_feed 6 (some .int) (((parseMethodDescriptor "(IIIII)I").map (fun d => d.parameters.length)).getD 0) := ⟨gw_t 373 (by rfl) (by rfl), gw_t 374 (by rfl) (by rfl), gw_t 375 (by rfl) (by rfl), gw_t 1 (by rfl) (by rfl), k_yX7_feed, by decide +kernel, by decide +kernel, _, _, rfl⟩
set_option maxRecDepth 100000 in
theorem mvX7_192 : MV RX7 192 7 yX7_putBytes cX7_putBytes 3 none (((parseMethodDescriptor "(I)V").map (fun d => d.parameters.length)).getD 0) := ⟨gw_t 377 (by rfl) (by rfl), gw_t 379 (by rfl) (by rfl), gw_p 1 (by rfl) (by rfl), gw_t 1 (by rfl) (by rfl), k_yX7_putBytes, by decide +kernel, by decide +kernel, _, _, rfl⟩
set_option maxRecDepth 100000 in
theorem mvL_189 : MV RL 189 7 yX7_fault cX7_fault 1 (some .int) (((parseMethodDescriptor "()I").map (fun d => d.parameters.length)).getD 0) := ⟨gw_t 381 (by rfl) (by rfl), gw_t 382 (by rfl) (by rfl), gw_t 383 (by rfl) (by rfl), gw_t 1 (by rfl) (by rfl), k_yX7_fault, by decide +kernel, by decide +kernel, _, _, rfl⟩
set_option maxRecDepth 100000 in
theorem mvL_225 : MV RL 225 7 yX7_film cX7_film 1 (some .int) (((parseMethodDescriptor "()I").map (fun d => d.parameters.length)).getD 0) := ⟨gw_t 385 (by rfl) (by rfl), gw_t 386 (by rfl) (by rfl), gw_t 387 (by rfl) (by rfl), gw_t 1 (by rfl) (by rfl), k_yX7_film, by decide +kernel, by decide +kernel, _, _, rfl⟩
set_option maxRecDepth 100000 in
theorem mvX7_275 : MV RX7 275 0 yX0_begin cX0_begin 3 none (((parseMethodDescriptor "(LYardTalk$World;I)V").map (fun d => d.parameters.length)).getD 0) := ⟨gw_t 389 (by rfl) (by rfl), gw_t 390 (by rfl) (by rfl), gw_t 391 (by rfl) (by rfl), gw_t 7 (by rfl) (by rfl), k_yX0_begin, by decide +kernel, by decide +kernel, _, _, rfl⟩
set_option maxRecDepth 100000 in
theorem mvX0_29 : MV RX0 29 6 yX6_become cX6_become 2 none (((parseMethodDescriptor "(LYardTalk$World;)V").map (fun d => d.parameters.length)).getD 0) := ⟨gw_t 393 (by rfl) (by rfl), gw_t 394 (by rfl) (by rfl), gw_t 395 (by rfl) (by rfl), gw_t 2 (by rfl) (by rfl), k_yX6_become, by decide +kernel, by decide +kernel, _, _, rfl⟩
set_option maxRecDepth 100000 in
theorem mlX6_64 : Cond.methodLink RX6 64 ⟨"java/lang/System", "arraycopy", "(Ljava/lang/Object;ILjava/lang/Object;II)V"⟩ ∈ gw := gw_t 397 (by rfl) (by rfl)
set_option maxRecDepth 100000 in
theorem mvL_229 : MV RL 229 7 yX7_end cX7_end 2 (some .int) (((parseMethodDescriptor "()I").map (fun d => d.parameters.length)).getD 0) := ⟨gw_t 400 (by rfl) (by rfl), gw_t 401 (by rfl) (by rfl), gw_t 402 (by rfl) (by rfl), gw_t 1 (by rfl) (by rfl), k_yX7_end, by decide +kernel, by decide +kernel, _, _, rfl⟩
set_option maxRecDepth 100000 in
theorem mvL_239 : MV RL 239 7 yX7_read cX7_read 5 (some .int) (((parseMethodDescriptor "()I").map (fun d => d.parameters.length)).getD 0) := ⟨gw_t 404 (by rfl) (by rfl), gw_t 405 (by rfl) (by rfl), gw_t 406 (by rfl) (by rfl), gw_t 1 (by rfl) (by rfl), k_yX7_read, by decide +kernel, by decide +kernel, _, _, rfl⟩
set_option maxRecDepth 100000 in
theorem mvX7_287 : MV RX7 287 7 yX7_countAlike cX7_countAlike 5 (some .int) (((parseMethodDescriptor "(LYardTalk$Film;I)I").map (fun d => d.parameters.length)).getD 0) := ⟨gw_t 408 (by rfl) (by rfl), gw_t 410 (by rfl) (by rfl), gw_p 2 (by rfl) (by rfl), gw_t 1 (by rfl) (by rfl), k_yX7_countAlike, by decide +kernel, by decide +kernel, _, _, rfl⟩
set_option maxRecDepth 100000 in
theorem mvX7_295 : MV RX7 295 6 yX6_become cX6_become 2 none (((parseMethodDescriptor "(LYardTalk$World;)V").map (fun d => d.parameters.length)).getD 0) := ⟨gw_t 412 (by rfl) (by rfl), gw_t 394 (by rfl) (by rfl), gw_t 395 (by rfl) (by rfl), gw_t 2 (by rfl) (by rfl), k_yX6_become, by decide +kernel, by decide +kernel, _, _, rfl⟩
set_option maxRecDepth 100000 in
theorem mvX7_299 : MV RX7 299 7 yX7_lawOf cX7_lawOf 2 (some (.object "YardTalk$Law")) (((parseMethodDescriptor "(I)LYardTalk$Law;").map (fun d => d.parameters.length)).getD 0) := ⟨gw_t 413 (by rfl) (by rfl), gw_t 415 (by rfl) (by rfl), gw_p 3 (by rfl) (by rfl), gw_t 1 (by rfl) (by rfl), k_yX7_lawOf, by decide +kernel, by decide +kernel, _, _, rfl⟩
set_option maxRecDepth 100000 in
theorem mvX7_303 : MV RX7 303 4 yX4_use cX4_use 3 none (((parseMethodDescriptor "(LYardTalk$Law;I)V").map (fun d => d.parameters.length)).getD 0) := ⟨gw_t 417 (by rfl) (by rfl), gw_t 418 (by rfl) (by rfl), gw_t 419 (by rfl) (by rfl), gw_t 5 (by rfl) (by rfl), k_yX4_use, by decide +kernel, by decide +kernel, _, _, rfl⟩
set_option maxRecDepth 100000 in
theorem mvX7_248 : MV RX7 248 3 yX3_at cX3_at 3 (some .int) (((parseMethodDescriptor "(II)I").map (fun d => d.parameters.length)).getD 0) := ⟨gw_t 421 (by rfl) (by rfl), gw_t 422 (by rfl) (by rfl), gw_t 423 (by rfl) (by rfl), gw_t 3 (by rfl) (by rfl), k_yX3_at, by decide +kernel, by decide +kernel, _, _, rfl⟩
set_option maxRecDepth 100000 in
theorem mvX7_221 : MV RX7 221 5 yX5_begin cX5_begin 6 none (((parseMethodDescriptor "(IIIII)V").map (fun d => d.parameters.length)).getD 0) := ⟨gw_t 425 (by rfl) (by rfl), gw_t 426 (by rfl) (by rfl), gw_t 427 (by rfl) (by rfl), gw_t 4 (by rfl) (by rfl), k_yX5_begin, by decide +kernel, by decide +kernel, _, _, rfl⟩
set_option maxRecDepth 100000 in
theorem mvX7_399 : MV RX7 399 5 yX5_makeIn cX5_makeIn 3 none (((parseMethodDescriptor "(LYardTalk$World;LYardTalk$Ruling;)V").map (fun d => d.parameters.length)).getD 0) := ⟨gw_t 429 (by rfl) (by rfl), gw_t 430 (by rfl) (by rfl), gw_t 431 (by rfl) (by rfl), gw_t 4 (by rfl) (by rfl), k_yX5_makeIn, by decide +kernel, by decide +kernel, _, _, rfl⟩
set_option maxRecDepth 100000 in
theorem mvX5_44 : MV RX5 44 5 yX5_sayIn cX5_sayIn 3 none (((parseMethodDescriptor "(LYardTalk$World;)V").map (fun d => d.parameters.length)).getD 0) := ⟨gw_t 433 (by rfl) (by rfl), gw_t 434 (by rfl) (by rfl), gw_t 435 (by rfl) (by rfl), gw_t 4 (by rfl) (by rfl), k_yX5_sayIn, by decide +kernel, by decide +kernel, _, _, rfl⟩
set_option maxRecDepth 100000 in
theorem mvX5_73 : MV RX5 73 6 yX6_chooseOrder cX6_chooseOrder 3 (some .int) (((parseMethodDescriptor "(I)I").map (fun d => d.parameters.length)).getD 0) := ⟨gw_t 437 (by rfl) (by rfl), gw_t 438 (by rfl) (by rfl), gw_t 439 (by rfl) (by rfl), gw_t 2 (by rfl) (by rfl), k_yX6_chooseOrder, by decide +kernel, by decide +kernel, _, _, rfl⟩
set_option maxRecDepth 100000 in
theorem mvX6_100 : MV RX6 100 6 yX6_heaviestOrder cX6_heaviestOrder 6 (some .int) (((parseMethodDescriptor "(I)I").map (fun d => d.parameters.length)).getD 0) := ⟨gw_t 441 (by rfl) (by rfl), gw_t 442 (by rfl) (by rfl), gw_t 443 (by rfl) (by rfl), gw_t 2 (by rfl) (by rfl), k_yX6_heaviestOrder, by decide +kernel, by decide +kernel, _, _, rfl⟩
set_option maxRecDepth 100000 in
theorem mvX6_97 : MV RX6 97 6 yX6_drawChance cX6_drawChance 2 (some .int) (((parseMethodDescriptor "(I)I").map (fun d => d.parameters.length)).getD 0) := ⟨gw_t 445 (by rfl) (by rfl), gw_t 446 (by rfl) (by rfl), gw_t 447 (by rfl) (by rfl), gw_t 2 (by rfl) (by rfl), k_yX6_drawChance, by decide +kernel, by decide +kernel, _, _, rfl⟩
set_option maxRecDepth 100000 in
theorem msX6_71 : MS RX6 71 yX6_advance cX6_advance 1 (some .int) (((parseMethodDescriptor "(I)I").map (fun d => d.parameters.length)).getD 0) := ⟨gw_t 449 (by rfl) (by rfl), gw_t 450 (by rfl) (by rfl), gw_t 2 (by rfl) (by rfl), k_yX6_advance, by decide +kernel, by decide +kernel⟩
set_option maxRecDepth 100000 in
theorem msX6_75 : MS RX6 75 yX6_pick cX6_pick 2 (some .int) (((parseMethodDescriptor "(II)I").map (fun d => d.parameters.length)).getD 0) := ⟨gw_t 453 (by rfl) (by rfl), gw_t 454 (by rfl) (by rfl), gw_t 2 (by rfl) (by rfl), k_yX6_pick, by decide +kernel, by decide +kernel⟩
set_option maxRecDepth 100000 in
theorem mvX5_76 : MV RX5 76 5 yX5_conceptMeant cX5_conceptMeant 3 (some .int) (((parseMethodDescriptor "(I)I").map (fun d => d.parameters.length)).getD 0) := ⟨gw_t 456 (by rfl) (by rfl), gw_t 458 (by rfl) (by rfl), gw_p 4 (by rfl) (by rfl), gw_t 4 (by rfl) (by rfl), k_yX5_conceptMeant, by decide +kernel, by decide +kernel, _, _, rfl⟩
set_option maxRecDepth 100000 in
theorem mvX5_79 : MV RX5 79 6 yX6_chooseSign cX6_chooseSign 4 (some .int) (((parseMethodDescriptor "(II)I").map (fun d => d.parameters.length)).getD 0) := ⟨gw_t 468 (by rfl) (by rfl), gw_t 469 (by rfl) (by rfl), gw_t 470 (by rfl) (by rfl), gw_t 2 (by rfl) (by rfl), k_yX6_chooseSign, by decide +kernel, by decide +kernel, _, _, rfl⟩
set_option maxRecDepth 100000 in
theorem mvX6_94 : MV RX6 94 6 yX6_heaviestSign cX6_heaviestSign 7 (some .int) (((parseMethodDescriptor "(II)I").map (fun d => d.parameters.length)).getD 0) := ⟨gw_t 472 (by rfl) (by rfl), gw_t 473 (by rfl) (by rfl), gw_t 474 (by rfl) (by rfl), gw_t 2 (by rfl) (by rfl), k_yX6_heaviestSign, by decide +kernel, by decide +kernel, _, _, rfl⟩
set_option maxRecDepth 100000 in
theorem mvX5_48 : MV RX5 48 5 yX5_takeIn cX5_takeIn 4 none (((parseMethodDescriptor "(LYardTalk$World;)V").map (fun d => d.parameters.length)).getD 0) := ⟨gw_t 479 (by rfl) (by rfl), gw_t 480 (by rfl) (by rfl), gw_t 481 (by rfl) (by rfl), gw_t 4 (by rfl) (by rfl), k_yX5_takeIn, by decide +kernel, by decide +kernel, _, _, rfl⟩
set_option maxRecDepth 100000 in
theorem mvX5_95 : MV RX5 95 5 yX5_guessPart cX5_guessPart 8 (some .int) (((parseMethodDescriptor "(LYardTalk$World;II)I").map (fun d => d.parameters.length)).getD 0) := ⟨gw_t 483 (by rfl) (by rfl), gw_t 485 (by rfl) (by rfl), gw_p 5 (by rfl) (by rfl), gw_t 4 (by rfl) (by rfl), k_yX5_guessPart, by decide +kernel, by decide +kernel, _, _, rfl⟩
set_option maxRecDepth 100000 in
theorem mvX5_99 : MV RX5 99 6 yX6_weightSeen cX6_weightSeen 5 (some .int) (((parseMethodDescriptor "(III)I").map (fun d => d.parameters.length)).getD 0) := ⟨gw_t 487 (by rfl) (by rfl), gw_t 488 (by rfl) (by rfl), gw_t 489 (by rfl) (by rfl), gw_t 2 (by rfl) (by rfl), k_yX6_weightSeen, by decide +kernel, by decide +kernel, _, _, rfl⟩
set_option maxRecDepth 100000 in
theorem mvX6_103 : MV RX6 103 6 yX6_areBothWorn cX6_areBothWorn 4 (some .boolean) (((parseMethodDescriptor "(II)Z").map (fun d => d.parameters.length)).getD 0) := ⟨gw_t 491 (by rfl) (by rfl), gw_t 493 (by rfl) (by rfl), gw_p 6 (by rfl) (by rfl), gw_t 2 (by rfl) (by rfl), k_yX6_areBothWorn, by decide +kernel, by decide +kernel, _, _, rfl⟩
set_option maxRecDepth 100000 in
theorem mvX5_51 : MV RX5 51 6 yX6_drawChance cX6_drawChance 2 (some .int) (((parseMethodDescriptor "(I)I").map (fun d => d.parameters.length)).getD 0) := ⟨gw_t 495 (by rfl) (by rfl), gw_t 446 (by rfl) (by rfl), gw_t 447 (by rfl) (by rfl), gw_t 2 (by rfl) (by rfl), k_yX6_drawChance, by decide +kernel, by decide +kernel, _, _, rfl⟩
set_option maxRecDepth 100000 in
theorem mvX5_60 : MV RX5 60 5 yX5_learnIn cX5_learnIn 7 none (((parseMethodDescriptor "(LYardTalk$World;LYardTalk$Ruling;)V").map (fun d => d.parameters.length)).getD 0) := ⟨gw_t 496 (by rfl) (by rfl), gw_t 498 (by rfl) (by rfl), gw_p 7 (by rfl) (by rfl), gw_t 4 (by rfl) (by rfl), k_yX5_learnIn, by decide +kernel, by decide +kernel, _, _, rfl⟩
set_option maxRecDepth 100000 in
theorem mvX5_106 : MV RX5 106 4 yX4_ofChild cX4_ofChild 3 none (((parseMethodDescriptor "(LYardTalk$World;I)V").map (fun d => d.parameters.length)).getD 0) := ⟨gw_t 500 (by rfl) (by rfl), gw_t 501 (by rfl) (by rfl), gw_t 502 (by rfl) (by rfl), gw_t 5 (by rfl) (by rfl), k_yX4_ofChild, by decide +kernel, by decide +kernel, _, _, rfl⟩
set_option maxRecDepth 100000 in
theorem mvX4_28 : MV RX4 28 6 yX6_ageNow cX6_ageNow 2 (some .int) (((parseMethodDescriptor "(I)I").map (fun d => d.parameters.length)).getD 0) := ⟨gw_t 504 (by rfl) (by rfl), gw_t 505 (by rfl) (by rfl), gw_t 506 (by rfl) (by rfl), gw_t 2 (by rfl) (by rfl), k_yX6_ageNow, by decide +kernel, by decide +kernel, _, _, rfl⟩
set_option maxRecDepth 100000 in
theorem mvX6_87 : MV RX6 87 6 yX6_yearsHere cX6_yearsHere 2 (some .int) (((parseMethodDescriptor "(I)I").map (fun d => d.parameters.length)).getD 0) := ⟨gw_t 508 (by rfl) (by rfl), gw_t 509 (by rfl) (by rfl), gw_t 510 (by rfl) (by rfl), gw_t 2 (by rfl) (by rfl), k_yX6_yearsHere, by decide +kernel, by decide +kernel, _, _, rfl⟩
set_option maxRecDepth 100000 in
theorem mvX4_34 : MV RX4 34 6 yX6_yearsHere cX6_yearsHere 2 (some .int) (((parseMethodDescriptor "(I)I").map (fun d => d.parameters.length)).getD 0) := ⟨gw_t 512 (by rfl) (by rfl), gw_t 509 (by rfl) (by rfl), gw_t 510 (by rfl) (by rfl), gw_t 2 (by rfl) (by rfl), k_yX6_yearsHere, by decide +kernel, by decide +kernel, _, _, rfl⟩
set_option maxRecDepth 100000 in
theorem mvX5_112 : MV RX5 112 4 yX4_ofTalk cX4_ofTalk 3 none (((parseMethodDescriptor "(ZZ)V").map (fun d => d.parameters.length)).getD 0) := ⟨gw_t 513 (by rfl) (by rfl), gw_t 514 (by rfl) (by rfl), gw_t 515 (by rfl) (by rfl), gw_t 5 (by rfl) (by rfl), k_yX4_ofTalk, by decide +kernel, by decide +kernel, _, _, rfl⟩
set_option maxRecDepth 100000 in
theorem mvX5_116 : MV RX5 116 6 yX6_seenAs cX6_seenAs 3 (some .int) (((parseMethodDescriptor "(II)I").map (fun d => d.parameters.length)).getD 0) := ⟨gw_t 517 (by rfl) (by rfl), gw_t 518 (by rfl) (by rfl), gw_t 519 (by rfl) (by rfl), gw_t 2 (by rfl) (by rfl), k_yX6_seenAs, by decide +kernel, by decide +kernel, _, _, rfl⟩
set_option maxRecDepth 100000 in
theorem mvX5_119 : MV RX5 119 5 yX5_learnSign cX5_learnSign 7 none (((parseMethodDescriptor "(LYardTalk$World;LYardTalk$Ruling;II)V").map (fun d => d.parameters.length)).getD 0) := ⟨gw_t 521 (by rfl) (by rfl), gw_t 523 (by rfl) (by rfl), gw_p 8 (by rfl) (by rfl), gw_t 4 (by rfl) (by rfl), k_yX5_learnSign, by decide +kernel, by decide +kernel, _, _, rfl⟩
set_option maxRecDepth 100000 in
theorem mvX5_130 : MV RX5 130 4 yX4_valueOf cX4_valueOf 6 (some .int) (((parseMethodDescriptor "(II)I").map (fun d => d.parameters.length)).getD 0) := ⟨gw_t 526 (by rfl) (by rfl), gw_t 527 (by rfl) (by rfl), gw_t 528 (by rfl) (by rfl), gw_t 5 (by rfl) (by rfl), k_yX4_valueOf, by decide +kernel, by decide +kernel, _, _, rfl⟩
set_option maxRecDepth 100000 in
theorem mvX4_67 : MV RX4 67 1 yX1_work cX1_work 8 (some .int) (((parseMethodDescriptor "(II[I[I)I").map (fun d => d.parameters.length)).getD 0) := ⟨gw_t 530 (by rfl) (by rfl), gw_t 531 (by rfl) (by rfl), gw_t 532 (by rfl) (by rfl), gw_t 8 (by rfl) (by rfl), k_yX1_work, by decide +kernel, by decide +kernel, _, _, rfl⟩
set_option maxRecDepth 100000 in
theorem msX1_34 : MS RX1 34 yX1_act cX1_act 3 (some .int) (((parseMethodDescriptor "(III)I").map (fun d => d.parameters.length)).getD 0) := ⟨gw_t 534 (by rfl) (by rfl), gw_t 535 (by rfl) (by rfl), gw_t 8 (by rfl) (by rfl), k_yX1_act, by decide +kernel, by decide +kernel⟩
set_option maxRecDepth 100000 in
theorem msX7_390 : MS RX7 390 yJ9_min_7cf53 cJ9_min_7cf53 2 (some .int) (((parseMethodDescriptor "(II)I").map (fun d => d.parameters.length)).getD 0) := ⟨gw_t 540 (by rfl) (by rfl), gw_t 541 (by rfl) (by rfl), gw_t 15 (by rfl) (by rfl), k_yJ9_min_7cf53, by decide +kernel, by decide +kernel⟩
set_option maxRecDepth 100000 in
theorem msX7_361 : MS RX7 361 yJ9_max_7cf53 cJ9_max_7cf53 2 (some .int) (((parseMethodDescriptor "(II)I").map (fun d => d.parameters.length)).getD 0) := ⟨gw_t 543 (by rfl) (by rfl), gw_t 544 (by rfl) (by rfl), gw_t 15 (by rfl) (by rfl), k_yJ9_max_7cf53, by decide +kernel, by decide +kernel⟩
set_option maxRecDepth 100000 in
theorem mvX5_133 : MV RX5 133 6 yX6_addToSign cX6_addToSign 6 none (((parseMethodDescriptor "(IIII)V").map (fun d => d.parameters.length)).getD 0) := ⟨gw_t 548 (by rfl) (by rfl), gw_t 549 (by rfl) (by rfl), gw_t 550 (by rfl) (by rfl), gw_t 2 (by rfl) (by rfl), k_yX6_addToSign, by decide +kernel, by decide +kernel, _, _, rfl⟩
set_option maxRecDepth 100000 in
theorem mvX5_123 : MV RX5 123 5 yX5_learnOrder cX5_learnOrder 7 none (((parseMethodDescriptor "(LYardTalk$World;LYardTalk$Ruling;)V").map (fun d => d.parameters.length)).getD 0) := ⟨gw_t 553 (by rfl) (by rfl), gw_t 555 (by rfl) (by rfl), gw_p 9 (by rfl) (by rfl), gw_t 4 (by rfl) (by rfl), k_yX5_learnOrder, by decide +kernel, by decide +kernel, _, _, rfl⟩
set_option maxRecDepth 100000 in
theorem mvX5_140 : MV RX5 140 6 yX6_addToOrder cX6_addToOrder 5 none (((parseMethodDescriptor "(III)V").map (fun d => d.parameters.length)).getD 0) := ⟨gw_t 557 (by rfl) (by rfl), gw_t 558 (by rfl) (by rfl), gw_t 559 (by rfl) (by rfl), gw_t 2 (by rfl) (by rfl), k_yX6_addToOrder, by decide +kernel, by decide +kernel, _, _, rfl⟩
set_option maxRecDepth 100000 in
theorem mvX5_64 : MV RX5 64 5 yX5_strengthenIn cX5_strengthenIn 3 none (((parseMethodDescriptor "(LYardTalk$World;)V").map (fun d => d.parameters.length)).getD 0) := ⟨gw_t 561 (by rfl) (by rfl), gw_t 563 (by rfl) (by rfl), gw_p 10 (by rfl) (by rfl), gw_t 4 (by rfl) (by rfl), k_yX5_strengthenIn, by decide +kernel, by decide +kernel, _, _, rfl⟩
set_option maxRecDepth 100000 in
theorem mvX7_423 : MV RX7 423 3 yX3_hasSigns cX3_hasSigns 4 (some .boolean) (((parseMethodDescriptor "(ILYardTalk$Speech;)Z").map (fun d => d.parameters.length)).getD 0) := ⟨gw_t 565 (by rfl) (by rfl), gw_t 566 (by rfl) (by rfl), gw_t 567 (by rfl) (by rfl), gw_t 3 (by rfl) (by rfl), k_yX3_hasSigns, by decide +kernel, by decide +kernel, _, _, rfl⟩
set_option maxRecDepth 100000 in
theorem mvX3_69 : MV RX3 69 3 yX3_at cX3_at 3 (some .int) (((parseMethodDescriptor "(II)I").map (fun d => d.parameters.length)).getD 0) := ⟨gw_t 569 (by rfl) (by rfl), gw_t 422 (by rfl) (by rfl), gw_t 423 (by rfl) (by rfl), gw_t 3 (by rfl) (by rfl), k_yX3_at, by decide +kernel, by decide +kernel, _, _, rfl⟩
set_option maxRecDepth 100000 in
theorem mvL_259 : MV RL 259 7 yX7_image cX7_image 1 (some .int) (((parseMethodDescriptor "()I").map (fun d => d.parameters.length)).getD 0) := ⟨gw_t 570 (by rfl) (by rfl), gw_t 571 (by rfl) (by rfl), gw_t 572 (by rfl) (by rfl), gw_t 1 (by rfl) (by rfl), k_yX7_image, by decide +kernel, by decide +kernel, _, _, rfl⟩
set_option maxRecDepth 100000 in
theorem mvL_263 : MV RL 263 7 yX7_restore cX7_restore 1 (some .int) (((parseMethodDescriptor "()I").map (fun d => d.parameters.length)).getD 0) := ⟨gw_t 574 (by rfl) (by rfl), gw_t 575 (by rfl) (by rfl), gw_t 576 (by rfl) (by rfl), gw_t 1 (by rfl) (by rfl), k_yX7_restore, by decide +kernel, by decide +kernel, _, _, rfl⟩
set_option maxRecDepth 100000 in
theorem mvL_297 : MV RL 297 7 yX7_count cX7_count 2 (some .int) (((parseMethodDescriptor "(I)I").map (fun d => d.parameters.length)).getD 0) := ⟨gw_t 578 (by rfl) (by rfl), gw_t 579 (by rfl) (by rfl), gw_t 580 (by rfl) (by rfl), gw_t 1 (by rfl) (by rfl), k_yX7_count, by decide +kernel, by decide +kernel, _, _, rfl⟩
set_option maxRecDepth 100000 in
theorem mvX7_319 : MV RX7 319 6 yX6_countThere cX6_countThere 4 (some .int) (((parseMethodDescriptor "(I)I").map (fun d => d.parameters.length)).getD 0) := ⟨gw_t 582 (by rfl) (by rfl), gw_t 583 (by rfl) (by rfl), gw_t 584 (by rfl) (by rfl), gw_t 2 (by rfl) (by rfl), k_yX6_countThere, by decide +kernel, by decide +kernel, _, _, rfl⟩
set_option maxRecDepth 100000 in
theorem mvX6_90 : MV RX6 90 6 yX6_isThere cX6_isThere 3 (some .boolean) (((parseMethodDescriptor "(II)Z").map (fun d => d.parameters.length)).getD 0) := ⟨gw_t 586 (by rfl) (by rfl), gw_t 587 (by rfl) (by rfl), gw_t 588 (by rfl) (by rfl), gw_t 2 (by rfl) (by rfl), k_yX6_isThere, by decide +kernel, by decide +kernel, _, _, rfl⟩
set_option maxRecDepth 100000 in
theorem mlL_145 : Cond.methodLink RL 145 ⟨"YardTalkLaw", "come", "(LYardTalk;IIZ[J)I"⟩ ∈ gw := gw_t 590 (by rfl) (by rfl)
set_option maxRecDepth 100000 in
theorem mvL_7 : MV RL 7 7 yX7_come cX7_come 4 (some .int) (((parseMethodDescriptor "(IIZ)I").map (fun d => d.parameters.length)).getD 0) := ⟨gw_t 594 (by rfl) (by rfl), gw_t 595 (by rfl) (by rfl), gw_t 596 (by rfl) (by rfl), gw_t 1 (by rfl) (by rfl), k_yX7_come, by decide +kernel, by decide +kernel, _, _, rfl⟩
set_option maxRecDepth 100000 in
theorem msX7_103 : MS RX7 103 yX7_checkYard cX7_checkYard 1 none (((parseMethodDescriptor "(I)V").map (fun d => d.parameters.length)).getD 0) := ⟨gw_t 598 (by rfl) (by rfl), gw_t 599 (by rfl) (by rfl), gw_t 1 (by rfl) (by rfl), k_yX7_checkYard, by decide +kernel, by decide +kernel⟩
set_option maxRecDepth 100000 in
theorem mlX7_111 : Cond.methodLink RX7 111 ⟨"java/lang/IllegalArgumentException", "<init>", "(Ljava/lang/String;)V"⟩ ∈ gw := gw_t 644 (by rfl) (by rfl)
set_option maxRecDepth 100000 in
theorem mvX7_117 : MV RX7 117 6 yX6_arrive cX6_arrive 5 (some .int) (((parseMethodDescriptor "(IIZ)I").map (fun d => d.parameters.length)).getD 0) := ⟨gw_t 671 (by rfl) (by rfl), gw_t 672 (by rfl) (by rfl), gw_t 673 (by rfl) (by rfl), gw_t 2 (by rfl) (by rfl), k_yX6_arrive, by decide +kernel, by decide +kernel, _, _, rfl⟩
set_option maxRecDepth 100000 in
theorem mvX6_79 : MV RX6 79 6 yX6_giveFirstWeights cX6_giveFirstWeights 3 none (((parseMethodDescriptor "(I)V").map (fun d => d.parameters.length)).getD 0) := ⟨gw_t 675 (by rfl) (by rfl), gw_t 677 (by rfl) (by rfl), gw_p 12 (by rfl) (by rfl), gw_t 2 (by rfl) (by rfl), k_yX6_giveFirstWeights, by decide +kernel, by decide +kernel, _, _, rfl⟩
set_option maxRecDepth 100000 in
theorem mlL_155 : Cond.methodLink RL 155 ⟨"YardTalkLaw", "leave", "(LYardTalk;I[J)I"⟩ ∈ gw := gw_t 679 (by rfl) (by rfl)
set_option maxRecDepth 100000 in
theorem mvL_15 : MV RL 15 7 yX7_leave cX7_leave 2 (some .int) (((parseMethodDescriptor "(I)I").map (fun d => d.parameters.length)).getD 0) := ⟨gw_t 683 (by rfl) (by rfl), gw_t 684 (by rfl) (by rfl), gw_t 685 (by rfl) (by rfl), gw_t 1 (by rfl) (by rfl), k_yX7_leave, by decide +kernel, by decide +kernel, _, _, rfl⟩
set_option maxRecDepth 100000 in
theorem mvX7_121 : MV RX7 121 7 yX7_checkChild cX7_checkChild 2 none (((parseMethodDescriptor "(I)V").map (fun d => d.parameters.length)).getD 0) := ⟨gw_t 687 (by rfl) (by rfl), gw_t 689 (by rfl) (by rfl), gw_p 13 (by rfl) (by rfl), gw_t 1 (by rfl) (by rfl), k_yX7_checkChild, by decide +kernel, by decide +kernel, _, _, rfl⟩
set_option maxRecDepth 100000 in
theorem mlX7_370 : Cond.methodLink RX7 370 ⟨"java/util/NoSuchElementException", "<init>", "(Ljava/lang/String;)V"⟩ ∈ gw := gw_t 701 (by rfl) (by rfl)
set_option maxRecDepth 100000 in
theorem mlL_159 : Cond.methodLink RL 159 ⟨"YardTalkLaw", "visit", "(LYardTalk;II[J)I"⟩ ∈ gw := gw_t 707 (by rfl) (by rfl)
set_option maxRecDepth 100000 in
theorem mvL_21 : MV RL 21 7 yX7_visit cX7_visit 4 (some .int) (((parseMethodDescriptor "(II)I").map (fun d => d.parameters.length)).getD 0) := ⟨gw_t 710 (by rfl) (by rfl), gw_t 711 (by rfl) (by rfl), gw_t 712 (by rfl) (by rfl), gw_t 1 (by rfl) (by rfl), k_yX7_visit, by decide +kernel, by decide +kernel, _, _, rfl⟩
set_option maxRecDepth 100000 in
theorem mlL_163 : Cond.methodLink RL 163 ⟨"YardTalkLaw", "of", "(LYardTalk;II[J)I"⟩ ∈ gw := gw_t 714 (by rfl) (by rfl)
set_option maxRecDepth 100000 in
theorem mvL_25 : MV RL 25 7 yX7_of cX7_of 3 (some .int) (((parseMethodDescriptor "(II)I").map (fun d => d.parameters.length)).getD 0) := ⟨gw_t 717 (by rfl) (by rfl), gw_t 718 (by rfl) (by rfl), gw_t 719 (by rfl) (by rfl), gw_t 1 (by rfl) (by rfl), k_yX7_of, by decide +kernel, by decide +kernel, _, _, rfl⟩
set_option maxRecDepth 100000 in
theorem mvX7_130 : MV RX7 130 6 yX6_ageNow cX6_ageNow 2 (some .int) (((parseMethodDescriptor "(I)I").map (fun d => d.parameters.length)).getD 0) := ⟨gw_t 721 (by rfl) (by rfl), gw_t 505 (by rfl) (by rfl), gw_t 506 (by rfl) (by rfl), gw_t 2 (by rfl) (by rfl), k_yX6_ageNow, by decide +kernel, by decide +kernel, _, _, rfl⟩
set_option maxRecDepth 100000 in
theorem mvX7_143 : MV RX7 143 7 yX7_countOrdersHeld cX7_countOrdersHeld 4 (some .int) (((parseMethodDescriptor "(I)I").map (fun d => d.parameters.length)).getD 0) := ⟨gw_t 722 (by rfl) (by rfl), gw_t 724 (by rfl) (by rfl), gw_p 14 (by rfl) (by rfl), gw_t 1 (by rfl) (by rfl), k_yX7_countOrdersHeld, by decide +kernel, by decide +kernel, _, _, rfl⟩
set_option maxRecDepth 100000 in
theorem mvX7_167 : MV RX7 167 7 yX7_useLawInForce cX7_useLawInForce 1 none (((parseMethodDescriptor "()V").map (fun d => d.parameters.length)).getD 0) := ⟨gw_t 726 (by rfl) (by rfl), gw_t 728 (by rfl) (by rfl), gw_p 15 (by rfl) (by rfl), gw_t 1 (by rfl) (by rfl), k_yX7_useLawInForce, by decide +kernel, by decide +kernel, _, _, rfl⟩
set_option maxRecDepth 100000 in
theorem mvX7_170 : MV RX7 170 4 yX4_isHeld cX4_isHeld 5 (some .boolean) (((parseMethodDescriptor "(LYardTalk$World;II)Z").map (fun d => d.parameters.length)).getD 0) := ⟨gw_t 730 (by rfl) (by rfl), gw_t 731 (by rfl) (by rfl), gw_t 732 (by rfl) (by rfl), gw_t 5 (by rfl) (by rfl), k_yX4_isHeld, by decide +kernel, by decide +kernel, _, _, rfl⟩
set_option maxRecDepth 100000 in
theorem mvX4_40 : MV RX4 40 4 yX4_ofChild cX4_ofChild 3 none (((parseMethodDescriptor "(LYardTalk$World;I)V").map (fun d => d.parameters.length)).getD 0) := ⟨gw_t 734 (by rfl) (by rfl), gw_t 501 (by rfl) (by rfl), gw_t 502 (by rfl) (by rfl), gw_t 5 (by rfl) (by rfl), k_yX4_ofChild, by decide +kernel, by decide +kernel, _, _, rfl⟩
set_option maxRecDepth 100000 in
theorem mvX4_44 : MV RX4 44 4 yX4_ofTalk cX4_ofTalk 3 none (((parseMethodDescriptor "(ZZ)V").map (fun d => d.parameters.length)).getD 0) := ⟨gw_t 735 (by rfl) (by rfl), gw_t 514 (by rfl) (by rfl), gw_t 515 (by rfl) (by rfl), gw_t 5 (by rfl) (by rfl), k_yX4_ofTalk, by decide +kernel, by decide +kernel, _, _, rfl⟩
set_option maxRecDepth 100000 in
theorem mvX4_51 : MV RX4 51 4 yX4_valueOf cX4_valueOf 6 (some .int) (((parseMethodDescriptor "(II)I").map (fun d => d.parameters.length)).getD 0) := ⟨gw_t 736 (by rfl) (by rfl), gw_t 527 (by rfl) (by rfl), gw_t 528 (by rfl) (by rfl), gw_t 5 (by rfl) (by rfl), k_yX4_valueOf, by decide +kernel, by decide +kernel, _, _, rfl⟩
set_option maxRecDepth 100000 in
theorem mlL_166 : Cond.methodLink RL 166 ⟨"YardTalkLaw", "sign", "(LYardTalk;III[J)I"⟩ ∈ gw := gw_t 738 (by rfl) (by rfl)
set_option maxRecDepth 100000 in
theorem mvL_28 : MV RL 28 7 yX7_sign cX7_sign 4 (some .int) (((parseMethodDescriptor "(III)I").map (fun d => d.parameters.length)).getD 0) := ⟨gw_t 741 (by rfl) (by rfl), gw_t 742 (by rfl) (by rfl), gw_t 743 (by rfl) (by rfl), gw_t 1 (by rfl) (by rfl), k_yX7_sign, by decide +kernel, by decide +kernel, _, _, rfl⟩
set_option maxRecDepth 100000 in
theorem msX7_148 : MS RX7 148 yX7_checkConcept cX7_checkConcept 1 none (((parseMethodDescriptor "(I)V").map (fun d => d.parameters.length)).getD 0) := ⟨gw_t 745 (by rfl) (by rfl), gw_t 746 (by rfl) (by rfl), gw_t 1 (by rfl) (by rfl), k_yX7_checkConcept, by decide +kernel, by decide +kernel⟩
set_option maxRecDepth 100000 in
theorem msX7_151 : MS RX7 151 yX7_checkSign cX7_checkSign 1 none (((parseMethodDescriptor "(I)V").map (fun d => d.parameters.length)).getD 0) := ⟨gw_t 749 (by rfl) (by rfl), gw_t 750 (by rfl) (by rfl), gw_t 1 (by rfl) (by rfl), k_yX7_checkSign, by decide +kernel, by decide +kernel⟩
set_option maxRecDepth 100000 in
theorem msX7_157 : MS RX7 157 yX7_signIndex cX7_signIndex 3 (some .int) (((parseMethodDescriptor "(III)I").map (fun d => d.parameters.length)).getD 0) := ⟨gw_t 753 (by rfl) (by rfl), gw_t 477 (by rfl) (by rfl), gw_t 1 (by rfl) (by rfl), k_yX7_signIndex, by decide +kernel, by decide +kernel⟩
set_option maxRecDepth 100000 in
theorem mlL_170 : Cond.methodLink RL 170 ⟨"YardTalkLaw", "order", "(LYardTalk;II[J)I"⟩ ∈ gw := gw_t 754 (by rfl) (by rfl)
set_option maxRecDepth 100000 in
theorem mvL_32 : MV RL 32 7 yX7_order cX7_order 3 (some .int) (((parseMethodDescriptor "(II)I").map (fun d => d.parameters.length)).getD 0) := ⟨gw_t 757 (by rfl) (by rfl), gw_t 758 (by rfl) (by rfl), gw_t 759 (by rfl) (by rfl), gw_t 1 (by rfl) (by rfl), k_yX7_order, by decide +kernel, by decide +kernel, _, _, rfl⟩
set_option maxRecDepth 100000 in
theorem msX7_161 : MS RX7 161 yX7_checkOrder cX7_checkOrder 1 none (((parseMethodDescriptor "(I)V").map (fun d => d.parameters.length)).getD 0) := ⟨gw_t 761 (by rfl) (by rfl), gw_t 762 (by rfl) (by rfl), gw_t 1 (by rfl) (by rfl), k_yX7_checkOrder, by decide +kernel, by decide +kernel⟩
set_option maxRecDepth 100000 in
theorem mlL_173 : Cond.methodLink RL 173 ⟨"YardTalkLaw", "holds", "(LYardTalk;II[J)I"⟩ ∈ gw := gw_t 765 (by rfl) (by rfl)
set_option maxRecDepth 100000 in
theorem mvL_35 : MV RL 35 7 yX7_holds cX7_holds 3 (some .boolean) (((parseMethodDescriptor "(II)Z").map (fun d => d.parameters.length)).getD 0) := ⟨gw_t 768 (by rfl) (by rfl), gw_t 769 (by rfl) (by rfl), gw_t 770 (by rfl) (by rfl), gw_t 1 (by rfl) (by rfl), k_yX7_holds, by decide +kernel, by decide +kernel, _, _, rfl⟩
set_option maxRecDepth 100000 in
theorem mlL_176 : Cond.methodLink RL 176 ⟨"YardTalkLaw", "set", "(LYardTalk;II[J)I"⟩ ∈ gw := gw_t 772 (by rfl) (by rfl)
set_option maxRecDepth 100000 in
theorem mvL_39 : MV RL 39 7 yX7_set cX7_set 4 (some .int) (((parseMethodDescriptor "(II)I").map (fun d => d.parameters.length)).getD 0) := ⟨gw_t 775 (by rfl) (by rfl), gw_t 776 (by rfl) (by rfl), gw_t 777 (by rfl) (by rfl), gw_t 1 (by rfl) (by rfl), k_yX7_set, by decide +kernel, by decide +kernel, _, _, rfl⟩
set_option maxRecDepth 100000 in
theorem mlL_179 : Cond.methodLink RL 179 ⟨"YardTalkLaw", "years", "(LYardTalk;I[J)I"⟩ ∈ gw := gw_t 780 (by rfl) (by rfl)
set_option maxRecDepth 100000 in
theorem mvL_42 : MV RL 42 7 yX7_years cX7_years 2 (some .int) (((parseMethodDescriptor "(I)I").map (fun d => d.parameters.length)).getD 0) := ⟨gw_t 784 (by rfl) (by rfl), gw_t 785 (by rfl) (by rfl), gw_t 786 (by rfl) (by rfl), gw_t 1 (by rfl) (by rfl), k_yX7_years, by decide +kernel, by decide +kernel, _, _, rfl⟩
set_option maxRecDepth 100000 in
theorem mlX7_191 : Cond.methodLink RX7 191 ⟨"java/lang/IllegalStateException", "<init>", "(Ljava/lang/String;)V"⟩ ∈ gw := gw_t 799 (by rfl) (by rfl)
set_option maxRecDepth 100000 in
theorem mlL_186 : Cond.methodLink RL 186 ⟨"YardTalkLaw", "law", "(LYardTalk;I[J)I"⟩ ∈ gw := gw_t 805 (by rfl) (by rfl)
set_option maxRecDepth 100000 in
theorem mvL_47 : MV RL 47 7 yX7_law cX7_law 3 (some .int) (((parseMethodDescriptor "(I)I").map (fun d => d.parameters.length)).getD 0) := ⟨gw_t 808 (by rfl) (by rfl), gw_t 809 (by rfl) (by rfl), gw_t 810 (by rfl) (by rfl), gw_t 1 (by rfl) (by rfl), k_yX7_law, by decide +kernel, by decide +kernel, _, _, rfl⟩
set_option maxRecDepth 100000 in
theorem mvX7_197 : MV RX7 197 2 yX2_findFault cX2_findFault 5 (some .int) (((parseMethodDescriptor "([IILYardTalk$Law;)I").map (fun d => d.parameters.length)).getD 0) := ⟨gw_t 813 (by rfl) (by rfl), gw_t 814 (by rfl) (by rfl), gw_t 815 (by rfl) (by rfl), gw_t 6 (by rfl) (by rfl), k_yX2_findFault, by decide +kernel, by decide +kernel, _, _, rfl⟩
set_option maxRecDepth 100000 in
theorem msX2_41 : MS RX2 41 yJ9_min_7cf53 cJ9_min_7cf53 2 (some .int) (((parseMethodDescriptor "(II)I").map (fun d => d.parameters.length)).getD 0) := ⟨gw_t 817 (by rfl) (by rfl), gw_t 541 (by rfl) (by rfl), gw_t 15 (by rfl) (by rfl), k_yJ9_min_7cf53, by decide +kernel, by decide +kernel⟩
set_option maxRecDepth 100000 in
theorem mvX2_47 : MV RX2 47 1 yX1_clear cX1_clear 1 none (((parseMethodDescriptor "()V").map (fun d => d.parameters.length)).getD 0) := ⟨gw_t 818 (by rfl) (by rfl), gw_t 819 (by rfl) (by rfl), gw_t 820 (by rfl) (by rfl), gw_t 8 (by rfl) (by rfl), k_yX1_clear, by decide +kernel, by decide +kernel, _, _, rfl⟩
set_option maxRecDepth 100000 in
theorem mvX2_52 : MV RX2 52 2 yX2_step cX2_step 1 none (((parseMethodDescriptor "()V").map (fun d => d.parameters.length)).getD 0) := ⟨gw_t 822 (by rfl) (by rfl), gw_t 824 (by rfl) (by rfl), gw_p 16 (by rfl) (by rfl), gw_t 6 (by rfl) (by rfl), k_yX2_step, by decide +kernel, by decide +kernel, _, _, rfl⟩
set_option maxRecDepth 100000 in
theorem msX2_59 : MS RX2 59 yX2_isDigit cX2_isDigit 1 (some .boolean) (((parseMethodDescriptor "(I)Z").map (fun d => d.parameters.length)).getD 0) := ⟨gw_t 826 (by rfl) (by rfl), gw_t 827 (by rfl) (by rfl), gw_t 6 (by rfl) (by rfl), k_yX2_isDigit, by decide +kernel, by decide +kernel⟩
set_option maxRecDepth 100000 in
theorem msX2_62 : MS RX2 62 yX2_isLetter cX2_isLetter 1 (some .boolean) (((parseMethodDescriptor "(I)Z").map (fun d => d.parameters.length)).getD 0) := ⟨gw_t 829 (by rfl) (by rfl), gw_t 830 (by rfl) (by rfl), gw_t 6 (by rfl) (by rfl), k_yX2_isLetter, by decide +kernel, by decide +kernel⟩
set_option maxRecDepth 100000 in
theorem mvX2_55 : MV RX2 55 2 yX2_readClause cX2_readClause 3 (some .boolean) (((parseMethodDescriptor "(I)Z").map (fun d => d.parameters.length)).getD 0) := ⟨gw_t 832 (by rfl) (by rfl), gw_t 834 (by rfl) (by rfl), gw_p 17 (by rfl) (by rfl), gw_t 6 (by rfl) (by rfl), k_yX2_readClause, by decide +kernel, by decide +kernel, _, _, rfl⟩
set_option maxRecDepth 100000 in
theorem mvX2_81 : MV RX2 81 2 yX2_clauseWord cX2_clauseWord 1 (some .int) (((parseMethodDescriptor "()I").map (fun d => d.parameters.length)).getD 0) := ⟨gw_t 836 (by rfl) (by rfl), gw_t 838 (by rfl) (by rfl), gw_p 18 (by rfl) (by rfl), gw_t 6 (by rfl) (by rfl), k_yX2_clauseWord, by decide +kernel, by decide +kernel, _, _, rfl⟩
set_option maxRecDepth 100000 in
theorem mvX2_96 : MV RX2 96 2 yX2_isAt_ cX2_isAt_ 3 (some .boolean) (((parseMethodDescriptor "(Ljava/lang/String;)Z").map (fun d => d.parameters.length)).getD 0) := ⟨gw_t 841 (by rfl) (by rfl), gw_t 843 (by rfl) (by rfl), gw_p 19 (by rfl) (by rfl), gw_t 6 (by rfl) (by rfl), k_yX2_isAt_, by decide +kernel, by decide +kernel, _, _, rfl⟩
set_option maxRecDepth 100000 in
theorem mlX2_65 : Cond.methodLink RX2 65 yJ0_length_8abf5 ∈ gw := gw_t 845 (by rfl) (by rfl)
set_option maxRecDepth 100000 in
theorem mlX2_70 : Cond.methodLink RX2 70 yJ0_charAt_5068e ∈ gw := gw_t 855 (by rfl) (by rfl)
set_option maxRecDepth 100000 in
theorem mvX2_78 : MV RX2 78 2 yX2_refuse cX2_refuse 2 (some .boolean) (((parseMethodDescriptor "(I)Z").map (fun d => d.parameters.length)).getD 0) := ⟨gw_t 896 (by rfl) (by rfl), gw_t 898 (by rfl) (by rfl), gw_p 20 (by rfl) (by rfl), gw_t 6 (by rfl) (by rfl), k_yX2_refuse, by decide +kernel, by decide +kernel, _, _, rfl⟩
set_option maxRecDepth 100000 in
theorem mvX2_84 : MV RX2 84 1 yX1_beginClause cX1_beginClause 2 none (((parseMethodDescriptor "(I)V").map (fun d => d.parameters.length)).getD 0) := ⟨gw_t 900 (by rfl) (by rfl), gw_t 901 (by rfl) (by rfl), gw_t 902 (by rfl) (by rfl), gw_t 8 (by rfl) (by rfl), k_yX1_beginClause, by decide +kernel, by decide +kernel, _, _, rfl⟩
set_option maxRecDepth 100000 in
theorem mvX2_88 : MV RX2 88 2 yX2_readSum cX2_readSum 5 (some .boolean) (((parseMethodDescriptor "(I)Z").map (fun d => d.parameters.length)).getD 0) := ⟨gw_t 904 (by rfl) (by rfl), gw_t 906 (by rfl) (by rfl), gw_p 21 (by rfl) (by rfl), gw_t 6 (by rfl) (by rfl), k_yX2_readSum, by decide +kernel, by decide +kernel, _, _, rfl⟩
set_option maxRecDepth 100000 in
theorem mvX2_116 : MV RX2 116 2 yX2_readProduct cX2_readProduct 5 (some .boolean) (((parseMethodDescriptor "(I)Z").map (fun d => d.parameters.length)).getD 0) := ⟨gw_t 908 (by rfl) (by rfl), gw_t 910 (by rfl) (by rfl), gw_p 22 (by rfl) (by rfl), gw_t 6 (by rfl) (by rfl), k_yX2_readProduct, by decide +kernel, by decide +kernel, _, _, rfl⟩
set_option maxRecDepth 100000 in
theorem mvX2_122 : MV RX2 122 2 yX2_readUnit cX2_readUnit 3 (some .boolean) (((parseMethodDescriptor "(I)Z").map (fun d => d.parameters.length)).getD 0) := ⟨gw_t 912 (by rfl) (by rfl), gw_t 914 (by rfl) (by rfl), gw_p 23 (by rfl) (by rfl), gw_t 6 (by rfl) (by rfl), k_yX2_readUnit, by decide +kernel, by decide +kernel, _, _, rfl⟩
set_option maxRecDepth 100000 in
theorem mvX2_119 : MV RX2 119 1 yX1_put cX1_put 2 none (((parseMethodDescriptor "(I)V").map (fun d => d.parameters.length)).getD 0) := ⟨gw_t 916 (by rfl) (by rfl), gw_t 917 (by rfl) (by rfl), gw_t 918 (by rfl) (by rfl), gw_t 8 (by rfl) (by rfl), k_yX1_put, by decide +kernel, by decide +kernel, _, _, rfl⟩
set_option maxRecDepth 100000 in
theorem mvX2_74 : MV RX2 74 2 yX2_isAt cX2_isAt 2 (some .boolean) (((parseMethodDescriptor "(C)Z").map (fun d => d.parameters.length)).getD 0) := ⟨gw_t 920 (by rfl) (by rfl), gw_t 922 (by rfl) (by rfl), gw_p 24 (by rfl) (by rfl), gw_t 6 (by rfl) (by rfl), k_yX2_isAt, by decide +kernel, by decide +kernel, _, _, rfl⟩
set_option maxRecDepth 100000 in
theorem mvX2_125 : MV RX2 125 2 yX2_passOpening cX2_passOpening 4 (some .boolean) (((parseMethodDescriptor "(CI)Z").map (fun d => d.parameters.length)).getD 0) := ⟨gw_t 924 (by rfl) (by rfl), gw_t 926 (by rfl) (by rfl), gw_p 25 (by rfl) (by rfl), gw_t 6 (by rfl) (by rfl), k_yX2_passOpening, by decide +kernel, by decide +kernel, _, _, rfl⟩
set_option maxRecDepth 100000 in
theorem mvX2_105 : MV RX2 105 2 yX2_pass cX2_pass 2 (some .boolean) (((parseMethodDescriptor "(C)Z").map (fun d => d.parameters.length)).getD 0) := ⟨gw_t 928 (by rfl) (by rfl), gw_t 930 (by rfl) (by rfl), gw_p 26 (by rfl) (by rfl), gw_t 6 (by rfl) (by rfl), k_yX2_pass, by decide +kernel, by decide +kernel, _, _, rfl⟩
set_option maxRecDepth 100000 in
theorem mvX2_131 : MV RX2 131 2 yX2_readCouple cX2_readCouple 4 (some .boolean) (((parseMethodDescriptor "(II)Z").map (fun d => d.parameters.length)).getD 0) := ⟨gw_t 933 (by rfl) (by rfl), gw_t 935 (by rfl) (by rfl), gw_p 27 (by rfl) (by rfl), gw_t 6 (by rfl) (by rfl), k_yX2_readCouple, by decide +kernel, by decide +kernel, _, _, rfl⟩
set_option maxRecDepth 100000 in
theorem mvX2_137 : MV RX2 137 2 yX2_factName cX2_factName 1 (some .int) (((parseMethodDescriptor "()I").map (fun d => d.parameters.length)).getD 0) := ⟨gw_t 938 (by rfl) (by rfl), gw_t 940 (by rfl) (by rfl), gw_p 28 (by rfl) (by rfl), gw_t 6 (by rfl) (by rfl), k_yX2_factName, by decide +kernel, by decide +kernel, _, _, rfl⟩
set_option maxRecDepth 100000 in
theorem mvX2_91 : MV RX2 91 1 yX1_closeValue cX1_closeValue 1 none (((parseMethodDescriptor "()V").map (fun d => d.parameters.length)).getD 0) := ⟨gw_t 948 (by rfl) (by rfl), gw_t 949 (by rfl) (by rfl), gw_t 950 (by rfl) (by rfl), gw_t 8 (by rfl) (by rfl), k_yX1_closeValue, by decide +kernel, by decide +kernel, _, _, rfl⟩
set_option maxRecDepth 100000 in
theorem mvX2_99 : MV RX2 99 2 yX2_readEither cX2_readEither 4 (some .boolean) (((parseMethodDescriptor "(I)Z").map (fun d => d.parameters.length)).getD 0) := ⟨gw_t 953 (by rfl) (by rfl), gw_t 955 (by rfl) (by rfl), gw_p 29 (by rfl) (by rfl), gw_t 6 (by rfl) (by rfl), k_yX2_readEither, by decide +kernel, by decide +kernel, _, _, rfl⟩
set_option maxRecDepth 100000 in
theorem mvX2_152 : MV RX2 152 2 yX2_readBoth cX2_readBoth 4 (some .boolean) (((parseMethodDescriptor "(I)Z").map (fun d => d.parameters.length)).getD 0) := ⟨gw_t 957 (by rfl) (by rfl), gw_t 959 (by rfl) (by rfl), gw_p 30 (by rfl) (by rfl), gw_t 6 (by rfl) (by rfl), k_yX2_readBoth, by decide +kernel, by decide +kernel, _, _, rfl⟩
set_option maxRecDepth 100000 in
theorem mvX2_157 : MV RX2 157 2 yX2_readBasic cX2_readBasic 4 (some .boolean) (((parseMethodDescriptor "(I)Z").map (fun d => d.parameters.length)).getD 0) := ⟨gw_t 961 (by rfl) (by rfl), gw_t 963 (by rfl) (by rfl), gw_p 31 (by rfl) (by rfl), gw_t 6 (by rfl) (by rfl), k_yX2_readBasic, by decide +kernel, by decide +kernel, _, _, rfl⟩
set_option maxRecDepth 100000 in
theorem mvX2_164 : MV RX2 164 2 yX2_comparison cX2_comparison 1 (some .int) (((parseMethodDescriptor "()I").map (fun d => d.parameters.length)).getD 0) := ⟨gw_t 966 (by rfl) (by rfl), gw_t 968 (by rfl) (by rfl), gw_p 32 (by rfl) (by rfl), gw_t 6 (by rfl) (by rfl), k_yX2_comparison, by decide +kernel, by decide +kernel, _, _, rfl⟩
set_option maxRecDepth 100000 in
theorem mvX2_102 : MV RX2 102 1 yX1_closeClause cX1_closeClause 1 none (((parseMethodDescriptor "()V").map (fun d => d.parameters.length)).getD 0) := ⟨gw_t 972 (by rfl) (by rfl), gw_t 973 (by rfl) (by rfl), gw_t 974 (by rfl) (by rfl), gw_t 8 (by rfl) (by rfl), k_yX1_closeClause, by decide +kernel, by decide +kernel, _, _, rfl⟩
set_option maxRecDepth 100000 in
theorem mlL_193 : Cond.methodLink RL 193 ⟨"YardTalkLaw", "force", "(LYardTalk;I[J)I"⟩ ∈ gw := gw_t 976 (by rfl) (by rfl)
set_option maxRecDepth 100000 in
theorem mvL_50 : MV RL 50 7 yX7_force cX7_force 3 (some .int) (((parseMethodDescriptor "(I)I").map (fun d => d.parameters.length)).getD 0) := ⟨gw_t 980 (by rfl) (by rfl), gw_t 981 (by rfl) (by rfl), gw_t 982 (by rfl) (by rfl), gw_t 1 (by rfl) (by rfl), k_yX7_force, by decide +kernel, by decide +kernel, _, _, rfl⟩
set_option maxRecDepth 100000 in
theorem mvX7_202 : MV RX7 202 7 yX7_checkLaw cX7_checkLaw 2 none (((parseMethodDescriptor "(I)V").map (fun d => d.parameters.length)).getD 0) := ⟨gw_t 984 (by rfl) (by rfl), gw_t 986 (by rfl) (by rfl), gw_p 33 (by rfl) (by rfl), gw_t 1 (by rfl) (by rfl), k_yX7_checkLaw, by decide +kernel, by decide +kernel, _, _, rfl⟩
set_option maxRecDepth 100000 in
theorem mlX7_247 : Cond.methodLink RX7 247 ⟨"java/lang/IndexOutOfBoundsException", "<init>", "(Ljava/lang/String;)V"⟩ ∈ gw := gw_t 998 (by rfl) (by rfl)
set_option maxRecDepth 100000 in
theorem mlL_196 : Cond.methodLink RL 196 ⟨"YardTalkLaw", "talk", "(LYardTalk;IIIII[J)I"⟩ ∈ gw := gw_t 1004 (by rfl) (by rfl)
set_option maxRecDepth 100000 in
theorem mvL_55 : MV RL 55 7 yX7_talk cX7_talk 6 (some .int) (((parseMethodDescriptor "(IIIII)I").map (fun d => d.parameters.length)).getD 0) := ⟨gw_t 1007 (by rfl) (by rfl), gw_t 1008 (by rfl) (by rfl), gw_t 1009 (by rfl) (by rfl), gw_t 1 (by rfl) (by rfl), k_yX7_talk, by decide +kernel, by decide +kernel, _, _, rfl⟩
set_option maxRecDepth 100000 in
theorem msX7_208 : MS RX7 208 yX7_isOfFour cX7_isOfFour 1 (some .boolean) (((parseMethodDescriptor "(I)Z").map (fun d => d.parameters.length)).getD 0) := ⟨gw_t 1011 (by rfl) (by rfl), gw_t 1012 (by rfl) (by rfl), gw_t 1 (by rfl) (by rfl), k_yX7_isOfFour, by decide +kernel, by decide +kernel⟩
set_option maxRecDepth 100000 in
theorem mvX7_217 : MV RX7 217 6 yX6_areTogether cX6_areTogether 3 (some .boolean) (((parseMethodDescriptor "(II)Z").map (fun d => d.parameters.length)).getD 0) := ⟨gw_t 1015 (by rfl) (by rfl), gw_t 1016 (by rfl) (by rfl), gw_t 1017 (by rfl) (by rfl), gw_t 2 (by rfl) (by rfl), k_yX6_areTogether, by decide +kernel, by decide +kernel, _, _, rfl⟩
set_option maxRecDepth 100000 in
theorem mvX7_225 : MV RX7 225 7 yX7_makeNotedTalk cX7_makeNotedTalk 1 none (((parseMethodDescriptor "()V").map (fun d => d.parameters.length)).getD 0) := ⟨gw_t 1019 (by rfl) (by rfl), gw_t 1021 (by rfl) (by rfl), gw_p 34 (by rfl) (by rfl), gw_t 1 (by rfl) (by rfl), k_yX7_makeNotedTalk, by decide +kernel, by decide +kernel, _, _, rfl⟩
set_option maxRecDepth 100000 in
theorem mvX7_403 : MV RX7 403 3 yX3_write cX3_write 5 none (((parseMethodDescriptor "(LYardTalk$World;LYardTalk$Speech;)V").map (fun d => d.parameters.length)).getD 0) := ⟨gw_t 1023 (by rfl) (by rfl), gw_t 1024 (by rfl) (by rfl), gw_t 1025 (by rfl) (by rfl), gw_t 3 (by rfl) (by rfl), k_yX3_write, by decide +kernel, by decide +kernel, _, _, rfl⟩
set_option maxRecDepth 100000 in
theorem mvX7_410 : MV RX7 410 3 yX3_askWhatIsHeld cX3_askWhatIsHeld 6 none (((parseMethodDescriptor "(LYardTalk$World;LYardTalk$Ruling;I)V").map (fun d => d.parameters.length)).getD 0) := ⟨gw_t 1027 (by rfl) (by rfl), gw_t 1028 (by rfl) (by rfl), gw_t 1029 (by rfl) (by rfl), gw_t 3 (by rfl) (by rfl), k_yX3_askWhatIsHeld, by decide +kernel, by decide +kernel, _, _, rfl⟩
set_option maxRecDepth 100000 in
theorem mvX3_73 : MV RX3 73 4 yX4_isHeld cX4_isHeld 5 (some .boolean) (((parseMethodDescriptor "(LYardTalk$World;II)Z").map (fun d => d.parameters.length)).getD 0) := ⟨gw_t 1031 (by rfl) (by rfl), gw_t 731 (by rfl) (by rfl), gw_t 732 (by rfl) (by rfl), gw_t 5 (by rfl) (by rfl), k_yX4_isHeld, by decide +kernel, by decide +kernel, _, _, rfl⟩
set_option maxRecDepth 100000 in
theorem mlL_200 : Cond.methodLink RL 200 ⟨"YardTalkLaw", "run", "(LYardTalk;II[J)I"⟩ ∈ gw := gw_t 1032 (by rfl) (by rfl)
set_option maxRecDepth 100000 in
theorem mvL_59 : MV RL 59 7 yX7_run cX7_run 5 (some .int) (((parseMethodDescriptor "(II)I").map (fun d => d.parameters.length)).getD 0) := ⟨gw_t 1035 (by rfl) (by rfl), gw_t 1036 (by rfl) (by rfl), gw_t 1037 (by rfl) (by rfl), gw_t 1 (by rfl) (by rfl), k_yX7_run, by decide +kernel, by decide +kernel, _, _, rfl⟩
set_option maxRecDepth 100000 in
theorem msX7_232 : MS RX7 232 yX7_checkRunLength cX7_checkRunLength 1 none (((parseMethodDescriptor "(I)V").map (fun d => d.parameters.length)).getD 0) := ⟨gw_t 1039 (by rfl) (by rfl), gw_t 1040 (by rfl) (by rfl), gw_t 1 (by rfl) (by rfl), k_yX7_checkRunLength, by decide +kernel, by decide +kernel⟩
set_option maxRecDepth 100000 in
theorem mvX7_235 : MV RX7 235 6 yX6_gather cX6_gather 5 (some .int) (((parseMethodDescriptor "(I[I)I").map (fun d => d.parameters.length)).getD 0) := ⟨gw_t 1043 (by rfl) (by rfl), gw_t 1044 (by rfl) (by rfl), gw_t 1045 (by rfl) (by rfl), gw_t 2 (by rfl) (by rfl), k_yX6_gather, by decide +kernel, by decide +kernel, _, _, rfl⟩
set_option maxRecDepth 100000 in
theorem mvX7_239 : MV RX7 239 7 yX7_drawTalk cX7_drawTalk 8 none (((parseMethodDescriptor "(LYardTalk$World;I)V").map (fun d => d.parameters.length)).getD 0) := ⟨gw_t 1047 (by rfl) (by rfl), gw_t 1049 (by rfl) (by rfl), gw_p 35 (by rfl) (by rfl), gw_t 1 (by rfl) (by rfl), k_yX7_drawTalk, by decide +kernel, by decide +kernel, _, _, rfl⟩
set_option maxRecDepth 100000 in
theorem mvX7_396 : MV RX7 396 6 yX6_drawChoice cX6_drawChoice 2 (some .int) (((parseMethodDescriptor "(I)I").map (fun d => d.parameters.length)).getD 0) := ⟨gw_t 1051 (by rfl) (by rfl), gw_t 1052 (by rfl) (by rfl), gw_t 1053 (by rfl) (by rfl), gw_t 2 (by rfl) (by rfl), k_yX6_drawChoice, by decide +kernel, by decide +kernel, _, _, rfl⟩
set_option maxRecDepth 100000 in
theorem mlL_203 : Cond.methodLink RL 203 ⟨"YardTalkLaw", "note", "(LYardTalk;II[J)I"⟩ ∈ gw := gw_t 1055 (by rfl) (by rfl)
set_option maxRecDepth 100000 in
theorem mvL_62 : MV RL 62 7 yX7_note cX7_note 3 (some .int) (((parseMethodDescriptor "(II)I").map (fun d => d.parameters.length)).getD 0) := ⟨gw_t 1058 (by rfl) (by rfl), gw_t 1059 (by rfl) (by rfl), gw_t 1060 (by rfl) (by rfl), gw_t 1 (by rfl) (by rfl), k_yX7_note, by decide +kernel, by decide +kernel, _, _, rfl⟩
set_option maxRecDepth 100000 in
theorem mlL_206 : Cond.methodLink RL 206 ⟨"YardTalkLaw", "share", "(LYardTalk;IIIZ[J)I"⟩ ∈ gw := gw_t 1063 (by rfl) (by rfl)
set_option maxRecDepth 100000 in
theorem mvL_65 : MV RL 65 7 yX7_share cX7_share 7 (some .int) (((parseMethodDescriptor "(IIIZ)I").map (fun d => d.parameters.length)).getD 0) := ⟨gw_t 1066 (by rfl) (by rfl), gw_t 1067 (by rfl) (by rfl), gw_t 1068 (by rfl) (by rfl), gw_t 1 (by rfl) (by rfl), k_yX7_share, by decide +kernel, by decide +kernel, _, _, rfl⟩
set_option maxRecDepth 100000 in
theorem msX7_252 : MS RX7 252 yX7_checkKind cX7_checkKind 1 none (((parseMethodDescriptor "(I)V").map (fun d => d.parameters.length)).getD 0) := ⟨gw_t 1070 (by rfl) (by rfl), gw_t 1071 (by rfl) (by rfl), gw_t 1 (by rfl) (by rfl), k_yX7_checkKind, by decide +kernel, by decide +kernel⟩
set_option maxRecDepth 100000 in
theorem mlL_210 : Cond.methodLink RL 210 ⟨"YardTalkLaw", "held", "(LYardTalk;II[J)I"⟩ ∈ gw := gw_t 1074 (by rfl) (by rfl)
set_option maxRecDepth 100000 in
theorem mvL_69 : MV RL 69 7 yX7_held cX7_held 3 (some .int) (((parseMethodDescriptor "(II)I").map (fun d => d.parameters.length)).getD 0) := ⟨gw_t 1077 (by rfl) (by rfl), gw_t 1078 (by rfl) (by rfl), gw_t 1079 (by rfl) (by rfl), gw_t 1 (by rfl) (by rfl), k_yX7_held, by decide +kernel, by decide +kernel, _, _, rfl⟩
set_option maxRecDepth 100000 in
theorem mvX7_255 : MV RX7 255 7 yX7_countHolders cX7_countHolders 6 (some .int) (((parseMethodDescriptor "(LYardTalk$World;II)I").map (fun d => d.parameters.length)).getD 0) := ⟨gw_t 1081 (by rfl) (by rfl), gw_t 1083 (by rfl) (by rfl), gw_p 36 (by rfl) (by rfl), gw_t 1 (by rfl) (by rfl), k_yX7_countHolders, by decide +kernel, by decide +kernel, _, _, rfl⟩
set_option maxRecDepth 100000 in
theorem mvX7_393 : MV RX7 393 6 yX6_isThere cX6_isThere 3 (some .boolean) (((parseMethodDescriptor "(II)Z").map (fun d => d.parameters.length)).getD 0) := ⟨gw_t 1085 (by rfl) (by rfl), gw_t 587 (by rfl) (by rfl), gw_t 588 (by rfl) (by rfl), gw_t 2 (by rfl) (by rfl), k_yX6_isThere, by decide +kernel, by decide +kernel, _, _, rfl⟩
set_option maxRecDepth 100000 in
theorem mlL_213 : Cond.methodLink RL 213 ⟨"YardTalkLaw", "first", "(LYardTalk;II[J)I"⟩ ∈ gw := gw_t 1086 (by rfl) (by rfl)
set_option maxRecDepth 100000 in
theorem mvL_72 : MV RL 72 7 yX7_first cX7_first 3 (some .int) (((parseMethodDescriptor "(II)I").map (fun d => d.parameters.length)).getD 0) := ⟨gw_t 1089 (by rfl) (by rfl), gw_t 1090 (by rfl) (by rfl), gw_t 1091 (by rfl) (by rfl), gw_t 1 (by rfl) (by rfl), k_yX7_first, by decide +kernel, by decide +kernel, _, _, rfl⟩
set_option maxRecDepth 100000 in
theorem mlL_216 : Cond.methodLink RL 216 ⟨"YardTalkLaw", "back", "(LYardTalk;III[J)I"⟩ ∈ gw := gw_t 1093 (by rfl) (by rfl)
set_option maxRecDepth 100000 in
theorem mvL_75 : MV RL 75 7 yX7_back cX7_back 6 (some .int) (((parseMethodDescriptor "(III)I").map (fun d => d.parameters.length)).getD 0) := ⟨gw_t 1096 (by rfl) (by rfl), gw_t 1097 (by rfl) (by rfl), gw_t 1098 (by rfl) (by rfl), gw_t 1 (by rfl) (by rfl), k_yX7_back, by decide +kernel, by decide +kernel, _, _, rfl⟩
set_option maxRecDepth 100000 in
theorem mvX7_265 : MV RX7 265 3 yX3_isLearnt cX3_isLearnt 4 (some .boolean) (((parseMethodDescriptor "(III)Z").map (fun d => d.parameters.length)).getD 0) := ⟨gw_t 1100 (by rfl) (by rfl), gw_t 1101 (by rfl) (by rfl), gw_t 1102 (by rfl) (by rfl), gw_t 3 (by rfl) (by rfl), k_yX3_isLearnt, by decide +kernel, by decide +kernel, _, _, rfl⟩
set_option maxRecDepth 100000 in
theorem mlL_219 : Cond.methodLink RL 219 ⟨"YardTalkLaw", "uses", "(LYardTalk;II[J)I"⟩ ∈ gw := gw_t 1104 (by rfl) (by rfl)
set_option maxRecDepth 100000 in
theorem mvL_78 : MV RL 78 7 yX7_uses cX7_uses 3 (some .int) (((parseMethodDescriptor "(II)I").map (fun d => d.parameters.length)).getD 0) := ⟨gw_t 1107 (by rfl) (by rfl), gw_t 1108 (by rfl) (by rfl), gw_t 1109 (by rfl) (by rfl), gw_t 1 (by rfl) (by rfl), k_yX7_uses, by decide +kernel, by decide +kernel, _, _, rfl⟩
set_option maxRecDepth 100000 in
theorem mlL_222 : Cond.methodLink RL 222 ⟨"YardTalkLaw", "seen", "(LYardTalk;II[J)I"⟩ ∈ gw := gw_t 1111 (by rfl) (by rfl)
set_option maxRecDepth 100000 in
theorem mvL_81 : MV RL 81 7 yX7_seen cX7_seen 3 (some .int) (((parseMethodDescriptor "(II)I").map (fun d => d.parameters.length)).getD 0) := ⟨gw_t 1114 (by rfl) (by rfl), gw_t 1115 (by rfl) (by rfl), gw_t 1116 (by rfl) (by rfl), gw_t 1 (by rfl) (by rfl), k_yX7_seen, by decide +kernel, by decide +kernel, _, _, rfl⟩
set_option maxRecDepth 100000 in
theorem mvX7_272 : MV RX7 272 6 yX6_seenAs cX6_seenAs 3 (some .int) (((parseMethodDescriptor "(II)I").map (fun d => d.parameters.length)).getD 0) := ⟨gw_t 1118 (by rfl) (by rfl), gw_t 518 (by rfl) (by rfl), gw_t 519 (by rfl) (by rfl), gw_t 2 (by rfl) (by rfl), k_yX6_seenAs, by decide +kernel, by decide +kernel, _, _, rfl⟩
set_option maxRecDepth 100000 in
theorem mlL_233 : Cond.methodLink RL 233 ⟨"YardTalkLaw", "gap", "(LYardTalk;II[J)I"⟩ ∈ gw := gw_t 1119 (by rfl) (by rfl)
set_option maxRecDepth 100000 in
theorem mvL_84 : MV RL 84 7 yX7_gap cX7_gap 3 (some .int) (((parseMethodDescriptor "(II)I").map (fun d => d.parameters.length)).getD 0) := ⟨gw_t 1122 (by rfl) (by rfl), gw_t 1123 (by rfl) (by rfl), gw_t 1124 (by rfl) (by rfl), gw_t 1 (by rfl) (by rfl), k_yX7_gap, by decide +kernel, by decide +kernel, _, _, rfl⟩
set_option maxRecDepth 100000 in
theorem mvX7_278 : MV RX7 278 7 yX7_checkFilm cX7_checkFilm 2 none (((parseMethodDescriptor "(I)V").map (fun d => d.parameters.length)).getD 0) := ⟨gw_t 1126 (by rfl) (by rfl), gw_t 1128 (by rfl) (by rfl), gw_p 37 (by rfl) (by rfl), gw_t 1 (by rfl) (by rfl), k_yX7_checkFilm, by decide +kernel, by decide +kernel, _, _, rfl⟩
set_option maxRecDepth 100000 in
theorem mlL_236 : Cond.methodLink RL 236 ⟨"YardTalkLaw", "fits", "(LYardTalk;II[J)I"⟩ ∈ gw := gw_t 1132 (by rfl) (by rfl)
set_option maxRecDepth 100000 in
theorem mvL_87 : MV RL 87 7 yX7_fits cX7_fits 3 (some .int) (((parseMethodDescriptor "(II)I").map (fun d => d.parameters.length)).getD 0) := ⟨gw_t 1135 (by rfl) (by rfl), gw_t 1136 (by rfl) (by rfl), gw_t 1137 (by rfl) (by rfl), gw_t 1 (by rfl) (by rfl), k_yX7_fits, by decide +kernel, by decide +kernel, _, _, rfl⟩
set_option maxRecDepth 100000 in
theorem mlL_243 : Cond.methodLink RL 243 ⟨"YardTalkLaw", "trial", "(LYardTalk;IIII[J)I"⟩ ∈ gw := gw_t 1139 (by rfl) (by rfl)
set_option maxRecDepth 100000 in
theorem mvL_90 : MV RL 90 7 yX7_trial cX7_trial 5 (some .int) (((parseMethodDescriptor "(IIII)I").map (fun d => d.parameters.length)).getD 0) := ⟨gw_t 1142 (by rfl) (by rfl), gw_t 1143 (by rfl) (by rfl), gw_t 1144 (by rfl) (by rfl), gw_t 1 (by rfl) (by rfl), k_yX7_trial, by decide +kernel, by decide +kernel, _, _, rfl⟩
set_option maxRecDepth 100000 in
theorem msX7_291 : MS RX7 291 yX7_checkTrial cX7_checkTrial 3 none (((parseMethodDescriptor "(III)V").map (fun d => d.parameters.length)).getD 0) := ⟨gw_t 1146 (by rfl) (by rfl), gw_t 1147 (by rfl) (by rfl), gw_t 1 (by rfl) (by rfl), k_yX7_checkTrial, by decide +kernel, by decide +kernel⟩
set_option maxRecDepth 100000 in
theorem mvX7_307 : MV RX7 307 7 yX7_tryOut cX7_tryOut 6 (some .int) (((parseMethodDescriptor "(III)I").map (fun d => d.parameters.length)).getD 0) := ⟨gw_t 1149 (by rfl) (by rfl), gw_t 1151 (by rfl) (by rfl), gw_p 38 (by rfl) (by rfl), gw_t 1 (by rfl) (by rfl), k_yX7_tryOut, by decide +kernel, by decide +kernel, _, _, rfl⟩
set_option maxRecDepth 100000 in
theorem mlL_247 : Cond.methodLink RL 247 ⟨"YardTalkLaw", "fewest", "(LYardTalk;IIII[J)I"⟩ ∈ gw := gw_t 1153 (by rfl) (by rfl)
set_option maxRecDepth 100000 in
theorem mvL_94 : MV RL 94 7 yX7_fewest cX7_fewest 7 (some .int) (((parseMethodDescriptor "(IIII)I").map (fun d => d.parameters.length)).getD 0) := ⟨gw_t 1156 (by rfl) (by rfl), gw_t 1157 (by rfl) (by rfl), gw_t 1158 (by rfl) (by rfl), gw_t 1 (by rfl) (by rfl), k_yX7_fewest, by decide +kernel, by decide +kernel, _, _, rfl⟩
set_option maxRecDepth 100000 in
theorem mvX7_312 : MV RX7 312 6 yX6_keepFirst cX6_keepFirst 5 none (((parseMethodDescriptor "(II)V").map (fun d => d.parameters.length)).getD 0) := ⟨gw_t 1161 (by rfl) (by rfl), gw_t 1162 (by rfl) (by rfl), gw_t 1163 (by rfl) (by rfl), gw_t 2 (by rfl) (by rfl), k_yX6_keepFirst, by decide +kernel, by decide +kernel, _, _, rfl⟩
set_option maxRecDepth 100000 in
theorem mlL_250 : Cond.methodLink RL 250 ⟨"YardTalkLaw", "needed", "(LYardTalk;III[J)I"⟩ ∈ gw := gw_t 1165 (by rfl) (by rfl)
set_option maxRecDepth 100000 in
theorem mvL_97 : MV RL 97 7 yX7_needed cX7_needed 8 (some .int) (((parseMethodDescriptor "(III)I").map (fun d => d.parameters.length)).getD 0) := ⟨gw_t 1168 (by rfl) (by rfl), gw_t 1169 (by rfl) (by rfl), gw_t 1170 (by rfl) (by rfl), gw_t 1 (by rfl) (by rfl), k_yX7_needed, by decide +kernel, by decide +kernel, _, _, rfl⟩
set_option maxRecDepth 100000 in
theorem mlL_253 : Cond.methodLink RL 253 ⟨"YardTalkLaw", "unlike", "(LYardTalk;II[J)I"⟩ ∈ gw := gw_t 1172 (by rfl) (by rfl)
set_option maxRecDepth 100000 in
theorem mvL_100 : MV RL 100 7 yX7_unlike cX7_unlike 3 (some .int) (((parseMethodDescriptor "(II)I").map (fun d => d.parameters.length)).getD 0) := ⟨gw_t 1175 (by rfl) (by rfl), gw_t 1176 (by rfl) (by rfl), gw_t 1177 (by rfl) (by rfl), gw_t 1 (by rfl) (by rfl), k_yX7_unlike, by decide +kernel, by decide +kernel, _, _, rfl⟩
set_option maxRecDepth 100000 in
theorem mvX7_322 : MV RX7 322 7 yX7_countUnlike cX7_countUnlike 5 (some .int) (((parseMethodDescriptor "(II)I").map (fun d => d.parameters.length)).getD 0) := ⟨gw_t 1179 (by rfl) (by rfl), gw_t 1181 (by rfl) (by rfl), gw_p 39 (by rfl) (by rfl), gw_t 1 (by rfl) (by rfl), k_yX7_countUnlike, by decide +kernel, by decide +kernel, _, _, rfl⟩
set_option maxRecDepth 100000 in
theorem mvX7_427 : MV RX7 427 6 yX6_orderOfYard cX6_orderOfYard 7 (some .int) (((parseMethodDescriptor "(I)I").map (fun d => d.parameters.length)).getD 0) := ⟨gw_t 1183 (by rfl) (by rfl), gw_t 1184 (by rfl) (by rfl), gw_t 1185 (by rfl) (by rfl), gw_t 2 (by rfl) (by rfl), k_yX6_orderOfYard, by decide +kernel, by decide +kernel, _, _, rfl⟩
set_option maxRecDepth 100000 in
theorem mvX7_342 : MV RX7 342 6 yX6_signOfYard cX6_signOfYard 8 (some .int) (((parseMethodDescriptor "(II)I").map (fun d => d.parameters.length)).getD 0) := ⟨gw_t 1187 (by rfl) (by rfl), gw_t 1188 (by rfl) (by rfl), gw_t 1189 (by rfl) (by rfl), gw_t 2 (by rfl) (by rfl), k_yX6_signOfYard, by decide +kernel, by decide +kernel, _, _, rfl⟩
set_option maxRecDepth 100000 in
theorem mlL_256 : Cond.methodLink RL 256 ⟨"YardTalkLaw", "meets", "(LYardTalk;II[J)I"⟩ ∈ gw := gw_t 1191 (by rfl) (by rfl)
set_option maxRecDepth 100000 in
theorem mvL_103 : MV RL 103 7 yX7_meets cX7_meets 5 (some .int) (((parseMethodDescriptor "(II)I").map (fun d => d.parameters.length)).getD 0) := ⟨gw_t 1194 (by rfl) (by rfl), gw_t 1195 (by rfl) (by rfl), gw_t 1196 (by rfl) (by rfl), gw_t 1 (by rfl) (by rfl), k_yX7_meets, by decide +kernel, by decide +kernel, _, _, rfl⟩
set_option maxRecDepth 100000 in
theorem mvX7_327 : MV RX7 327 6 yX6_takeBackSaying cX6_takeBackSaying 2 none (((parseMethodDescriptor "(LYardTalk$World;)V").map (fun d => d.parameters.length)).getD 0) := ⟨gw_t 1199 (by rfl) (by rfl), gw_t 1200 (by rfl) (by rfl), gw_t 1201 (by rfl) (by rfl), gw_t 2 (by rfl) (by rfl), k_yX6_takeBackSaying, by decide +kernel, by decide +kernel, _, _, rfl⟩
set_option maxRecDepth 100000 in
theorem mvX7_330 : MV RX7 330 5 yX5_sayIn cX5_sayIn 3 none (((parseMethodDescriptor "(LYardTalk$World;)V").map (fun d => d.parameters.length)).getD 0) := ⟨gw_t 1203 (by rfl) (by rfl), gw_t 434 (by rfl) (by rfl), gw_t 435 (by rfl) (by rfl), gw_t 4 (by rfl) (by rfl), k_yX5_sayIn, by decide +kernel, by decide +kernel, _, _, rfl⟩
set_option maxRecDepth 100000 in
theorem mvX7_333 : MV RX7 333 5 yX5_takeIn cX5_takeIn 4 none (((parseMethodDescriptor "(LYardTalk$World;)V").map (fun d => d.parameters.length)).getD 0) := ⟨gw_t 1204 (by rfl) (by rfl), gw_t 480 (by rfl) (by rfl), gw_t 481 (by rfl) (by rfl), gw_t 4 (by rfl) (by rfl), k_yX5_takeIn, by decide +kernel, by decide +kernel, _, _, rfl⟩
set_option maxRecDepth 100000 in
theorem mlL_267 : Cond.methodLink RL 267 ⟨"YardTalkLaw", "plain", "(LYardTalk;I[J)I"⟩ ∈ gw := gw_t 1205 (by rfl) (by rfl)
set_option maxRecDepth 100000 in
theorem mvL_106 : MV RL 106 7 yX7_plain cX7_plain 4 (some .int) (((parseMethodDescriptor "(I)I").map (fun d => d.parameters.length)).getD 0) := ⟨gw_t 1208 (by rfl) (by rfl), gw_t 1209 (by rfl) (by rfl), gw_t 1210 (by rfl) (by rfl), gw_t 1 (by rfl) (by rfl), k_yX7_plain, by decide +kernel, by decide +kernel, _, _, rfl⟩
set_option maxRecDepth 100000 in
theorem mvX7_336 : MV RX7 336 6 yX6_heaviestOrder cX6_heaviestOrder 6 (some .int) (((parseMethodDescriptor "(I)I").map (fun d => d.parameters.length)).getD 0) := ⟨gw_t 1212 (by rfl) (by rfl), gw_t 442 (by rfl) (by rfl), gw_t 443 (by rfl) (by rfl), gw_t 2 (by rfl) (by rfl), k_yX6_heaviestOrder, by decide +kernel, by decide +kernel, _, _, rfl⟩
set_option maxRecDepth 100000 in
theorem mvX7_339 : MV RX7 339 7 yX7_countSeenAlone cX7_countSeenAlone 7 (some .int) (((parseMethodDescriptor "(II)I").map (fun d => d.parameters.length)).getD 0) := ⟨gw_t 1213 (by rfl) (by rfl), gw_t 1215 (by rfl) (by rfl), gw_p 40 (by rfl) (by rfl), gw_t 1 (by rfl) (by rfl), k_yX7_countSeenAlone, by decide +kernel, by decide +kernel, _, _, rfl⟩
set_option maxRecDepth 100000 in
theorem mvX7_430 : MV RX7 430 6 yX6_seenFor cX6_seenFor 4 (some .int) (((parseMethodDescriptor "(II)I").map (fun d => d.parameters.length)).getD 0) := ⟨gw_t 1217 (by rfl) (by rfl), gw_t 1218 (by rfl) (by rfl), gw_t 1219 (by rfl) (by rfl), gw_t 2 (by rfl) (by rfl), k_yX6_seenFor, by decide +kernel, by decide +kernel, _, _, rfl⟩
set_option maxRecDepth 100000 in
theorem mvX6_106 : MV RX6 106 6 yX6_seenAs cX6_seenAs 3 (some .int) (((parseMethodDescriptor "(II)I").map (fun d => d.parameters.length)).getD 0) := ⟨gw_t 1221 (by rfl) (by rfl), gw_t 518 (by rfl) (by rfl), gw_t 519 (by rfl) (by rfl), gw_t 2 (by rfl) (by rfl), k_yX6_seenAs, by decide +kernel, by decide +kernel, _, _, rfl⟩
set_option maxRecDepth 100000 in
theorem mlL_270 : Cond.methodLink RL 270 ⟨"YardTalkLaw", "word", "(LYardTalk;II[J)I"⟩ ∈ gw := gw_t 1222 (by rfl) (by rfl)
set_option maxRecDepth 100000 in
theorem mvL_109 : MV RL 109 7 yX7_word cX7_word 3 (some .int) (((parseMethodDescriptor "(II)I").map (fun d => d.parameters.length)).getD 0) := ⟨gw_t 1225 (by rfl) (by rfl), gw_t 1226 (by rfl) (by rfl), gw_t 1227 (by rfl) (by rfl), gw_t 1 (by rfl) (by rfl), k_yX7_word, by decide +kernel, by decide +kernel, _, _, rfl⟩
set_option maxRecDepth 100000 in
theorem mlL_273 : Cond.methodLink RL 273 ⟨"YardTalkLaw", "blurred", "(LYardTalk;II[J)I"⟩ ∈ gw := gw_t 1229 (by rfl) (by rfl)
set_option maxRecDepth 100000 in
theorem mvL_112 : MV RL 112 7 yX7_blurred cX7_blurred 7 (some .int) (((parseMethodDescriptor "(II)I").map (fun d => d.parameters.length)).getD 0) := ⟨gw_t 1232 (by rfl) (by rfl), gw_t 1233 (by rfl) (by rfl), gw_t 1234 (by rfl) (by rfl), gw_t 1 (by rfl) (by rfl), k_yX7_blurred, by decide +kernel, by decide +kernel, _, _, rfl⟩
set_option maxRecDepth 100000 in
theorem mvX7_345 : MV RX7 345 7 yX7_areBlurred cX7_areBlurred 6 (some .boolean) (((parseMethodDescriptor "(III)Z").map (fun d => d.parameters.length)).getD 0) := ⟨gw_t 1236 (by rfl) (by rfl), gw_t 1238 (by rfl) (by rfl), gw_p 41 (by rfl) (by rfl), gw_t 1 (by rfl) (by rfl), k_yX7_areBlurred, by decide +kernel, by decide +kernel, _, _, rfl⟩
set_option maxRecDepth 100000 in
theorem mlL_276 : Cond.methodLink RL 276 ⟨"YardTalkLaw", "nearest", "(LYardTalk;I[J)I"⟩ ∈ gw := gw_t 1240 (by rfl) (by rfl)
set_option maxRecDepth 100000 in
theorem mvL_115 : MV RL 115 7 yX7_nearest cX7_nearest 6 (some .int) (((parseMethodDescriptor "(I)I").map (fun d => d.parameters.length)).getD 0) := ⟨gw_t 1243 (by rfl) (by rfl), gw_t 1244 (by rfl) (by rfl), gw_t 1245 (by rfl) (by rfl), gw_t 1 (by rfl) (by rfl), k_yX7_nearest, by decide +kernel, by decide +kernel, _, _, rfl⟩
set_option maxRecDepth 100000 in
theorem mlL_279 : Cond.methodLink RL 279 ⟨"YardTalkLaw", "since", "(LYardTalk;II[J)I"⟩ ∈ gw := gw_t 1247 (by rfl) (by rfl)
set_option maxRecDepth 100000 in
theorem mvL_118 : MV RL 118 7 yX7_since cX7_since 3 (some .int) (((parseMethodDescriptor "(II)I").map (fun d => d.parameters.length)).getD 0) := ⟨gw_t 1250 (by rfl) (by rfl), gw_t 1251 (by rfl) (by rfl), gw_t 1252 (by rfl) (by rfl), gw_t 1 (by rfl) (by rfl), k_yX7_since, by decide +kernel, by decide +kernel, _, _, rfl⟩
set_option maxRecDepth 100000 in
theorem mlL_282 : Cond.methodLink RL 282 ⟨"YardTalkLaw", "taught", "(LYardTalk;II[J)I"⟩ ∈ gw := gw_t 1254 (by rfl) (by rfl)
set_option maxRecDepth 100000 in
theorem mvL_121 : MV RL 121 7 yX7_taught cX7_taught 3 (some .int) (((parseMethodDescriptor "(II)I").map (fun d => d.parameters.length)).getD 0) := ⟨gw_t 1257 (by rfl) (by rfl), gw_t 1258 (by rfl) (by rfl), gw_t 1259 (by rfl) (by rfl), gw_t 1 (by rfl) (by rfl), k_yX7_taught, by decide +kernel, by decide +kernel, _, _, rfl⟩
set_option maxRecDepth 100000 in
theorem mvX7_351 : MV RX7 351 7 yX7_findTeacher cX7_findTeacher 6 (some .int) (((parseMethodDescriptor "(II)I").map (fun d => d.parameters.length)).getD 0) := ⟨gw_t 1261 (by rfl) (by rfl), gw_t 1263 (by rfl) (by rfl), gw_p 42 (by rfl) (by rfl), gw_t 1 (by rfl) (by rfl), k_yX7_findTeacher, by decide +kernel, by decide +kernel, _, _, rfl⟩
set_option maxRecDepth 100000 in
theorem mlL_285 : Cond.methodLink RL 285 ⟨"YardTalkLaw", "root", "(LYardTalk;II[J)I"⟩ ∈ gw := gw_t 1265 (by rfl) (by rfl)
set_option maxRecDepth 100000 in
theorem mvL_124 : MV RL 124 7 yX7_root cX7_root 7 (some .int) (((parseMethodDescriptor "(II)I").map (fun d => d.parameters.length)).getD 0) := ⟨gw_t 1268 (by rfl) (by rfl), gw_t 1269 (by rfl) (by rfl), gw_t 1270 (by rfl) (by rfl), gw_t 1 (by rfl) (by rfl), k_yX7_root, by decide +kernel, by decide +kernel, _, _, rfl⟩
set_option maxRecDepth 100000 in
theorem mlL_288 : Cond.methodLink RL 288 ⟨"YardTalkLaw", "untaught", "(LYardTalk;III[J)I"⟩ ∈ gw := gw_t 1272 (by rfl) (by rfl)
set_option maxRecDepth 100000 in
theorem mvL_127 : MV RL 127 7 yX7_untaught cX7_untaught 4 (some .int) (((parseMethodDescriptor "(III)I").map (fun d => d.parameters.length)).getD 0) := ⟨gw_t 1275 (by rfl) (by rfl), gw_t 1276 (by rfl) (by rfl), gw_t 1277 (by rfl) (by rfl), gw_t 1 (by rfl) (by rfl), k_yX7_untaught, by decide +kernel, by decide +kernel, _, _, rfl⟩
set_option maxRecDepth 100000 in
theorem mvX7_354 : MV RX7 354 6 yX6_sendTeachersAway cX6_sendTeachersAway 3 none (((parseMethodDescriptor "(I)V").map (fun d => d.parameters.length)).getD 0) := ⟨gw_t 1279 (by rfl) (by rfl), gw_t 1280 (by rfl) (by rfl), gw_t 1281 (by rfl) (by rfl), gw_t 2 (by rfl) (by rfl), k_yX6_sendTeachersAway, by decide +kernel, by decide +kernel, _, _, rfl⟩
set_option maxRecDepth 100000 in
theorem mlL_291 : Cond.methodLink RL 291 ⟨"YardTalkLaw", "odds", "(LYardTalk;IIII[J)I"⟩ ∈ gw := gw_t 1283 (by rfl) (by rfl)
set_option maxRecDepth 100000 in
theorem mvL_130 : MV RL 130 7 yX7_odds cX7_odds 8 (some .int) (((parseMethodDescriptor "(IIII)I").map (fun d => d.parameters.length)).getD 0) := ⟨gw_t 1286 (by rfl) (by rfl), gw_t 1287 (by rfl) (by rfl), gw_t 1288 (by rfl) (by rfl), gw_t 1 (by rfl) (by rfl), k_yX7_odds, by decide +kernel, by decide +kernel, _, _, rfl⟩
set_option maxRecDepth 100000 in
theorem mlL_294 : Cond.methodLink RL 294 ⟨"YardTalkLaw", "right", "(LYardTalk;III[J)I"⟩ ∈ gw := gw_t 1291 (by rfl) (by rfl)
set_option maxRecDepth 100000 in
theorem mvL_133 : MV RL 133 7 yX7_right cX7_right 7 (some .int) (((parseMethodDescriptor "(III)I").map (fun d => d.parameters.length)).getD 0) := ⟨gw_t 1294 (by rfl) (by rfl), gw_t 1295 (by rfl) (by rfl), gw_t 1296 (by rfl) (by rfl), gw_t 1 (by rfl) (by rfl), k_yX7_right, by decide +kernel, by decide +kernel, _, _, rfl⟩
set_option maxRecDepth 100000 in
theorem mvL_151 : MV RL 151 8 yX8_thrown cX8_thrown 1 (some .int) (((parseMethodDescriptor "()I").map (fun d => d.parameters.length)).getD 0) := ⟨gw_t 1299 (by rfl) (by rfl), gw_t 1300 (by rfl) (by rfl), gw_t 1301 (by rfl) (by rfl), gw_t 9 (by rfl) (by rfl), k_yX8_thrown, by decide +kernel, by decide +kernel, _, _, rfl⟩
set_option maxRecDepth 100000 in
theorem mlL_139 : Cond.methodLink RL 139 yX8_init ∈ gw := gw_t 1305 (by rfl) (by rfl)
set_option maxRecDepth 100000 in
theorem mlX8_7 : Cond.methodLink RX8 7 ⟨"java/lang/Object", "<init>", "()V"⟩ ∈ gw := gw_t 1308 (by rfl) (by rfl)
set_option maxRecDepth 100000 in
theorem mvL_144 : MV RL 144 8 yX8_seeds cX8_seeds 3 none (((parseMethodDescriptor "(II)V").map (fun d => d.parameters.length)).getD 0) := ⟨gw_t 1478 (by rfl) (by rfl), gw_t 1479 (by rfl) (by rfl), gw_t 1480 (by rfl) (by rfl), gw_t 9 (by rfl) (by rfl), k_yX8_seeds, by decide +kernel, by decide +kernel, _, _, rfl⟩
set_option maxRecDepth 100000 in
theorem mvX8_114 : MV RX8 114 8 yX8_ends cX8_ends 1 none (((parseMethodDescriptor "()V").map (fun d => d.parameters.length)).getD 0) := ⟨gw_t 1482 (by rfl) (by rfl), gw_t 1484 (by rfl) (by rfl), gw_p 43 (by rfl) (by rfl), gw_t 9 (by rfl) (by rfl), k_yX8_ends, by decide +kernel, by decide +kernel, _, _, rfl⟩
set_option maxRecDepth 100000 in
theorem mvL_150 : MV RL 150 8 yX8_come cX8_come 7 (some .int) (((parseMethodDescriptor "(IIZ)I").map (fun d => d.parameters.length)).getD 0) := ⟨gw_t 1486 (by rfl) (by rfl), gw_t 1487 (by rfl) (by rfl), gw_t 1488 (by rfl) (by rfl), gw_t 9 (by rfl) (by rfl), k_yX8_come, by decide +kernel, by decide +kernel, _, _, rfl⟩
set_option maxRecDepth 100000 in
theorem msX8_117 : MS RX8 117 yX8_isYard cX8_isYard 1 (some .boolean) (((parseMethodDescriptor "(I)Z").map (fun d => d.parameters.length)).getD 0) := ⟨gw_t 1490 (by rfl) (by rfl), gw_t 1491 (by rfl) (by rfl), gw_t 9 (by rfl) (by rfl), k_yX8_isYard, by decide +kernel, by decide +kernel⟩
set_option maxRecDepth 100000 in
theorem msX8_106 : MS RX8 106 yX8_within cX8_within 3 (some .boolean) (((parseMethodDescriptor "(III)Z").map (fun d => d.parameters.length)).getD 0) := ⟨gw_t 1493 (by rfl) (by rfl), gw_t 1494 (by rfl) (by rfl), gw_t 9 (by rfl) (by rfl), k_yX8_within, by decide +kernel, by decide +kernel⟩
set_option maxRecDepth 100000 in
theorem mvX8_110 : MV RX8 110 8 yX8_may cX8_may 3 (some .boolean) (((parseMethodDescriptor "(ZI)Z").map (fun d => d.parameters.length)).getD 0) := ⟨gw_t 1496 (by rfl) (by rfl), gw_t 1498 (by rfl) (by rfl), gw_p 44 (by rfl) (by rfl), gw_t 9 (by rfl) (by rfl), k_yX8_may, by decide +kernel, by decide +kernel, _, _, rfl⟩
set_option maxRecDepth 100000 in
theorem msX8_121 : MS RX8 121 yX8_at cX8_at 1 (some .int) (((parseMethodDescriptor "(I)I").map (fun d => d.parameters.length)).getD 0) := ⟨gw_t 1500 (by rfl) (by rfl), gw_t 1501 (by rfl) (by rfl), gw_t 9 (by rfl) (by rfl), k_yX8_at, by decide +kernel, by decide +kernel⟩
set_option maxRecDepth 100000 in
theorem mvL_158 : MV RL 158 8 yX8_leave cX8_leave 2 (some .int) (((parseMethodDescriptor "(I)I").map (fun d => d.parameters.length)).getD 0) := ⟨gw_t 1503 (by rfl) (by rfl), gw_t 1504 (by rfl) (by rfl), gw_t 1505 (by rfl) (by rfl), gw_t 9 (by rfl) (by rfl), k_yX8_leave, by decide +kernel, by decide +kernel, _, _, rfl⟩
set_option maxRecDepth 100000 in
theorem mvX8_125 : MV RX8 125 8 yX8_isChild cX8_isChild 2 (some .boolean) (((parseMethodDescriptor "(I)Z").map (fun d => d.parameters.length)).getD 0) := ⟨gw_t 1507 (by rfl) (by rfl), gw_t 1509 (by rfl) (by rfl), gw_p 45 (by rfl) (by rfl), gw_t 9 (by rfl) (by rfl), k_yX8_isChild, by decide +kernel, by decide +kernel, _, _, rfl⟩
set_option maxRecDepth 100000 in
theorem mvL_162 : MV RL 162 8 yX8_visit cX8_visit 4 (some .int) (((parseMethodDescriptor "(II)I").map (fun d => d.parameters.length)).getD 0) := ⟨gw_t 1511 (by rfl) (by rfl), gw_t 1512 (by rfl) (by rfl), gw_t 1513 (by rfl) (by rfl), gw_t 9 (by rfl) (by rfl), k_yX8_visit, by decide +kernel, by decide +kernel, _, _, rfl⟩
set_option maxRecDepth 100000 in
theorem mvL_165 : MV RL 165 8 yX8_of cX8_of 6 (some .int) (((parseMethodDescriptor "(II)I").map (fun d => d.parameters.length)).getD 0) := ⟨gw_t 1515 (by rfl) (by rfl), gw_t 1516 (by rfl) (by rfl), gw_t 1517 (by rfl) (by rfl), gw_t 9 (by rfl) (by rfl), k_yX8_of, by decide +kernel, by decide +kernel, _, _, rfl⟩
set_option maxRecDepth 100000 in
theorem mvX8_128 : MV RX8 128 8 yX8_holdsNow cX8_holdsNow 4 (some .boolean) (((parseMethodDescriptor "(II)Z").map (fun d => d.parameters.length)).getD 0) := ⟨gw_t 1519 (by rfl) (by rfl), gw_t 1521 (by rfl) (by rfl), gw_p 46 (by rfl) (by rfl), gw_t 9 (by rfl) (by rfl), k_yX8_holdsNow, by decide +kernel, by decide +kernel, _, _, rfl⟩
set_option maxRecDepth 100000 in
theorem mvX8_272 : MV RX8 272 8 yX8_asks cX8_asks 5 none (((parseMethodDescriptor "(III)V").map (fun d => d.parameters.length)).getD 0) := ⟨gw_t 1523 (by rfl) (by rfl), gw_t 1525 (by rfl) (by rfl), gw_p 47 (by rfl) (by rfl), gw_t 9 (by rfl) (by rfl), k_yX8_asks, by decide +kernel, by decide +kernel, _, _, rfl⟩
set_option maxRecDepth 100000 in
theorem mvX8_276 : MV RX8 276 8 yX8_told cX8_told 6 (some .int) (((parseMethodDescriptor "(II)I").map (fun d => d.parameters.length)).getD 0) := ⟨gw_t 1527 (by rfl) (by rfl), gw_t 1529 (by rfl) (by rfl), gw_p 48 (by rfl) (by rfl), gw_t 9 (by rfl) (by rfl), k_yX8_told, by decide +kernel, by decide +kernel, _, _, rfl⟩
set_option maxRecDepth 100000 in
theorem mvX8_265 : MV RX8 265 8 yX8_valueOf cX8_valueOf 6 (some .int) (((parseMethodDescriptor "(II)I").map (fun d => d.parameters.length)).getD 0) := ⟨gw_t 1531 (by rfl) (by rfl), gw_t 1533 (by rfl) (by rfl), gw_p 49 (by rfl) (by rfl), gw_t 9 (by rfl) (by rfl), k_yX8_valueOf, by decide +kernel, by decide +kernel, _, _, rfl⟩
set_option maxRecDepth 100000 in
theorem mvX8_258 : MV RX8 258 8 yX8_asked cX8_asked 2 (some .int) (((parseMethodDescriptor "(I)I").map (fun d => d.parameters.length)).getD 0) := ⟨gw_t 1535 (by rfl) (by rfl), gw_t 1537 (by rfl) (by rfl), gw_p 50 (by rfl) (by rfl), gw_t 9 (by rfl) (by rfl), k_yX8_asked, by decide +kernel, by decide +kernel, _, _, rfl⟩
set_option maxRecDepth 100000 in
theorem msX8_261 : MS RX8 261 yX8_two cX8_two 3 (some .int) (((parseMethodDescriptor "(III)I").map (fun d => d.parameters.length)).getD 0) := ⟨gw_t 1539 (by rfl) (by rfl), gw_t 1540 (by rfl) (by rfl), gw_t 9 (by rfl) (by rfl), k_yX8_two, by decide +kernel, by decide +kernel⟩
set_option maxRecDepth 100000 in
theorem msX8_269 : MS RX8 269 yX8_bounded cX8_bounded 1 (some .int) (((parseMethodDescriptor "(I)I").map (fun d => d.parameters.length)).getD 0) := ⟨gw_t 1542 (by rfl) (by rfl), gw_t 1543 (by rfl) (by rfl), gw_t 9 (by rfl) (by rfl), k_yX8_bounded, by decide +kernel, by decide +kernel⟩
set_option maxRecDepth 100000 in
theorem mvL_169 : MV RL 169 8 yX8_sign cX8_sign 4 (some .int) (((parseMethodDescriptor "(III)I").map (fun d => d.parameters.length)).getD 0) := ⟨gw_t 1545 (by rfl) (by rfl), gw_t 1546 (by rfl) (by rfl), gw_t 1547 (by rfl) (by rfl), gw_t 9 (by rfl) (by rfl), k_yX8_sign, by decide +kernel, by decide +kernel, _, _, rfl⟩
set_option maxRecDepth 100000 in
theorem mvL_172 : MV RL 172 8 yX8_order cX8_order 3 (some .int) (((parseMethodDescriptor "(II)I").map (fun d => d.parameters.length)).getD 0) := ⟨gw_t 1549 (by rfl) (by rfl), gw_t 1550 (by rfl) (by rfl), gw_t 1551 (by rfl) (by rfl), gw_t 9 (by rfl) (by rfl), k_yX8_order, by decide +kernel, by decide +kernel, _, _, rfl⟩
set_option maxRecDepth 100000 in
theorem msX8_132 : MS RX8 132 yX8_isOrder cX8_isOrder 1 (some .boolean) (((parseMethodDescriptor "(I)Z").map (fun d => d.parameters.length)).getD 0) := ⟨gw_t 1553 (by rfl) (by rfl), gw_t 1554 (by rfl) (by rfl), gw_t 9 (by rfl) (by rfl), k_yX8_isOrder, by decide +kernel, by decide +kernel⟩
set_option maxRecDepth 100000 in
theorem mvL_175 : MV RL 175 8 yX8_holds cX8_holds 3 (some .boolean) (((parseMethodDescriptor "(II)Z").map (fun d => d.parameters.length)).getD 0) := ⟨gw_t 1556 (by rfl) (by rfl), gw_t 1557 (by rfl) (by rfl), gw_t 1558 (by rfl) (by rfl), gw_t 9 (by rfl) (by rfl), k_yX8_holds, by decide +kernel, by decide +kernel, _, _, rfl⟩
set_option maxRecDepth 100000 in
theorem mvL_178 : MV RL 178 8 yX8_set cX8_set 4 (some .int) (((parseMethodDescriptor "(II)I").map (fun d => d.parameters.length)).getD 0) := ⟨gw_t 1560 (by rfl) (by rfl), gw_t 1561 (by rfl) (by rfl), gw_t 1562 (by rfl) (by rfl), gw_t 9 (by rfl) (by rfl), k_yX8_set, by decide +kernel, by decide +kernel, _, _, rfl⟩
set_option maxRecDepth 100000 in
theorem mvL_181 : MV RL 181 8 yX8_years cX8_years 2 (some .int) (((parseMethodDescriptor "(I)I").map (fun d => d.parameters.length)).getD 0) := ⟨gw_t 1564 (by rfl) (by rfl), gw_t 1565 (by rfl) (by rfl), gw_t 1566 (by rfl) (by rfl), gw_t 9 (by rfl) (by rfl), k_yX8_years, by decide +kernel, by decide +kernel, _, _, rfl⟩
set_option maxRecDepth 100000 in
theorem mvL_185 : MV RL 185 8 yX8_feed cX8_feed 8 (some .int) (((parseMethodDescriptor "(IIIII)I").map (fun d => d.parameters.length)).getD 0) := ⟨gw_t 1568 (by rfl) (by rfl), gw_t 1569 (by rfl) (by rfl), gw_t 1570 (by rfl) (by rfl), gw_t 9 (by rfl) (by rfl), k_yX8_feed, by decide +kernel, by decide +kernel, _, _, rfl⟩
set_option maxRecDepth 100000 in
theorem mvL_188 : MV RL 188 8 yX8_law cX8_law 2 (some .int) (((parseMethodDescriptor "(I)I").map (fun d => d.parameters.length)).getD 0) := ⟨gw_t 1572 (by rfl) (by rfl), gw_t 1573 (by rfl) (by rfl), gw_t 1574 (by rfl) (by rfl), gw_t 9 (by rfl) (by rfl), k_yX8_law, by decide +kernel, by decide +kernel, _, _, rfl⟩
set_option maxRecDepth 100000 in
theorem mvX8_164 : MV RX8 164 8 yX8_fine cX8_fine 1 (some .boolean) (((parseMethodDescriptor "()Z").map (fun d => d.parameters.length)).getD 0) := ⟨gw_t 1576 (by rfl) (by rfl), gw_t 1578 (by rfl) (by rfl), gw_p 51 (by rfl) (by rfl), gw_t 9 (by rfl) (by rfl), k_yX8_fine, by decide +kernel, by decide +kernel, _, _, rfl⟩
set_option maxRecDepth 100000 in
theorem mvX8_231 : MV RX8 231 8 yX8_isMore cX8_isMore 1 (some .boolean) (((parseMethodDescriptor "()Z").map (fun d => d.parameters.length)).getD 0) := ⟨gw_t 1580 (by rfl) (by rfl), gw_t 1582 (by rfl) (by rfl), gw_p 52 (by rfl) (by rfl), gw_t 9 (by rfl) (by rfl), k_yX8_isMore, by decide +kernel, by decide +kernel, _, _, rfl⟩
set_option maxRecDepth 100000 in
theorem mvX8_150 : MV RX8 150 8 yX8_here cX8_here 1 (some .int) (((parseMethodDescriptor "()I").map (fun d => d.parameters.length)).getD 0) := ⟨gw_t 1584 (by rfl) (by rfl), gw_t 1586 (by rfl) (by rfl), gw_p 53 (by rfl) (by rfl), gw_t 9 (by rfl) (by rfl), k_yX8_here, by decide +kernel, by decide +kernel, _, _, rfl⟩
set_option maxRecDepth 100000 in
theorem mvX8_234 : MV RX8 234 8 yX8_readClause cX8_readClause 4 none (((parseMethodDescriptor "()V").map (fun d => d.parameters.length)).getD 0) := ⟨gw_t 1588 (by rfl) (by rfl), gw_t 1590 (by rfl) (by rfl), gw_p 54 (by rfl) (by rfl), gw_t 9 (by rfl) (by rfl), k_yX8_readClause, by decide +kernel, by decide +kernel, _, _, rfl⟩
set_option maxRecDepth 100000 in
theorem mvX8_201 : MV RX8 201 8 yX8_word cX8_word 4 (some .int) (((parseMethodDescriptor "()I").map (fun d => d.parameters.length)).getD 0) := ⟨gw_t 1592 (by rfl) (by rfl), gw_t 1594 (by rfl) (by rfl), gw_p 55 (by rfl) (by rfl), gw_t 9 (by rfl) (by rfl), k_yX8_word, by decide +kernel, by decide +kernel, _, _, rfl⟩
set_option maxRecDepth 100000 in
theorem msX8_154 : MS RX8 154 yX8_isSmall cX8_isSmall 1 (some .boolean) (((parseMethodDescriptor "(I)Z").map (fun d => d.parameters.length)).getD 0) := ⟨gw_t 1596 (by rfl) (by rfl), gw_t 1597 (by rfl) (by rfl), gw_t 9 (by rfl) (by rfl), k_yX8_isSmall, by decide +kernel, by decide +kernel⟩
set_option maxRecDepth 100000 in
theorem mvX8_160 : MV RX8 160 8 yX8_wrong cX8_wrong 3 none (((parseMethodDescriptor "(II)V").map (fun d => d.parameters.length)).getD 0) := ⟨gw_t 1603 (by rfl) (by rfl), gw_t 1605 (by rfl) (by rfl), gw_p 56 (by rfl) (by rfl), gw_t 9 (by rfl) (by rfl), k_yX8_wrong, by decide +kernel, by decide +kernel, _, _, rfl⟩
set_option maxRecDepth 100000 in
theorem mvX8_206 : MV RX8 206 8 yX8_pass cX8_pass 1 none (((parseMethodDescriptor "()V").map (fun d => d.parameters.length)).getD 0) := ⟨gw_t 1607 (by rfl) (by rfl), gw_t 1609 (by rfl) (by rfl), gw_p 57 (by rfl) (by rfl), gw_t 9 (by rfl) (by rfl), k_yX8_pass, by decide +kernel, by decide +kernel, _, _, rfl⟩
set_option maxRecDepth 100000 in
theorem mvX8_195 : MV RX8 195 8 yX8_sum cX8_sum 2 none (((parseMethodDescriptor "()V").map (fun d => d.parameters.length)).getD 0) := ⟨gw_t 1611 (by rfl) (by rfl), gw_t 1613 (by rfl) (by rfl), gw_p 58 (by rfl) (by rfl), gw_t 9 (by rfl) (by rfl), k_yX8_sum, by decide +kernel, by decide +kernel, _, _, rfl⟩
set_option maxRecDepth 100000 in
theorem mvX8_215 : MV RX8 215 8 yX8_product cX8_product 2 none (((parseMethodDescriptor "()V").map (fun d => d.parameters.length)).getD 0) := ⟨gw_t 1615 (by rfl) (by rfl), gw_t 1617 (by rfl) (by rfl), gw_p 59 (by rfl) (by rfl), gw_t 9 (by rfl) (by rfl), k_yX8_product, by decide +kernel, by decide +kernel, _, _, rfl⟩
set_option maxRecDepth 100000 in
theorem mvX8_212 : MV RX8 212 8 yX8_unit cX8_unit 3 none (((parseMethodDescriptor "()V").map (fun d => d.parameters.length)).getD 0) := ⟨gw_t 1619 (by rfl) (by rfl), gw_t 1621 (by rfl) (by rfl), gw_p 60 (by rfl) (by rfl), gw_t 9 (by rfl) (by rfl), k_yX8_unit, by decide +kernel, by decide +kernel, _, _, rfl⟩
set_option maxRecDepth 100000 in
theorem msX8_157 : MS RX8 157 yX8_isDigit cX8_isDigit 1 (some .boolean) (((parseMethodDescriptor "(I)Z").map (fun d => d.parameters.length)).getD 0) := ⟨gw_t 1623 (by rfl) (by rfl), gw_t 1624 (by rfl) (by rfl), gw_t 9 (by rfl) (by rfl), k_yX8_isDigit, by decide +kernel, by decide +kernel⟩
set_option maxRecDepth 100000 in
theorem mvX8_186 : MV RX8 186 8 yX8_readNumber cX8_readNumber 3 (some .int) (((parseMethodDescriptor "()I").map (fun d => d.parameters.length)).getD 0) := ⟨gw_t 1626 (by rfl) (by rfl), gw_t 1628 (by rfl) (by rfl), gw_p 61 (by rfl) (by rfl), gw_t 9 (by rfl) (by rfl), k_yX8_readNumber, by decide +kernel, by decide +kernel, _, _, rfl⟩
set_option maxRecDepth 100000 in
theorem mvX8_189 : MV RX8 189 8 yX8_emit cX8_emit 3 none (((parseMethodDescriptor "(II)V").map (fun d => d.parameters.length)).getD 0) := ⟨gw_t 1630 (by rfl) (by rfl), gw_t 1632 (by rfl) (by rfl), gw_p 62 (by rfl) (by rfl), gw_t 9 (by rfl) (by rfl), k_yX8_emit, by decide +kernel, by decide +kernel, _, _, rfl⟩
set_option maxRecDepth 100000 in
theorem mvX8_192 : MV RX8 192 8 yX8_opensAt cX8_opensAt 3 none (((parseMethodDescriptor "(II)V").map (fun d => d.parameters.length)).getD 0) := ⟨gw_t 1634 (by rfl) (by rfl), gw_t 1636 (by rfl) (by rfl), gw_p 63 (by rfl) (by rfl), gw_t 9 (by rfl) (by rfl), k_yX8_opensAt, by decide +kernel, by decide +kernel, _, _, rfl⟩
set_option maxRecDepth 100000 in
theorem mvX8_198 : MV RX8 198 8 yX8_closesAt cX8_closesAt 2 none (((parseMethodDescriptor "(I)V").map (fun d => d.parameters.length)).getD 0) := ⟨gw_t 1638 (by rfl) (by rfl), gw_t 1640 (by rfl) (by rfl), gw_p 64 (by rfl) (by rfl), gw_t 9 (by rfl) (by rfl), k_yX8_closesAt, by decide +kernel, by decide +kernel, _, _, rfl⟩
set_option maxRecDepth 100000 in
theorem mvX8_177 : MV RX8 177 8 yX8_need cX8_need 2 none (((parseMethodDescriptor "(I)V").map (fun d => d.parameters.length)).getD 0) := ⟨gw_t 1642 (by rfl) (by rfl), gw_t 1644 (by rfl) (by rfl), gw_p 65 (by rfl) (by rfl), gw_t 9 (by rfl) (by rfl), k_yX8_need, by decide +kernel, by decide +kernel, _, _, rfl⟩
set_option maxRecDepth 100000 in
theorem msX8_209 : MS RX8 209 yX8_name cX8_name 1 (some .int) (((parseMethodDescriptor "(I)I").map (fun d => d.parameters.length)).getD 0) := ⟨gw_t 1648 (by rfl) (by rfl), gw_t 1649 (by rfl) (by rfl), gw_t 9 (by rfl) (by rfl), k_yX8_name, by decide +kernel, by decide +kernel⟩
set_option maxRecDepth 100000 in
theorem mvX8_224 : MV RX8 224 8 yX8_anyOf cX8_anyOf 1 none (((parseMethodDescriptor "()V").map (fun d => d.parameters.length)).getD 0) := ⟨gw_t 1656 (by rfl) (by rfl), gw_t 1658 (by rfl) (by rfl), gw_p 66 (by rfl) (by rfl), gw_t 9 (by rfl) (by rfl), k_yX8_anyOf, by decide +kernel, by decide +kernel, _, _, rfl⟩
set_option maxRecDepth 100000 in
theorem mvX8_218 : MV RX8 218 8 yX8_allOf cX8_allOf 1 none (((parseMethodDescriptor "()V").map (fun d => d.parameters.length)).getD 0) := ⟨gw_t 1660 (by rfl) (by rfl), gw_t 1662 (by rfl) (by rfl), gw_p 67 (by rfl) (by rfl), gw_t 9 (by rfl) (by rfl), k_yX8_allOf, by decide +kernel, by decide +kernel, _, _, rfl⟩
set_option maxRecDepth 100000 in
theorem mvX8_221 : MV RX8 221 8 yX8_term cX8_term 2 none (((parseMethodDescriptor "()V").map (fun d => d.parameters.length)).getD 0) := ⟨gw_t 1664 (by rfl) (by rfl), gw_t 1666 (by rfl) (by rfl), gw_p 68 (by rfl) (by rfl), gw_t 9 (by rfl) (by rfl), k_yX8_term, by decide +kernel, by decide +kernel, _, _, rfl⟩
set_option maxRecDepth 100000 in
theorem mvL_192 : MV RL 192 8 yX8_fault cX8_fault 1 (some .int) (((parseMethodDescriptor "()I").map (fun d => d.parameters.length)).getD 0) := ⟨gw_t 1668 (by rfl) (by rfl), gw_t 1669 (by rfl) (by rfl), gw_t 1670 (by rfl) (by rfl), gw_t 9 (by rfl) (by rfl), k_yX8_fault, by decide +kernel, by decide +kernel, _, _, rfl⟩
set_option maxRecDepth 100000 in
theorem mvL_195 : MV RL 195 8 yX8_force cX8_force 3 (some .int) (((parseMethodDescriptor "(I)I").map (fun d => d.parameters.length)).getD 0) := ⟨gw_t 1672 (by rfl) (by rfl), gw_t 1673 (by rfl) (by rfl), gw_t 1674 (by rfl) (by rfl), gw_t 9 (by rfl) (by rfl), k_yX8_force, by decide +kernel, by decide +kernel, _, _, rfl⟩
set_option maxRecDepth 100000 in
theorem mvX8_237 : MV RX8 237 8 yX8_isLawOrNone cX8_isLawOrNone 2 (some .boolean) (((parseMethodDescriptor "(I)Z").map (fun d => d.parameters.length)).getD 0) := ⟨gw_t 1676 (by rfl) (by rfl), gw_t 1678 (by rfl) (by rfl), gw_p 69 (by rfl) (by rfl), gw_t 9 (by rfl) (by rfl), k_yX8_isLawOrNone, by decide +kernel, by decide +kernel, _, _, rfl⟩
set_option maxRecDepth 100000 in
theorem mvL_199 : MV RL 199 8 yX8_talk cX8_talk 6 (some .int) (((parseMethodDescriptor "(IIIII)I").map (fun d => d.parameters.length)).getD 0) := ⟨gw_t 1680 (by rfl) (by rfl), gw_t 1681 (by rfl) (by rfl), gw_t 1682 (by rfl) (by rfl), gw_t 9 (by rfl) (by rfl), k_yX8_talk, by decide +kernel, by decide +kernel, _, _, rfl⟩
set_option maxRecDepth 100000 in
theorem mvX8_332 : MV RX8 332 8 yX8_tells cX8_tells 7 none (((parseMethodDescriptor "(II)V").map (fun d => d.parameters.length)).getD 0) := ⟨gw_t 1684 (by rfl) (by rfl), gw_t 1686 (by rfl) (by rfl), gw_p 70 (by rfl) (by rfl), gw_t 9 (by rfl) (by rfl), k_yX8_tells, by decide +kernel, by decide +kernel, _, _, rfl⟩
set_option maxRecDepth 100000 in
theorem mvX8_326 : MV RX8 326 8 yX8_talks cX8_talks 8 none (((parseMethodDescriptor "(II)V").map (fun d => d.parameters.length)).getD 0) := ⟨gw_t 1688 (by rfl) (by rfl), gw_t 1690 (by rfl) (by rfl), gw_p 71 (by rfl) (by rfl), gw_t 9 (by rfl) (by rfl), k_yX8_talks, by decide +kernel, by decide +kernel, _, _, rfl⟩
set_option maxRecDepth 100000 in
theorem mvX8_320 : MV RX8 320 8 yX8_saysIt cX8_saysIt 8 none (((parseMethodDescriptor "(II)V").map (fun d => d.parameters.length)).getD 0) := ⟨gw_t 1692 (by rfl) (by rfl), gw_t 1694 (by rfl) (by rfl), gw_p 72 (by rfl) (by rfl), gw_t 9 (by rfl) (by rfl), k_yX8_saysIt, by decide +kernel, by decide +kernel, _, _, rfl⟩
set_option maxRecDepth 100000 in
theorem mvX8_285 : MV RX8 285 8 yX8_orderOf cX8_orderOf 5 (some .int) (((parseMethodDescriptor "(I)I").map (fun d => d.parameters.length)).getD 0) := ⟨gw_t 1696 (by rfl) (by rfl), gw_t 1698 (by rfl) (by rfl), gw_p 73 (by rfl) (by rfl), gw_t 9 (by rfl) (by rfl), k_yX8_orderOf, by decide +kernel, by decide +kernel, _, _, rfl⟩
set_option maxRecDepth 100000 in
theorem mvX8_279 : MV RX8 279 8 yX8_draw cX8_draw 3 (some .int) (((parseMethodDescriptor "(II)I").map (fun d => d.parameters.length)).getD 0) := ⟨gw_t 1700 (by rfl) (by rfl), gw_t 1702 (by rfl) (by rfl), gw_p 74 (by rfl) (by rfl), gw_t 9 (by rfl) (by rfl), k_yX8_draw, by decide +kernel, by decide +kernel, _, _, rfl⟩
set_option maxRecDepth 100000 in
theorem msX8_294 : MS RX8 294 yX8_concept cX8_concept 2 (some .int) (((parseMethodDescriptor "(II)I").map (fun d => d.parameters.length)).getD 0) := ⟨gw_t 1707 (by rfl) (by rfl), gw_t 1708 (by rfl) (by rfl), gw_t 9 (by rfl) (by rfl), k_yX8_concept, by decide +kernel, by decide +kernel⟩
set_option maxRecDepth 100000 in
theorem mvX8_297 : MV RX8 297 8 yX8_signOf cX8_signOf 6 (some .int) (((parseMethodDescriptor "(II)I").map (fun d => d.parameters.length)).getD 0) := ⟨gw_t 1710 (by rfl) (by rfl), gw_t 1712 (by rfl) (by rfl), gw_p 75 (by rfl) (by rfl), gw_t 9 (by rfl) (by rfl), k_yX8_signOf, by decide +kernel, by decide +kernel, _, _, rfl⟩
set_option maxRecDepth 100000 in
theorem mvX8_303 : MV RX8 303 8 yX8_weightSeen cX8_weightSeen 7 (some .int) (((parseMethodDescriptor "(IIII)I").map (fun d => d.parameters.length)).getD 0) := ⟨gw_t 1714 (by rfl) (by rfl), gw_t 1716 (by rfl) (by rfl), gw_p 76 (by rfl) (by rfl), gw_t 9 (by rfl) (by rfl), k_yX8_weightSeen, by decide +kernel, by decide +kernel, _, _, rfl⟩
set_option maxRecDepth 100000 in
theorem mvX8_282 : MV RX8 282 8 yX8_isWorn cX8_isWorn 3 (some .boolean) (((parseMethodDescriptor "(II)Z").map (fun d => d.parameters.length)).getD 0) := ⟨gw_t 1718 (by rfl) (by rfl), gw_t 1720 (by rfl) (by rfl), gw_p 77 (by rfl) (by rfl), gw_t 9 (by rfl) (by rfl), k_yX8_isWorn, by decide +kernel, by decide +kernel, _, _, rfl⟩
set_option maxRecDepth 100000 in
theorem mvX8_323 : MV RX8 323 8 yX8_learns cX8_learns 10 none (((parseMethodDescriptor "(II)V").map (fun d => d.parameters.length)).getD 0) := ⟨gw_t 1722 (by rfl) (by rfl), gw_t 1724 (by rfl) (by rfl), gw_p 78 (by rfl) (by rfl), gw_t 9 (by rfl) (by rfl), k_yX8_learns, by decide +kernel, by decide +kernel, _, _, rfl⟩
set_option maxRecDepth 100000 in
theorem mvX8_314 : MV RX8 314 8 yX8_seenAs cX8_seenAs 3 (some .int) (((parseMethodDescriptor "(II)I").map (fun d => d.parameters.length)).getD 0) := ⟨gw_t 1726 (by rfl) (by rfl), gw_t 1728 (by rfl) (by rfl), gw_p 79 (by rfl) (by rfl), gw_t 9 (by rfl) (by rfl), k_yX8_seenAs, by decide +kernel, by decide +kernel, _, _, rfl⟩
set_option maxRecDepth 100000 in
theorem mvL_202 : MV RL 202 8 yX8_run cX8_run 4 (some .int) (((parseMethodDescriptor "(II)I").map (fun d => d.parameters.length)).getD 0) := ⟨gw_t 1730 (by rfl) (by rfl), gw_t 1731 (by rfl) (by rfl), gw_t 1732 (by rfl) (by rfl), gw_t 9 (by rfl) (by rfl), k_yX8_run, by decide +kernel, by decide +kernel, _, _, rfl⟩
set_option maxRecDepth 100000 in
theorem mvX8_344 : MV RX8 344 8 yX8_findHere cX8_findHere 3 none (((parseMethodDescriptor "(I)V").map (fun d => d.parameters.length)).getD 0) := ⟨gw_t 1734 (by rfl) (by rfl), gw_t 1736 (by rfl) (by rfl), gw_p 80 (by rfl) (by rfl), gw_t 9 (by rfl) (by rfl), k_yX8_findHere, by decide +kernel, by decide +kernel, _, _, rfl⟩
set_option maxRecDepth 100000 in
theorem mvX8_347 : MV RX8 347 8 yX8_draws cX8_draws 4 none (((parseMethodDescriptor "()V").map (fun d => d.parameters.length)).getD 0) := ⟨gw_t 1738 (by rfl) (by rfl), gw_t 1740 (by rfl) (by rfl), gw_p 81 (by rfl) (by rfl), gw_t 9 (by rfl) (by rfl), k_yX8_draws, by decide +kernel, by decide +kernel, _, _, rfl⟩
set_option maxRecDepth 100000 in
theorem mvL_205 : MV RL 205 8 yX8_note cX8_note 3 (some .int) (((parseMethodDescriptor "(II)I").map (fun d => d.parameters.length)).getD 0) := ⟨gw_t 1742 (by rfl) (by rfl), gw_t 1743 (by rfl) (by rfl), gw_t 1744 (by rfl) (by rfl), gw_t 9 (by rfl) (by rfl), k_yX8_note, by decide +kernel, by decide +kernel, _, _, rfl⟩
set_option maxRecDepth 100000 in
theorem mvL_209 : MV RL 209 8 yX8_share cX8_share 9 (some .int) (((parseMethodDescriptor "(IIIZ)I").map (fun d => d.parameters.length)).getD 0) := ⟨gw_t 1746 (by rfl) (by rfl), gw_t 1747 (by rfl) (by rfl), gw_t 1748 (by rfl) (by rfl), gw_t 9 (by rfl) (by rfl), k_yX8_share, by decide +kernel, by decide +kernel, _, _, rfl⟩
set_option maxRecDepth 100000 in
theorem msX8_350 : MS RX8 350 yX8_isKind cX8_isKind 1 (some .boolean) (((parseMethodDescriptor "(I)Z").map (fun d => d.parameters.length)).getD 0) := ⟨gw_t 1750 (by rfl) (by rfl), gw_t 1751 (by rfl) (by rfl), gw_t 9 (by rfl) (by rfl), k_yX8_isKind, by decide +kernel, by decide +kernel⟩
set_option maxRecDepth 100000 in
theorem mvL_212 : MV RL 212 8 yX8_held cX8_held 3 (some .int) (((parseMethodDescriptor "(II)I").map (fun d => d.parameters.length)).getD 0) := ⟨gw_t 1753 (by rfl) (by rfl), gw_t 1754 (by rfl) (by rfl), gw_t 1755 (by rfl) (by rfl), gw_t 9 (by rfl) (by rfl), k_yX8_held, by decide +kernel, by decide +kernel, _, _, rfl⟩
set_option maxRecDepth 100000 in
theorem mvX8_353 : MV RX8 353 8 yX8_heldIn cX8_heldIn 5 (some .int) (((parseMethodDescriptor "(II)I").map (fun d => d.parameters.length)).getD 0) := ⟨gw_t 1757 (by rfl) (by rfl), gw_t 1759 (by rfl) (by rfl), gw_p 82 (by rfl) (by rfl), gw_t 9 (by rfl) (by rfl), k_yX8_heldIn, by decide +kernel, by decide +kernel, _, _, rfl⟩
set_option maxRecDepth 100000 in
theorem mvL_215 : MV RL 215 8 yX8_first cX8_first 3 (some .int) (((parseMethodDescriptor "(II)I").map (fun d => d.parameters.length)).getD 0) := ⟨gw_t 1761 (by rfl) (by rfl), gw_t 1762 (by rfl) (by rfl), gw_t 1763 (by rfl) (by rfl), gw_t 9 (by rfl) (by rfl), k_yX8_first, by decide +kernel, by decide +kernel, _, _, rfl⟩
set_option maxRecDepth 100000 in
theorem mvL_218 : MV RL 218 8 yX8_back cX8_back 6 (some .int) (((parseMethodDescriptor "(III)I").map (fun d => d.parameters.length)).getD 0) := ⟨gw_t 1765 (by rfl) (by rfl), gw_t 1766 (by rfl) (by rfl), gw_t 1767 (by rfl) (by rfl), gw_t 9 (by rfl) (by rfl), k_yX8_back, by decide +kernel, by decide +kernel, _, _, rfl⟩
set_option maxRecDepth 100000 in
theorem mvL_221 : MV RL 221 8 yX8_uses cX8_uses 3 (some .int) (((parseMethodDescriptor "(II)I").map (fun d => d.parameters.length)).getD 0) := ⟨gw_t 1769 (by rfl) (by rfl), gw_t 1770 (by rfl) (by rfl), gw_t 1771 (by rfl) (by rfl), gw_t 9 (by rfl) (by rfl), k_yX8_uses, by decide +kernel, by decide +kernel, _, _, rfl⟩
set_option maxRecDepth 100000 in
theorem mvL_224 : MV RL 224 8 yX8_seen cX8_seen 3 (some .int) (((parseMethodDescriptor "(II)I").map (fun d => d.parameters.length)).getD 0) := ⟨gw_t 1773 (by rfl) (by rfl), gw_t 1774 (by rfl) (by rfl), gw_t 1775 (by rfl) (by rfl), gw_t 9 (by rfl) (by rfl), k_yX8_seen, by decide +kernel, by decide +kernel, _, _, rfl⟩
set_option maxRecDepth 100000 in
theorem mvL_228 : MV RL 228 8 yX8_film cX8_film 2 (some .int) (((parseMethodDescriptor "()I").map (fun d => d.parameters.length)).getD 0) := ⟨gw_t 1777 (by rfl) (by rfl), gw_t 1778 (by rfl) (by rfl), gw_t 1779 (by rfl) (by rfl), gw_t 9 (by rfl) (by rfl), k_yX8_film, by decide +kernel, by decide +kernel, _, _, rfl⟩
set_option maxRecDepth 100000 in
theorem mvL_232 : MV RL 232 8 yX8_end cX8_end 2 (some .int) (((parseMethodDescriptor "()I").map (fun d => d.parameters.length)).getD 0) := ⟨gw_t 1781 (by rfl) (by rfl), gw_t 1782 (by rfl) (by rfl), gw_t 1783 (by rfl) (by rfl), gw_t 9 (by rfl) (by rfl), k_yX8_end, by decide +kernel, by decide +kernel, _, _, rfl⟩
set_option maxRecDepth 100000 in
theorem mvL_235 : MV RL 235 8 yX8_gap cX8_gap 3 (some .int) (((parseMethodDescriptor "(II)I").map (fun d => d.parameters.length)).getD 0) := ⟨gw_t 1785 (by rfl) (by rfl), gw_t 1786 (by rfl) (by rfl), gw_t 1787 (by rfl) (by rfl), gw_t 9 (by rfl) (by rfl), k_yX8_gap, by decide +kernel, by decide +kernel, _, _, rfl⟩
set_option maxRecDepth 100000 in
theorem mvX8_359 : MV RX8 359 8 yX8_isFilm cX8_isFilm 2 (some .boolean) (((parseMethodDescriptor "(I)Z").map (fun d => d.parameters.length)).getD 0) := ⟨gw_t 1789 (by rfl) (by rfl), gw_t 1791 (by rfl) (by rfl), gw_p 83 (by rfl) (by rfl), gw_t 9 (by rfl) (by rfl), k_yX8_isFilm, by decide +kernel, by decide +kernel, _, _, rfl⟩
set_option maxRecDepth 100000 in
theorem mvL_238 : MV RL 238 8 yX8_fits cX8_fits 3 (some .int) (((parseMethodDescriptor "(II)I").map (fun d => d.parameters.length)).getD 0) := ⟨gw_t 1793 (by rfl) (by rfl), gw_t 1794 (by rfl) (by rfl), gw_t 1795 (by rfl) (by rfl), gw_t 9 (by rfl) (by rfl), k_yX8_fits, by decide +kernel, by decide +kernel, _, _, rfl⟩
set_option maxRecDepth 100000 in
theorem mvX8_362 : MV RX8 362 8 yX8_fitting cX8_fitting 7 (some .int) (((parseMethodDescriptor "(II)I").map (fun d => d.parameters.length)).getD 0) := ⟨gw_t 1797 (by rfl) (by rfl), gw_t 1799 (by rfl) (by rfl), gw_p 84 (by rfl) (by rfl), gw_t 9 (by rfl) (by rfl), k_yX8_fitting, by decide +kernel, by decide +kernel, _, _, rfl⟩
set_option maxRecDepth 100000 in
theorem mvL_242 : MV RL 242 8 yX8_read cX8_read 5 (some .int) (((parseMethodDescriptor "()I").map (fun d => d.parameters.length)).getD 0) := ⟨gw_t 1801 (by rfl) (by rfl), gw_t 1802 (by rfl) (by rfl), gw_t 1803 (by rfl) (by rfl), gw_t 9 (by rfl) (by rfl), k_yX8_read, by decide +kernel, by decide +kernel, _, _, rfl⟩
set_option maxRecDepth 100000 in
theorem mvL_246 : MV RL 246 8 yX8_trial cX8_trial 5 (some .int) (((parseMethodDescriptor "(IIII)I").map (fun d => d.parameters.length)).getD 0) := ⟨gw_t 1805 (by rfl) (by rfl), gw_t 1806 (by rfl) (by rfl), gw_t 1807 (by rfl) (by rfl), gw_t 9 (by rfl) (by rfl), k_yX8_trial, by decide +kernel, by decide +kernel, _, _, rfl⟩
set_option maxRecDepth 100000 in
theorem mvX8_371 : MV RX8 371 8 yX8_tryWith cX8_tryWith 6 (some .int) (((parseMethodDescriptor "(IIII)I").map (fun d => d.parameters.length)).getD 0) := ⟨gw_t 1809 (by rfl) (by rfl), gw_t 1811 (by rfl) (by rfl), gw_p 85 (by rfl) (by rfl), gw_t 9 (by rfl) (by rfl), k_yX8_tryWith, by decide +kernel, by decide +kernel, _, _, rfl⟩
set_option maxRecDepth 100000 in
theorem mvX8_365 : MV RX8 365 8 yX8_begins cX8_begins 2 none (((parseMethodDescriptor "()V").map (fun d => d.parameters.length)).getD 0) := ⟨gw_t 1813 (by rfl) (by rfl), gw_t 1815 (by rfl) (by rfl), gw_p 86 (by rfl) (by rfl), gw_t 9 (by rfl) (by rfl), k_yX8_begins, by decide +kernel, by decide +kernel, _, _, rfl⟩
set_option maxRecDepth 100000 in
theorem mvX8_368 : MV RX8 368 8 yX8_tries cX8_tries 4 none (((parseMethodDescriptor "(II)V").map (fun d => d.parameters.length)).getD 0) := ⟨gw_t 1817 (by rfl) (by rfl), gw_t 1819 (by rfl) (by rfl), gw_p 87 (by rfl) (by rfl), gw_t 9 (by rfl) (by rfl), k_yX8_tries, by decide +kernel, by decide +kernel, _, _, rfl⟩
set_option maxRecDepth 100000 in
theorem mvL_249 : MV RL 249 8 yX8_fewest cX8_fewest 8 (some .int) (((parseMethodDescriptor "(IIII)I").map (fun d => d.parameters.length)).getD 0) := ⟨gw_t 1821 (by rfl) (by rfl), gw_t 1822 (by rfl) (by rfl), gw_t 1823 (by rfl) (by rfl), gw_t 9 (by rfl) (by rfl), k_yX8_fewest, by decide +kernel, by decide +kernel, _, _, rfl⟩
set_option maxRecDepth 100000 in
theorem msX8_374 : MS RX8 374 yX8_isRun cX8_isRun 3 (some .boolean) (((parseMethodDescriptor "(III)Z").map (fun d => d.parameters.length)).getD 0) := ⟨gw_t 1825 (by rfl) (by rfl), gw_t 1826 (by rfl) (by rfl), gw_t 9 (by rfl) (by rfl), k_yX8_isRun, by decide +kernel, by decide +kernel⟩
set_option maxRecDepth 100000 in
theorem mvL_252 : MV RL 252 8 yX8_needed cX8_needed 8 (some .int) (((parseMethodDescriptor "(III)I").map (fun d => d.parameters.length)).getD 0) := ⟨gw_t 1828 (by rfl) (by rfl), gw_t 1829 (by rfl) (by rfl), gw_t 1830 (by rfl) (by rfl), gw_t 9 (by rfl) (by rfl), k_yX8_needed, by decide +kernel, by decide +kernel, _, _, rfl⟩
set_option maxRecDepth 100000 in
theorem mvL_255 : MV RL 255 8 yX8_unlike cX8_unlike 3 (some .int) (((parseMethodDescriptor "(II)I").map (fun d => d.parameters.length)).getD 0) := ⟨gw_t 1832 (by rfl) (by rfl), gw_t 1833 (by rfl) (by rfl), gw_t 1834 (by rfl) (by rfl), gw_t 9 (by rfl) (by rfl), k_yX8_unlike, by decide +kernel, by decide +kernel, _, _, rfl⟩
set_option maxRecDepth 100000 in
theorem mvX8_377 : MV RX8 377 8 yX8_unlikeOf cX8_unlikeOf 5 (some .int) (((parseMethodDescriptor "(II)I").map (fun d => d.parameters.length)).getD 0) := ⟨gw_t 1836 (by rfl) (by rfl), gw_t 1838 (by rfl) (by rfl), gw_p 88 (by rfl) (by rfl), gw_t 9 (by rfl) (by rfl), k_yX8_unlikeOf, by decide +kernel, by decide +kernel, _, _, rfl⟩
set_option maxRecDepth 100000 in
theorem mvX8_380 : MV RX8 380 8 yX8_greatest cX8_greatest 8 (some .int) (((parseMethodDescriptor "(II)I").map (fun d => d.parameters.length)).getD 0) := ⟨gw_t 1840 (by rfl) (by rfl), gw_t 1842 (by rfl) (by rfl), gw_p 89 (by rfl) (by rfl), gw_t 9 (by rfl) (by rfl), k_yX8_greatest, by decide +kernel, by decide +kernel, _, _, rfl⟩
set_option maxRecDepth 100000 in
theorem mvL_258 : MV RL 258 8 yX8_meets cX8_meets 5 (some .int) (((parseMethodDescriptor "(II)I").map (fun d => d.parameters.length)).getD 0) := ⟨gw_t 1844 (by rfl) (by rfl), gw_t 1845 (by rfl) (by rfl), gw_t 1846 (by rfl) (by rfl), gw_t 9 (by rfl) (by rfl), k_yX8_meets, by decide +kernel, by decide +kernel, _, _, rfl⟩
set_option maxRecDepth 100000 in
theorem mvL_269 : MV RL 269 8 yX8_plain cX8_plain 8 (some .int) (((parseMethodDescriptor "(I)I").map (fun d => d.parameters.length)).getD 0) := ⟨gw_t 1848 (by rfl) (by rfl), gw_t 1849 (by rfl) (by rfl), gw_t 1850 (by rfl) (by rfl), gw_t 9 (by rfl) (by rfl), k_yX8_plain, by decide +kernel, by decide +kernel, _, _, rfl⟩
set_option maxRecDepth 100000 in
theorem mvX8_383 : MV RX8 383 8 yX8_heaviest cX8_heaviest 5 (some .int) (((parseMethodDescriptor "(II)I").map (fun d => d.parameters.length)).getD 0) := ⟨gw_t 1852 (by rfl) (by rfl), gw_t 1854 (by rfl) (by rfl), gw_p 90 (by rfl) (by rfl), gw_t 9 (by rfl) (by rfl), k_yX8_heaviest, by decide +kernel, by decide +kernel, _, _, rfl⟩
set_option maxRecDepth 100000 in
theorem mvL_272 : MV RL 272 8 yX8_word_ cX8_word_ 3 (some .int) (((parseMethodDescriptor "(II)I").map (fun d => d.parameters.length)).getD 0) := ⟨gw_t 1856 (by rfl) (by rfl), gw_t 1857 (by rfl) (by rfl), gw_t 1858 (by rfl) (by rfl), gw_t 9 (by rfl) (by rfl), k_yX8_word_, by decide +kernel, by decide +kernel, _, _, rfl⟩
set_option maxRecDepth 100000 in
theorem mvL_275 : MV RL 275 8 yX8_blurred cX8_blurred 6 (some .int) (((parseMethodDescriptor "(II)I").map (fun d => d.parameters.length)).getD 0) := ⟨gw_t 1860 (by rfl) (by rfl), gw_t 1861 (by rfl) (by rfl), gw_t 1862 (by rfl) (by rfl), gw_t 9 (by rfl) (by rfl), k_yX8_blurred, by decide +kernel, by decide +kernel, _, _, rfl⟩
set_option maxRecDepth 100000 in
theorem mvL_278 : MV RL 278 8 yX8_nearest cX8_nearest 6 (some .int) (((parseMethodDescriptor "(I)I").map (fun d => d.parameters.length)).getD 0) := ⟨gw_t 1864 (by rfl) (by rfl), gw_t 1865 (by rfl) (by rfl), gw_t 1866 (by rfl) (by rfl), gw_t 9 (by rfl) (by rfl), k_yX8_nearest, by decide +kernel, by decide +kernel, _, _, rfl⟩
set_option maxRecDepth 100000 in
theorem mvL_281 : MV RL 281 8 yX8_since cX8_since 3 (some .int) (((parseMethodDescriptor "(II)I").map (fun d => d.parameters.length)).getD 0) := ⟨gw_t 1868 (by rfl) (by rfl), gw_t 1869 (by rfl) (by rfl), gw_t 1870 (by rfl) (by rfl), gw_t 9 (by rfl) (by rfl), k_yX8_since, by decide +kernel, by decide +kernel, _, _, rfl⟩
set_option maxRecDepth 100000 in
theorem mvL_284 : MV RL 284 8 yX8_taught cX8_taught 3 (some .int) (((parseMethodDescriptor "(II)I").map (fun d => d.parameters.length)).getD 0) := ⟨gw_t 1872 (by rfl) (by rfl), gw_t 1873 (by rfl) (by rfl), gw_t 1874 (by rfl) (by rfl), gw_t 9 (by rfl) (by rfl), k_yX8_taught, by decide +kernel, by decide +kernel, _, _, rfl⟩
set_option maxRecDepth 100000 in
theorem mvX8_386 : MV RX8 386 8 yX8_teacherOf cX8_teacherOf 5 (some .int) (((parseMethodDescriptor "(II)I").map (fun d => d.parameters.length)).getD 0) := ⟨gw_t 1876 (by rfl) (by rfl), gw_t 1878 (by rfl) (by rfl), gw_p 91 (by rfl) (by rfl), gw_t 9 (by rfl) (by rfl), k_yX8_teacherOf, by decide +kernel, by decide +kernel, _, _, rfl⟩
set_option maxRecDepth 100000 in
theorem mvL_287 : MV RL 287 8 yX8_root cX8_root 6 (some .int) (((parseMethodDescriptor "(II)I").map (fun d => d.parameters.length)).getD 0) := ⟨gw_t 1880 (by rfl) (by rfl), gw_t 1881 (by rfl) (by rfl), gw_t 1882 (by rfl) (by rfl), gw_t 9 (by rfl) (by rfl), k_yX8_root, by decide +kernel, by decide +kernel, _, _, rfl⟩
set_option maxRecDepth 100000 in
theorem mvL_290 : MV RL 290 8 yX8_untaught cX8_untaught 5 (some .int) (((parseMethodDescriptor "(III)I").map (fun d => d.parameters.length)).getD 0) := ⟨gw_t 1884 (by rfl) (by rfl), gw_t 1885 (by rfl) (by rfl), gw_t 1886 (by rfl) (by rfl), gw_t 9 (by rfl) (by rfl), k_yX8_untaught, by decide +kernel, by decide +kernel, _, _, rfl⟩
set_option maxRecDepth 100000 in
theorem mvL_293 : MV RL 293 8 yX8_odds cX8_odds 8 (some .int) (((parseMethodDescriptor "(IIII)I").map (fun d => d.parameters.length)).getD 0) := ⟨gw_t 1888 (by rfl) (by rfl), gw_t 1889 (by rfl) (by rfl), gw_t 1890 (by rfl) (by rfl), gw_t 9 (by rfl) (by rfl), k_yX8_odds, by decide +kernel, by decide +kernel, _, _, rfl⟩
set_option maxRecDepth 100000 in
theorem mvL_296 : MV RL 296 8 yX8_right cX8_right 8 (some .int) (((parseMethodDescriptor "(III)I").map (fun d => d.parameters.length)).getD 0) := ⟨gw_t 1892 (by rfl) (by rfl), gw_t 1893 (by rfl) (by rfl), gw_t 1894 (by rfl) (by rfl), gw_t 9 (by rfl) (by rfl), k_yX8_right, by decide +kernel, by decide +kernel, _, _, rfl⟩
set_option maxRecDepth 100000 in
theorem mvL_262 : MV RL 262 8 yX8_image cX8_image 2 (some .int) (((parseMethodDescriptor "()I").map (fun d => d.parameters.length)).getD 0) := ⟨gw_t 1896 (by rfl) (by rfl), gw_t 1897 (by rfl) (by rfl), gw_t 1898 (by rfl) (by rfl), gw_t 9 (by rfl) (by rfl), k_yX8_image, by decide +kernel, by decide +kernel, _, _, rfl⟩
set_option maxRecDepth 100000 in
theorem mvL_266 : MV RL 266 8 yX8_restore cX8_restore 2 (some .int) (((parseMethodDescriptor "()I").map (fun d => d.parameters.length)).getD 0) := ⟨gw_t 1900 (by rfl) (by rfl), gw_t 1901 (by rfl) (by rfl), gw_t 1902 (by rfl) (by rfl), gw_t 9 (by rfl) (by rfl), k_yX8_restore, by decide +kernel, by decide +kernel, _, _, rfl⟩
set_option maxRecDepth 100000 in
theorem mvL_300 : MV RL 300 8 yX8_count cX8_count 4 (some .int) (((parseMethodDescriptor "(I)I").map (fun d => d.parameters.length)).getD 0) := ⟨gw_t 1904 (by rfl) (by rfl), gw_t 1905 (by rfl) (by rfl), gw_t 1906 (by rfl) (by rfl), gw_t 9 (by rfl) (by rfl), k_yX8_count, by decide +kernel, by decide +kernel, _, _, rfl⟩
set_option maxRecDepth 100000 in
theorem mnX5_89 : MN RX5 89 yX7_roleAt "YardTalk" cX7_roleAt 2 (some .int) (((parseMethodDescriptor "(II)I").map (fun d => d.parameters.length)).getD 0) := ⟨by decide +kernel, gw_t 461 (by rfl) (by rfl), gw_t 1 (by rfl) (by rfl), k_yX7_roleAt, by decide +kernel, by decide +kernel⟩
set_option maxRecDepth 100000 in
theorem mnX5_92 : MN RX5 92 yX7_conceptOf "YardTalk" cX7_conceptOf 2 (some .int) (((parseMethodDescriptor "(II)I").map (fun d => d.parameters.length)).getD 0) := ⟨by decide +kernel, gw_t 466 (by rfl) (by rfl), gw_t 1 (by rfl) (by rfl), k_yX7_conceptOf, by decide +kernel, by decide +kernel⟩
set_option maxRecDepth 100000 in
theorem mnX6_83 : MN RX6 83 yX7_signIndex "YardTalk" cX7_signIndex 3 (some .int) (((parseMethodDescriptor "(III)I").map (fun d => d.parameters.length)).getD 0) := ⟨by decide +kernel, gw_t 477 (by rfl) (by rfl), gw_t 1 (by rfl) (by rfl), k_yX7_signIndex, by decide +kernel, by decide +kernel⟩
set_option maxRecDepth 100000 in
theorem mnX5_127 : MN RX5 127 yX7_signIndex "YardTalk" cX7_signIndex 3 (some .int) (((parseMethodDescriptor "(III)I").map (fun d => d.parameters.length)).getD 0) := ⟨by decide +kernel, gw_t 477 (by rfl) (by rfl), gw_t 1 (by rfl) (by rfl), k_yX7_signIndex, by decide +kernel, by decide +kernel⟩
set_option maxRecDepth 100000 in
theorem mnX4_74 : MN RX4 74 yX7_keepInBounds "YardTalk" cX7_keepInBounds 1 (some .int) (((parseMethodDescriptor "(I)I").map (fun d => d.parameters.length)).getD 0) := ⟨by decide +kernel, gw_t 538 (by rfl) (by rfl), gw_t 1 (by rfl) (by rfl), k_yX7_keepInBounds, by decide +kernel, by decide +kernel⟩
set_option maxRecDepth 100000 in
theorem mnX6_109 : MN RX6 109 yX7_keepInBounds "YardTalk" cX7_keepInBounds 1 (some .int) (((parseMethodDescriptor "(I)I").map (fun d => d.parameters.length)).getD 0) := ⟨by decide +kernel, gw_t 538 (by rfl) (by rfl), gw_t 1 (by rfl) (by rfl), k_yX7_keepInBounds, by decide +kernel, by decide +kernel⟩
set_option maxRecDepth 100000 in
theorem in_YardTalkLaw : Cond.initialized "YardTalkLaw" ∈ gw := gw_t 0 (by rfl) (by rfl)
set_option maxRecDepth 100000 in
theorem in_YardTalk : Cond.initialized "YardTalk" ∈ gw := gw_t 1 (by rfl) (by rfl)
set_option maxRecDepth 100000 in
theorem in_YardTalk_World : Cond.initialized "YardTalk$World" ∈ gw := gw_t 2 (by rfl) (by rfl)
set_option maxRecDepth 100000 in
theorem in_YardTalk_Notes : Cond.initialized "YardTalk$Notes" ∈ gw := gw_t 3 (by rfl) (by rfl)
set_option maxRecDepth 100000 in
theorem in_YardTalk_Speech : Cond.initialized "YardTalk$Speech" ∈ gw := gw_t 4 (by rfl) (by rfl)
set_option maxRecDepth 100000 in
theorem in_YardTalk_Ruling : Cond.initialized "YardTalk$Ruling" ∈ gw := gw_t 5 (by rfl) (by rfl)
set_option maxRecDepth 100000 in
theorem in_YardTalk_LawReader : Cond.initialized "YardTalk$LawReader" ∈ gw := gw_t 6 (by rfl) (by rfl)
set_option maxRecDepth 100000 in
theorem in_YardTalk_Film : Cond.initialized "YardTalk$Film" ∈ gw := gw_t 7 (by rfl) (by rfl)
set_option maxRecDepth 100000 in
theorem in_YardTalk_Law : Cond.initialized "YardTalk$Law" ∈ gw := gw_t 8 (by rfl) (by rfl)
set_option maxRecDepth 100000 in
theorem in_YardTalkModel : Cond.initialized "YardTalkModel" ∈ gw := gw_t 9 (by rfl) (by rfl)
set_option maxRecDepth 100000 in
theorem in_java_lang_Throwable : Cond.initialized "java/lang/Throwable" ∈ gw := gw_t 10 (by rfl) (by rfl)
set_option maxRecDepth 100000 in
theorem in_java_lang_Exception : Cond.initialized "java/lang/Exception" ∈ gw := gw_t 11 (by rfl) (by rfl)
set_option maxRecDepth 100000 in
theorem in_java_lang_RuntimeException : Cond.initialized "java/lang/RuntimeException" ∈ gw := gw_t 12 (by rfl) (by rfl)
set_option maxRecDepth 100000 in
theorem in_java_lang_IllegalArgumentException : Cond.initialized "java/lang/IllegalArgumentException" ∈ gw := gw_t 13 (by rfl) (by rfl)
set_option maxRecDepth 100000 in
theorem in_java_util_NoSuchElementException : Cond.initialized "java/util/NoSuchElementException" ∈ gw := gw_t 14 (by rfl) (by rfl)
set_option maxRecDepth 100000 in
theorem in_java_lang_Math : Cond.initialized "java/lang/Math" ∈ gw := gw_t 15 (by rfl) (by rfl)
set_option maxRecDepth 100000 in
theorem in_java_lang_IllegalStateException : Cond.initialized "java/lang/IllegalStateException" ∈ gw := gw_t 16 (by rfl) (by rfl)
set_option maxRecDepth 100000 in
theorem in_java_lang_String : Cond.initialized "java/lang/String" ∈ gw := gw_t 17 (by rfl) (by rfl)
set_option maxRecDepth 100000 in
theorem in_java_lang_StringLatin1 : Cond.initialized "java/lang/StringLatin1" ∈ gw := gw_t 18 (by rfl) (by rfl)
set_option maxRecDepth 100000 in
theorem in_jdk_internal_util_Preconditions : Cond.initialized "jdk/internal/util/Preconditions" ∈ gw := gw_t 19 (by rfl) (by rfl)
set_option maxRecDepth 100000 in
theorem in_java_lang_StringUTF16 : Cond.initialized "java/lang/StringUTF16" ∈ gw := gw_t 20 (by rfl) (by rfl)
set_option maxRecDepth 100000 in
theorem in_java_lang_IndexOutOfBoundsException : Cond.initialized "java/lang/IndexOutOfBoundsException" ∈ gw := gw_t 21 (by rfl) (by rfl)
set_option maxRecDepth 100000 in
theorem in_java_lang_System : Cond.initialized "java/lang/System" ∈ gw := gw_t 22 (by rfl) (by rfl)
set_option maxRecDepth 100000 in
theorem clL_8 : Cond.classLink RL 8 "YardTalk" ∈ gw := gw_t 23 (by rfl) (by rfl)
set_option maxRecDepth 100000 in
theorem clX7_7 : Cond.classLink RX7 7 "YardTalk$World" ∈ gw := gw_t 31 (by rfl) (by rfl)
set_option maxRecDepth 100000 in
theorem clX7_23 : Cond.classLink RX7 23 "YardTalk$Film" ∈ gw := gw_t 118 (by rfl) (by rfl)
set_option maxRecDepth 100000 in
theorem clX7_29 : Cond.classLink RX7 29 "YardTalk$Law" ∈ gw := gw_t 120 (by rfl) (by rfl)
set_option maxRecDepth 100000 in
theorem clX7_35 : Cond.classLink RX7 35 "YardTalk$Notes" ∈ gw := gw_t 122 (by rfl) (by rfl)
set_option maxRecDepth 100000 in
theorem clX7_42 : Cond.classLink RX7 42 "YardTalk$Speech" ∈ gw := gw_t 148 (by rfl) (by rfl)
set_option maxRecDepth 100000 in
theorem clX7_49 : Cond.classLink RX7 49 "YardTalk$Ruling" ∈ gw := gw_t 198 (by rfl) (by rfl)
set_option maxRecDepth 100000 in
theorem clX7_56 : Cond.classLink RX7 56 "YardTalk$LawReader" ∈ gw := gw_t 217 (by rfl) (by rfl)
set_option maxRecDepth 100000 in
theorem clX0_9 : Cond.classLink RX0 9 "YardTalk$World" ∈ gw := gw_t 257 (by rfl) (by rfl)
set_option maxRecDepth 100000 in
theorem ctX6_70 : Jvm.Cond.constant RX6 70 1103515245 ∈ gw := gw_t 452 (by rfl) (by rfl)
set_option maxRecDepth 100000 in
theorem clL_13 : Cond.classLink RL 13 "java/lang/IllegalArgumentException" ∈ gw := gw_t 593 (by rfl) (by rfl)
set_option maxRecDepth 100000 in
theorem clX7_107 : Cond.classLink RX7 107 "java/lang/IllegalArgumentException" ∈ gw := gw_t 601 (by rfl) (by rfl)
set_option maxRecDepth 100000 in
theorem clL_19 : Cond.classLink RL 19 "java/util/NoSuchElementException" ∈ gw := gw_t 682 (by rfl) (by rfl)
set_option maxRecDepth 100000 in
theorem clX7_366 : Cond.classLink RX7 366 "java/util/NoSuchElementException" ∈ gw := gw_t 691 (by rfl) (by rfl)
set_option maxRecDepth 100000 in
theorem clL_45 : Cond.classLink RL 45 "java/lang/IllegalStateException" ∈ gw := gw_t 783 (by rfl) (by rfl)
set_option maxRecDepth 100000 in
theorem clX7_187 : Cond.classLink RX7 187 "java/lang/IllegalStateException" ∈ gw := gw_t 789 (by rfl) (by rfl)
set_option maxRecDepth 100000 in
theorem clL_53 : Cond.classLink RL 53 "java/lang/IndexOutOfBoundsException" ∈ gw := gw_t 979 (by rfl) (by rfl)
set_option maxRecDepth 100000 in
theorem clX7_243 : Cond.classLink RX7 243 "java/lang/IndexOutOfBoundsException" ∈ gw := gw_t 988 (by rfl) (by rfl)
set_option maxRecDepth 100000 in
theorem clL_137 : Cond.classLink RL 137 "YardTalkModel" ∈ gw := gw_t 1303 (by rfl) (by rfl)
set_option maxRecDepth 100000 in
theorem ctX8_227 : Jvm.Cond.constant RX8 227 12748366 ∈ gw := gw_t 1599 (by rfl) (by rfl)
set_option maxRecDepth 100000 in
theorem ctX8_228 : Jvm.Cond.constant RX8 228 16322738 ∈ gw := gw_t 1600 (by rfl) (by rfl)
set_option maxRecDepth 100000 in
theorem ctX8_229 : Jvm.Cond.constant RX8 229 409189 ∈ gw := gw_t 1601 (by rfl) (by rfl)
set_option maxRecDepth 100000 in
theorem ctX8_230 : Jvm.Cond.constant RX8 230 448116 ∈ gw := gw_t 1602 (by rfl) (by rfl)
set_option maxRecDepth 100000 in
theorem ctX8_204 : Jvm.Cond.constant RX8 204 12748404 ∈ gw := gw_t 1646 (by rfl) (by rfl)
set_option maxRecDepth 100000 in
theorem ctX8_205 : Jvm.Cond.constant RX8 205 441972 ∈ gw := gw_t 1647 (by rfl) (by rfl)
set_option maxRecDepth 100000 in
theorem ctX8_181 : Jvm.Cond.constant RX8 181 21239365 ∈ gw := gw_t 1651 (by rfl) (by rfl)
set_option maxRecDepth 100000 in
theorem ctX8_182 : Jvm.Cond.constant RX8 182 19176724 ∈ gw := gw_t 1652 (by rfl) (by rfl)
set_option maxRecDepth 100000 in
theorem ctX8_183 : Jvm.Cond.constant RX8 183 20201198 ∈ gw := gw_t 1653 (by rfl) (by rfl)
set_option maxRecDepth 100000 in
theorem ctX8_184 : Jvm.Cond.constant RX8 184 777297172 ∈ gw := gw_t 1654 (by rfl) (by rfl)
set_option maxRecDepth 100000 in
theorem ctX8_185 : Jvm.Cond.constant RX8 185 21016947 ∈ gw := gw_t 1655 (by rfl) (by rfl)
set_option maxRecDepth 100000 in
theorem ctX8_105 : Jvm.Cond.constant RX8 105 1103515245 ∈ gw := gw_t 1704 (by rfl) (by rfl)
set_option maxRecDepth 100000 in
theorem ac_st : Cond.static arraycopyName ∈ gw := gw_t 398 (by rfl) (by rfl)
set_option maxRecDepth 100000 in
theorem ac_nat : Cond.native arraycopyName ∈ gw := gw_t 399 (by rfl) (by rfl)
set_option maxRecDepth 100000 in
theorem mm_min_st : Cond.static Lib.Math.min.name ∈ gw := gw_t 541 (by rfl) (by rfl)
set_option maxRecDepth 100000 in
theorem mm_min_c : Cond.code Lib.Math.min.name Lib.Math.min.code 2 (some .int) ∈ gw := gw_t 542 (by rfl) (by rfl)
set_option maxRecDepth 100000 in
theorem mm_max_st : Cond.static Lib.Math.max.name ∈ gw := gw_t 544 (by rfl) (by rfl)
set_option maxRecDepth 100000 in
theorem mm_max_c : Cond.code Lib.Math.max.name Lib.Math.max.code 2 (some .int) ∈ gw := gw_t 545 (by rfl) (by rfl)

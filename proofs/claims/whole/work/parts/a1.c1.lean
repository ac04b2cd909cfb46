/-! THE LAW: its cases -/
section LawCases
variable {S : Sx} {k n : Nat} {g : Mm} {d : Nat} {l : Launch} {E : Ey} {n0 j : Nat} {xs : Nat → Int32} {a0 b0 : Option Value}
set_option maxRecDepth 10000 in
theorem lc_fault (hS : Kx S l E lay NC cL_law_ RL 7 d) (hd : 100 ≤ d) (hX : Sc S n0 xs) (hj : j + 6 ≤ n0) (hn0 : n0 ≤ 3072) (hk : k + 1 ≤ S.R.cells) (hn : n + 6 ≤ S.R.slots) (hI : Iv g) (h : ∀ (g' : Mm) (a b : Option Value) (k' n' : Nat), k' ≤ k + 1 → n' ≤ n + 6 → Iv g' → J S k' n' g' 3138 (lsL j a b) []) : J S k n g 1039 (lsL j a0 b0) [] := by
  refine J_aload_n hS dL_law__1039 rfl ?_
  refine J_callV0 (X' := fun _ _ => False) hS dL_law__1040 mvL_189 ob1 rfl (by omega) (by decide) (by decide) ⟨by omega, by omega⟩ (fun _ _ q => q.elim) (p_fault hI (fun v G hN => ?_))
  show J S k n G 1043 (lsL j a0 b0) [.int v]
  refine J_aload_n hS dL_law__1043 rfl ?_
  refine J_callV0 (X' := fun _ _ => False) (st := [.int v]) hS dL_law__1044 mvL_192 ob162 rfl (by omega) (by decide) (Nat.le_of_ble_eq_true rfl) ⟨by omega, by omega⟩ (fun _ _ q => q.elim) (hN _ _ (fun g' hI' => ?_))
  show J S k n g' 1047 (lsL j a0 b0) [.int v, .int v]
  exact J_icmp_eq (tgt := 3138) hS dL_law__1047 (by decide) (fun _ => h g' _ _ _ _ (by omega) (by omega) hI') (fun c => absurd rfl c)
set_option maxRecDepth 10000 in
theorem lc_force (hS : Kx S l E lay NC cL_law_ RL 7 d) (hd : 100 ≤ d) (hX : Sc S n0 xs) (hj : j + 6 ≤ n0) (hn0 : n0 ≤ 3072) (hk : k + 1 ≤ S.R.cells) (hn : n + 6 ≤ S.R.slots) (hI : Iv g) (h : ∀ (g' : Mm) (a b : Option Value) (k' n' : Nat), k' ≤ k + 1 → n' ≤ n + 6 → Iv g' → J S k' n' g' 3138 (lsL j a b) []) : J S k n g 1052 (lsL j a0 b0) [] := by
  refine J_aload_n hS dL_law__1052 rfl ?_
  refine J_arg hS hX 1 dL_law__1053 dL_law__1054 dL_law__1056 dL_law__1057 dL_law__1058 rfl rfl rfl (by omega) (by omega) ?_
  refine J_aload_n hS dL_law__1059 rfl ?_
  show J S k n g 1060 (lsL j a0 b0) (([.ref 1, .int (xs (j + 1)), .ref 219] : List Value).reverse ++ [])
  refine J_callSW (X' := fun _ _ => False) hS dL_law__1060 msw_force rfl (by omega) (by decide) (by decide) ⟨hk, hn⟩ (fun _ _ q => q.elim) (p_force hI (fun kk G hN => ?_))
  show J S (k + 1) (n + 6) G 1063 (lsL j a0 b0) [.int kk]
  refine J_istore (lt := fun z => lsL j (some (.int z)) b0) hS dL_law__1063 (Nat.le_of_ble_eq_true rfl) (fun _ => rfl) (fun z ez => ?_)
  subst ez
  refine J_aload_n hS dL_law__1065 rfl ?_
  refine J_arg hS hX 1 dL_law__1066 dL_law__1067 dL_law__1069 dL_law__1070 dL_law__1071 rfl rfl rfl (by omega) (by omega) ?_
  refine J_callV1 (X' := fun _ _ => False) hS dL_law__1072 mvL_195 ob162 rfl (by omega) (by decide) (by decide) ⟨hk, hn⟩ (fun _ _ q => q.elim) (hN _ _ (fun g' b hI' ht hb => ?_))
  show J S (k + 1) (n + 6) g' 1075 (lsL j (some (.int z)) b0) [.int b]
  refine J_istore (lt := fun v => lsL j (some (.int z)) (some (.int v))) hS dL_law__1075 (Nat.le_of_ble_eq_true rfl) (fun _ => rfl) (fun v ev => ?_)
  subst ev
  exact J_tail (pc := 1077) hS hd hk hn dL_law__1077 dL_law__1078 mvL_151 (by decide) dL_law__1081 dL_law__1083 (by decide) dL_law__1088 dL_law__1090 (by decide) dL_law__1093 dL_law__1094 dL_law__1095 dL_law__1096 dL_law__1098 dL_law__1099 dL_law__1100 (by decide) dL_law__1105 (by decide) ht hb (h g' _ _ _ _ (Nat.le_refl _) (Nat.le_refl _) hI')
set_option maxRecDepth 10000 in
theorem lc_talk (hS : Kx S l E lay NC cL_law_ RL 7 d) (hd : 100 ≤ d) (hX : Sc S n0 xs) (hj : j + 6 ≤ n0) (hn0 : n0 ≤ 3072) (hk : k + 1 ≤ S.R.cells) (hn : n + 6 ≤ S.R.slots) (hI : Iv g) (h : ∀ (g' : Mm) (a b : Option Value) (k' n' : Nat), k' ≤ k + 1 → n' ≤ n + 6 → Iv g' → J S k' n' g' 3138 (lsL j a b) []) : J S k n g 1108 (lsL j a0 b0) [] := by
  refine J_aload_n hS dL_law__1108 rfl ?_
  refine J_arg hS hX 1 dL_law__1109 dL_law__1110 dL_law__1112 dL_law__1113 dL_law__1114 rfl rfl rfl (by omega) (by omega) ?_
  refine J_arg hS hX 2 dL_law__1115 dL_law__1116 dL_law__1118 dL_law__1119 dL_law__1120 rfl rfl rfl (by omega) (by omega) ?_
  refine J_arg hS hX 3 dL_law__1121 dL_law__1122 dL_law__1124 dL_law__1125 dL_law__1126 rfl rfl rfl (by omega) (by omega) ?_
  refine J_arg hS hX 4 dL_law__1127 dL_law__1128 dL_law__1130 dL_law__1131 dL_law__1132 rfl rfl rfl (by omega) (by omega) ?_
  refine J_arg hS hX 5 dL_law__1133 dL_law__1134 dL_law__1136 dL_law__1137 dL_law__1138 rfl rfl rfl (by omega) (by omega) ?_
  refine J_aload_n hS dL_law__1139 rfl ?_
  show J S k n g 1140 (lsL j a0 b0) (([.ref 1, .int (xs (j + 1)), .int (xs (j + 2)), .int (xs (j + 3)), .int (xs (j + 4)), .int (xs (j + 5)), .ref 219] : List Value).reverse ++ [])
  refine J_callSW (X' := fun _ _ => False) hS dL_law__1140 msw_talk rfl (by omega) (by decide) (by decide) ⟨hk, hn⟩ (fun _ _ q => q.elim) (p_talk hI (fun kk G hN => ?_))
  show J S (k + 1) (n + 6) G 1143 (lsL j a0 b0) [.int kk]
  refine J_istore (lt := fun z => lsL j (some (.int z)) b0) hS dL_law__1143 (Nat.le_of_ble_eq_true rfl) (fun _ => rfl) (fun z ez => ?_)
  subst ez
  refine J_aload_n hS dL_law__1145 rfl ?_
  refine J_arg hS hX 1 dL_law__1146 dL_law__1147 dL_law__1149 dL_law__1150 dL_law__1151 rfl rfl rfl (by omega) (by omega) ?_
  refine J_arg hS hX 2 dL_law__1152 dL_law__1153 dL_law__1155 dL_law__1156 dL_law__1157 rfl rfl rfl (by omega) (by omega) ?_
  refine J_arg hS hX 3 dL_law__1158 dL_law__1159 dL_law__1161 dL_law__1162 dL_law__1163 rfl rfl rfl (by omega) (by omega) ?_
  refine J_arg hS hX 4 dL_law__1164 dL_law__1165 dL_law__1167 dL_law__1168 dL_law__1169 rfl rfl rfl (by omega) (by omega) ?_
  refine J_arg hS hX 5 dL_law__1170 dL_law__1171 dL_law__1173 dL_law__1174 dL_law__1175 rfl rfl rfl (by omega) (by omega) ?_
  refine J_callV5 (X' := fun _ _ => False) hS dL_law__1176 mvL_199 ob162 rfl (by omega) (by decide) (by decide) ⟨hk, hn⟩ (fun _ _ q => q.elim) (hN _ _ (fun g' b hI' ht hb => ?_))
  show J S (k + 1) (n + 6) g' 1179 (lsL j (some (.int z)) b0) [.int b]
  refine J_istore (lt := fun v => lsL j (some (.int z)) (some (.int v))) hS dL_law__1179 (Nat.le_of_ble_eq_true rfl) (fun _ => rfl) (fun v ev => ?_)
  subst ev
  exact J_tail (pc := 1181) hS hd hk hn dL_law__1181 dL_law__1182 mvL_151 (by decide) dL_law__1185 dL_law__1187 (by decide) dL_law__1192 dL_law__1194 (by decide) dL_law__1197 dL_law__1198 dL_law__1199 dL_law__1200 dL_law__1202 dL_law__1203 dL_law__1204 (by decide) dL_law__1209 (by decide) ht hb (h g' _ _ _ _ (Nat.le_refl _) (Nat.le_refl _) hI')
set_option maxRecDepth 10000 in
theorem lc_run (hS : Kx S l E lay NC cL_law_ RL 7 d) (hd : 100 ≤ d) (hX : Sc S n0 xs) (hj : j + 6 ≤ n0) (hn0 : n0 ≤ 3072) (hk : k + 1 ≤ S.R.cells) (hn : n + 6 ≤ S.R.slots) (hI : Iv g) (h : ∀ (g' : Mm) (a b : Option Value) (k' n' : Nat), k' ≤ k + 1 → n' ≤ n + 6 → Iv g' → J S k' n' g' 3138 (lsL j a b) []) : J S k n g 1212 (lsL j a0 b0) [] := by
  refine J_aload_n hS dL_law__1212 rfl ?_
  refine J_arg hS hX 1 dL_law__1213 dL_law__1214 dL_law__1216 dL_law__1217 dL_law__1218 rfl rfl rfl (by omega) (by omega) ?_
  refine J_arg hS hX 2 dL_law__1219 dL_law__1220 dL_law__1222 dL_law__1223 dL_law__1224 rfl rfl rfl (by omega) (by omega) ?_
  refine J_aload_n hS dL_law__1225 rfl ?_
  show J S k n g 1226 (lsL j a0 b0) (([.ref 1, .int (xs (j + 1)), .int (xs (j + 2)), .ref 219] : List Value).reverse ++ [])
  refine J_callSW (X' := fun _ _ => False) hS dL_law__1226 msw_run rfl (by omega) (by decide) (by decide) ⟨hk, hn⟩ (fun _ _ q => q.elim) (p_run hI (fun kk G hN => ?_))
  show J S (k + 1) (n + 6) G 1229 (lsL j a0 b0) [.int kk]
  refine J_istore (lt := fun z => lsL j (some (.int z)) b0) hS dL_law__1229 (Nat.le_of_ble_eq_true rfl) (fun _ => rfl) (fun z ez => ?_)
  subst ez
  refine J_aload_n hS dL_law__1231 rfl ?_
  refine J_arg hS hX 1 dL_law__1232 dL_law__1233 dL_law__1235 dL_law__1236 dL_law__1237 rfl rfl rfl (by omega) (by omega) ?_
  refine J_arg hS hX 2 dL_law__1238 dL_law__1239 dL_law__1241 dL_law__1242 dL_law__1243 rfl rfl rfl (by omega) (by omega) ?_
  refine J_callV2 (X' := fun _ _ => False) hS dL_law__1244 mvL_202 ob162 rfl (by omega) (by decide) (by decide) ⟨hk, hn⟩ (fun _ _ q => q.elim) (hN _ _ (fun g' b hI' ht hb => ?_))
  show J S (k + 1) (n + 6) g' 1247 (lsL j (some (.int z)) b0) [.int b]
  refine J_istore (lt := fun v => lsL j (some (.int z)) (some (.int v))) hS dL_law__1247 (Nat.le_of_ble_eq_true rfl) (fun _ => rfl) (fun v ev => ?_)
  subst ev
  exact J_tail (pc := 1249) hS hd hk hn dL_law__1249 dL_law__1250 mvL_151 (by decide) dL_law__1253 dL_law__1255 (by decide) dL_law__1260 dL_law__1262 (by decide) dL_law__1265 dL_law__1266 dL_law__1267 dL_law__1268 dL_law__1270 dL_law__1271 dL_law__1272 (by decide) dL_law__1277 (by decide) ht hb (h g' _ _ _ _ (Nat.le_refl _) (Nat.le_refl _) hI')
set_option maxRecDepth 10000 in
theorem lc_note (hS : Kx S l E lay NC cL_law_ RL 7 d) (hd : 100 ≤ d) (hX : Sc S n0 xs) (hj : j + 6 ≤ n0) (hn0 : n0 ≤ 3072) (hk : k + 1 ≤ S.R.cells) (hn : n + 6 ≤ S.R.slots) (hI : Iv g) (h : ∀ (g' : Mm) (a b : Option Value) (k' n' : Nat), k' ≤ k + 1 → n' ≤ n + 6 → Iv g' → J S k' n' g' 3138 (lsL j a b) []) : J S k n g 1280 (lsL j a0 b0) [] := by
  refine J_aload_n hS dL_law__1280 rfl ?_
  refine J_arg hS hX 1 dL_law__1281 dL_law__1282 dL_law__1284 dL_law__1285 dL_law__1286 rfl rfl rfl (by omega) (by omega) ?_
  refine J_arg hS hX 2 dL_law__1287 dL_law__1288 dL_law__1290 dL_law__1291 dL_law__1292 rfl rfl rfl (by omega) (by omega) ?_
  refine J_aload_n hS dL_law__1293 rfl ?_
  show J S k n g 1294 (lsL j a0 b0) (([.ref 1, .int (xs (j + 1)), .int (xs (j + 2)), .ref 219] : List Value).reverse ++ [])
  refine J_callSW (X' := fun _ _ => False) hS dL_law__1294 msw_note rfl (by omega) (by decide) (by decide) ⟨hk, hn⟩ (fun _ _ q => q.elim) (p_note hI (fun kk G hN => ?_))
  show J S (k + 1) (n + 6) G 1297 (lsL j a0 b0) [.int kk]
  refine J_istore (lt := fun z => lsL j (some (.int z)) b0) hS dL_law__1297 (Nat.le_of_ble_eq_true rfl) (fun _ => rfl) (fun z ez => ?_)
  subst ez
  refine J_aload_n hS dL_law__1299 rfl ?_
  refine J_arg hS hX 1 dL_law__1300 dL_law__1301 dL_law__1303 dL_law__1304 dL_law__1305 rfl rfl rfl (by omega) (by omega) ?_
  refine J_arg hS hX 2 dL_law__1306 dL_law__1307 dL_law__1309 dL_law__1310 dL_law__1311 rfl rfl rfl (by omega) (by omega) ?_
  refine J_callV2 (X' := fun _ _ => False) hS dL_law__1312 mvL_205 ob162 rfl (by omega) (by decide) (by decide) ⟨hk, hn⟩ (fun _ _ q => q.elim) (hN _ _ (fun g' b hI' ht hb => ?_))
  show J S (k + 1) (n + 6) g' 1315 (lsL j (some (.int z)) b0) [.int b]
  refine J_istore (lt := fun v => lsL j (some (.int z)) (some (.int v))) hS dL_law__1315 (Nat.le_of_ble_eq_true rfl) (fun _ => rfl) (fun v ev => ?_)
  subst ev
  exact J_tail (pc := 1317) hS hd hk hn dL_law__1317 dL_law__1318 mvL_151 (by decide) dL_law__1321 dL_law__1323 (by decide) dL_law__1328 dL_law__1330 (by decide) dL_law__1333 dL_law__1334 dL_law__1335 dL_law__1336 dL_law__1338 dL_law__1339 dL_law__1340 (by decide) dL_law__1345 (by decide) ht hb (h g' _ _ _ _ (Nat.le_refl _) (Nat.le_refl _) hI')
set_option maxRecDepth 10000 in
theorem lc_share (hS : Kx S l E lay NC cL_law_ RL 7 d) (hd : 100 ≤ d) (hX : Sc S n0 xs) (hj : j + 6 ≤ n0) (hn0 : n0 ≤ 3072) (hk : k + 1 ≤ S.R.cells) (hn : n + 6 ≤ S.R.slots) (hI : Iv g) (h : ∀ (g' : Mm) (a b : Option Value) (k' n' : Nat), k' ≤ k + 1 → n' ≤ n + 6 → Iv g' → J S k' n' g' 3138 (lsL j a b) []) : J S k n g 1348 (lsL j a0 b0) [] := by
  refine J_aload_n hS dL_law__1348 rfl ?_
  refine J_arg hS hX 1 dL_law__1349 dL_law__1350 dL_law__1352 dL_law__1353 dL_law__1354 rfl rfl rfl (by omega) (by omega) ?_
  refine J_arg hS hX 2 dL_law__1355 dL_law__1356 dL_law__1358 dL_law__1359 dL_law__1360 rfl rfl rfl (by omega) (by omega) ?_
  refine J_arg hS hX 3 dL_law__1361 dL_law__1362 dL_law__1364 dL_law__1365 dL_law__1366 rfl rfl rfl (by omega) (by omega) ?_
  refine J_arg hS hX 4 dL_law__1367 dL_law__1368 dL_law__1370 dL_law__1371 dL_law__1372 rfl rfl rfl (by omega) (by omega) ?_
  suffices H : ∀ t : Int32, t = (if xs (j + 4) = 0 then (0 : Int32) else 1) → J S k n g 1381 (lsL j a0 b0) (.int t :: [.int (xs (j + 3)), .int (xs (j + 2)), .int (xs (j + 1)), .ref 1]) by
    refine J_if_eq (tgt := 1380) hS dL_law__1373 (by decide) (fun c => ?_) (fun c => ?_)
    · exact J_iconst (v := 0) hS dL_law__1380 (by decide) (H 0 (by rw [if_pos c]))
    · exact J_iconst (v := 1) hS dL_law__1376 (by decide) (J_goto (tgt := 1381) hS dL_law__1377 (by decide) (H 1 (by rw [if_neg c])))
  intro t et
  refine J_aload_n hS dL_law__1381 rfl ?_
  show J S k n g 1382 (lsL j a0 b0) (([.ref 1, .int (xs (j + 1)), .int (xs (j + 2)), .int (xs (j + 3)), .int (t), .ref 219] : List Value).reverse ++ [])
  refine J_callSW (X' := fun _ _ => False) hS dL_law__1382 msw_share rfl (by omega) (by decide) (by decide) ⟨hk, hn⟩ (fun _ _ q => q.elim) (p_share hI (fun kk G hN => ?_))
  show J S (k + 1) (n + 6) G 1385 (lsL j a0 b0) [.int kk]
  refine J_istore (lt := fun z => lsL j (some (.int z)) b0) hS dL_law__1385 (Nat.le_of_ble_eq_true rfl) (fun _ => rfl) (fun z ez => ?_)
  subst ez
  refine J_aload_n hS dL_law__1387 rfl ?_
  refine J_arg hS hX 1 dL_law__1388 dL_law__1389 dL_law__1391 dL_law__1392 dL_law__1393 rfl rfl rfl (by omega) (by omega) ?_
  refine J_arg hS hX 2 dL_law__1394 dL_law__1395 dL_law__1397 dL_law__1398 dL_law__1399 rfl rfl rfl (by omega) (by omega) ?_
  refine J_arg hS hX 3 dL_law__1400 dL_law__1401 dL_law__1403 dL_law__1404 dL_law__1405 rfl rfl rfl (by omega) (by omega) ?_
  refine J_arg hS hX 4 dL_law__1406 dL_law__1407 dL_law__1409 dL_law__1410 dL_law__1411 rfl rfl rfl (by omega) (by omega) ?_
  suffices H : J S (k + 1) (n + 6) G 1420 (lsL j (some (.int z)) b0) (.int t :: [.int (xs (j + 3)), .int (xs (j + 2)), .int (xs (j + 1)), .ref 162]) by
    refine J_if_eq (tgt := 1419) hS dL_law__1412 (by decide) (fun c => ?_) (fun c => ?_)
    · exact J_iconst (v := 0) hS dL_law__1419 (by decide) (by rw [et, if_pos c] at H; exact H)
    · exact J_iconst (v := 1) hS dL_law__1415 (by decide) (J_goto (tgt := 1420) hS dL_law__1416 (by decide) (by rw [et, if_neg c] at H; exact H))
  refine J_callV4 (X' := fun _ _ => False) hS dL_law__1420 mvL_209 ob162 rfl (by omega) (by decide) (by decide) ⟨hk, hn⟩ (fun _ _ q => q.elim) (hN _ _ (fun g' b hI' ht hb => ?_))
  show J S (k + 1) (n + 6) g' 1423 (lsL j (some (.int z)) b0) [.int b]
  refine J_istore (lt := fun v => lsL j (some (.int z)) (some (.int v))) hS dL_law__1423 (Nat.le_of_ble_eq_true rfl) (fun _ => rfl) (fun v ev => ?_)
  subst ev
  exact J_tail (pc := 1425) hS hd hk hn dL_law__1425 dL_law__1426 mvL_151 (by decide) dL_law__1429 dL_law__1431 (by decide) dL_law__1436 dL_law__1438 (by decide) dL_law__1441 dL_law__1442 dL_law__1443 dL_law__1444 dL_law__1446 dL_law__1447 dL_law__1448 (by decide) dL_law__1453 (by decide) ht hb (h g' _ _ _ _ (Nat.le_refl _) (Nat.le_refl _) hI')
set_option maxRecDepth 10000 in
theorem lc_held (hS : Kx S l E lay NC cL_law_ RL 7 d) (hd : 100 ≤ d) (hX : Sc S n0 xs) (hj : j + 6 ≤ n0) (hn0 : n0 ≤ 3072) (hk : k + 1 ≤ S.R.cells) (hn : n + 6 ≤ S.R.slots) (hI : Iv g) (h : ∀ (g' : Mm) (a b : Option Value) (k' n' : Nat), k' ≤ k + 1 → n' ≤ n + 6 → Iv g' → J S k' n' g' 3138 (lsL j a b) []) : J S k n g 1456 (lsL j a0 b0) [] := by
  refine J_aload_n hS dL_law__1456 rfl ?_
  refine J_arg hS hX 1 dL_law__1457 dL_law__1458 dL_law__1460 dL_law__1461 dL_law__1462 rfl rfl rfl (by omega) (by omega) ?_
  refine J_arg hS hX 2 dL_law__1463 dL_law__1464 dL_law__1466 dL_law__1467 dL_law__1468 rfl rfl rfl (by omega) (by omega) ?_
  refine J_aload_n hS dL_law__1469 rfl ?_
  show J S k n g 1470 (lsL j a0 b0) (([.ref 1, .int (xs (j + 1)), .int (xs (j + 2)), .ref 219] : List Value).reverse ++ [])
  refine J_callSW (X' := fun _ _ => False) hS dL_law__1470 msw_held rfl (by omega) (by decide) (by decide) ⟨hk, hn⟩ (fun _ _ q => q.elim) (p_held hI (fun kk G hN => ?_))
  show J S (k + 1) (n + 6) G 1473 (lsL j a0 b0) [.int kk]
  refine J_istore (lt := fun z => lsL j (some (.int z)) b0) hS dL_law__1473 (Nat.le_of_ble_eq_true rfl) (fun _ => rfl) (fun z ez => ?_)
  subst ez
  refine J_aload_n hS dL_law__1475 rfl ?_
  refine J_arg hS hX 1 dL_law__1476 dL_law__1477 dL_law__1479 dL_law__1480 dL_law__1481 rfl rfl rfl (by omega) (by omega) ?_
  refine J_arg hS hX 2 dL_law__1482 dL_law__1483 dL_law__1485 dL_law__1486 dL_law__1487 rfl rfl rfl (by omega) (by omega) ?_
  refine J_callV2 (X' := fun _ _ => False) hS dL_law__1488 mvL_212 ob162 rfl (by omega) (by decide) (by decide) ⟨hk, hn⟩ (fun _ _ q => q.elim) (hN _ _ (fun g' b hI' ht hb => ?_))
  show J S (k + 1) (n + 6) g' 1491 (lsL j (some (.int z)) b0) [.int b]
  refine J_istore (lt := fun v => lsL j (some (.int z)) (some (.int v))) hS dL_law__1491 (Nat.le_of_ble_eq_true rfl) (fun _ => rfl) (fun v ev => ?_)
  subst ev
  exact J_tail (pc := 1493) hS hd hk hn dL_law__1493 dL_law__1494 mvL_151 (by decide) dL_law__1497 dL_law__1499 (by decide) dL_law__1504 dL_law__1506 (by decide) dL_law__1509 dL_law__1510 dL_law__1511 dL_law__1512 dL_law__1514 dL_law__1515 dL_law__1516 (by decide) dL_law__1521 (by decide) ht hb (h g' _ _ _ _ (Nat.le_refl _) (Nat.le_refl _) hI')
set_option maxRecDepth 10000 in
theorem lc_first (hS : Kx S l E lay NC cL_law_ RL 7 d) (hd : 100 ≤ d) (hX : Sc S n0 xs) (hj : j + 6 ≤ n0) (hn0 : n0 ≤ 3072) (hk : k + 1 ≤ S.R.cells) (hn : n + 6 ≤ S.R.slots) (hI : Iv g) (h : ∀ (g' : Mm) (a b : Option Value) (k' n' : Nat), k' ≤ k + 1 → n' ≤ n + 6 → Iv g' → J S k' n' g' 3138 (lsL j a b) []) : J S k n g 1524 (lsL j a0 b0) [] := by
  refine J_aload_n hS dL_law__1524 rfl ?_
  refine J_arg hS hX 1 dL_law__1525 dL_law__1526 dL_law__1528 dL_law__1529 dL_law__1530 rfl rfl rfl (by omega) (by omega) ?_
  refine J_arg hS hX 2 dL_law__1531 dL_law__1532 dL_law__1534 dL_law__1535 dL_law__1536 rfl rfl rfl (by omega) (by omega) ?_
  refine J_aload_n hS dL_law__1537 rfl ?_
  show J S k n g 1538 (lsL j a0 b0) (([.ref 1, .int (xs (j + 1)), .int (xs (j + 2)), .ref 219] : List Value).reverse ++ [])
  refine J_callSW (X' := fun _ _ => False) hS dL_law__1538 msw_first rfl (by omega) (by decide) (by decide) ⟨hk, hn⟩ (fun _ _ q => q.elim) (p_first hI (fun kk G hN => ?_))
  show J S (k + 1) (n + 6) G 1541 (lsL j a0 b0) [.int kk]
  refine J_istore (lt := fun z => lsL j (some (.int z)) b0) hS dL_law__1541 (Nat.le_of_ble_eq_true rfl) (fun _ => rfl) (fun z ez => ?_)
  subst ez
  refine J_aload_n hS dL_law__1543 rfl ?_
  refine J_arg hS hX 1 dL_law__1544 dL_law__1545 dL_law__1547 dL_law__1548 dL_law__1549 rfl rfl rfl (by omega) (by omega) ?_
  refine J_arg hS hX 2 dL_law__1550 dL_law__1551 dL_law__1553 dL_law__1554 dL_law__1555 rfl rfl rfl (by omega) (by omega) ?_
  refine J_callV2 (X' := fun _ _ => False) hS dL_law__1556 mvL_215 ob162 rfl (by omega) (by decide) (by decide) ⟨hk, hn⟩ (fun _ _ q => q.elim) (hN _ _ (fun g' b hI' ht hb => ?_))
  show J S (k + 1) (n + 6) g' 1559 (lsL j (some (.int z)) b0) [.int b]
  refine J_istore (lt := fun v => lsL j (some (.int z)) (some (.int v))) hS dL_law__1559 (Nat.le_of_ble_eq_true rfl) (fun _ => rfl) (fun v ev => ?_)
  subst ev
  exact J_tail (pc := 1561) hS hd hk hn dL_law__1561 dL_law__1562 mvL_151 (by decide) dL_law__1565 dL_law__1567 (by decide) dL_law__1572 dL_law__1574 (by decide) dL_law__1577 dL_law__1578 dL_law__1579 dL_law__1580 dL_law__1582 dL_law__1583 dL_law__1584 (by decide) dL_law__1589 (by decide) ht hb (h g' _ _ _ _ (Nat.le_refl _) (Nat.le_refl _) hI')
set_option maxRecDepth 10000 in
theorem lc_back (hS : Kx S l E lay NC cL_law_ RL 7 d) (hd : 100 ≤ d) (hX : Sc S n0 xs) (hj : j + 6 ≤ n0) (hn0 : n0 ≤ 3072) (hk : k + 1 ≤ S.R.cells) (hn : n + 6 ≤ S.R.slots) (hI : Iv g) (h : ∀ (g' : Mm) (a b : Option Value) (k' n' : Nat), k' ≤ k + 1 → n' ≤ n + 6 → Iv g' → J S k' n' g' 3138 (lsL j a b) []) : J S k n g 1592 (lsL j a0 b0) [] := by
  refine J_aload_n hS dL_law__1592 rfl ?_
  refine J_arg hS hX 1 dL_law__1593 dL_law__1594 dL_law__1596 dL_law__1597 dL_law__1598 rfl rfl rfl (by omega) (by omega) ?_
  refine J_arg hS hX 2 dL_law__1599 dL_law__1600 dL_law__1602 dL_law__1603 dL_law__1604 rfl rfl rfl (by omega) (by omega) ?_
  refine J_arg hS hX 3 dL_law__1605 dL_law__1606 dL_law__1608 dL_law__1609 dL_law__1610 rfl rfl rfl (by omega) (by omega) ?_
  refine J_aload_n hS dL_law__1611 rfl ?_
  show J S k n g 1612 (lsL j a0 b0) (([.ref 1, .int (xs (j + 1)), .int (xs (j + 2)), .int (xs (j + 3)), .ref 219] : List Value).reverse ++ [])
  refine J_callSW (X' := fun _ _ => False) hS dL_law__1612 msw_back rfl (by omega) (by decide) (by decide) ⟨hk, hn⟩ (fun _ _ q => q.elim) (p_back hI (fun kk G hN => ?_))
  show J S (k + 1) (n + 6) G 1615 (lsL j a0 b0) [.int kk]
  refine J_istore (lt := fun z => lsL j (some (.int z)) b0) hS dL_law__1615 (Nat.le_of_ble_eq_true rfl) (fun _ => rfl) (fun z ez => ?_)
  subst ez
  refine J_aload_n hS dL_law__1617 rfl ?_
  refine J_arg hS hX 1 dL_law__1618 dL_law__1619 dL_law__1621 dL_law__1622 dL_law__1623 rfl rfl rfl (by omega) (by omega) ?_
  refine J_arg hS hX 2 dL_law__1624 dL_law__1625 dL_law__1627 dL_law__1628 dL_law__1629 rfl rfl rfl (by omega) (by omega) ?_
  refine J_arg hS hX 3 dL_law__1630 dL_law__1631 dL_law__1633 dL_law__1634 dL_law__1635 rfl rfl rfl (by omega) (by omega) ?_
  refine J_callV3 (X' := fun _ _ => False) hS dL_law__1636 mvL_218 ob162 rfl (by omega) (by decide) (by decide) ⟨hk, hn⟩ (fun _ _ q => q.elim) (hN _ _ (fun g' b hI' ht hb => ?_))
  show J S (k + 1) (n + 6) g' 1639 (lsL j (some (.int z)) b0) [.int b]
  refine J_istore (lt := fun v => lsL j (some (.int z)) (some (.int v))) hS dL_law__1639 (Nat.le_of_ble_eq_true rfl) (fun _ => rfl) (fun v ev => ?_)
  subst ev
  exact J_tail (pc := 1641) hS hd hk hn dL_law__1641 dL_law__1642 mvL_151 (by decide) dL_law__1645 dL_law__1647 (by decide) dL_law__1652 dL_law__1654 (by decide) dL_law__1657 dL_law__1658 dL_law__1659 dL_law__1660 dL_law__1662 dL_law__1663 dL_law__1664 (by decide) dL_law__1669 (by decide) ht hb (h g' _ _ _ _ (Nat.le_refl _) (Nat.le_refl _) hI')
set_option maxRecDepth 10000 in
theorem lc_uses (hS : Kx S l E lay NC cL_law_ RL 7 d) (hd : 100 ≤ d) (hX : Sc S n0 xs) (hj : j + 6 ≤ n0) (hn0 : n0 ≤ 3072) (hk : k + 1 ≤ S.R.cells) (hn : n + 6 ≤ S.R.slots) (hI : Iv g) (h : ∀ (g' : Mm) (a b : Option Value) (k' n' : Nat), k' ≤ k + 1 → n' ≤ n + 6 → Iv g' → J S k' n' g' 3138 (lsL j a b) []) : J S k n g 1672 (lsL j a0 b0) [] := by
  refine J_aload_n hS dL_law__1672 rfl ?_
  refine J_arg hS hX 1 dL_law__1673 dL_law__1674 dL_law__1676 dL_law__1677 dL_law__1678 rfl rfl rfl (by omega) (by omega) ?_
  refine J_arg hS hX 2 dL_law__1679 dL_law__1680 dL_law__1682 dL_law__1683 dL_law__1684 rfl rfl rfl (by omega) (by omega) ?_
  refine J_aload_n hS dL_law__1685 rfl ?_
  show J S k n g 1686 (lsL j a0 b0) (([.ref 1, .int (xs (j + 1)), .int (xs (j + 2)), .ref 219] : List Value).reverse ++ [])
  refine J_callSW (X' := fun _ _ => False) hS dL_law__1686 msw_uses rfl (by omega) (by decide) (by decide) ⟨hk, hn⟩ (fun _ _ q => q.elim) (p_uses hI (fun kk G hN => ?_))
  show J S (k + 1) (n + 6) G 1689 (lsL j a0 b0) [.int kk]
  refine J_istore (lt := fun z => lsL j (some (.int z)) b0) hS dL_law__1689 (Nat.le_of_ble_eq_true rfl) (fun _ => rfl) (fun z ez => ?_)
  subst ez
  refine J_aload_n hS dL_law__1691 rfl ?_
  refine J_arg hS hX 1 dL_law__1692 dL_law__1693 dL_law__1695 dL_law__1696 dL_law__1697 rfl rfl rfl (by omega) (by omega) ?_
  refine J_arg hS hX 2 dL_law__1698 dL_law__1699 dL_law__1701 dL_law__1702 dL_law__1703 rfl rfl rfl (by omega) (by omega) ?_
  refine J_callV2 (X' := fun _ _ => False) hS dL_law__1704 mvL_221 ob162 rfl (by omega) (by decide) (by decide) ⟨hk, hn⟩ (fun _ _ q => q.elim) (hN _ _ (fun g' b hI' ht hb => ?_))
  show J S (k + 1) (n + 6) g' 1707 (lsL j (some (.int z)) b0) [.int b]
  refine J_istore (lt := fun v => lsL j (some (.int z)) (some (.int v))) hS dL_law__1707 (Nat.le_of_ble_eq_true rfl) (fun _ => rfl) (fun v ev => ?_)
  subst ev
  exact J_tail (pc := 1709) hS hd hk hn dL_law__1709 dL_law__1710 mvL_151 (by decide) dL_law__1713 dL_law__1715 (by decide) dL_law__1720 dL_law__1722 (by decide) dL_law__1725 dL_law__1726 dL_law__1727 dL_law__1728 dL_law__1730 dL_law__1731 dL_law__1732 (by decide) dL_law__1737 (by decide) ht hb (h g' _ _ _ _ (Nat.le_refl _) (Nat.le_refl _) hI')
set_option maxRecDepth 10000 in
theorem lc_seen (hS : Kx S l E lay NC cL_law_ RL 7 d) (hd : 100 ≤ d) (hX : Sc S n0 xs) (hj : j + 6 ≤ n0) (hn0 : n0 ≤ 3072) (hk : k + 1 ≤ S.R.cells) (hn : n + 6 ≤ S.R.slots) (hI : Iv g) (h : ∀ (g' : Mm) (a b : Option Value) (k' n' : Nat), k' ≤ k + 1 → n' ≤ n + 6 → Iv g' → J S k' n' g' 3138 (lsL j a b) []) : J S k n g 1740 (lsL j a0 b0) [] := by
  refine J_aload_n hS dL_law__1740 rfl ?_
  refine J_arg hS hX 1 dL_law__1741 dL_law__1742 dL_law__1744 dL_law__1745 dL_law__1746 rfl rfl rfl (by omega) (by omega) ?_
  refine J_arg hS hX 2 dL_law__1747 dL_law__1748 dL_law__1750 dL_law__1751 dL_law__1752 rfl rfl rfl (by omega) (by omega) ?_
  refine J_aload_n hS dL_law__1753 rfl ?_
  show J S k n g 1754 (lsL j a0 b0) (([.ref 1, .int (xs (j + 1)), .int (xs (j + 2)), .ref 219] : List Value).reverse ++ [])
  refine J_callSW (X' := fun _ _ => False) hS dL_law__1754 msw_seen rfl (by omega) (by decide) (by decide) ⟨hk, hn⟩ (fun _ _ q => q.elim) (p_seen hI (fun kk G hN => ?_))
  show J S (k + 1) (n + 6) G 1757 (lsL j a0 b0) [.int kk]
  refine J_istore (lt := fun z => lsL j (some (.int z)) b0) hS dL_law__1757 (Nat.le_of_ble_eq_true rfl) (fun _ => rfl) (fun z ez => ?_)
  subst ez
  refine J_aload_n hS dL_law__1759 rfl ?_
  refine J_arg hS hX 1 dL_law__1760 dL_law__1761 dL_law__1763 dL_law__1764 dL_law__1765 rfl rfl rfl (by omega) (by omega) ?_
  refine J_arg hS hX 2 dL_law__1766 dL_law__1767 dL_law__1769 dL_law__1770 dL_law__1771 rfl rfl rfl (by omega) (by omega) ?_
  refine J_callV2 (X' := fun _ _ => False) hS dL_law__1772 mvL_224 ob162 rfl (by omega) (by decide) (by decide) ⟨hk, hn⟩ (fun _ _ q => q.elim) (hN _ _ (fun g' b hI' ht hb => ?_))
  show J S (k + 1) (n + 6) g' 1775 (lsL j (some (.int z)) b0) [.int b]
  refine J_istore (lt := fun v => lsL j (some (.int z)) (some (.int v))) hS dL_law__1775 (Nat.le_of_ble_eq_true rfl) (fun _ => rfl) (fun v ev => ?_)
  subst ev
  exact J_tail (pc := 1777) hS hd hk hn dL_law__1777 dL_law__1778 mvL_151 (by decide) dL_law__1781 dL_law__1783 (by decide) dL_law__1788 dL_law__1790 (by decide) dL_law__1793 dL_law__1794 dL_law__1795 dL_law__1796 dL_law__1798 dL_law__1799 dL_law__1800 (by decide) dL_law__1805 (by decide) ht hb (h g' _ _ _ _ (Nat.le_refl _) (Nat.le_refl _) hI')
set_option maxRecDepth 10000 in
theorem lc_film (hS : Kx S l E lay NC cL_law_ RL 7 d) (hd : 100 ≤ d) (hX : Sc S n0 xs) (hj : j + 6 ≤ n0) (hn0 : n0 ≤ 3072) (hk : k + 1 ≤ S.R.cells) (hn : n + 6 ≤ S.R.slots) (hI : Iv g) (h : ∀ (g' : Mm) (a b : Option Value) (k' n' : Nat), k' ≤ k + 1 → n' ≤ n + 6 → Iv g' → J S k' n' g' 3138 (lsL j a b) []) : J S k n g 1808 (lsL j a0 b0) [] := by
  refine J_aload_n hS dL_law__1808 rfl ?_
  refine J_callV0 (X' := fun _ _ => False) hS dL_law__1809 mvL_225 ob1 rfl (by omega) (by decide) (by decide) ⟨by omega, by omega⟩ (fun _ _ q => q.elim) (p_film hI (fun v G hN => ?_))
  show J S k n G 1812 (lsL j a0 b0) [.int v]
  refine J_aload_n hS dL_law__1812 rfl ?_
  refine J_callV0 (X' := fun _ _ => False) (st := [.int v]) hS dL_law__1813 mvL_228 ob162 rfl (by omega) (by decide) (Nat.le_of_ble_eq_true rfl) ⟨by omega, by omega⟩ (fun _ _ q => q.elim) (hN _ _ (fun g' hI' => ?_))
  show J S k n g' 1816 (lsL j a0 b0) [.int v, .int v]
  exact J_icmp_eq (tgt := 3138) hS dL_law__1816 (by decide) (fun _ => h g' _ _ _ _ (by omega) (by omega) hI') (fun c => absurd rfl c)
end LawCases

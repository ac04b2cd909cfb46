/-! THE LAW: its cases -/
section LawCases
variable {S : Sx} {k n : Nat} {g : Mm} {d : Nat} {l : Launch} {E : Ey} {n0 j : Nat} {xs : Nat → Int32} {a0 b0 : Option Value}
set_option maxRecDepth 10000 in
theorem lc_seeds (hS : Kx S l E lay NC cL_law_ RL 7 d) (hd : 100 ≤ d) (hX : Sc S n0 xs) (hj : j + 6 ≤ n0) (hn0 : n0 ≤ 3072) (hk : k + 1 ≤ S.R.cells) (hn : n + 6 ≤ S.R.slots) (hI : Iv g) (h : ∀ (g' : Mm) (a b : Option Value) (k' n' : Nat), k' ≤ k + 1 → n' ≤ n + 6 → Iv g' → J S k' n' g' 3138 (lsL j a b) []) : J S k n g 240 (lsL j a0 b0) [] := by
  refine J_aload_n hS dL_law__240 rfl ?_
  refine J_arg hS hX 1 dL_law__241 dL_law__242 dL_law__244 dL_law__245 dL_law__246 rfl rfl rfl (by omega) (by omega) ?_
  refine J_arg hS hX 2 dL_law__247 dL_law__248 dL_law__250 dL_law__251 dL_law__252 rfl rfl rfl (by omega) (by omega) ?_
  refine J_callV2 (X' := fun _ _ => False) hS dL_law__253 mvL_140 ob1 rfl (by omega) (by decide) (by decide) ⟨by omega, by omega⟩ (fun _ _ q => q.elim) (p_seeds hI (fun G hN => ?_))
  show J S k n G 256 (lsL j a0 b0) []
  refine J_aload_n hS dL_law__256 rfl ?_
  refine J_arg hS hX 1 dL_law__257 dL_law__258 dL_law__260 dL_law__261 dL_law__262 rfl rfl rfl (by omega) (by omega) ?_
  refine J_arg hS hX 2 dL_law__263 dL_law__264 dL_law__266 dL_law__267 dL_law__268 rfl rfl rfl (by omega) (by omega) ?_
  refine J_callV2 (X' := fun _ _ => False) hS dL_law__269 mvL_144 ob162 rfl (by omega) (by decide) (by decide) ⟨by omega, by omega⟩ (fun _ _ q => q.elim) (hN _ _ (fun g' hI' => ?_))
  show J S k n g' 272 (lsL j a0 b0) []
  exact J_goto (tgt := 3138) hS dL_law__272 (by decide) (h g' _ _ _ _ (by omega) (by omega) hI')
set_option maxRecDepth 10000 in
theorem lc_come (hS : Kx S l E lay NC cL_law_ RL 7 d) (hd : 100 ≤ d) (hX : Sc S n0 xs) (hj : j + 6 ≤ n0) (hn0 : n0 ≤ 3072) (hk : k + 1 ≤ S.R.cells) (hn : n + 6 ≤ S.R.slots) (hI : Iv g) (h : ∀ (g' : Mm) (a b : Option Value) (k' n' : Nat), k' ≤ k + 1 → n' ≤ n + 6 → Iv g' → J S k' n' g' 3138 (lsL j a b) []) : J S k n g 275 (lsL j a0 b0) [] := by
  refine J_aload_n hS dL_law__275 rfl ?_
  refine J_arg hS hX 1 dL_law__276 dL_law__277 dL_law__279 dL_law__280 dL_law__281 rfl rfl rfl (by omega) (by omega) ?_
  refine J_arg hS hX 2 dL_law__282 dL_law__283 dL_law__285 dL_law__286 dL_law__287 rfl rfl rfl (by omega) (by omega) ?_
  refine J_arg hS hX 3 dL_law__288 dL_law__289 dL_law__291 dL_law__292 dL_law__293 rfl rfl rfl (by omega) (by omega) ?_
  suffices H : ∀ t : Int32, t = (if xs (j + 3) = 0 then (0 : Int32) else 1) → J S k n g 302 (lsL j a0 b0) (.int t :: [.int (xs (j + 2)), .int (xs (j + 1)), .ref 1]) by
    refine J_if_eq (tgt := 301) hS dL_law__294 (by decide) (fun c => ?_) (fun c => ?_)
    · exact J_iconst (v := 0) hS dL_law__301 (by decide) (H 0 (by rw [if_pos c]))
    · exact J_iconst (v := 1) hS dL_law__297 (by decide) (J_goto (tgt := 302) hS dL_law__298 (by decide) (H 1 (by rw [if_neg c])))
  intro t et
  refine J_aload_n hS dL_law__302 rfl ?_
  show J S k n g 303 (lsL j a0 b0) (([.ref 1, .int (xs (j + 1)), .int (xs (j + 2)), .int (t), .ref 219] : List Value).reverse ++ [])
  refine J_callSW (X' := fun _ _ => False) hS dL_law__303 msw_come rfl (by omega) (by decide) (by decide) ⟨hk, hn⟩ (fun _ _ q => q.elim) (p_come hI (fun kk G hN => ?_))
  show J S (k + 1) (n + 6) G 306 (lsL j a0 b0) [.int kk]
  refine J_istore (lt := fun z => lsL j (some (.int z)) b0) hS dL_law__306 (Nat.le_of_ble_eq_true rfl) (fun _ => rfl) (fun z ez => ?_)
  subst ez
  refine J_aload_n hS dL_law__308 rfl ?_
  refine J_arg hS hX 1 dL_law__309 dL_law__310 dL_law__312 dL_law__313 dL_law__314 rfl rfl rfl (by omega) (by omega) ?_
  refine J_arg hS hX 2 dL_law__315 dL_law__316 dL_law__318 dL_law__319 dL_law__320 rfl rfl rfl (by omega) (by omega) ?_
  refine J_arg hS hX 3 dL_law__321 dL_law__322 dL_law__324 dL_law__325 dL_law__326 rfl rfl rfl (by omega) (by omega) ?_
  suffices H : J S (k + 1) (n + 6) G 335 (lsL j (some (.int z)) b0) (.int t :: [.int (xs (j + 2)), .int (xs (j + 1)), .ref 162]) by
    refine J_if_eq (tgt := 334) hS dL_law__327 (by decide) (fun c => ?_) (fun c => ?_)
    · exact J_iconst (v := 0) hS dL_law__334 (by decide) (by rw [et, if_pos c] at H; exact H)
    · exact J_iconst (v := 1) hS dL_law__330 (by decide) (J_goto (tgt := 335) hS dL_law__331 (by decide) (by rw [et, if_neg c] at H; exact H))
  refine J_callV3 (X' := fun _ _ => False) hS dL_law__335 mvL_150 ob162 rfl (by omega) (by decide) (by decide) ⟨hk, hn⟩ (fun _ _ q => q.elim) (hN _ _ (fun g' b hI' ht hb => ?_))
  show J S (k + 1) (n + 6) g' 338 (lsL j (some (.int z)) b0) [.int b]
  refine J_istore (lt := fun v => lsL j (some (.int z)) (some (.int v))) hS dL_law__338 (Nat.le_of_ble_eq_true rfl) (fun _ => rfl) (fun v ev => ?_)
  subst ev
  exact J_tail (pc := 340) hS hd hk hn dL_law__340 dL_law__341 mvL_151 (by decide) dL_law__344 dL_law__346 (by decide) dL_law__351 dL_law__353 (by decide) dL_law__356 dL_law__357 dL_law__358 dL_law__359 dL_law__361 dL_law__362 dL_law__363 (by decide) dL_law__368 (by decide) ht hb (h g' _ _ _ _ (Nat.le_refl _) (Nat.le_refl _) hI')
set_option maxRecDepth 10000 in
theorem lc_leave (hS : Kx S l E lay NC cL_law_ RL 7 d) (hd : 100 ≤ d) (hX : Sc S n0 xs) (hj : j + 6 ≤ n0) (hn0 : n0 ≤ 3072) (hk : k + 1 ≤ S.R.cells) (hn : n + 6 ≤ S.R.slots) (hI : Iv g) (h : ∀ (g' : Mm) (a b : Option Value) (k' n' : Nat), k' ≤ k + 1 → n' ≤ n + 6 → Iv g' → J S k' n' g' 3138 (lsL j a b) []) : J S k n g 371 (lsL j a0 b0) [] := by
  refine J_aload_n hS dL_law__371 rfl ?_
  refine J_arg hS hX 1 dL_law__372 dL_law__373 dL_law__375 dL_law__376 dL_law__377 rfl rfl rfl (by omega) (by omega) ?_
  refine J_aload_n hS dL_law__378 rfl ?_
  show J S k n g 379 (lsL j a0 b0) (([.ref 1, .int (xs (j + 1)), .ref 219] : List Value).reverse ++ [])
  refine J_callSW (X' := fun _ _ => False) hS dL_law__379 msw_leave rfl (by omega) (by decide) (by decide) ⟨hk, hn⟩ (fun _ _ q => q.elim) (p_leave hI (fun kk G hN => ?_))
  show J S (k + 1) (n + 6) G 382 (lsL j a0 b0) [.int kk]
  refine J_istore (lt := fun z => lsL j (some (.int z)) b0) hS dL_law__382 (Nat.le_of_ble_eq_true rfl) (fun _ => rfl) (fun z ez => ?_)
  subst ez
  refine J_aload_n hS dL_law__384 rfl ?_
  refine J_arg hS hX 1 dL_law__385 dL_law__386 dL_law__388 dL_law__389 dL_law__390 rfl rfl rfl (by omega) (by omega) ?_
  refine J_callV1 (X' := fun _ _ => False) hS dL_law__391 mvL_158 ob162 rfl (by omega) (by decide) (by decide) ⟨hk, hn⟩ (fun _ _ q => q.elim) (hN _ _ (fun g' b hI' ht hb => ?_))
  show J S (k + 1) (n + 6) g' 394 (lsL j (some (.int z)) b0) [.int b]
  refine J_istore (lt := fun v => lsL j (some (.int z)) (some (.int v))) hS dL_law__394 (Nat.le_of_ble_eq_true rfl) (fun _ => rfl) (fun v ev => ?_)
  subst ev
  exact J_tail (pc := 396) hS hd hk hn dL_law__396 dL_law__397 mvL_151 (by decide) dL_law__400 dL_law__402 (by decide) dL_law__407 dL_law__409 (by decide) dL_law__412 dL_law__413 dL_law__414 dL_law__415 dL_law__417 dL_law__418 dL_law__419 (by decide) dL_law__424 (by decide) ht hb (h g' _ _ _ _ (Nat.le_refl _) (Nat.le_refl _) hI')
set_option maxRecDepth 10000 in
theorem lc_visit (hS : Kx S l E lay NC cL_law_ RL 7 d) (hd : 100 ≤ d) (hX : Sc S n0 xs) (hj : j + 6 ≤ n0) (hn0 : n0 ≤ 3072) (hk : k + 1 ≤ S.R.cells) (hn : n + 6 ≤ S.R.slots) (hI : Iv g) (h : ∀ (g' : Mm) (a b : Option Value) (k' n' : Nat), k' ≤ k + 1 → n' ≤ n + 6 → Iv g' → J S k' n' g' 3138 (lsL j a b) []) : J S k n g 427 (lsL j a0 b0) [] := by
  refine J_aload_n hS dL_law__427 rfl ?_
  refine J_arg hS hX 1 dL_law__428 dL_law__429 dL_law__431 dL_law__432 dL_law__433 rfl rfl rfl (by omega) (by omega) ?_
  refine J_arg hS hX 2 dL_law__434 dL_law__435 dL_law__437 dL_law__438 dL_law__439 rfl rfl rfl (by omega) (by omega) ?_
  refine J_aload_n hS dL_law__440 rfl ?_
  show J S k n g 441 (lsL j a0 b0) (([.ref 1, .int (xs (j + 1)), .int (xs (j + 2)), .ref 219] : List Value).reverse ++ [])
  refine J_callSW (X' := fun _ _ => False) hS dL_law__441 msw_visit rfl (by omega) (by decide) (by decide) ⟨hk, hn⟩ (fun _ _ q => q.elim) (p_visit hI (fun kk G hN => ?_))
  show J S (k + 1) (n + 6) G 444 (lsL j a0 b0) [.int kk]
  refine J_istore (lt := fun z => lsL j (some (.int z)) b0) hS dL_law__444 (Nat.le_of_ble_eq_true rfl) (fun _ => rfl) (fun z ez => ?_)
  subst ez
  refine J_aload_n hS dL_law__446 rfl ?_
  refine J_arg hS hX 1 dL_law__447 dL_law__448 dL_law__450 dL_law__451 dL_law__452 rfl rfl rfl (by omega) (by omega) ?_
  refine J_arg hS hX 2 dL_law__453 dL_law__454 dL_law__456 dL_law__457 dL_law__458 rfl rfl rfl (by omega) (by omega) ?_
  refine J_callV2 (X' := fun _ _ => False) hS dL_law__459 mvL_162 ob162 rfl (by omega) (by decide) (by decide) ⟨hk, hn⟩ (fun _ _ q => q.elim) (hN _ _ (fun g' b hI' ht hb => ?_))
  show J S (k + 1) (n + 6) g' 462 (lsL j (some (.int z)) b0) [.int b]
  refine J_istore (lt := fun v => lsL j (some (.int z)) (some (.int v))) hS dL_law__462 (Nat.le_of_ble_eq_true rfl) (fun _ => rfl) (fun v ev => ?_)
  subst ev
  exact J_tail (pc := 464) hS hd hk hn dL_law__464 dL_law__465 mvL_151 (by decide) dL_law__468 dL_law__470 (by decide) dL_law__475 dL_law__477 (by decide) dL_law__480 dL_law__481 dL_law__482 dL_law__483 dL_law__485 dL_law__486 dL_law__487 (by decide) dL_law__492 (by decide) ht hb (h g' _ _ _ _ (Nat.le_refl _) (Nat.le_refl _) hI')
set_option maxRecDepth 10000 in
theorem lc_of (hS : Kx S l E lay NC cL_law_ RL 7 d) (hd : 100 ≤ d) (hX : Sc S n0 xs) (hj : j + 6 ≤ n0) (hn0 : n0 ≤ 3072) (hk : k + 1 ≤ S.R.cells) (hn : n + 6 ≤ S.R.slots) (hI : Iv g) (h : ∀ (g' : Mm) (a b : Option Value) (k' n' : Nat), k' ≤ k + 1 → n' ≤ n + 6 → Iv g' → J S k' n' g' 3138 (lsL j a b) []) : J S k n g 495 (lsL j a0 b0) [] := by
  refine J_aload_n hS dL_law__495 rfl ?_
  refine J_arg hS hX 1 dL_law__496 dL_law__497 dL_law__499 dL_law__500 dL_law__501 rfl rfl rfl (by omega) (by omega) ?_
  refine J_arg hS hX 2 dL_law__502 dL_law__503 dL_law__505 dL_law__506 dL_law__507 rfl rfl rfl (by omega) (by omega) ?_
  refine J_aload_n hS dL_law__508 rfl ?_
  show J S k n g 509 (lsL j a0 b0) (([.ref 1, .int (xs (j + 1)), .int (xs (j + 2)), .ref 219] : List Value).reverse ++ [])
  refine J_callSW (X' := fun _ _ => False) hS dL_law__509 msw_of rfl (by omega) (by decide) (by decide) ⟨hk, hn⟩ (fun _ _ q => q.elim) (p_of hI (fun kk G hN => ?_))
  show J S (k + 1) (n + 6) G 512 (lsL j a0 b0) [.int kk]
  refine J_istore (lt := fun z => lsL j (some (.int z)) b0) hS dL_law__512 (Nat.le_of_ble_eq_true rfl) (fun _ => rfl) (fun z ez => ?_)
  subst ez
  refine J_aload_n hS dL_law__514 rfl ?_
  refine J_arg hS hX 1 dL_law__515 dL_law__516 dL_law__518 dL_law__519 dL_law__520 rfl rfl rfl (by omega) (by omega) ?_
  refine J_arg hS hX 2 dL_law__521 dL_law__522 dL_law__524 dL_law__525 dL_law__526 rfl rfl rfl (by omega) (by omega) ?_
  refine J_callV2 (X' := fun _ _ => False) hS dL_law__527 mvL_165 ob162 rfl (by omega) (by decide) (by decide) ⟨hk, hn⟩ (fun _ _ q => q.elim) (hN _ _ (fun g' b hI' ht hb => ?_))
  show J S (k + 1) (n + 6) g' 530 (lsL j (some (.int z)) b0) [.int b]
  refine J_istore (lt := fun v => lsL j (some (.int z)) (some (.int v))) hS dL_law__530 (Nat.le_of_ble_eq_true rfl) (fun _ => rfl) (fun v ev => ?_)
  subst ev
  exact J_tail (pc := 532) hS hd hk hn dL_law__532 dL_law__533 mvL_151 (by decide) dL_law__536 dL_law__538 (by decide) dL_law__543 dL_law__545 (by decide) dL_law__548 dL_law__549 dL_law__550 dL_law__551 dL_law__553 dL_law__554 dL_law__555 (by decide) dL_law__560 (by decide) ht hb (h g' _ _ _ _ (Nat.le_refl _) (Nat.le_refl _) hI')
set_option maxRecDepth 10000 in
theorem lc_sign (hS : Kx S l E lay NC cL_law_ RL 7 d) (hd : 100 ≤ d) (hX : Sc S n0 xs) (hj : j + 6 ≤ n0) (hn0 : n0 ≤ 3072) (hk : k + 1 ≤ S.R.cells) (hn : n + 6 ≤ S.R.slots) (hI : Iv g) (h : ∀ (g' : Mm) (a b : Option Value) (k' n' : Nat), k' ≤ k + 1 → n' ≤ n + 6 → Iv g' → J S k' n' g' 3138 (lsL j a b) []) : J S k n g 563 (lsL j a0 b0) [] := by
  refine J_aload_n hS dL_law__563 rfl ?_
  refine J_arg hS hX 1 dL_law__564 dL_law__565 dL_law__567 dL_law__568 dL_law__569 rfl rfl rfl (by omega) (by omega) ?_
  refine J_arg hS hX 2 dL_law__570 dL_law__571 dL_law__573 dL_law__574 dL_law__575 rfl rfl rfl (by omega) (by omega) ?_
  refine J_arg hS hX 3 dL_law__576 dL_law__577 dL_law__579 dL_law__580 dL_law__581 rfl rfl rfl (by omega) (by omega) ?_
  refine J_aload_n hS dL_law__582 rfl ?_
  show J S k n g 583 (lsL j a0 b0) (([.ref 1, .int (xs (j + 1)), .int (xs (j + 2)), .int (xs (j + 3)), .ref 219] : List Value).reverse ++ [])
  refine J_callSW (X' := fun _ _ => False) hS dL_law__583 msw_sign rfl (by omega) (by decide) (by decide) ⟨hk, hn⟩ (fun _ _ q => q.elim) (p_sign hI (fun kk G hN => ?_))
  show J S (k + 1) (n + 6) G 586 (lsL j a0 b0) [.int kk]
  refine J_istore (lt := fun z => lsL j (some (.int z)) b0) hS dL_law__586 (Nat.le_of_ble_eq_true rfl) (fun _ => rfl) (fun z ez => ?_)
  subst ez
  refine J_aload_n hS dL_law__588 rfl ?_
  refine J_arg hS hX 1 dL_law__589 dL_law__590 dL_law__592 dL_law__593 dL_law__594 rfl rfl rfl (by omega) (by omega) ?_
  refine J_arg hS hX 2 dL_law__595 dL_law__596 dL_law__598 dL_law__599 dL_law__600 rfl rfl rfl (by omega) (by omega) ?_
  refine J_arg hS hX 3 dL_law__601 dL_law__602 dL_law__604 dL_law__605 dL_law__606 rfl rfl rfl (by omega) (by omega) ?_
  refine J_callV3 (X' := fun _ _ => False) hS dL_law__607 mvL_169 ob162 rfl (by omega) (by decide) (by decide) ⟨hk, hn⟩ (fun _ _ q => q.elim) (hN _ _ (fun g' b hI' ht hb => ?_))
  show J S (k + 1) (n + 6) g' 610 (lsL j (some (.int z)) b0) [.int b]
  refine J_istore (lt := fun v => lsL j (some (.int z)) (some (.int v))) hS dL_law__610 (Nat.le_of_ble_eq_true rfl) (fun _ => rfl) (fun v ev => ?_)
  subst ev
  exact J_tail (pc := 612) hS hd hk hn dL_law__612 dL_law__613 mvL_151 (by decide) dL_law__616 dL_law__618 (by decide) dL_law__623 dL_law__625 (by decide) dL_law__628 dL_law__629 dL_law__630 dL_law__631 dL_law__633 dL_law__634 dL_law__635 (by decide) dL_law__640 (by decide) ht hb (h g' _ _ _ _ (Nat.le_refl _) (Nat.le_refl _) hI')
set_option maxRecDepth 10000 in
theorem lc_order (hS : Kx S l E lay NC cL_law_ RL 7 d) (hd : 100 ≤ d) (hX : Sc S n0 xs) (hj : j + 6 ≤ n0) (hn0 : n0 ≤ 3072) (hk : k + 1 ≤ S.R.cells) (hn : n + 6 ≤ S.R.slots) (hI : Iv g) (h : ∀ (g' : Mm) (a b : Option Value) (k' n' : Nat), k' ≤ k + 1 → n' ≤ n + 6 → Iv g' → J S k' n' g' 3138 (lsL j a b) []) : J S k n g 643 (lsL j a0 b0) [] := by
  refine J_aload_n hS dL_law__643 rfl ?_
  refine J_arg hS hX 1 dL_law__644 dL_law__645 dL_law__647 dL_law__648 dL_law__649 rfl rfl rfl (by omega) (by omega) ?_
  refine J_arg hS hX 2 dL_law__650 dL_law__651 dL_law__653 dL_law__654 dL_law__655 rfl rfl rfl (by omega) (by omega) ?_
  refine J_aload_n hS dL_law__656 rfl ?_
  show J S k n g 657 (lsL j a0 b0) (([.ref 1, .int (xs (j + 1)), .int (xs (j + 2)), .ref 219] : List Value).reverse ++ [])
  refine J_callSW (X' := fun _ _ => False) hS dL_law__657 msw_order rfl (by omega) (by decide) (by decide) ⟨hk, hn⟩ (fun _ _ q => q.elim) (p_order hI (fun kk G hN => ?_))
  show J S (k + 1) (n + 6) G 660 (lsL j a0 b0) [.int kk]
  refine J_istore (lt := fun z => lsL j (some (.int z)) b0) hS dL_law__660 (Nat.le_of_ble_eq_true rfl) (fun _ => rfl) (fun z ez => ?_)
  subst ez
  refine J_aload_n hS dL_law__662 rfl ?_
  refine J_arg hS hX 1 dL_law__663 dL_law__664 dL_law__666 dL_law__667 dL_law__668 rfl rfl rfl (by omega) (by omega) ?_
  refine J_arg hS hX 2 dL_law__669 dL_law__670 dL_law__672 dL_law__673 dL_law__674 rfl rfl rfl (by omega) (by omega) ?_
  refine J_callV2 (X' := fun _ _ => False) hS dL_law__675 mvL_172 ob162 rfl (by omega) (by decide) (by decide) ⟨hk, hn⟩ (fun _ _ q => q.elim) (hN _ _ (fun g' b hI' ht hb => ?_))
  show J S (k + 1) (n + 6) g' 678 (lsL j (some (.int z)) b0) [.int b]
  refine J_istore (lt := fun v => lsL j (some (.int z)) (some (.int v))) hS dL_law__678 (Nat.le_of_ble_eq_true rfl) (fun _ => rfl) (fun v ev => ?_)
  subst ev
  exact J_tail (pc := 680) hS hd hk hn dL_law__680 dL_law__681 mvL_151 (by decide) dL_law__684 dL_law__686 (by decide) dL_law__691 dL_law__693 (by decide) dL_law__696 dL_law__697 dL_law__698 dL_law__699 dL_law__701 dL_law__702 dL_law__703 (by decide) dL_law__708 (by decide) ht hb (h g' _ _ _ _ (Nat.le_refl _) (Nat.le_refl _) hI')
set_option maxRecDepth 10000 in
theorem lc_holds (hS : Kx S l E lay NC cL_law_ RL 7 d) (hd : 100 ≤ d) (hX : Sc S n0 xs) (hj : j + 6 ≤ n0) (hn0 : n0 ≤ 3072) (hk : k + 1 ≤ S.R.cells) (hn : n + 6 ≤ S.R.slots) (hI : Iv g) (h : ∀ (g' : Mm) (a b : Option Value) (k' n' : Nat), k' ≤ k + 1 → n' ≤ n + 6 → Iv g' → J S k' n' g' 3138 (lsL j a b) []) : J S k n g 711 (lsL j a0 b0) [] := by
  refine J_aload_n hS dL_law__711 rfl ?_
  refine J_arg hS hX 1 dL_law__712 dL_law__713 dL_law__715 dL_law__716 dL_law__717 rfl rfl rfl (by omega) (by omega) ?_
  refine J_arg hS hX 2 dL_law__718 dL_law__719 dL_law__721 dL_law__722 dL_law__723 rfl rfl rfl (by omega) (by omega) ?_
  refine J_aload_n hS dL_law__724 rfl ?_
  show J S k n g 725 (lsL j a0 b0) (([.ref 1, .int (xs (j + 1)), .int (xs (j + 2)), .ref 219] : List Value).reverse ++ [])
  refine J_callSW (X' := fun _ _ => False) hS dL_law__725 msw_holds rfl (by omega) (by decide) (by decide) ⟨hk, hn⟩ (fun _ _ q => q.elim) (p_holds2 hI (fun kk G hN => ?_))
  show J S (k + 1) (n + 6) G 728 (lsL j a0 b0) [.int kk]
  refine J_istore (lt := fun z => lsL j (some (.int z)) b0) hS dL_law__728 (Nat.le_of_ble_eq_true rfl) (fun _ => rfl) (fun z ez => ?_)
  subst ez
  refine J_aload_n hS dL_law__730 rfl ?_
  refine J_arg hS hX 1 dL_law__731 dL_law__732 dL_law__734 dL_law__735 dL_law__736 rfl rfl rfl (by omega) (by omega) ?_
  refine J_arg hS hX 2 dL_law__737 dL_law__738 dL_law__740 dL_law__741 dL_law__742 rfl rfl rfl (by omega) (by omega) ?_
  refine J_callV2 (X' := fun _ _ => False) hS dL_law__743 mvL_175 ob162 rfl (by omega) (by decide) (by decide) ⟨hk, hn⟩ (fun _ _ q => q.elim) (hN _ _ (fun g' b hI' ht hb hz => ?_))
  show J S (k + 1) (n + 6) g' 746 (lsL j (some (.int z)) b0) [.int b]
  refine J_istore (lt := fun v => lsL j (some (.int z)) (some (.int v))) hS dL_law__746 (Nat.le_of_ble_eq_true rfl) (fun _ => rfl) (fun v ev => ?_)
  subst ev
  have fin : J S (k + 1) (n + 6) g' 783 (lsL j (some (.int z)) (some (.int v))) [] := J_goto (tgt := 3138) hS dL_law__783 (by decide) (h g' _ _ _ _ (Nat.le_refl _) (Nat.le_refl _) hI')
  refine J_aload_n hS dL_law__748 rfl ?_
  refine J_callV0 (X' := fun _ _ => False) hS dL_law__749 mvL_151 ob162 rfl (by omega) (by decide) (by decide) ⟨hk, hn⟩ (fun _ _ q => q.elim) (m_thrown ?_)
  show J S (k + 1) (n + 6) g' 752 (lsL j (some (.int z)) (some (.int v))) [.int (g' 162 0)]
  refine J_iload hS dL_law__752 rfl ?_
  refine J_icmp_eq (tgt := 759) hS dL_law__754 (by decide) (fun _ => ?_) (fun c => absurd ht c)
  refine J_iload hS dL_law__759 rfl ?_
  refine J_if_ne (tgt := 783) hS dL_law__761 (by decide) (fun _ => fin) (fun c => ?_)
  refine J_aload_n hS dL_law__764 rfl ?_
  refine J_iconst (v := 0) hS dL_law__765 (by decide) ?_
  refine J_lald hS dL_law__766 al219 (vpi 0 rfl (by decide) (by decide)) ?_
  show J S (k + 1) (n + 6) g' 767 (lsL j (some (.int z)) (some (.int v))) [.long (g' 219 0).toInt64]
  refine J_iload hS dL_law__767 rfl ?_
  rw [← hb c]
  refine J_if_eq (tgt := 776) hS dL_law__769 (by decide) (fun e => ?_) (fun e => ?_)
  · refine J_lconst (v := 0) hS dL_law__776 (by decide) ?_
    refine J_lcmp hS dL_law__777 ?_
    rw [e]
    exact J_if_eq (tgt := 783) hS dL_law__778 (by decide) (fun _ => by rw [e] at fin; exact fin) (fun c => absurd rfl c)
  · have e1 : v = 1 := (hz c).resolve_left e
    refine J_lconst (v := 1) hS dL_law__772 (by decide) ?_
    refine J_goto (tgt := 777) hS dL_law__773 (by decide) ?_
    refine J_lcmp hS dL_law__777 ?_
    rw [e1]
    exact J_if_eq (tgt := 783) hS dL_law__778 (by decide) (fun _ => by rw [e1] at fin; exact fin) (fun c => absurd rfl c)
set_option maxRecDepth 10000 in
theorem lc_set (hS : Kx S l E lay NC cL_law_ RL 7 d) (hd : 100 ≤ d) (hX : Sc S n0 xs) (hj : j + 6 ≤ n0) (hn0 : n0 ≤ 3072) (hk : k + 1 ≤ S.R.cells) (hn : n + 6 ≤ S.R.slots) (hI : Iv g) (h : ∀ (g' : Mm) (a b : Option Value) (k' n' : Nat), k' ≤ k + 1 → n' ≤ n + 6 → Iv g' → J S k' n' g' 3138 (lsL j a b) []) : J S k n g 786 (lsL j a0 b0) [] := by
  refine J_aload_n hS dL_law__786 rfl ?_
  refine J_arg hS hX 1 dL_law__787 dL_law__788 dL_law__790 dL_law__791 dL_law__792 rfl rfl rfl (by omega) (by omega) ?_
  refine J_arg hS hX 2 dL_law__793 dL_law__794 dL_law__796 dL_law__797 dL_law__798 rfl rfl rfl (by omega) (by omega) ?_
  refine J_aload_n hS dL_law__799 rfl ?_
  show J S k n g 800 (lsL j a0 b0) (([.ref 1, .int (xs (j + 1)), .int (xs (j + 2)), .ref 219] : List Value).reverse ++ [])
  refine J_callSW (X' := fun _ _ => False) hS dL_law__800 msw_set rfl (by omega) (by decide) (by decide) ⟨hk, hn⟩ (fun _ _ q => q.elim) (p_set hI (fun kk G hN => ?_))
  show J S (k + 1) (n + 6) G 803 (lsL j a0 b0) [.int kk]
  refine J_istore (lt := fun z => lsL j (some (.int z)) b0) hS dL_law__803 (Nat.le_of_ble_eq_true rfl) (fun _ => rfl) (fun z ez => ?_)
  subst ez
  refine J_aload_n hS dL_law__805 rfl ?_
  refine J_arg hS hX 1 dL_law__806 dL_law__807 dL_law__809 dL_law__810 dL_law__811 rfl rfl rfl (by omega) (by omega) ?_
  refine J_arg hS hX 2 dL_law__812 dL_law__813 dL_law__815 dL_law__816 dL_law__817 rfl rfl rfl (by omega) (by omega) ?_
  refine J_callV2 (X' := fun _ _ => False) hS dL_law__818 mvL_178 ob162 rfl (by omega) (by decide) (by decide) ⟨hk, hn⟩ (fun _ _ q => q.elim) (hN _ _ (fun g' b hI' ht hb => ?_))
  show J S (k + 1) (n + 6) g' 821 (lsL j (some (.int z)) b0) [.int b]
  refine J_istore (lt := fun v => lsL j (some (.int z)) (some (.int v))) hS dL_law__821 (Nat.le_of_ble_eq_true rfl) (fun _ => rfl) (fun v ev => ?_)
  subst ev
  exact J_tail (pc := 823) hS hd hk hn dL_law__823 dL_law__824 mvL_151 (by decide) dL_law__827 dL_law__829 (by decide) dL_law__834 dL_law__836 (by decide) dL_law__839 dL_law__840 dL_law__841 dL_law__842 dL_law__844 dL_law__845 dL_law__846 (by decide) dL_law__851 (by decide) ht hb (h g' _ _ _ _ (Nat.le_refl _) (Nat.le_refl _) hI')
set_option maxRecDepth 10000 in
theorem lc_years (hS : Kx S l E lay NC cL_law_ RL 7 d) (hd : 100 ≤ d) (hX : Sc S n0 xs) (hj : j + 6 ≤ n0) (hn0 : n0 ≤ 3072) (hk : k + 1 ≤ S.R.cells) (hn : n + 6 ≤ S.R.slots) (hI : Iv g) (h : ∀ (g' : Mm) (a b : Option Value) (k' n' : Nat), k' ≤ k + 1 → n' ≤ n + 6 → Iv g' → J S k' n' g' 3138 (lsL j a b) []) : J S k n g 854 (lsL j a0 b0) [] := by
  refine J_aload_n hS dL_law__854 rfl ?_
  refine J_arg hS hX 1 dL_law__855 dL_law__856 dL_law__858 dL_law__859 dL_law__860 rfl rfl rfl (by omega) (by omega) ?_
  refine J_aload_n hS dL_law__861 rfl ?_
  show J S k n g 862 (lsL j a0 b0) (([.ref 1, .int (xs (j + 1)), .ref 219] : List Value).reverse ++ [])
  refine J_callSW (X' := fun _ _ => False) hS dL_law__862 msw_years rfl (by omega) (by decide) (by decide) ⟨hk, hn⟩ (fun _ _ q => q.elim) (p_years hI (fun kk G hN => ?_))
  show J S (k + 1) (n + 6) G 865 (lsL j a0 b0) [.int kk]
  refine J_istore (lt := fun z => lsL j (some (.int z)) b0) hS dL_law__865 (Nat.le_of_ble_eq_true rfl) (fun _ => rfl) (fun z ez => ?_)
  subst ez
  refine J_aload_n hS dL_law__867 rfl ?_
  refine J_arg hS hX 1 dL_law__868 dL_law__869 dL_law__871 dL_law__872 dL_law__873 rfl rfl rfl (by omega) (by omega) ?_
  refine J_callV1 (X' := fun _ _ => False) hS dL_law__874 mvL_181 ob162 rfl (by omega) (by decide) (by decide) ⟨hk, hn⟩ (fun _ _ q => q.elim) (hN _ _ (fun g' b hI' ht hb => ?_))
  show J S (k + 1) (n + 6) g' 877 (lsL j (some (.int z)) b0) [.int b]
  refine J_istore (lt := fun v => lsL j (some (.int z)) (some (.int v))) hS dL_law__877 (Nat.le_of_ble_eq_true rfl) (fun _ => rfl) (fun v ev => ?_)
  subst ev
  exact J_tail (pc := 879) hS hd hk hn dL_law__879 dL_law__880 mvL_151 (by decide) dL_law__883 dL_law__885 (by decide) dL_law__890 dL_law__892 (by decide) dL_law__895 dL_law__896 dL_law__897 dL_law__898 dL_law__900 dL_law__901 dL_law__902 (by decide) dL_law__907 (by decide) ht hb (h g' _ _ _ _ (Nat.le_refl _) (Nat.le_refl _) hI')
set_option maxRecDepth 10000 in
theorem lc_feed (hS : Kx S l E lay NC cL_law_ RL 7 d) (hd : 100 ≤ d) (hX : Sc S n0 xs) (hj : j + 6 ≤ n0) (hn0 : n0 ≤ 3072) (hk : k + 1 ≤ S.R.cells) (hn : n + 6 ≤ S.R.slots) (hI : Iv g) (h : ∀ (g' : Mm) (a b : Option Value) (k' n' : Nat), k' ≤ k + 1 → n' ≤ n + 6 → Iv g' → J S k' n' g' 3138 (lsL j a b) []) : J S k n g 910 (lsL j a0 b0) [] := by
  refine J_aload_n hS dL_law__910 rfl ?_
  refine J_arg hS hX 1 dL_law__911 dL_law__912 dL_law__914 dL_law__915 dL_law__916 rfl rfl rfl (by omega) (by omega) ?_
  refine J_arg hS hX 2 dL_law__917 dL_law__918 dL_law__920 dL_law__921 dL_law__922 rfl rfl rfl (by omega) (by omega) ?_
  refine J_arg hS hX 3 dL_law__923 dL_law__924 dL_law__926 dL_law__927 dL_law__928 rfl rfl rfl (by omega) (by omega) ?_
  refine J_arg hS hX 4 dL_law__929 dL_law__930 dL_law__932 dL_law__933 dL_law__934 rfl rfl rfl (by omega) (by omega) ?_
  refine J_arg hS hX 5 dL_law__935 dL_law__936 dL_law__938 dL_law__939 dL_law__940 rfl rfl rfl (by omega) (by omega) ?_
  refine J_callV5 (X' := fun _ _ => False) hS dL_law__941 mvL_182 ob1 rfl (by omega) (by decide) (by decide) ⟨by omega, by omega⟩ (fun _ _ q => q.elim) (p_feed hI (fun v G hN => ?_))
  show J S k n G 944 (lsL j a0 b0) [.int v]
  refine J_aload_n hS dL_law__944 rfl ?_
  refine J_arg hS hX 1 dL_law__945 dL_law__946 dL_law__948 dL_law__949 dL_law__950 rfl rfl rfl (by omega) (by omega) ?_
  refine J_arg hS hX 2 dL_law__951 dL_law__952 dL_law__954 dL_law__955 dL_law__956 rfl rfl rfl (by omega) (by omega) ?_
  refine J_arg hS hX 3 dL_law__957 dL_law__958 dL_law__960 dL_law__961 dL_law__962 rfl rfl rfl (by omega) (by omega) ?_
  refine J_arg hS hX 4 dL_law__963 dL_law__964 dL_law__966 dL_law__967 dL_law__968 rfl rfl rfl (by omega) (by omega) ?_
  refine J_arg hS hX 5 dL_law__969 dL_law__970 dL_law__972 dL_law__973 dL_law__974 rfl rfl rfl (by omega) (by omega) ?_
  refine J_callV5 (X' := fun _ _ => False) (st := [.int v]) hS dL_law__975 mvL_185 ob162 rfl (by omega) (by decide) (Nat.le_of_ble_eq_true rfl) ⟨by omega, by omega⟩ (fun _ _ q => q.elim) (hN _ _ (fun g' hI' => ?_))
  show J S k n g' 978 (lsL j a0 b0) [.int v, .int v]
  exact J_icmp_eq (tgt := 3138) hS dL_law__978 (by decide) (fun _ => h g' _ _ _ _ (by omega) (by omega) hI') (fun c => absurd rfl c)
set_option maxRecDepth 10000 in
theorem lc_law (hS : Kx S l E lay NC cL_law_ RL 7 d) (hd : 100 ≤ d) (hX : Sc S n0 xs) (hj : j + 6 ≤ n0) (hn0 : n0 ≤ 3072) (hk : k + 1 ≤ S.R.cells) (hn : n + 6 ≤ S.R.slots) (hI : Iv g) (h : ∀ (g' : Mm) (a b : Option Value) (k' n' : Nat), k' ≤ k + 1 → n' ≤ n + 6 → Iv g' → J S k' n' g' 3138 (lsL j a b) []) : J S k n g 983 (lsL j a0 b0) [] := by
  refine J_aload_n hS dL_law__983 rfl ?_
  refine J_arg hS hX 1 dL_law__984 dL_law__985 dL_law__987 dL_law__988 dL_law__989 rfl rfl rfl (by omega) (by omega) ?_
  refine J_aload_n hS dL_law__990 rfl ?_
  show J S k n g 991 (lsL j a0 b0) (([.ref 1, .int (xs (j + 1)), .ref 219] : List Value).reverse ++ [])
  refine J_callSW (X' := fun _ _ => False) hS dL_law__991 msw_law rfl (by omega) (by decide) (by decide) ⟨hk, hn⟩ (fun _ _ q => q.elim) (p_law hI (fun kk G hN => ?_))
  show J S (k + 1) (n + 6) G 994 (lsL j a0 b0) [.int kk]
  refine J_istore (lt := fun z => lsL j (some (.int z)) b0) hS dL_law__994 (Nat.le_of_ble_eq_true rfl) (fun _ => rfl) (fun z ez => ?_)
  subst ez
  refine J_aload_n hS dL_law__996 rfl ?_
  refine J_arg hS hX 1 dL_law__997 dL_law__998 dL_law__1000 dL_law__1001 dL_law__1002 rfl rfl rfl (by omega) (by omega) ?_
  refine J_callV1 (X' := fun _ _ => False) hS dL_law__1003 mvL_188 ob162 rfl (by omega) (by decide) (by decide) ⟨hk, hn⟩ (fun _ _ q => q.elim) (hN _ _ (fun g' b hI' ht hb => ?_))
  show J S (k + 1) (n + 6) g' 1006 (lsL j (some (.int z)) b0) [.int b]
  refine J_istore (lt := fun v => lsL j (some (.int z)) (some (.int v))) hS dL_law__1006 (Nat.le_of_ble_eq_true rfl) (fun _ => rfl) (fun v ev => ?_)
  subst ev
  exact J_tail (pc := 1008) hS hd hk hn dL_law__1008 dL_law__1009 mvL_151 (by decide) dL_law__1012 dL_law__1014 (by decide) dL_law__1019 dL_law__1021 (by decide) dL_law__1024 dL_law__1025 dL_law__1026 dL_law__1027 dL_law__1029 dL_law__1030 dL_law__1031 (by decide) dL_law__1036 (by decide) ht hb (h g' _ _ _ _ (Nat.le_refl _) (Nat.le_refl _) hI')
end LawCases

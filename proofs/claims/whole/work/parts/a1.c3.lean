/-! THE LAW: its cases -/
section LawCases
variable {S : Sx} {k n : Nat} {g : Mm} {d : Nat} {l : Launch} {E : Ey} {n0 j : Nat} {xs : Nat → Int32} {a0 b0 : Option Value}
set_option maxRecDepth 10000 in
theorem lc_word (hS : Kx S l E lay NC cL_law_ RL 7 d) (hd : 100 ≤ d) (hX : Sc S n0 xs) (hj : j + 6 ≤ n0) (hn0 : n0 ≤ 3072) (hk : k + 1 ≤ S.R.cells) (hn : n + 6 ≤ S.R.slots) (hI : Iv g) (h : ∀ (g' : Mm) (a b : Option Value) (k' n' : Nat), k' ≤ k + 1 → n' ≤ n + 6 → Iv g' → J S k' n' g' 3138 (lsL j a b) []) : J S k n g 2465 (lsL j a0 b0) [] := by
  refine J_aload_n hS dL_law__2465 rfl ?_
  refine J_arg hS hX 1 dL_law__2466 dL_law__2467 dL_law__2469 dL_law__2470 dL_law__2471 rfl rfl rfl (by omega) (by omega) ?_
  refine J_arg hS hX 2 dL_law__2472 dL_law__2473 dL_law__2475 dL_law__2476 dL_law__2477 rfl rfl rfl (by omega) (by omega) ?_
  refine J_aload_n hS dL_law__2478 rfl ?_
  show J S k n g 2479 (lsL j a0 b0) (([.ref 1, .int (xs (j + 1)), .int (xs (j + 2)), .ref 219] : List Value).reverse ++ [])
  refine J_callSW (X' := fun _ _ => False) hS dL_law__2479 msw_word rfl (by omega) (by decide) (by decide) ⟨hk, hn⟩ (fun _ _ q => q.elim) (p_word hI (fun kk G hN => ?_))
  show J S (k + 1) (n + 6) G 2482 (lsL j a0 b0) [.int kk]
  refine J_istore (lt := fun z => lsL j (some (.int z)) b0) hS dL_law__2482 (Nat.le_of_ble_eq_true rfl) (fun _ => rfl) (fun z ez => ?_)
  subst ez
  refine J_aload_n hS dL_law__2484 rfl ?_
  refine J_arg hS hX 1 dL_law__2485 dL_law__2486 dL_law__2488 dL_law__2489 dL_law__2490 rfl rfl rfl (by omega) (by omega) ?_
  refine J_arg hS hX 2 dL_law__2491 dL_law__2492 dL_law__2494 dL_law__2495 dL_law__2496 rfl rfl rfl (by omega) (by omega) ?_
  refine J_callV2 (X' := fun _ _ => False) hS dL_law__2497 mvL_272 ob162 rfl (by omega) (by decide) (by decide) ⟨hk, hn⟩ (fun _ _ q => q.elim) (hN _ _ (fun g' b hI' ht hb => ?_))
  show J S (k + 1) (n + 6) g' 2500 (lsL j (some (.int z)) b0) [.int b]
  refine J_istore (lt := fun v => lsL j (some (.int z)) (some (.int v))) hS dL_law__2500 (Nat.le_of_ble_eq_true rfl) (fun _ => rfl) (fun v ev => ?_)
  subst ev
  exact J_tail (pc := 2502) hS hd hk hn dL_law__2502 dL_law__2503 mvL_151 (by decide) dL_law__2506 dL_law__2508 (by decide) dL_law__2513 dL_law__2515 (by decide) dL_law__2518 dL_law__2519 dL_law__2520 dL_law__2521 dL_law__2523 dL_law__2524 dL_law__2525 (by decide) dL_law__2530 (by decide) ht hb (h g' _ _ _ _ (Nat.le_refl _) (Nat.le_refl _) hI')
set_option maxRecDepth 10000 in
theorem lc_blurred (hS : Kx S l E lay NC cL_law_ RL 7 d) (hd : 100 ≤ d) (hX : Sc S n0 xs) (hj : j + 6 ≤ n0) (hn0 : n0 ≤ 3072) (hk : k + 1 ≤ S.R.cells) (hn : n + 6 ≤ S.R.slots) (hI : Iv g) (h : ∀ (g' : Mm) (a b : Option Value) (k' n' : Nat), k' ≤ k + 1 → n' ≤ n + 6 → Iv g' → J S k' n' g' 3138 (lsL j a b) []) : J S k n g 2533 (lsL j a0 b0) [] := by
  refine J_aload_n hS dL_law__2533 rfl ?_
  refine J_arg hS hX 1 dL_law__2534 dL_law__2535 dL_law__2537 dL_law__2538 dL_law__2539 rfl rfl rfl (by omega) (by omega) ?_
  refine J_arg hS hX 2 dL_law__2540 dL_law__2541 dL_law__2543 dL_law__2544 dL_law__2545 rfl rfl rfl (by omega) (by omega) ?_
  refine J_aload_n hS dL_law__2546 rfl ?_
  show J S k n g 2547 (lsL j a0 b0) (([.ref 1, .int (xs (j + 1)), .int (xs (j + 2)), .ref 219] : List Value).reverse ++ [])
  refine J_callSW (X' := fun _ _ => False) hS dL_law__2547 msw_blurred rfl (by omega) (by decide) (by decide) ⟨hk, hn⟩ (fun _ _ q => q.elim) (p_blurred hI (fun kk G hN => ?_))
  show J S (k + 1) (n + 6) G 2550 (lsL j a0 b0) [.int kk]
  refine J_istore (lt := fun z => lsL j (some (.int z)) b0) hS dL_law__2550 (Nat.le_of_ble_eq_true rfl) (fun _ => rfl) (fun z ez => ?_)
  subst ez
  refine J_aload_n hS dL_law__2552 rfl ?_
  refine J_arg hS hX 1 dL_law__2553 dL_law__2554 dL_law__2556 dL_law__2557 dL_law__2558 rfl rfl rfl (by omega) (by omega) ?_
  refine J_arg hS hX 2 dL_law__2559 dL_law__2560 dL_law__2562 dL_law__2563 dL_law__2564 rfl rfl rfl (by omega) (by omega) ?_
  refine J_callV2 (X' := fun _ _ => False) hS dL_law__2565 mvL_275 ob162 rfl (by omega) (by decide) (by decide) ⟨hk, hn⟩ (fun _ _ q => q.elim) (hN _ _ (fun g' b hI' ht hb => ?_))
  show J S (k + 1) (n + 6) g' 2568 (lsL j (some (.int z)) b0) [.int b]
  refine J_istore (lt := fun v => lsL j (some (.int z)) (some (.int v))) hS dL_law__2568 (Nat.le_of_ble_eq_true rfl) (fun _ => rfl) (fun v ev => ?_)
  subst ev
  exact J_tail (pc := 2570) hS hd hk hn dL_law__2570 dL_law__2571 mvL_151 (by decide) dL_law__2574 dL_law__2576 (by decide) dL_law__2581 dL_law__2583 (by decide) dL_law__2586 dL_law__2587 dL_law__2588 dL_law__2589 dL_law__2591 dL_law__2592 dL_law__2593 (by decide) dL_law__2598 (by decide) ht hb (h g' _ _ _ _ (Nat.le_refl _) (Nat.le_refl _) hI')
set_option maxRecDepth 10000 in
theorem lc_nearest (hS : Kx S l E lay NC cL_law_ RL 7 d) (hd : 100 ≤ d) (hX : Sc S n0 xs) (hj : j + 6 ≤ n0) (hn0 : n0 ≤ 3072) (hk : k + 1 ≤ S.R.cells) (hn : n + 6 ≤ S.R.slots) (hI : Iv g) (h : ∀ (g' : Mm) (a b : Option Value) (k' n' : Nat), k' ≤ k + 1 → n' ≤ n + 6 → Iv g' → J S k' n' g' 3138 (lsL j a b) []) : J S k n g 2601 (lsL j a0 b0) [] := by
  refine J_aload_n hS dL_law__2601 rfl ?_
  refine J_arg hS hX 1 dL_law__2602 dL_law__2603 dL_law__2605 dL_law__2606 dL_law__2607 rfl rfl rfl (by omega) (by omega) ?_
  refine J_aload_n hS dL_law__2608 rfl ?_
  show J S k n g 2609 (lsL j a0 b0) (([.ref 1, .int (xs (j + 1)), .ref 219] : List Value).reverse ++ [])
  refine J_callSW (X' := fun _ _ => False) hS dL_law__2609 msw_nearest rfl (by omega) (by decide) (by decide) ⟨hk, hn⟩ (fun _ _ q => q.elim) (p_nearest hI (fun kk G hN => ?_))
  show J S (k + 1) (n + 6) G 2612 (lsL j a0 b0) [.int kk]
  refine J_istore (lt := fun z => lsL j (some (.int z)) b0) hS dL_law__2612 (Nat.le_of_ble_eq_true rfl) (fun _ => rfl) (fun z ez => ?_)
  subst ez
  refine J_aload_n hS dL_law__2614 rfl ?_
  refine J_arg hS hX 1 dL_law__2615 dL_law__2616 dL_law__2618 dL_law__2619 dL_law__2620 rfl rfl rfl (by omega) (by omega) ?_
  refine J_callV1 (X' := fun _ _ => False) hS dL_law__2621 mvL_278 ob162 rfl (by omega) (by decide) (by decide) ⟨hk, hn⟩ (fun _ _ q => q.elim) (hN _ _ (fun g' b hI' ht hb => ?_))
  show J S (k + 1) (n + 6) g' 2624 (lsL j (some (.int z)) b0) [.int b]
  refine J_istore (lt := fun v => lsL j (some (.int z)) (some (.int v))) hS dL_law__2624 (Nat.le_of_ble_eq_true rfl) (fun _ => rfl) (fun v ev => ?_)
  subst ev
  exact J_tail (pc := 2626) hS hd hk hn dL_law__2626 dL_law__2627 mvL_151 (by decide) dL_law__2630 dL_law__2632 (by decide) dL_law__2637 dL_law__2639 (by decide) dL_law__2642 dL_law__2643 dL_law__2644 dL_law__2645 dL_law__2647 dL_law__2648 dL_law__2649 (by decide) dL_law__2654 (by decide) ht hb (h g' _ _ _ _ (Nat.le_refl _) (Nat.le_refl _) hI')
set_option maxRecDepth 10000 in
theorem lc_since (hS : Kx S l E lay NC cL_law_ RL 7 d) (hd : 100 ≤ d) (hX : Sc S n0 xs) (hj : j + 6 ≤ n0) (hn0 : n0 ≤ 3072) (hk : k + 1 ≤ S.R.cells) (hn : n + 6 ≤ S.R.slots) (hI : Iv g) (h : ∀ (g' : Mm) (a b : Option Value) (k' n' : Nat), k' ≤ k + 1 → n' ≤ n + 6 → Iv g' → J S k' n' g' 3138 (lsL j a b) []) : J S k n g 2657 (lsL j a0 b0) [] := by
  refine J_aload_n hS dL_law__2657 rfl ?_
  refine J_arg hS hX 1 dL_law__2658 dL_law__2659 dL_law__2661 dL_law__2662 dL_law__2663 rfl rfl rfl (by omega) (by omega) ?_
  refine J_arg hS hX 2 dL_law__2664 dL_law__2665 dL_law__2667 dL_law__2668 dL_law__2669 rfl rfl rfl (by omega) (by omega) ?_
  refine J_aload_n hS dL_law__2670 rfl ?_
  show J S k n g 2671 (lsL j a0 b0) (([.ref 1, .int (xs (j + 1)), .int (xs (j + 2)), .ref 219] : List Value).reverse ++ [])
  refine J_callSW (X' := fun _ _ => False) hS dL_law__2671 msw_since rfl (by omega) (by decide) (by decide) ⟨hk, hn⟩ (fun _ _ q => q.elim) (p_since hI (fun kk G hN => ?_))
  show J S (k + 1) (n + 6) G 2674 (lsL j a0 b0) [.int kk]
  refine J_istore (lt := fun z => lsL j (some (.int z)) b0) hS dL_law__2674 (Nat.le_of_ble_eq_true rfl) (fun _ => rfl) (fun z ez => ?_)
  subst ez
  refine J_aload_n hS dL_law__2676 rfl ?_
  refine J_arg hS hX 1 dL_law__2677 dL_law__2678 dL_law__2680 dL_law__2681 dL_law__2682 rfl rfl rfl (by omega) (by omega) ?_
  refine J_arg hS hX 2 dL_law__2683 dL_law__2684 dL_law__2686 dL_law__2687 dL_law__2688 rfl rfl rfl (by omega) (by omega) ?_
  refine J_callV2 (X' := fun _ _ => False) hS dL_law__2689 mvL_281 ob162 rfl (by omega) (by decide) (by decide) ⟨hk, hn⟩ (fun _ _ q => q.elim) (hN _ _ (fun g' b hI' ht hb => ?_))
  show J S (k + 1) (n + 6) g' 2692 (lsL j (some (.int z)) b0) [.int b]
  refine J_istore (lt := fun v => lsL j (some (.int z)) (some (.int v))) hS dL_law__2692 (Nat.le_of_ble_eq_true rfl) (fun _ => rfl) (fun v ev => ?_)
  subst ev
  exact J_tail (pc := 2694) hS hd hk hn dL_law__2694 dL_law__2695 mvL_151 (by decide) dL_law__2698 dL_law__2700 (by decide) dL_law__2705 dL_law__2707 (by decide) dL_law__2710 dL_law__2711 dL_law__2712 dL_law__2713 dL_law__2715 dL_law__2716 dL_law__2717 (by decide) dL_law__2722 (by decide) ht hb (h g' _ _ _ _ (Nat.le_refl _) (Nat.le_refl _) hI')
set_option maxRecDepth 10000 in
theorem lc_taught (hS : Kx S l E lay NC cL_law_ RL 7 d) (hd : 100 ≤ d) (hX : Sc S n0 xs) (hj : j + 6 ≤ n0) (hn0 : n0 ≤ 3072) (hk : k + 1 ≤ S.R.cells) (hn : n + 6 ≤ S.R.slots) (hI : Iv g) (h : ∀ (g' : Mm) (a b : Option Value) (k' n' : Nat), k' ≤ k + 1 → n' ≤ n + 6 → Iv g' → J S k' n' g' 3138 (lsL j a b) []) : J S k n g 2725 (lsL j a0 b0) [] := by
  refine J_aload_n hS dL_law__2725 rfl ?_
  refine J_arg hS hX 1 dL_law__2726 dL_law__2727 dL_law__2729 dL_law__2730 dL_law__2731 rfl rfl rfl (by omega) (by omega) ?_
  refine J_arg hS hX 2 dL_law__2732 dL_law__2733 dL_law__2735 dL_law__2736 dL_law__2737 rfl rfl rfl (by omega) (by omega) ?_
  refine J_aload_n hS dL_law__2738 rfl ?_
  show J S k n g 2739 (lsL j a0 b0) (([.ref 1, .int (xs (j + 1)), .int (xs (j + 2)), .ref 219] : List Value).reverse ++ [])
  refine J_callSW (X' := fun _ _ => False) hS dL_law__2739 msw_taught rfl (by omega) (by decide) (by decide) ⟨hk, hn⟩ (fun _ _ q => q.elim) (p_taught hI (fun kk G hN => ?_))
  show J S (k + 1) (n + 6) G 2742 (lsL j a0 b0) [.int kk]
  refine J_istore (lt := fun z => lsL j (some (.int z)) b0) hS dL_law__2742 (Nat.le_of_ble_eq_true rfl) (fun _ => rfl) (fun z ez => ?_)
  subst ez
  refine J_aload_n hS dL_law__2744 rfl ?_
  refine J_arg hS hX 1 dL_law__2745 dL_law__2746 dL_law__2748 dL_law__2749 dL_law__2750 rfl rfl rfl (by omega) (by omega) ?_
  refine J_arg hS hX 2 dL_law__2751 dL_law__2752 dL_law__2754 dL_law__2755 dL_law__2756 rfl rfl rfl (by omega) (by omega) ?_
  refine J_callV2 (X' := fun _ _ => False) hS dL_law__2757 mvL_284 ob162 rfl (by omega) (by decide) (by decide) ⟨hk, hn⟩ (fun _ _ q => q.elim) (hN _ _ (fun g' b hI' ht hb => ?_))
  show J S (k + 1) (n + 6) g' 2760 (lsL j (some (.int z)) b0) [.int b]
  refine J_istore (lt := fun v => lsL j (some (.int z)) (some (.int v))) hS dL_law__2760 (Nat.le_of_ble_eq_true rfl) (fun _ => rfl) (fun v ev => ?_)
  subst ev
  exact J_tail (pc := 2762) hS hd hk hn dL_law__2762 dL_law__2763 mvL_151 (by decide) dL_law__2766 dL_law__2768 (by decide) dL_law__2773 dL_law__2775 (by decide) dL_law__2778 dL_law__2779 dL_law__2780 dL_law__2781 dL_law__2783 dL_law__2784 dL_law__2785 (by decide) dL_law__2790 (by decide) ht hb (h g' _ _ _ _ (Nat.le_refl _) (Nat.le_refl _) hI')
set_option maxRecDepth 10000 in
theorem lc_root (hS : Kx S l E lay NC cL_law_ RL 7 d) (hd : 100 ≤ d) (hX : Sc S n0 xs) (hj : j + 6 ≤ n0) (hn0 : n0 ≤ 3072) (hk : k + 1 ≤ S.R.cells) (hn : n + 6 ≤ S.R.slots) (hI : Iv g) (h : ∀ (g' : Mm) (a b : Option Value) (k' n' : Nat), k' ≤ k + 1 → n' ≤ n + 6 → Iv g' → J S k' n' g' 3138 (lsL j a b) []) : J S k n g 2793 (lsL j a0 b0) [] := by
  refine J_aload_n hS dL_law__2793 rfl ?_
  refine J_arg hS hX 1 dL_law__2794 dL_law__2795 dL_law__2797 dL_law__2798 dL_law__2799 rfl rfl rfl (by omega) (by omega) ?_
  refine J_arg hS hX 2 dL_law__2800 dL_law__2801 dL_law__2803 dL_law__2804 dL_law__2805 rfl rfl rfl (by omega) (by omega) ?_
  refine J_aload_n hS dL_law__2806 rfl ?_
  show J S k n g 2807 (lsL j a0 b0) (([.ref 1, .int (xs (j + 1)), .int (xs (j + 2)), .ref 219] : List Value).reverse ++ [])
  refine J_callSW (X' := fun _ _ => False) hS dL_law__2807 msw_root rfl (by omega) (by decide) (by decide) ⟨hk, hn⟩ (fun _ _ q => q.elim) (p_root hI (fun kk G hN => ?_))
  show J S (k + 1) (n + 6) G 2810 (lsL j a0 b0) [.int kk]
  refine J_istore (lt := fun z => lsL j (some (.int z)) b0) hS dL_law__2810 (Nat.le_of_ble_eq_true rfl) (fun _ => rfl) (fun z ez => ?_)
  subst ez
  refine J_aload_n hS dL_law__2812 rfl ?_
  refine J_arg hS hX 1 dL_law__2813 dL_law__2814 dL_law__2816 dL_law__2817 dL_law__2818 rfl rfl rfl (by omega) (by omega) ?_
  refine J_arg hS hX 2 dL_law__2819 dL_law__2820 dL_law__2822 dL_law__2823 dL_law__2824 rfl rfl rfl (by omega) (by omega) ?_
  refine J_callV2 (X' := fun _ _ => False) hS dL_law__2825 mvL_287 ob162 rfl (by omega) (by decide) (by decide) ⟨hk, hn⟩ (fun _ _ q => q.elim) (hN _ _ (fun g' b hI' ht hb => ?_))
  show J S (k + 1) (n + 6) g' 2828 (lsL j (some (.int z)) b0) [.int b]
  refine J_istore (lt := fun v => lsL j (some (.int z)) (some (.int v))) hS dL_law__2828 (Nat.le_of_ble_eq_true rfl) (fun _ => rfl) (fun v ev => ?_)
  subst ev
  exact J_tail (pc := 2830) hS hd hk hn dL_law__2830 dL_law__2831 mvL_151 (by decide) dL_law__2834 dL_law__2836 (by decide) dL_law__2841 dL_law__2843 (by decide) dL_law__2846 dL_law__2847 dL_law__2848 dL_law__2849 dL_law__2851 dL_law__2852 dL_law__2853 (by decide) dL_law__2858 (by decide) ht hb (h g' _ _ _ _ (Nat.le_refl _) (Nat.le_refl _) hI')
set_option maxRecDepth 10000 in
theorem lc_untaught (hS : Kx S l E lay NC cL_law_ RL 7 d) (hd : 100 ≤ d) (hX : Sc S n0 xs) (hj : j + 6 ≤ n0) (hn0 : n0 ≤ 3072) (hk : k + 1 ≤ S.R.cells) (hn : n + 6 ≤ S.R.slots) (hI : Iv g) (h : ∀ (g' : Mm) (a b : Option Value) (k' n' : Nat), k' ≤ k + 1 → n' ≤ n + 6 → Iv g' → J S k' n' g' 3138 (lsL j a b) []) : J S k n g 2861 (lsL j a0 b0) [] := by
  refine J_aload_n hS dL_law__2861 rfl ?_
  refine J_arg hS hX 1 dL_law__2862 dL_law__2863 dL_law__2865 dL_law__2866 dL_law__2867 rfl rfl rfl (by omega) (by omega) ?_
  refine J_arg hS hX 2 dL_law__2868 dL_law__2869 dL_law__2871 dL_law__2872 dL_law__2873 rfl rfl rfl (by omega) (by omega) ?_
  refine J_arg hS hX 3 dL_law__2874 dL_law__2875 dL_law__2877 dL_law__2878 dL_law__2879 rfl rfl rfl (by omega) (by omega) ?_
  refine J_aload_n hS dL_law__2880 rfl ?_
  show J S k n g 2881 (lsL j a0 b0) (([.ref 1, .int (xs (j + 1)), .int (xs (j + 2)), .int (xs (j + 3)), .ref 219] : List Value).reverse ++ [])
  refine J_callSW (X' := fun _ _ => False) hS dL_law__2881 msw_untaught rfl (by omega) (by decide) (by decide) ⟨hk, hn⟩ (fun _ _ q => q.elim) (p_untaught hI (fun kk G hN => ?_))
  show J S (k + 1) (n + 6) G 2884 (lsL j a0 b0) [.int kk]
  refine J_istore (lt := fun z => lsL j (some (.int z)) b0) hS dL_law__2884 (Nat.le_of_ble_eq_true rfl) (fun _ => rfl) (fun z ez => ?_)
  subst ez
  refine J_aload_n hS dL_law__2886 rfl ?_
  refine J_arg hS hX 1 dL_law__2887 dL_law__2888 dL_law__2890 dL_law__2891 dL_law__2892 rfl rfl rfl (by omega) (by omega) ?_
  refine J_arg hS hX 2 dL_law__2893 dL_law__2894 dL_law__2896 dL_law__2897 dL_law__2898 rfl rfl rfl (by omega) (by omega) ?_
  refine J_arg hS hX 3 dL_law__2899 dL_law__2900 dL_law__2902 dL_law__2903 dL_law__2904 rfl rfl rfl (by omega) (by omega) ?_
  refine J_callV3 (X' := fun _ _ => False) hS dL_law__2905 mvL_290 ob162 rfl (by omega) (by decide) (by decide) ⟨hk, hn⟩ (fun _ _ q => q.elim) (hN _ _ (fun g' b hI' ht hb => ?_))
  show J S (k + 1) (n + 6) g' 2908 (lsL j (some (.int z)) b0) [.int b]
  refine J_istore (lt := fun v => lsL j (some (.int z)) (some (.int v))) hS dL_law__2908 (Nat.le_of_ble_eq_true rfl) (fun _ => rfl) (fun v ev => ?_)
  subst ev
  exact J_tail (pc := 2910) hS hd hk hn dL_law__2910 dL_law__2911 mvL_151 (by decide) dL_law__2914 dL_law__2916 (by decide) dL_law__2921 dL_law__2923 (by decide) dL_law__2926 dL_law__2927 dL_law__2928 dL_law__2929 dL_law__2931 dL_law__2932 dL_law__2933 (by decide) dL_law__2938 (by decide) ht hb (h g' _ _ _ _ (Nat.le_refl _) (Nat.le_refl _) hI')
set_option maxRecDepth 10000 in
theorem lc_odds (hS : Kx S l E lay NC cL_law_ RL 7 d) (hd : 100 ≤ d) (hX : Sc S n0 xs) (hj : j + 6 ≤ n0) (hn0 : n0 ≤ 3072) (hk : k + 1 ≤ S.R.cells) (hn : n + 6 ≤ S.R.slots) (hI : Iv g) (h : ∀ (g' : Mm) (a b : Option Value) (k' n' : Nat), k' ≤ k + 1 → n' ≤ n + 6 → Iv g' → J S k' n' g' 3138 (lsL j a b) []) : J S k n g 2941 (lsL j a0 b0) [] := by
  refine J_aload_n hS dL_law__2941 rfl ?_
  refine J_arg hS hX 1 dL_law__2942 dL_law__2943 dL_law__2945 dL_law__2946 dL_law__2947 rfl rfl rfl (by omega) (by omega) ?_
  refine J_arg hS hX 2 dL_law__2948 dL_law__2949 dL_law__2951 dL_law__2952 dL_law__2953 rfl rfl rfl (by omega) (by omega) ?_
  refine J_arg hS hX 3 dL_law__2954 dL_law__2955 dL_law__2957 dL_law__2958 dL_law__2959 rfl rfl rfl (by omega) (by omega) ?_
  refine J_arg hS hX 4 dL_law__2960 dL_law__2961 dL_law__2963 dL_law__2964 dL_law__2965 rfl rfl rfl (by omega) (by omega) ?_
  refine J_aload_n hS dL_law__2966 rfl ?_
  show J S k n g 2967 (lsL j a0 b0) (([.ref 1, .int (xs (j + 1)), .int (xs (j + 2)), .int (xs (j + 3)), .int (xs (j + 4)), .ref 219] : List Value).reverse ++ [])
  refine J_callSW (X' := fun _ _ => False) hS dL_law__2967 msw_odds rfl (by omega) (by decide) (by decide) ⟨hk, hn⟩ (fun _ _ q => q.elim) (p_odds hI (fun kk G hN => ?_))
  show J S (k + 1) (n + 6) G 2970 (lsL j a0 b0) [.int kk]
  refine J_istore (lt := fun z => lsL j (some (.int z)) b0) hS dL_law__2970 (Nat.le_of_ble_eq_true rfl) (fun _ => rfl) (fun z ez => ?_)
  subst ez
  refine J_aload_n hS dL_law__2972 rfl ?_
  refine J_arg hS hX 1 dL_law__2973 dL_law__2974 dL_law__2976 dL_law__2977 dL_law__2978 rfl rfl rfl (by omega) (by omega) ?_
  refine J_arg hS hX 2 dL_law__2979 dL_law__2980 dL_law__2982 dL_law__2983 dL_law__2984 rfl rfl rfl (by omega) (by omega) ?_
  refine J_arg hS hX 3 dL_law__2985 dL_law__2986 dL_law__2988 dL_law__2989 dL_law__2990 rfl rfl rfl (by omega) (by omega) ?_
  refine J_arg hS hX 4 dL_law__2991 dL_law__2992 dL_law__2994 dL_law__2995 dL_law__2996 rfl rfl rfl (by omega) (by omega) ?_
  refine J_callV4 (X' := fun _ _ => False) hS dL_law__2997 mvL_293 ob162 rfl (by omega) (by decide) (by decide) ⟨hk, hn⟩ (fun _ _ q => q.elim) (hN _ _ (fun g' b hI' ht hb => ?_))
  show J S (k + 1) (n + 6) g' 3000 (lsL j (some (.int z)) b0) [.int b]
  refine J_istore (lt := fun v => lsL j (some (.int z)) (some (.int v))) hS dL_law__3000 (Nat.le_of_ble_eq_true rfl) (fun _ => rfl) (fun v ev => ?_)
  subst ev
  exact J_tail (pc := 3002) hS hd hk hn dL_law__3002 dL_law__3003 mvL_151 (by decide) dL_law__3006 dL_law__3008 (by decide) dL_law__3013 dL_law__3015 (by decide) dL_law__3018 dL_law__3019 dL_law__3020 dL_law__3021 dL_law__3023 dL_law__3024 dL_law__3025 (by decide) dL_law__3030 (by decide) ht hb (h g' _ _ _ _ (Nat.le_refl _) (Nat.le_refl _) hI')
set_option maxRecDepth 10000 in
theorem lc_right (hS : Kx S l E lay NC cL_law_ RL 7 d) (hd : 100 ≤ d) (hX : Sc S n0 xs) (hj : j + 6 ≤ n0) (hn0 : n0 ≤ 3072) (hk : k + 1 ≤ S.R.cells) (hn : n + 6 ≤ S.R.slots) (hI : Iv g) (h : ∀ (g' : Mm) (a b : Option Value) (k' n' : Nat), k' ≤ k + 1 → n' ≤ n + 6 → Iv g' → J S k' n' g' 3138 (lsL j a b) []) : J S k n g 3033 (lsL j a0 b0) [] := by
  refine J_aload_n hS dL_law__3033 rfl ?_
  refine J_arg hS hX 1 dL_law__3034 dL_law__3035 dL_law__3037 dL_law__3038 dL_law__3039 rfl rfl rfl (by omega) (by omega) ?_
  refine J_arg hS hX 2 dL_law__3040 dL_law__3041 dL_law__3043 dL_law__3044 dL_law__3045 rfl rfl rfl (by omega) (by omega) ?_
  refine J_arg hS hX 3 dL_law__3046 dL_law__3047 dL_law__3049 dL_law__3050 dL_law__3051 rfl rfl rfl (by omega) (by omega) ?_
  refine J_aload_n hS dL_law__3052 rfl ?_
  show J S k n g 3053 (lsL j a0 b0) (([.ref 1, .int (xs (j + 1)), .int (xs (j + 2)), .int (xs (j + 3)), .ref 219] : List Value).reverse ++ [])
  refine J_callSW (X' := fun _ _ => False) hS dL_law__3053 msw_right rfl (by omega) (by decide) (by decide) ⟨hk, hn⟩ (fun _ _ q => q.elim) (p_right hI (fun kk G hN => ?_))
  show J S (k + 1) (n + 6) G 3056 (lsL j a0 b0) [.int kk]
  refine J_istore (lt := fun z => lsL j (some (.int z)) b0) hS dL_law__3056 (Nat.le_of_ble_eq_true rfl) (fun _ => rfl) (fun z ez => ?_)
  subst ez
  refine J_aload_n hS dL_law__3058 rfl ?_
  refine J_arg hS hX 1 dL_law__3059 dL_law__3060 dL_law__3062 dL_law__3063 dL_law__3064 rfl rfl rfl (by omega) (by omega) ?_
  refine J_arg hS hX 2 dL_law__3065 dL_law__3066 dL_law__3068 dL_law__3069 dL_law__3070 rfl rfl rfl (by omega) (by omega) ?_
  refine J_arg hS hX 3 dL_law__3071 dL_law__3072 dL_law__3074 dL_law__3075 dL_law__3076 rfl rfl rfl (by omega) (by omega) ?_
  refine J_callV3 (X' := fun _ _ => False) hS dL_law__3077 mvL_296 ob162 rfl (by omega) (by decide) (by decide) ⟨hk, hn⟩ (fun _ _ q => q.elim) (hN _ _ (fun g' b hI' ht hb => ?_))
  show J S (k + 1) (n + 6) g' 3080 (lsL j (some (.int z)) b0) [.int b]
  refine J_istore (lt := fun v => lsL j (some (.int z)) (some (.int v))) hS dL_law__3080 (Nat.le_of_ble_eq_true rfl) (fun _ => rfl) (fun v ev => ?_)
  subst ev
  exact J_tail (pc := 3082) hS hd hk hn dL_law__3082 dL_law__3083 mvL_151 (by decide) dL_law__3086 dL_law__3088 (by decide) dL_law__3093 dL_law__3095 (by decide) dL_law__3098 dL_law__3099 dL_law__3100 dL_law__3101 dL_law__3103 dL_law__3104 dL_law__3105 (by decide) dL_law__3110 (by decide) ht hb (h g' _ _ _ _ (Nat.le_refl _) (Nat.le_refl _) hI')
set_option maxRecDepth 10000 in
theorem lc_count (hS : Kx S l E lay NC cL_law_ RL 7 d) (hd : 100 ≤ d) (hX : Sc S n0 xs) (hj : j + 6 ≤ n0) (hn0 : n0 ≤ 3072) (hk : k + 1 ≤ S.R.cells) (hn : n + 6 ≤ S.R.slots) (hI : Iv g) (h : ∀ (g' : Mm) (a b : Option Value) (k' n' : Nat), k' ≤ k + 1 → n' ≤ n + 6 → Iv g' → J S k' n' g' 3138 (lsL j a b) []) : J S k n g 3113 (lsL j a0 b0) [] := by
  refine J_aload_n hS dL_law__3113 rfl ?_
  refine J_arg hS hX 1 dL_law__3114 dL_law__3115 dL_law__3117 dL_law__3118 dL_law__3119 rfl rfl rfl (by omega) (by omega) ?_
  refine J_callV1 (X' := fun _ _ => False) hS dL_law__3120 mvL_297 ob1 rfl (by omega) (by decide) (by decide) ⟨by omega, by omega⟩ (fun _ _ q => q.elim) (p_count hI (fun v G hN => ?_))
  show J S k n G 3123 (lsL j a0 b0) [.int v]
  refine J_aload_n hS dL_law__3123 rfl ?_
  refine J_arg hS hX 1 dL_law__3124 dL_law__3125 dL_law__3127 dL_law__3128 dL_law__3129 rfl rfl rfl (by omega) (by omega) ?_
  refine J_callV1 (X' := fun _ _ => False) (st := [.int v]) hS dL_law__3130 mvL_300 ob162 rfl (by omega) (by decide) (Nat.le_of_ble_eq_true rfl) ⟨by omega, by omega⟩ (fun _ _ q => q.elim) (hN _ _ (fun g' hI' => ?_))
  show J S k n g' 3133 (lsL j a0 b0) [.int v, .int v]
  exact J_icmp_eq (tgt := 3138) hS dL_law__3133 (by decide) (fun _ => h g' _ _ _ _ (by omega) (by omega) hI') (fun c => absurd rfl c)
end LawCases

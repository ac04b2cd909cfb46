/-! THE LAW: its loop -/
theorem and63 (x : Int32) : ∃ m : Nat, m < 64 ∧ x &&& 63 = nI m := by
  refine ⟨x.toBitVec.toNat % 64, Nat.mod_lt _ (by decide), ?_⟩
  apply Int32.toBitVec_inj.mp
  apply BitVec.eq_of_toNat_eq
  show (x.toBitVec &&& 63#32).toNat = (BitVec.ofNat 32 (x.toBitVec.toNat % 64)).toNat
  rw [BitVec.toNat_and, BitVec.toNat_ofNat, BitVec.toNat_ofNat, Nat.mod_eq_of_lt (a := x.toBitVec.toNat % 64) (Nat.lt_trans (Nat.mod_lt _ (by decide)) (by decide))]
  exact Nat.and_two_pow_sub_one_eq_mod _ 6
theorem sub6 {n0 j : Nat} (hn : n0 ≤ 3072) (hj : j ≤ 4000) : (nI n0 - 6 < nI j) ↔ n0 < j + 6 := by
  have e6 : (6 : Int32).toInt = 6 := by decide
  rw [Int32.lt_iff_toInt_lt, Int32.toInt_sub, nI_toInt (by omega), nI_toInt (by omega), e6, Int.bmod_eq_of_le (by omega) (by omega)]
  omega
section LawLoop
variable {S : Sx} {d : Nat} {l : Launch} {E : Ey} {n0 : Nat} {xs : Nat → Int32} {K M : Nat}
set_option maxRecDepth 10000 in
set_option maxHeartbeats 4000000 in
theorem law_loop (hS : Kx S l E lay NC cL_law_ RL 7 d) (hd : 100 ≤ d) (hX : Sc S n0 xs) (hn0 : n0 ≤ 3072) (hK : K + 600 ≤ S.R.cells) (hM : M + 3600 ≤ S.R.slots) (fin : ∀ (g : Mm) (j k n : Nat) (a b : Option Value), k ≤ K + 600 → n ≤ M + 3600 → J S k n g 3144 (lsL j a b) []) : ∀ (r t : Nat) (g : Mm) (k n : Nat) (a b : Option Value), t + r = 513 → k ≤ K + t → n ≤ M + 6 * t → Iv g → J S k n g 23 (lsL (6 * t) a b) [] := by
  intro r
  induction r with
  | zero =>
    intro t g k n a b ht hk hn hI
    refine J_iload hS dL_law__23 rfl ?_
    refine J_aload_n hS dL_law__25 rfl ?_
    refine J_slen hS hX dL_law__26 ?_
    refine J_bipush (v := 6) hS dL_law__27 (by decide) ?_
    refine J_isub hS dL_law__29 ?_
    refine J_icmp_gt (tgt := 3144) hS dL_law__30 (by decide) (fun c => fin g _ k n a b (by omega) (by omega)) (fun c => ?_)
    rw [sub6 hn0 (by omega)] at c
    omega
  | succ r ih =>
    intro t g k n a b ht hk hn hI
    refine J_iload hS dL_law__23 rfl ?_
    refine J_aload_n hS dL_law__25 rfl ?_
    refine J_slen hS hX dL_law__26 ?_
    refine J_bipush (v := 6) hS dL_law__27 (by decide) ?_
    refine J_isub hS dL_law__29 ?_
    refine J_icmp_gt (tgt := 3144) hS dL_law__30 (by decide) (fun c => fin g _ k n a b (by omega) (by omega)) (fun c => ?_)
    rw [sub6 hn0 (by omega)] at c
    refine J_aload_n hS dL_law__33 rfl ?_
    refine J_iload hS dL_law__34 rfl ?_
    refine J_sld hS hX (6 * t) dL_law__36 rfl (by omega) (by omega) ?_
    refine J_bipush (v := 63) hS dL_law__37 (by decide) ?_
    refine J_iand hS dL_law__39 ?_
    obtain ⟨m, hm, em⟩ := and63 (xs (6 * t))
    refine J_top em ?_
    have nxt : ∀ (g' : Mm) (a b : Option Value) (k' n' : Nat), k' ≤ k + 1 → n' ≤ n + 6 → Iv g' → J S k' n' g' 3138 (lsL (6 * t) a b) [] := fun g' a b k' n' h1 h2 hI' => by
      refine J_iinc (v := 6) (lt := fun z => [some (.ref 1500), some (.ref 1), some (.ref 162), some (.ref 219), some (.int z), a, b]) hS dL_law__3138 rfl (by decide) (fun _ => rfl) (fun z ez => ?_)
      have ez' : z = nI (6 * (t + 1)) := by rw [ez, show (6 : Int32) = nI 6 from rfl, nI_add]; rfl
      subst ez'
      exact J_goto (tgt := 23) hS dL_law__3141 (by decide) (ih (t + 1) g' k' n' a b (by omega) (by omega) (by omega) hI')
    by_cases h46 : m < 46
    · match m, h46 with
      | 0, _ => exact J_tableIn (off := 200) (tgt := 240) hS dL_law__40 (by decide) (by decide) rfl (by decide) (lc_seeds hS hd hX (by omega) hn0 (by omega) (by omega) hI nxt)
      | 1, _ => exact J_tableIn (off := 235) (tgt := 275) hS dL_law__40 (by decide) (by decide) rfl (by decide) (lc_come hS hd hX (by omega) hn0 (by omega) (by omega) hI nxt)
      | 2, _ => exact J_tableIn (off := 331) (tgt := 371) hS dL_law__40 (by decide) (by decide) rfl (by decide) (lc_leave hS hd hX (by omega) hn0 (by omega) (by omega) hI nxt)
      | 3, _ => exact J_tableIn (off := 387) (tgt := 427) hS dL_law__40 (by decide) (by decide) rfl (by decide) (lc_visit hS hd hX (by omega) hn0 (by omega) (by omega) hI nxt)
      | 4, _ => exact J_tableIn (off := 455) (tgt := 495) hS dL_law__40 (by decide) (by decide) rfl (by decide) (lc_of hS hd hX (by omega) hn0 (by omega) (by omega) hI nxt)
      | 5, _ => exact J_tableIn (off := 523) (tgt := 563) hS dL_law__40 (by decide) (by decide) rfl (by decide) (lc_sign hS hd hX (by omega) hn0 (by omega) (by omega) hI nxt)
      | 6, _ => exact J_tableIn (off := 603) (tgt := 643) hS dL_law__40 (by decide) (by decide) rfl (by decide) (lc_order hS hd hX (by omega) hn0 (by omega) (by omega) hI nxt)
      | 7, _ => exact J_tableIn (off := 671) (tgt := 711) hS dL_law__40 (by decide) (by decide) rfl (by decide) (lc_holds hS hd hX (by omega) hn0 (by omega) (by omega) hI nxt)
      | 8, _ => exact J_tableIn (off := 746) (tgt := 786) hS dL_law__40 (by decide) (by decide) rfl (by decide) (lc_set hS hd hX (by omega) hn0 (by omega) (by omega) hI nxt)
      | 9, _ => exact J_tableIn (off := 814) (tgt := 854) hS dL_law__40 (by decide) (by decide) rfl (by decide) (lc_years hS hd hX (by omega) hn0 (by omega) (by omega) hI nxt)
      | 10, _ => exact J_tableIn (off := 870) (tgt := 910) hS dL_law__40 (by decide) (by decide) rfl (by decide) (lc_feed hS hd hX (by omega) hn0 (by omega) (by omega) hI nxt)
      | 11, _ => exact J_tableIn (off := 943) (tgt := 983) hS dL_law__40 (by decide) (by decide) rfl (by decide) (lc_law hS hd hX (by omega) hn0 (by omega) (by omega) hI nxt)
      | 12, _ => exact J_tableIn (off := 999) (tgt := 1039) hS dL_law__40 (by decide) (by decide) rfl (by decide) (lc_fault hS hd hX (by omega) hn0 (by omega) (by omega) hI nxt)
      | 13, _ => exact J_tableIn (off := 1012) (tgt := 1052) hS dL_law__40 (by decide) (by decide) rfl (by decide) (lc_force hS hd hX (by omega) hn0 (by omega) (by omega) hI nxt)
      | 14, _ => exact J_tableIn (off := 1068) (tgt := 1108) hS dL_law__40 (by decide) (by decide) rfl (by decide) (lc_talk hS hd hX (by omega) hn0 (by omega) (by omega) hI nxt)
      | 15, _ => exact J_tableIn (off := 1172) (tgt := 1212) hS dL_law__40 (by decide) (by decide) rfl (by decide) (lc_run hS hd hX (by omega) hn0 (by omega) (by omega) hI nxt)
      | 16, _ => exact J_tableIn (off := 1240) (tgt := 1280) hS dL_law__40 (by decide) (by decide) rfl (by decide) (lc_note hS hd hX (by omega) hn0 (by omega) (by omega) hI nxt)
      | 17, _ => exact J_tableIn (off := 1308) (tgt := 1348) hS dL_law__40 (by decide) (by decide) rfl (by decide) (lc_share hS hd hX (by omega) hn0 (by omega) (by omega) hI nxt)
      | 18, _ => exact J_tableIn (off := 1416) (tgt := 1456) hS dL_law__40 (by decide) (by decide) rfl (by decide) (lc_held hS hd hX (by omega) hn0 (by omega) (by omega) hI nxt)
      | 19, _ => exact J_tableIn (off := 1484) (tgt := 1524) hS dL_law__40 (by decide) (by decide) rfl (by decide) (lc_first hS hd hX (by omega) hn0 (by omega) (by omega) hI nxt)
      | 20, _ => exact J_tableIn (off := 1552) (tgt := 1592) hS dL_law__40 (by decide) (by decide) rfl (by decide) (lc_back hS hd hX (by omega) hn0 (by omega) (by omega) hI nxt)
      | 21, _ => exact J_tableIn (off := 1632) (tgt := 1672) hS dL_law__40 (by decide) (by decide) rfl (by decide) (lc_uses hS hd hX (by omega) hn0 (by omega) (by omega) hI nxt)
      | 22, _ => exact J_tableIn (off := 1700) (tgt := 1740) hS dL_law__40 (by decide) (by decide) rfl (by decide) (lc_seen hS hd hX (by omega) hn0 (by omega) (by omega) hI nxt)
      | 23, _ => exact J_tableIn (off := 1768) (tgt := 1808) hS dL_law__40 (by decide) (by decide) rfl (by decide) (lc_film hS hd hX (by omega) hn0 (by omega) (by omega) hI nxt)
      | 24, _ => exact J_tableIn (off := 1781) (tgt := 1821) hS dL_law__40 (by decide) (by decide) rfl (by decide) (lc_end hS hd hX (by omega) hn0 (by omega) (by omega) hI nxt)
      | 25, _ => exact J_tableIn (off := 1794) (tgt := 1834) hS dL_law__40 (by decide) (by decide) rfl (by decide) (lc_gap hS hd hX (by omega) hn0 (by omega) (by omega) hI nxt)
      | 26, _ => exact J_tableIn (off := 1862) (tgt := 1902) hS dL_law__40 (by decide) (by decide) rfl (by decide) (lc_fits hS hd hX (by omega) hn0 (by omega) (by omega) hI nxt)
      | 27, _ => exact J_tableIn (off := 1930) (tgt := 1970) hS dL_law__40 (by decide) (by decide) rfl (by decide) (lc_read hS hd hX (by omega) hn0 (by omega) (by omega) hI nxt)
      | 28, _ => exact J_tableIn (off := 1943) (tgt := 1983) hS dL_law__40 (by decide) (by decide) rfl (by decide) (lc_trial hS hd hX (by omega) hn0 (by omega) (by omega) hI nxt)
      | 29, _ => exact J_tableIn (off := 2035) (tgt := 2075) hS dL_law__40 (by decide) (by decide) rfl (by decide) (lc_fewest hS hd hX (by omega) hn0 (by omega) (by omega) hI nxt)
      | 30, _ => exact J_tableIn (off := 2127) (tgt := 2167) hS dL_law__40 (by decide) (by decide) rfl (by decide) (lc_needed hS hd hX (by omega) hn0 (by omega) (by omega) hI nxt)
      | 31, _ => exact J_tableIn (off := 2207) (tgt := 2247) hS dL_law__40 (by decide) (by decide) rfl (by decide) (lc_unlike hS hd hX (by omega) hn0 (by omega) (by omega) hI nxt)
      | 32, _ => exact J_tableIn (off := 2275) (tgt := 2315) hS dL_law__40 (by decide) (by decide) rfl (by decide) (lc_meets hS hd hX (by omega) hn0 (by omega) (by omega) hI nxt)
      | 33, _ => exact J_tableIn (off := 2343) (tgt := 2383) hS dL_law__40 (by decide) (by decide) rfl (by decide) (lc_image hS hd hX (by omega) hn0 (by omega) (by omega) hI nxt)
      | 34, _ => exact J_tableIn (off := 2356) (tgt := 2396) hS dL_law__40 (by decide) (by decide) rfl (by decide) (lc_restore hS hd hX (by omega) hn0 (by omega) (by omega) hI nxt)
      | 35, _ => exact J_tableIn (off := 2369) (tgt := 2409) hS dL_law__40 (by decide) (by decide) rfl (by decide) (lc_plain hS hd hX (by omega) hn0 (by omega) (by omega) hI nxt)
      | 36, _ => exact J_tableIn (off := 2425) (tgt := 2465) hS dL_law__40 (by decide) (by decide) rfl (by decide) (lc_word hS hd hX (by omega) hn0 (by omega) (by omega) hI nxt)
      | 37, _ => exact J_tableIn (off := 2493) (tgt := 2533) hS dL_law__40 (by decide) (by decide) rfl (by decide) (lc_blurred hS hd hX (by omega) hn0 (by omega) (by omega) hI nxt)
      | 38, _ => exact J_tableIn (off := 2561) (tgt := 2601) hS dL_law__40 (by decide) (by decide) rfl (by decide) (lc_nearest hS hd hX (by omega) hn0 (by omega) (by omega) hI nxt)
      | 39, _ => exact J_tableIn (off := 2617) (tgt := 2657) hS dL_law__40 (by decide) (by decide) rfl (by decide) (lc_since hS hd hX (by omega) hn0 (by omega) (by omega) hI nxt)
      | 40, _ => exact J_tableIn (off := 2685) (tgt := 2725) hS dL_law__40 (by decide) (by decide) rfl (by decide) (lc_taught hS hd hX (by omega) hn0 (by omega) (by omega) hI nxt)
      | 41, _ => exact J_tableIn (off := 2753) (tgt := 2793) hS dL_law__40 (by decide) (by decide) rfl (by decide) (lc_root hS hd hX (by omega) hn0 (by omega) (by omega) hI nxt)
      | 42, _ => exact J_tableIn (off := 2821) (tgt := 2861) hS dL_law__40 (by decide) (by decide) rfl (by decide) (lc_untaught hS hd hX (by omega) hn0 (by omega) (by omega) hI nxt)
      | 43, _ => exact J_tableIn (off := 2901) (tgt := 2941) hS dL_law__40 (by decide) (by decide) rfl (by decide) (lc_odds hS hd hX (by omega) hn0 (by omega) (by omega) hI nxt)
      | 44, _ => exact J_tableIn (off := 2993) (tgt := 3033) hS dL_law__40 (by decide) (by decide) rfl (by decide) (lc_right hS hd hX (by omega) hn0 (by omega) (by omega) hI nxt)
      | 45, _ => exact J_tableIn (off := 3073) (tgt := 3113) hS dL_law__40 (by decide) (by decide) rfl (by decide) (lc_count hS hd hX (by omega) hn0 (by omega) (by omega) hI nxt)
      | q + 46, h46 => exact absurd h46 (by omega)
    · refine J_tableOut (tgt := 3138) hS dL_law__40 (Or.inr ?_) (by decide) (nxt g a b k n (by omega) (by omega) hI)
      rw [nI_toInt (by omega)]
      omega
end LawLoop

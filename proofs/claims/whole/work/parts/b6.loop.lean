/-! ===== the loop over the script ===== -/
theorem nI_0le {i : Nat} (h : i < 2147483648) : (0 : Int32) ≤ nI i := nI_le (a := 0) (Nat.zero_le _) h
theorem and63 (x : Int32) : ∃ j, j < 64 ∧ x &&& nI 63 = nI j := by
  refine ⟨(x &&& nI 63).toBitVec.toNat, ?_, ?_⟩
  · rw [Int32.toBitVec_and, BitVec.toNat_and]
    exact Nat.lt_of_le_of_lt Nat.and_le_right (by decide)
  · apply Int32.toBitVec_inj.mp
    show _ = BitVec.ofNat 32 _
    rw [BitVec.ofNat_toNat, BitVec.setWidth_eq]
theorem sw_hi : ∀ j, j < 64 → 43 ≤ j → (42 : Int) < (nI j).toInt := by decide +kernel
theorem len8 : ∀ n, n < 8 → nI n - nI 8 < 0 := by decide +kernel
theorem lp_cmp {n i : Nat} (hn : n ≤ 4096) (hi : i ≤ 5000) : nI n - nI 8 < nI i ↔ n < i + 8 := by
  by_cases h : 8 ≤ n
  · rw [pk_sub (a := n) (b := 8) h, nI_ltI (by omega) (by omega)]
    omega
  · have h1 := len8 n (by omega)
    exact ⟨fun _ => by omega, fun _ => Int32.lt_of_lt_of_le h1 (nI_0le (by omega))⟩
set_option maxRecDepth 100000 in
theorem law_body (Γ : pTG) (hL : Γ.2.2.2.2.1.1 ≤ 4096) (i : Nat) (hi : i + 8 ≤ Γ.2.2.2.2.1.1) {K N : Nat} (hK : 20 ≤ K) (hN : 5000 ≤ N) {g : pGG} {mi : pMI} {ml : pML} {A : AS} (hI : LI A g mi ml) {Q : pQ} (hk : ∀ A' g' m' l', LI A' g' m' l' → XW Γ 100 (K - 20) (N - 5000) mL_law 2594 [(4, .int (nI i)), (0, .ref 999), (1, .ref 0), (2, .ref 87), (3, .ref 450)] [] g' m' l' Q) : XW Γ 100 K N mL_law 33 [(4, .int (nI i)), (0, .ref 999), (1, .ref 0), (2, .ref 87), (3, .ref 450)] [] g mi ml Q := by
  refine X_aload_n dL_law_33 rfl ?_
  refine X_iload dL_law_34 rfl ?_
  refine X_xld i dL_law_36 rfl (by omega) hL ?_
  refine X_bipush (v := nI 63) dL_law_37 (by decide) ?_
  refine X_iand dL_law_39 ?_
  obtain ⟨j, hj, hv⟩ := and63 (Γ.2.2.2.2.1.2 i)
  rw [hv]
  by_cases h0 : j = 0
  · rw [h0]; exact X_tswI (off := 188) 228 dL_law_40 (by decide) (by decide) (by decide) (by decide) (law_feed Γ hL i hi hK hN hI hk)
  by_cases h1 : j = 1
  · rw [h1]; exact X_tswI (off := 261) 301 dL_law_40 (by decide) (by decide) (by decide) (by decide) (law_pool Γ hL i hi hK hN hI hk)
  by_cases h2 : j = 2
  · rw [h2]; exact X_tswI (off := 317) 357 dL_law_40 (by decide) (by decide) (by decide) (by decide) (law_habit Γ hL i hi hK hN hI hk)
  by_cases h3 : j = 3
  · rw [h3]; exact X_tswI (off := 385) 425 dL_law_40 (by decide) (by decide) (by decide) (by decide) (law_book Γ hL i hi hK hN hI hk)
  by_cases h4 : j = 4
  · rw [h4]; exact X_tswI (off := 441) 481 dL_law_40 (by decide) (by decide) (by decide) (by decide) (law_fault Γ hL i hi hK hN hI hk)
  by_cases h5 : j = 5
  · rw [h5]; exact X_tswI (off := 454) 494 dL_law_40 (by decide) (by decide) (by decide) (by decide) (law_told Γ hL i hi hK hN hI hk)
  by_cases h6 : j = 6
  · rw [h6]; exact X_tswI (off := 510) 550 dL_law_40 (by decide) (by decide) (by decide) (by decide) (law_chair Γ hL i hi hK hN hI hk)
  by_cases h7 : j = 7
  · rw [h7]; exact X_tswI (off := 578) 618 dL_law_40 (by decide) (by decide) (by decide) (by decide) (law_guest Γ hL i hi hK hN hI hk)
  by_cases h8 : j = 8
  · rw [h8]; exact X_tswI (off := 646) 686 dL_law_40 (by decide) (by decide) (by decide) (by decide) (law_day Γ hL i hi hK hN hI hk)
  by_cases h9 : j = 9
  · rw [h9]; exact X_tswI (off := 702) 742 dL_law_40 (by decide) (by decide) (by decide) (by decide) (law_did Γ hL i hi hK hN hI hk)
  by_cases h10 : j = 10
  · rw [h10]; exact X_tswI (off := 770) 810 dL_law_40 (by decide) (by decide) (by decide) (by decide) (law_towel Γ hL i hi hK hN hI hk)
  by_cases h11 : j = 11
  · rw [h11]; exact X_tswI (off := 838) 878 dL_law_40 (by decide) (by decide) (by decide) (by decide) (law_lies Γ hL i hi hK hN hI hk)
  by_cases h12 : j = 12
  · rw [h12]; exact X_tswI (off := 906) 946 dL_law_40 (by decide) (by decide) (by decide) (by decide) (law_waits Γ hL i hi hK hN hI hk)
  by_cases h13 : j = 13
  · rw [h13]; exact X_tswI (off := 962) 1002 dL_law_40 (by decide) (by decide) (by decide) (by decide) (law_sums Γ hL i hi hK hN hI hk)
  by_cases h14 : j = 14
  · rw [h14]; exact X_tswI (off := 1018) 1058 dL_law_40 (by decide) (by decide) (by decide) (by decide) (law_worth Γ hL i hi hK hN hI hk)
  by_cases h15 : j = 15
  · rw [h15]; exact X_tswI (off := 1098) 1138 dL_law_40 (by decide) (by decide) (by decide) (by decide) (law_would Γ hL i hi hK hN hI hk)
  by_cases h16 : j = 16
  · rw [h16]; exact X_tswI (off := 1230) 1270 dL_law_40 (by decide) (by decide) (by decide) (by decide) (law_round Γ hL i hi hK hN hI hk)
  by_cases h17 : j = 17
  · rw [h17]; exact X_tswI (off := 1286) 1326 dL_law_40 (by decide) (by decide) (by decide) (by decide) (law_out Γ hL i hi hK hN hI hk)
  by_cases h18 : j = 18
  · rw [h18]; exact X_tswI (off := 1342) 1382 dL_law_40 (by decide) (by decide) (by decide) (by decide) (law_had Γ hL i hi hK hN hI hk)
  by_cases h19 : j = 19
  · rw [h19]; exact X_tswI (off := 1410) 1450 dL_law_40 (by decide) (by decide) (by decide) (by decide) (law_still Γ hL i hi hK hN hI hk)
  by_cases h20 : j = 20
  · rw [h20]; exact X_tswI (off := 1478) 1518 dL_law_40 (by decide) (by decide) (by decide) (by decide) (law_net Γ hL i hi hK hN hI hk)
  by_cases h21 : j = 21
  · rw [h21]; exact X_tswI (off := 1546) 1586 dL_law_40 (by decide) (by decide) (by decide) (by decide) (law_given Γ hL i hi hK hN hI hk)
  by_cases h22 : j = 22
  · rw [h22]; exact X_tswI (off := 1559) 1599 dL_law_40 (by decide) (by decide) (by decide) (by decide) (law_gets Γ hL i hi hK hN hI hk)
  by_cases h23 : j = 23
  · rw [h23]; exact X_tswI (off := 1615) 1655 dL_law_40 (by decide) (by decide) (by decide) (by decide) (law_waste Γ hL i hi hK hN hI hk)
  by_cases h24 : j = 24
  · rw [h24]; exact X_tswI (off := 1628) 1668 dL_law_40 (by decide) (by decide) (by decide) (by decide) (law_more Γ hL i hi hK hN hI hk)
  by_cases h25 : j = 25
  · rw [h25]; exact X_tswI (off := 1696) 1736 dL_law_40 (by decide) (by decide) (by decide) (by decide) (law_want Γ hL i hi hK hN hI hk)
  by_cases h26 : j = 26
  · rw [h26]; exact X_tswI (off := 1752) 1792 dL_law_40 (by decide) (by decide) (by decide) (by decide) (law_just Γ hL i hi hK hN hI hk)
  by_cases h27 : j = 27
  · rw [h27]; exact X_tswI (off := 1808) 1848 dL_law_40 (by decide) (by decide) (by decide) (by decide) (law_off Γ hL i hi hK hN hI hk)
  by_cases h28 : j = 28
  · rw [h28]; exact X_tswI (off := 1864) 1904 dL_law_40 (by decide) (by decide) (by decide) (by decide) (law_turnsOf Γ hL i hi hK hN hI hk)
  by_cases h29 : j = 29
  · rw [h29]; exact X_tswI (off := 1920) 1960 dL_law_40 (by decide) (by decide) (by decide) (by decide) (law_lot Γ hL i hi hK hN hI hk)
  by_cases h30 : j = 30
  · rw [h30]; exact X_tswI (off := 1988) 2028 dL_law_40 (by decide) (by decide) (by decide) (by decide) (law_lucky Γ hL i hi hK hN hI hk)
  by_cases h31 : j = 31
  · rw [h31]; exact X_tswI (off := 2068) 2108 dL_law_40 (by decide) (by decide) (by decide) (by decide) (law_summer Γ hL i hi hK hN hI hk)
  by_cases h32 : j = 32
  · rw [h32]; exact X_tswI (off := 2148) 2188 dL_law_40 (by decide) (by decide) (by decide) (by decide) (law_fits Γ hL i hi hK hN hI hk)
  by_cases h33 : j = 33
  · rw [h33]; exact X_tswI (off := 2204) 2244 dL_law_40 (by decide) (by decide) (by decide) (by decide) (law_right Γ hL i hi hK hN hI hk)
  by_cases h34 : j = 34
  · rw [h34]; exact X_tswI (off := 2217) 2257 dL_law_40 (by decide) (by decide) (by decide) (by decide) (law_early Γ hL i hi hK hN hI hk)
  by_cases h35 : j = 35
  · rw [h35]; exact X_tswI (off := 2273) 2313 dL_law_40 (by decide) (by decide) (by decide) (by decide) (law_hotel Γ hL i hi hK hN hI hk)
  by_cases h36 : j = 36
  · rw [h36]; exact X_tswI (off := 2341) 2381 dL_law_40 (by decide) (by decide) (by decide) (by decide) (law_hire Γ hL i hi hK hN hI hk)
  by_cases h37 : j = 37
  · rw [h37]; exact X_tswI (off := 2397) 2437 dL_law_40 (by decide) (by decide) (by decide) (by decide) (law_wakes Γ hL i hi hK hN hI hk)
  by_cases h38 : j = 38
  · rw [h38]; exact X_tswI (off := 2465) 2505 dL_law_40 (by decide) (by decide) (by decide) (by decide) (law_undo Γ hL i hi hK hN hI hk)
  by_cases h39 : j = 39
  · rw [h39]; exact X_tswI (off := 2478) 2518 dL_law_40 (by decide) (by decide) (by decide) (by decide) (law_image Γ hL i hi hK hN hI hk)
  by_cases h40 : j = 40
  · rw [h40]; exact X_tswI (off := 2491) 2531 dL_law_40 (by decide) (by decide) (by decide) (by decide) (law_restore Γ hL i hi hK hN hI hk)
  by_cases h41 : j = 41
  · rw [h41]; exact X_tswI (off := 2504) 2544 dL_law_40 (by decide) (by decide) (by decide) (by decide) (law_status Γ hL i hi hK hN hI hk)
  by_cases h42 : j = 42
  · rw [h42]; exact X_tswI (off := 2529) 2569 dL_law_40 (by decide) (by decide) (by decide) (by decide) (law_count Γ hL i hi hK hN hI hk)
  exact X_tswO 2594 dL_law_40 (Or.inr (sw_hi j hj (by omega))) (by decide) (XW_k (Nat.sub_le _ _) (Nat.sub_le _ _) (hk A g mi ml hI))
set_option maxRecDepth 100000 in
theorem law_loop (Γ : pTG) (hL : Γ.2.2.2.2.1.1 ≤ 4096) : ∀ (c i K N : Nat) (A : AS) (g : pGG) (mi : pMI) (ml : pML), Γ.2.2.2.2.1.1 < i + 8 * (c + 1) → i ≤ 4104 → c * 20 ≤ K → c * 5000 ≤ N → LI A g mi ml → XW Γ 100 K N mL_law 23 [(4, .int (nI i)), (0, .ref 999), (1, .ref 0), (2, .ref 87), (3, .ref 450)] [] g mi ml (fun r _ _ _ => r = .inl (some (.int 1))) := by
  intro c
  induction c with
  | zero =>
    intro i K N A g mi ml h1 h2 h3 h4 hI
    refine X_iload dL_law_23 rfl ?_
    refine X_aload_n dL_law_25 rfl ?_
    refine X_xlen dL_law_26 ?_
    refine X_bipush (v := nI 8) dL_law_27 (by decide) ?_
    refine X_isub dL_law_29 ?_
    refine X_icmp_gt 2600 dL_law_30 (by decide) (fun _ => ?_) (fun h => ?_)
    · refine X_iconst (v := 1) dL_law_2600 (by decide) ?_
      exact X_zret (ty := .boolean) dL_law_2601 rfl (by decide) rfl
    · exact absurd ((lp_cmp hL (by omega)).mpr (by omega)) h
  | succ c ih =>
    intro i K N A g mi ml h1 h2 h3 h4 hI
    refine X_iload dL_law_23 rfl ?_
    refine X_aload_n dL_law_25 rfl ?_
    refine X_xlen dL_law_26 ?_
    refine X_bipush (v := nI 8) dL_law_27 (by decide) ?_
    refine X_isub dL_law_29 ?_
    refine X_icmp_gt 2600 dL_law_30 (by decide) (fun _ => ?_) (fun h => ?_)
    · refine X_iconst (v := 1) dL_law_2600 (by decide) ?_
      exact X_zret (ty := .boolean) dL_law_2601 rfl (by decide) rfl
    · have hi : i + 8 ≤ Γ.2.2.2.2.1.1 := Nat.le_of_not_lt (fun q => h ((lp_cmp hL (by omega)).mpr q))
      refine law_body Γ hL i hi (by omega) (by omega) hI (fun A' g' m' l' hI' => ?_)
      refine X_iinc (v := nI (i + 8)) dL_law_2594 rfl (nI_add _ _) (by decide) ?_
      refine X_goto 23 dL_law_2597 (by decide) ?_
      refine X_L [(4, .int (nI (i + 8))), (0, .ref 999), (1, .ref 0), (2, .ref 87), (3, .ref 450)] ⟨rfl, rfl, rfl, rfl, rfl, trivial⟩ ?_
      exact ih (i + 8) _ _ A' g' m' l' (by omega) (by omega) (by omega) (by omega) hI'

/-! ===== the loop over the script ===== -/
theorem nI_0le {i : Nat} (h : i < 2147483648) : (0 : Int32) ≤ nI i := nI_le (a := 0) (Nat.zero_le _) h
theorem and63 (x : Int32) : ∃ j, j < 64 ∧ x &&& nI 63 = nI j := by
  refine ⟨(x &&& nI 63).toBitVec.toNat, ?_, ?_⟩
  · rw [Int32.toBitVec_and, BitVec.toNat_and]
    exact Nat.lt_of_le_of_lt Nat.and_le_right (by decide)
  · apply Int32.toBitVec_inj.mp
    show _ = BitVec.ofNat 32 _
    rw [BitVec.ofNat_toNat, BitVec.setWidth_eq]
theorem sw_hi : ∀ j, j < 64 → 43 ≤ j → (42 : Int) < (nI j).toInt := by decide +kernel
theorem len8 : ∀ n, n < 8 → nI n - nI 8 < 0 := by decide +kernel
theorem lp_cmp {n i : Nat} (hn : n ≤ 4096) (hi : i ≤ 5000) : nI n - nI 8 < nI i ↔ n < i + 8 := by
  by_cases h : 8 ≤ n
  · rw [pk_sub (a := n) (b := 8) h, nI_ltI (by omega) (by omega)]
    omega
  · have h1 := len8 n (by omega)
    exact ⟨fun _ => by omega, fun _ => Int32.lt_of_lt_of_le h1 (nI_0le (by omega))⟩
theorem law_body (Γ : pTG) (hL : Γ.2.2.2.2.1.1 ≤ 4096) (i : Nat) (hi : i + 8 ≤ Γ.2.2.2.2.1.1) {K N : Nat} (hK : 20 ≤ K) (hN : 5000 ≤ N) {g : pGG} {mi : pMI} {ml : pML} {A : AS} (hI : LI A g mi ml) {Q : pQ} (hk : ∀ A' g' m' l', LI A' g' m' l' → XW Γ 100 (K - 20) (N - 5000) mL_law 2594 [(4, .int (nI i)), (0, .ref 999), (1, .ref 0), (2, .ref 87), (3, .ref 450)] [] g' m' l' Q) : XW Γ 100 K N mL_law 33 [(4, .int (nI i)), (0, .ref 999), (1, .ref 0), (2, .ref 87), (3, .ref 450)] [] g mi ml Q := by
  refine X_aload_n dL_law_33 rfl ?_
  refine X_iload dL_law_34 rfl ?_
  refine X_xld i dL_law_36 rfl (by omega) hL ?_
  refine X_bipush (v := nI 63) dL_law_37 (by decide) ?_
  refine X_iand dL_law_39 ?_
  obtain ⟨j, hj, hv⟩ := and63 (Γ.2.2.2.2.1.2 i)
  rw [hv]
  match j, hj with
  | 0, _ => exact X_tswI (off := 188) 228 dL_law_40 (by decide) (by decide) (by decide) (by decide) (law_feed Γ hL i hi hK hN hI hk)
  | 1, _ => exact X_tswI (off := 261) 301 dL_law_40 (by decide) (by decide) (by decide) (by decide) (law_pool Γ hL i hi hK hN hI hk)
  | 2, _ => exact X_tswI (off := 317) 357 dL_law_40 (by decide) (by decide) (by decide) (by decide) (law_habit Γ hL i hi hK hN hI hk)
  | 3, _ => exact X_tswI (off := 385) 425 dL_law_40 (by decide) (by decide) (by decide) (by decide) (law_book Γ hL i hi hK hN hI hk)
  | 4, _ => exact X_tswI (off := 441) 481 dL_law_40 (by decide) (by decide) (by decide) (by decide) (law_fault Γ hL i hi hK hN hI hk)
  | 5, _ => exact X_tswI (off := 454) 494 dL_law_40 (by decide) (by decide) (by decide) (by decide) (law_told Γ hL i hi hK hN hI hk)
  | 6, _ => exact X_tswI (off := 510) 550 dL_law_40 (by decide) (by decide) (by decide) (by decide) (law_chair Γ hL i hi hK hN hI hk)
  | 7, _ => exact X_tswI (off := 578) 618 dL_law_40 (by decide) (by decide) (by decide) (by decide) (law_guest Γ hL i hi hK hN hI hk)
  | 8, _ => exact X_tswI (off := 646) 686 dL_law_40 (by decide) (by decide) (by decide) (by decide) (law_day Γ hL i hi hK hN hI hk)
  | 9, _ => exact X_tswI (off := 702) 742 dL_law_40 (by decide) (by decide) (by decide) (by decide) (law_did Γ hL i hi hK hN hI hk)
  | 10, _ => exact X_tswI (off := 770) 810 dL_law_40 (by decide) (by decide) (by decide) (by decide) (law_towel Γ hL i hi hK hN hI hk)
  | 11, _ => exact X_tswI (off := 838) 878 dL_law_40 (by decide) (by decide) (by decide) (by decide) (law_lies Γ hL i hi hK hN hI hk)
  | 12, _ => exact X_tswI (off := 906) 946 dL_law_40 (by decide) (by decide) (by decide) (by decide) (law_waits Γ hL i hi hK hN hI hk)
  | 13, _ => exact X_tswI (off := 962) 1002 dL_law_40 (by decide) (by decide) (by decide) (by decide) (law_sums Γ hL i hi hK hN hI hk)
  | 14, _ => exact X_tswI (off := 1018) 1058 dL_law_40 (by decide) (by decide) (by decide) (by decide) (law_worth Γ hL i hi hK hN hI hk)
  | 15, _ => exact X_tswI (off := 1098) 1138 dL_law_40 (by decide) (by decide) (by decide) (by decide) (law_would Γ hL i hi hK hN hI hk)
  | 16, _ => exact X_tswI (off := 1230) 1270 dL_law_40 (by decide) (by decide) (by decide) (by decide) (law_round Γ hL i hi hK hN hI hk)
  | 17, _ => exact X_tswI (off := 1286) 1326 dL_law_40 (by decide) (by decide) (by decide) (by decide) (law_out Γ hL i hi hK hN hI hk)
  | 18, _ => exact X_tswI (off := 1342) 1382 dL_law_40 (by decide) (by decide) (by decide) (by decide) (law_had Γ hL i hi hK hN hI hk)
  | 19, _ => exact X_tswI (off := 1410) 1450 dL_law_40 (by decide) (by decide) (by decide) (by decide) (law_still Γ hL i hi hK hN hI hk)
  | 20, _ => exact X_tswI (off := 1478) 1518 dL_law_40 (by decide) (by decide) (by decide) (by decide) (law_net Γ hL i hi hK hN hI hk)
  | 21, _ => exact X_tswI (off := 1546) 1586 dL_law_40 (by decide) (by decide) (by decide) (by decide) (law_given Γ hL i hi hK hN hI hk)
  | 22, _ => exact X_tswI (off := 1559) 1599 dL_law_40 (by decide) (by decide) (by decide) (by decide) (law_gets Γ hL i hi hK hN hI hk)
  | 23, _ => exact X_tswI (off := 1615) 1655 dL_law_40 (by decide) (by decide) (by decide) (by decide) (law_waste Γ hL i hi hK hN hI hk)
  | 24, _ => exact X_tswI (off := 1628) 1668 dL_law_40 (by decide) (by decide) (by decide) (by decide) (law_more Γ hL i hi hK hN hI hk)
  | 25, _ => exact X_tswI (off := 1696) 1736 dL_law_40 (by decide) (by decide) (by decide) (by decide) (law_want Γ hL i hi hK hN hI hk)
  | 26, _ => exact X_tswI (off := 1752) 1792 dL_law_40 (by decide) (by decide) (by decide) (by decide) (law_just Γ hL i hi hK hN hI hk)
  | 27, _ => exact X_tswI (off := 1808) 1848 dL_law_40 (by decide) (by decide) (by decide) (by decide) (law_off Γ hL i hi hK hN hI hk)
  | 28, _ => exact X_tswI (off := 1864) 1904 dL_law_40 (by decide) (by decide) (by decide) (by decide) (law_turnsOf Γ hL i hi hK hN hI hk)
  | 29, _ => exact X_tswI (off := 1920) 1960 dL_law_40 (by decide) (by decide) (by decide) (by decide) (law_lot Γ hL i hi hK hN hI hk)
  | 30, _ => exact X_tswI (off := 1988) 2028 dL_law_40 (by decide) (by decide) (by decide) (by decide) (law_lucky Γ hL i hi hK hN hI hk)
  | 31, _ => exact X_tswI (off := 2068) 2108 dL_law_40 (by decide) (by decide) (by decide) (by decide) (law_summer Γ hL i hi hK hN hI hk)
  | 32, _ => exact X_tswI (off := 2148) 2188 dL_law_40 (by decide) (by decide) (by decide) (by decide) (law_fits Γ hL i hi hK hN hI hk)
  | 33, _ => exact X_tswI (off := 2204) 2244 dL_law_40 (by decide) (by decide) (by decide) (by decide) (law_right Γ hL i hi hK hN hI hk)
  | 34, _ => exact X_tswI (off := 2217) 2257 dL_law_40 (by decide) (by decide) (by decide) (by decide) (law_early Γ hL i hi hK hN hI hk)
  | 35, _ => exact X_tswI (off := 2273) 2313 dL_law_40 (by decide) (by decide) (by decide) (by decide) (law_hotel Γ hL i hi hK hN hI hk)
  | 36, _ => exact X_tswI (off := 2341) 2381 dL_law_40 (by decide) (by decide) (by decide) (by decide) (law_hire Γ hL i hi hK hN hI hk)
  | 37, _ => exact X_tswI (off := 2397) 2437 dL_law_40 (by decide) (by decide) (by decide) (by decide) (law_wakes Γ hL i hi hK hN hI hk)
  | 38, _ => exact X_tswI (off := 2465) 2505 dL_law_40 (by decide) (by decide) (by decide) (by decide) (law_undo Γ hL i hi hK hN hI hk)
  | 39, _ => exact X_tswI (off := 2478) 2518 dL_law_40 (by decide) (by decide) (by decide) (by decide) (law_image Γ hL i hi hK hN hI hk)
  | 40, _ => exact X_tswI (off := 2491) 2531 dL_law_40 (by decide) (by decide) (by decide) (by decide) (law_restore Γ hL i hi hK hN hI hk)
  | 41, _ => exact X_tswI (off := 2504) 2544 dL_law_40 (by decide) (by decide) (by decide) (by decide) (law_status Γ hL i hi hK hN hI hk)
  | 42, _ => exact X_tswI (off := 2529) 2569 dL_law_40 (by decide) (by decide) (by decide) (by decide) (law_count Γ hL i hi hK hN hI hk)
  | j + 43, hj => exact X_tswO 2594 dL_law_40 (Or.inr (sw_hi (j + 43) hj (by omega))) (by decide) (XW_k (Nat.sub_le _ _) (Nat.sub_le _ _) (hk A g mi ml hI))
theorem law_loop (Γ : pTG) (hL : Γ.2.2.2.2.1.1 ≤ 4096) : ∀ (c i K N : Nat) (A : AS) (g : pGG) (mi : pMI) (ml : pML), Γ.2.2.2.2.1.1 < i + 8 * (c + 1) → i ≤ 4104 → c * 20 ≤ K → c * 5000 ≤ N → LI A g mi ml → XW Γ 100 K N mL_law 23 [(4, .int (nI i)), (0, .ref 999), (1, .ref 0), (2, .ref 87), (3, .ref 450)] [] g mi ml (fun r _ _ _ => r = .inl (some (.int 1)))
  | 0, i, K, N, A, g, mi, ml, h1, h2, h3, h4, hI => by
    refine X_iload dL_law_23 rfl ?_
    refine X_aload_n dL_law_25 rfl ?_
    refine X_xlen dL_law_26 ?_
    refine X_bipush (v := nI 8) dL_law_27 (by decide) ?_
    refine X_isub dL_law_29 ?_
    refine X_icmp_gt 2600 dL_law_30 (by decide) (fun _ => ?_) (fun h => ?_)
    · refine X_iconst (v := 1) dL_law_2600 (by decide) ?_
      exact X_zret (ty := .boolean) dL_law_2601 rfl (by decide) rfl
    · exact absurd ((lp_cmp hL (by omega)).mpr (by omega)) h
  | c + 1, i, K, N, A, g, mi, ml, h1, h2, h3, h4, hI => by
    refine X_iload dL_law_23 rfl ?_
    refine X_aload_n dL_law_25 rfl ?_
    refine X_xlen dL_law_26 ?_
    refine X_bipush (v := nI 8) dL_law_27 (by decide) ?_
    refine X_isub dL_law_29 ?_
    refine X_icmp_gt 2600 dL_law_30 (by decide) (fun _ => ?_) (fun h => ?_)
    · refine X_iconst (v := 1) dL_law_2600 (by decide) ?_
      exact X_zret (ty := .boolean) dL_law_2601 rfl (by decide) rfl
    · have hi : i + 8 ≤ Γ.2.2.2.2.1.1 := Nat.le_of_not_lt (fun q => h ((lp_cmp hL (by omega)).mpr q))
      refine law_body Γ hL i hi (by omega) (by omega) hI (fun A' g' m' l' hI' => ?_)
      refine X_iinc (v := nI (i + 8)) dL_law_2594 rfl (nI_add _ _) (by decide) ?_
      refine X_goto 23 dL_law_2597 (by decide) ?_
      refine X_L [(4, .int (nI (i + 8))), (0, .ref 999), (1, .ref 0), (2, .ref 87), (3, .ref 450)] ⟨rfl, rfl, rfl, rfl, rfl, trivial⟩ ?_
      exact law_loop Γ hL c (i + 8) _ _ A' g' m' l' (by omega) (by omega) (by omega) (by omega) hI'

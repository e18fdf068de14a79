set_option maxRecDepth 100000 in
theorem law_habit (Γ : pTG) (hL : Γ.2.2.2.2.1.1 ≤ 4096) (i : Nat) (hi : i + 8 ≤ Γ.2.2.2.2.1.1) {K N : Nat} (hK : 20 ≤ K) (hN : 5000 ≤ N) {g : pGG} {mi : pMI} {ml : pML} {A : AS} (hI : LI A g mi ml) {Q : pQ} (hk : ∀ A' g' m' l', LI A' g' m' l' → XW Γ 100 (K - 20) (N - 5000) mL_law 2594 [(4, .int (nI i)), (0, .ref 999), (1, .ref 0), (2, .ref 87), (3, .ref 450)] [] g' m' l' Q) : XW Γ 100 K N mL_law 357 [(4, .int (nI i)), (0, .ref 999), (1, .ref 0), (2, .ref 87), (3, .ref 450)] [] g mi ml Q := by
  obtain ⟨hA, hC, hR⟩ := hI
  have hSh := CI_Sh hC
  obtain ⟨x, A', hA', hj, hc, hr⟩ := m_habit A hA (Γ.2.2.2.2.1.2 (i + 1)) (Γ.2.2.2.2.1.2 (i + 2))
  refine X_aload_n dL_law_357 rfl ?_
  refine X_aload_n dL_law_358 rfl ?_
  refine X_iload dL_law_359 rfl ?_
  refine X_iconst (v := nI 1) dL_law_361 (by decide) ?_
  refine X_iadd dL_law_362 ?_
  refine X_topi (nI_add i 1) ?_
  refine X_xld (i + 1) dL_law_363 rfl (by omega) hL ?_
  refine X_aload_n dL_law_364 rfl ?_
  refine X_iload dL_law_365 rfl ?_
  refine X_iconst (v := nI 2) dL_law_367 (by decide) ?_
  refine X_iadd dL_law_368 ?_
  refine X_topi (nI_add i 2) ?_
  refine X_xld (i + 2) dL_law_369 rfl (by omega) hL ?_
  refine X_aload_n dL_law_370 rfl ?_
  refine X_callH (As := [.ref 0, .int (Γ.2.2.2.2.1.2 (i + 1)), .int (Γ.2.2.2.2.1.2 (i + 2)), .ref 450]) dL_law_371 mhL_137 (w_habit Γ g mi ml hSh A' x hj (Γ.2.2.2.2.1.2 (i + 1)) (Γ.2.2.2.2.1.2 (i + 2)) (hc Γ g mi ml hC)) rfl rfl (by decide) hK hN (Nat.le_of_ble_eq_true rfl) (fun E g' m' l' h => ?_) (fun v g' m' l' h => ?_)
  · obtain ⟨-, -, h3⟩ := h
    cases x with
    | inl v => cases h3.1
    | inr j => cases h3
  · obtain ⟨h1, h2, h3⟩ := h
    have hSh2 := CI_Sh h1
    have hR2 := RI_K hA hR h2
    cases x with
    | inl w =>
      obtain ⟨h4, h5⟩ := h3
      cases h4
      refine X_istore dL_law_374 (by decide) ?_
      refine X_aload_n dL_law_376 rfl ?_
      refine X_aload_n dL_law_377 rfl ?_
      refine X_iload dL_law_378 rfl ?_
      refine X_iconst (v := nI 1) dL_law_380 (by decide) ?_
      refine X_iadd dL_law_381 ?_
      refine X_topi (nI_add i 1) ?_
      refine X_xld (i + 1) dL_law_382 rfl (by omega) hL ?_
      refine X_aload_n dL_law_383 rfl ?_
      refine X_iload dL_law_384 rfl ?_
      refine X_iconst (v := nI 2) dL_law_386 (by decide) ?_
      refine X_iadd dL_law_387 ?_
      refine X_topi (nI_add i 2) ?_
      refine X_xld (i + 2) dL_law_388 rfl (by omega) hL ?_
      refine X_callV (As := [.int (Γ.2.2.2.2.1.2 (i + 1)), .int (Γ.2.2.2.2.1.2 (i + 2))]) (z := 0) dL_law_389 mkL_140 (k_87 hSh2) (hr Γ g' m' l' hSh2 hR2) rfl rfl (by decide) (Nat.zero_le _) (Nat.zero_le _) (Nat.le_of_ble_eq_true rfl) (fun E g2 m2 l2 h => ?_) (fun v2 g2 m2 l2 h => ?_)
      · obtain ⟨-, -, -, -, v3, ho, -⟩ := h
        cases ho
      · obtain ⟨hg2, hl2, hR3, hF3, v3, ho, hv⟩ := h
        cases ho
        rw [hg2, hl2]
        refine X_istore dL_law_392 (by decide) ?_
        refine X_aload_n dL_law_394 rfl ?_
        refine X_callVI (z := 0) dL_law_395 mkL_133 (k_87 hSh2) (c_thrown Γ g' m2 l' hSh2) rfl rfl (by decide) (Nat.le_of_ble_eq_true rfl) ?_
        rw [hv.2]
        refine X_iload dL_law_398 rfl ?_
        refine X_icmp_eq 405 dL_law_400 (by decide) (fun _ => ?_) (fun h => absurd rfl h)
        refine X_iload dL_law_405 rfl ?_
        refine X_if_ne 422 dL_law_407 (by decide) (fun h => absurd rfl h) (fun _ => ?_)
        refine X_aload_n dL_law_410 rfl ?_
        refine X_iconst (v := nI 0) dL_law_411 (by decide) ?_
        refine X_lald 0 dL_law_412 (k_450 hSh2) rfl (by decide) ?_
        refine X_iload dL_law_413 rfl ?_
        refine X_i2l dL_law_415 ?_
        refine X_lcmp dL_law_416 ?_
        refine X_topi (show lg_cmp (l' 450 0) v3.toInt64 = nI 0 by rw [h5, hv.1]; exact cmp_same _) ?_
        refine X_if_eq 422 dL_law_417 (by decide) (fun _ => ?_) (fun h => absurd rfl h)
        refine X_goto 2594 dL_law_422 (by decide) ?_
        refine X_L [(4, .int (nI i)), (0, .ref 999), (1, .ref 0), (2, .ref 87), (3, .ref 450)] ⟨rfl, rfl, rfl, rfl, rfl, trivial⟩ ?_
        exact hk A' g' m2 l' ⟨hA', CI_M2 h1 hF3, hR3⟩
    | inr j =>
      cases h3
      refine X_istore dL_law_374 (by decide) ?_
      refine X_aload_n dL_law_376 rfl ?_
      refine X_aload_n dL_law_377 rfl ?_
      refine X_iload dL_law_378 rfl ?_
      refine X_iconst (v := nI 1) dL_law_380 (by decide) ?_
      refine X_iadd dL_law_381 ?_
      refine X_topi (nI_add i 1) ?_
      refine X_xld (i + 1) dL_law_382 rfl (by omega) hL ?_
      refine X_aload_n dL_law_383 rfl ?_
      refine X_iload dL_law_384 rfl ?_
      refine X_iconst (v := nI 2) dL_law_386 (by decide) ?_
      refine X_iadd dL_law_387 ?_
      refine X_topi (nI_add i 2) ?_
      refine X_xld (i + 2) dL_law_388 rfl (by omega) hL ?_
      refine X_callV (As := [.int (Γ.2.2.2.2.1.2 (i + 1)), .int (Γ.2.2.2.2.1.2 (i + 2))]) (z := 0) dL_law_389 mkL_140 (k_87 hSh2) (hr Γ g' m' l' hSh2 hR2) rfl rfl (by decide) (Nat.zero_le _) (Nat.zero_le _) (Nat.le_of_ble_eq_true rfl) (fun E g2 m2 l2 h => ?_) (fun v2 g2 m2 l2 h => ?_)
      · obtain ⟨-, -, -, -, v3, ho, -⟩ := h
        cases ho
      · obtain ⟨hg2, hl2, hR3, hF3, v3, ho, hv⟩ := h
        cases ho
        rw [hg2, hl2]
        refine X_istore dL_law_392 (by decide) ?_
        refine X_aload_n dL_law_394 rfl ?_
        refine X_callVI (z := 0) dL_law_395 mkL_133 (k_87 hSh2) (c_thrown Γ g' m2 l' hSh2) rfl rfl (by decide) (Nat.le_of_ble_eq_true rfl) ?_
        rw [hv]
        refine X_iload dL_law_398 rfl ?_
        refine X_icmp_eq 405 dL_law_400 (by decide) (fun _ => ?_) (fun h => absurd rfl h)
        refine X_iload dL_law_405 rfl ?_
        refine X_if_ne 422 dL_law_407 (by decide) (fun _ => ?_) (fun h => absurd h (cd_ne (hj j rfl).2 (cd2_le j)))
        refine X_goto 2594 dL_law_422 (by decide) ?_
        refine X_L [(4, .int (nI i)), (0, .ref 999), (1, .ref 0), (2, .ref 87), (3, .ref 450)] ⟨rfl, rfl, rfl, rfl, rfl, trivial⟩ ?_
        exact hk A' g' m2 l' ⟨hA', CI_M2 h1 hF3, hR3⟩
set_option maxRecDepth 100000 in
theorem law_chair (Γ : pTG) (hL : Γ.2.2.2.2.1.1 ≤ 4096) (i : Nat) (hi : i + 8 ≤ Γ.2.2.2.2.1.1) {K N : Nat} (hK : 20 ≤ K) (hN : 5000 ≤ N) {g : pGG} {mi : pMI} {ml : pML} {A : AS} (hI : LI A g mi ml) {Q : pQ} (hk : ∀ A' g' m' l', LI A' g' m' l' → XW Γ 100 (K - 20) (N - 5000) mL_law 2594 [(4, .int (nI i)), (0, .ref 999), (1, .ref 0), (2, .ref 87), (3, .ref 450)] [] g' m' l' Q) : XW Γ 100 K N mL_law 550 [(4, .int (nI i)), (0, .ref 999), (1, .ref 0), (2, .ref 87), (3, .ref 450)] [] g mi ml Q := by
  obtain ⟨hA, hC, hR⟩ := hI
  have hSh := CI_Sh hC
  obtain ⟨x, A', hA', hj, hc, hr⟩ := m_chair A hA (Γ.2.2.2.2.1.2 (i + 1)) (Γ.2.2.2.2.1.2 (i + 2))
  refine X_aload_n dL_law_550 rfl ?_
  refine X_aload_n dL_law_551 rfl ?_
  refine X_iload dL_law_552 rfl ?_
  refine X_iconst (v := nI 1) dL_law_554 (by decide) ?_
  refine X_iadd dL_law_555 ?_
  refine X_topi (nI_add i 1) ?_
  refine X_xld (i + 1) dL_law_556 rfl (by omega) hL ?_
  refine X_aload_n dL_law_557 rfl ?_
  refine X_iload dL_law_558 rfl ?_
  refine X_iconst (v := nI 2) dL_law_560 (by decide) ?_
  refine X_iadd dL_law_561 ?_
  refine X_topi (nI_add i 2) ?_
  refine X_xld (i + 2) dL_law_562 rfl (by omega) hL ?_
  refine X_aload_n dL_law_563 rfl ?_
  refine X_callH (As := [.ref 0, .int (Γ.2.2.2.2.1.2 (i + 1)), .int (Γ.2.2.2.2.1.2 (i + 2)), .ref 450]) dL_law_564 mhL_151 (w_chair Γ g mi ml hSh A' x hj (Γ.2.2.2.2.1.2 (i + 1)) (Γ.2.2.2.2.1.2 (i + 2)) (hc Γ g mi ml hC)) rfl rfl (by decide) hK hN (Nat.le_of_ble_eq_true rfl) (fun E g' m' l' h => ?_) (fun v g' m' l' h => ?_)
  · obtain ⟨-, -, h3⟩ := h
    cases x with
    | inl v => cases h3.1
    | inr j => cases h3
  · obtain ⟨h1, h2, h3⟩ := h
    have hSh2 := CI_Sh h1
    have hR2 := RI_K hA hR h2
    cases x with
    | inl w =>
      obtain ⟨h4, h5⟩ := h3
      cases h4
      refine X_istore dL_law_567 (by decide) ?_
      refine X_aload_n dL_law_569 rfl ?_
      refine X_aload_n dL_law_570 rfl ?_
      refine X_iload dL_law_571 rfl ?_
      refine X_iconst (v := nI 1) dL_law_573 (by decide) ?_
      refine X_iadd dL_law_574 ?_
      refine X_topi (nI_add i 1) ?_
      refine X_xld (i + 1) dL_law_575 rfl (by omega) hL ?_
      refine X_aload_n dL_law_576 rfl ?_
      refine X_iload dL_law_577 rfl ?_
      refine X_iconst (v := nI 2) dL_law_579 (by decide) ?_
      refine X_iadd dL_law_580 ?_
      refine X_topi (nI_add i 2) ?_
      refine X_xld (i + 2) dL_law_581 rfl (by omega) hL ?_
      refine X_callV (As := [.int (Γ.2.2.2.2.1.2 (i + 1)), .int (Γ.2.2.2.2.1.2 (i + 2))]) (z := 0) dL_law_582 mkL_153 (k_87 hSh2) (hr Γ g' m' l' hSh2 hR2) rfl rfl (by decide) (Nat.zero_le _) (Nat.zero_le _) (Nat.le_of_ble_eq_true rfl) (fun E g2 m2 l2 h => ?_) (fun v2 g2 m2 l2 h => ?_)
      · obtain ⟨-, -, -, -, v3, ho, -⟩ := h
        cases ho
      · obtain ⟨hg2, hl2, hR3, hF3, v3, ho, hv⟩ := h
        cases ho
        rw [hg2, hl2]
        refine X_istore dL_law_585 (by decide) ?_
        refine X_aload_n dL_law_587 rfl ?_
        refine X_callVI (z := 0) dL_law_588 mkL_133 (k_87 hSh2) (c_thrown Γ g' m2 l' hSh2) rfl rfl (by decide) (Nat.le_of_ble_eq_true rfl) ?_
        rw [hv.2]
        refine X_iload dL_law_591 rfl ?_
        refine X_icmp_eq 598 dL_law_593 (by decide) (fun _ => ?_) (fun h => absurd rfl h)
        refine X_iload dL_law_598 rfl ?_
        refine X_if_ne 615 dL_law_600 (by decide) (fun h => absurd rfl h) (fun _ => ?_)
        refine X_aload_n dL_law_603 rfl ?_
        refine X_iconst (v := nI 0) dL_law_604 (by decide) ?_
        refine X_lald 0 dL_law_605 (k_450 hSh2) rfl (by decide) ?_
        refine X_iload dL_law_606 rfl ?_
        refine X_i2l dL_law_608 ?_
        refine X_lcmp dL_law_609 ?_
        refine X_topi (show lg_cmp (l' 450 0) v3.toInt64 = nI 0 by rw [h5, hv.1]; exact cmp_same _) ?_
        refine X_if_eq 615 dL_law_610 (by decide) (fun _ => ?_) (fun h => absurd rfl h)
        refine X_goto 2594 dL_law_615 (by decide) ?_
        refine X_L [(4, .int (nI i)), (0, .ref 999), (1, .ref 0), (2, .ref 87), (3, .ref 450)] ⟨rfl, rfl, rfl, rfl, rfl, trivial⟩ ?_
        exact hk A' g' m2 l' ⟨hA', CI_M2 h1 hF3, hR3⟩
    | inr j =>
      cases h3
      refine X_istore dL_law_567 (by decide) ?_
      refine X_aload_n dL_law_569 rfl ?_
      refine X_aload_n dL_law_570 rfl ?_
      refine X_iload dL_law_571 rfl ?_
      refine X_iconst (v := nI 1) dL_law_573 (by decide) ?_
      refine X_iadd dL_law_574 ?_
      refine X_topi (nI_add i 1) ?_
      refine X_xld (i + 1) dL_law_575 rfl (by omega) hL ?_
      refine X_aload_n dL_law_576 rfl ?_
      refine X_iload dL_law_577 rfl ?_
      refine X_iconst (v := nI 2) dL_law_579 (by decide) ?_
      refine X_iadd dL_law_580 ?_
      refine X_topi (nI_add i 2) ?_
      refine X_xld (i + 2) dL_law_581 rfl (by omega) hL ?_
      refine X_callV (As := [.int (Γ.2.2.2.2.1.2 (i + 1)), .int (Γ.2.2.2.2.1.2 (i + 2))]) (z := 0) dL_law_582 mkL_153 (k_87 hSh2) (hr Γ g' m' l' hSh2 hR2) rfl rfl (by decide) (Nat.zero_le _) (Nat.zero_le _) (Nat.le_of_ble_eq_true rfl) (fun E g2 m2 l2 h => ?_) (fun v2 g2 m2 l2 h => ?_)
      · obtain ⟨-, -, -, -, v3, ho, -⟩ := h
        cases ho
      · obtain ⟨hg2, hl2, hR3, hF3, v3, ho, hv⟩ := h
        cases ho
        rw [hg2, hl2]
        refine X_istore dL_law_585 (by decide) ?_
        refine X_aload_n dL_law_587 rfl ?_
        refine X_callVI (z := 0) dL_law_588 mkL_133 (k_87 hSh2) (c_thrown Γ g' m2 l' hSh2) rfl rfl (by decide) (Nat.le_of_ble_eq_true rfl) ?_
        rw [hv]
        refine X_iload dL_law_591 rfl ?_
        refine X_icmp_eq 598 dL_law_593 (by decide) (fun _ => ?_) (fun h => absurd rfl h)
        refine X_iload dL_law_598 rfl ?_
        refine X_if_ne 615 dL_law_600 (by decide) (fun _ => ?_) (fun h => absurd h (cd_ne (hj j rfl).2 (cd2_le j)))
        refine X_goto 2594 dL_law_615 (by decide) ?_
        refine X_L [(4, .int (nI i)), (0, .ref 999), (1, .ref 0), (2, .ref 87), (3, .ref 450)] ⟨rfl, rfl, rfl, rfl, rfl, trivial⟩ ?_
        exact hk A' g' m2 l' ⟨hA', CI_M2 h1 hF3, hR3⟩
set_option maxRecDepth 100000 in
theorem law_towel (Γ : pTG) (hL : Γ.2.2.2.2.1.1 ≤ 4096) (i : Nat) (hi : i + 8 ≤ Γ.2.2.2.2.1.1) {K N : Nat} (hK : 20 ≤ K) (hN : 5000 ≤ N) {g : pGG} {mi : pMI} {ml : pML} {A : AS} (hI : LI A g mi ml) {Q : pQ} (hk : ∀ A' g' m' l', LI A' g' m' l' → XW Γ 100 (K - 20) (N - 5000) mL_law 2594 [(4, .int (nI i)), (0, .ref 999), (1, .ref 0), (2, .ref 87), (3, .ref 450)] [] g' m' l' Q) : XW Γ 100 K N mL_law 810 [(4, .int (nI i)), (0, .ref 999), (1, .ref 0), (2, .ref 87), (3, .ref 450)] [] g mi ml Q := by
  obtain ⟨hA, hC, hR⟩ := hI
  have hSh := CI_Sh hC
  obtain ⟨x, A', hA', hj, hc, hr⟩ := m_towel A hA (Γ.2.2.2.2.1.2 (i + 1)) (Γ.2.2.2.2.1.2 (i + 2))
  refine X_aload_n dL_law_810 rfl ?_
  refine X_aload_n dL_law_811 rfl ?_
  refine X_iload dL_law_812 rfl ?_
  refine X_iconst (v := nI 1) dL_law_814 (by decide) ?_
  refine X_iadd dL_law_815 ?_
  refine X_topi (nI_add i 1) ?_
  refine X_xld (i + 1) dL_law_816 rfl (by omega) hL ?_
  refine X_aload_n dL_law_817 rfl ?_
  refine X_iload dL_law_818 rfl ?_
  refine X_iconst (v := nI 2) dL_law_820 (by decide) ?_
  refine X_iadd dL_law_821 ?_
  refine X_topi (nI_add i 2) ?_
  refine X_xld (i + 2) dL_law_822 rfl (by omega) hL ?_
  refine X_aload_n dL_law_823 rfl ?_
  refine X_callH (As := [.ref 0, .int (Γ.2.2.2.2.1.2 (i + 1)), .int (Γ.2.2.2.2.1.2 (i + 2)), .ref 450]) dL_law_824 mhL_163 (w_towel Γ g mi ml hSh A' x hj (Γ.2.2.2.2.1.2 (i + 1)) (Γ.2.2.2.2.1.2 (i + 2)) (hc Γ g mi ml hC)) rfl rfl (by decide) hK hN (Nat.le_of_ble_eq_true rfl) (fun E g' m' l' h => ?_) (fun v g' m' l' h => ?_)
  · obtain ⟨-, -, h3⟩ := h
    cases x with
    | inl v => cases h3.1
    | inr j => cases h3
  · obtain ⟨h1, h2, h3⟩ := h
    have hSh2 := CI_Sh h1
    have hR2 := RI_K hA hR h2
    cases x with
    | inl w =>
      obtain ⟨h4, h5⟩ := h3
      cases h4
      refine X_istore dL_law_827 (by decide) ?_
      refine X_aload_n dL_law_829 rfl ?_
      refine X_aload_n dL_law_830 rfl ?_
      refine X_iload dL_law_831 rfl ?_
      refine X_iconst (v := nI 1) dL_law_833 (by decide) ?_
      refine X_iadd dL_law_834 ?_
      refine X_topi (nI_add i 1) ?_
      refine X_xld (i + 1) dL_law_835 rfl (by omega) hL ?_
      refine X_aload_n dL_law_836 rfl ?_
      refine X_iload dL_law_837 rfl ?_
      refine X_iconst (v := nI 2) dL_law_839 (by decide) ?_
      refine X_iadd dL_law_840 ?_
      refine X_topi (nI_add i 2) ?_
      refine X_xld (i + 2) dL_law_841 rfl (by omega) hL ?_
      refine X_callV (As := [.int (Γ.2.2.2.2.1.2 (i + 1)), .int (Γ.2.2.2.2.1.2 (i + 2))]) (z := 0) dL_law_842 mkL_165 (k_87 hSh2) (hr Γ g' m' l' hSh2 hR2) rfl rfl (by decide) (Nat.zero_le _) (Nat.zero_le _) (Nat.le_of_ble_eq_true rfl) (fun E g2 m2 l2 h => ?_) (fun v2 g2 m2 l2 h => ?_)
      · obtain ⟨-, -, -, -, v3, ho, -⟩ := h
        cases ho
      · obtain ⟨hg2, hl2, hR3, hF3, v3, ho, hv⟩ := h
        cases ho
        rw [hg2, hl2]
        refine X_istore dL_law_845 (by decide) ?_
        refine X_aload_n dL_law_847 rfl ?_
        refine X_callVI (z := 0) dL_law_848 mkL_133 (k_87 hSh2) (c_thrown Γ g' m2 l' hSh2) rfl rfl (by decide) (Nat.le_of_ble_eq_true rfl) ?_
        rw [hv.2]
        refine X_iload dL_law_851 rfl ?_
        refine X_icmp_eq 858 dL_law_853 (by decide) (fun _ => ?_) (fun h => absurd rfl h)
        refine X_iload dL_law_858 rfl ?_
        refine X_if_ne 875 dL_law_860 (by decide) (fun h => absurd rfl h) (fun _ => ?_)
        refine X_aload_n dL_law_863 rfl ?_
        refine X_iconst (v := nI 0) dL_law_864 (by decide) ?_
        refine X_lald 0 dL_law_865 (k_450 hSh2) rfl (by decide) ?_
        refine X_iload dL_law_866 rfl ?_
        refine X_i2l dL_law_868 ?_
        refine X_lcmp dL_law_869 ?_
        refine X_topi (show lg_cmp (l' 450 0) v3.toInt64 = nI 0 by rw [h5, hv.1]; exact cmp_same _) ?_
        refine X_if_eq 875 dL_law_870 (by decide) (fun _ => ?_) (fun h => absurd rfl h)
        refine X_goto 2594 dL_law_875 (by decide) ?_
        refine X_L [(4, .int (nI i)), (0, .ref 999), (1, .ref 0), (2, .ref 87), (3, .ref 450)] ⟨rfl, rfl, rfl, rfl, rfl, trivial⟩ ?_
        exact hk A' g' m2 l' ⟨hA', CI_M2 h1 hF3, hR3⟩
    | inr j =>
      cases h3
      refine X_istore dL_law_827 (by decide) ?_
      refine X_aload_n dL_law_829 rfl ?_
      refine X_aload_n dL_law_830 rfl ?_
      refine X_iload dL_law_831 rfl ?_
      refine X_iconst (v := nI 1) dL_law_833 (by decide) ?_
      refine X_iadd dL_law_834 ?_
      refine X_topi (nI_add i 1) ?_
      refine X_xld (i + 1) dL_law_835 rfl (by omega) hL ?_
      refine X_aload_n dL_law_836 rfl ?_
      refine X_iload dL_law_837 rfl ?_
      refine X_iconst (v := nI 2) dL_law_839 (by decide) ?_
      refine X_iadd dL_law_840 ?_
      refine X_topi (nI_add i 2) ?_
      refine X_xld (i + 2) dL_law_841 rfl (by omega) hL ?_
      refine X_callV (As := [.int (Γ.2.2.2.2.1.2 (i + 1)), .int (Γ.2.2.2.2.1.2 (i + 2))]) (z := 0) dL_law_842 mkL_165 (k_87 hSh2) (hr Γ g' m' l' hSh2 hR2) rfl rfl (by decide) (Nat.zero_le _) (Nat.zero_le _) (Nat.le_of_ble_eq_true rfl) (fun E g2 m2 l2 h => ?_) (fun v2 g2 m2 l2 h => ?_)
      · obtain ⟨-, -, -, -, v3, ho, -⟩ := h
        cases ho
      · obtain ⟨hg2, hl2, hR3, hF3, v3, ho, hv⟩ := h
        cases ho
        rw [hg2, hl2]
        refine X_istore dL_law_845 (by decide) ?_
        refine X_aload_n dL_law_847 rfl ?_
        refine X_callVI (z := 0) dL_law_848 mkL_133 (k_87 hSh2) (c_thrown Γ g' m2 l' hSh2) rfl rfl (by decide) (Nat.le_of_ble_eq_true rfl) ?_
        rw [hv]
        refine X_iload dL_law_851 rfl ?_
        refine X_icmp_eq 858 dL_law_853 (by decide) (fun _ => ?_) (fun h => absurd rfl h)
        refine X_iload dL_law_858 rfl ?_
        refine X_if_ne 875 dL_law_860 (by decide) (fun _ => ?_) (fun h => absurd h (cd_ne (hj j rfl).2 (cd2_le j)))
        refine X_goto 2594 dL_law_875 (by decide) ?_
        refine X_L [(4, .int (nI i)), (0, .ref 999), (1, .ref 0), (2, .ref 87), (3, .ref 450)] ⟨rfl, rfl, rfl, rfl, rfl, trivial⟩ ?_
        exact hk A' g' m2 l' ⟨hA', CI_M2 h1 hF3, hR3⟩
set_option maxRecDepth 100000 in
theorem law_worth (Γ : pTG) (hL : Γ.2.2.2.2.1.1 ≤ 4096) (i : Nat) (hi : i + 8 ≤ Γ.2.2.2.2.1.1) {K N : Nat} (hK : 20 ≤ K) (hN : 5000 ≤ N) {g : pGG} {mi : pMI} {ml : pML} {A : AS} (hI : LI A g mi ml) {Q : pQ} (hk : ∀ A' g' m' l', LI A' g' m' l' → XW Γ 100 (K - 20) (N - 5000) mL_law 2594 [(4, .int (nI i)), (0, .ref 999), (1, .ref 0), (2, .ref 87), (3, .ref 450)] [] g' m' l' Q) : XW Γ 100 K N mL_law 1058 [(4, .int (nI i)), (0, .ref 999), (1, .ref 0), (2, .ref 87), (3, .ref 450)] [] g mi ml Q := by
  obtain ⟨hA, hC, hR⟩ := hI
  have hSh := CI_Sh hC
  obtain ⟨x, A', hA', hj, hc, hr⟩ := m_worth A hA (Γ.2.2.2.2.1.2 (i + 1)) (Γ.2.2.2.2.1.2 (i + 2)) (Γ.2.2.2.2.1.2 (i + 3))
  refine X_aload_n dL_law_1058 rfl ?_
  refine X_aload_n dL_law_1059 rfl ?_
  refine X_iload dL_law_1060 rfl ?_
  refine X_iconst (v := nI 1) dL_law_1062 (by decide) ?_
  refine X_iadd dL_law_1063 ?_
  refine X_topi (nI_add i 1) ?_
  refine X_xld (i + 1) dL_law_1064 rfl (by omega) hL ?_
  refine X_aload_n dL_law_1065 rfl ?_
  refine X_iload dL_law_1066 rfl ?_
  refine X_iconst (v := nI 2) dL_law_1068 (by decide) ?_
  refine X_iadd dL_law_1069 ?_
  refine X_topi (nI_add i 2) ?_
  refine X_xld (i + 2) dL_law_1070 rfl (by omega) hL ?_
  refine X_aload_n dL_law_1071 rfl ?_
  refine X_iload dL_law_1072 rfl ?_
  refine X_iconst (v := nI 3) dL_law_1074 (by decide) ?_
  refine X_iadd dL_law_1075 ?_
  refine X_topi (nI_add i 3) ?_
  refine X_xld (i + 3) dL_law_1076 rfl (by omega) hL ?_
  refine X_aload_n dL_law_1077 rfl ?_
  refine X_callH (As := [.ref 0, .int (Γ.2.2.2.2.1.2 (i + 1)), .int (Γ.2.2.2.2.1.2 (i + 2)), .int (Γ.2.2.2.2.1.2 (i + 3)), .ref 450]) dL_law_1078 mhL_175 (w_worth Γ g mi ml hSh A' x hj (Γ.2.2.2.2.1.2 (i + 1)) (Γ.2.2.2.2.1.2 (i + 2)) (Γ.2.2.2.2.1.2 (i + 3)) (hc Γ g mi ml hC)) rfl rfl (by decide) hK hN (Nat.le_of_ble_eq_true rfl) (fun E g' m' l' h => ?_) (fun v g' m' l' h => ?_)
  · obtain ⟨-, -, h3⟩ := h
    cases x with
    | inl v => cases h3.1
    | inr j => cases h3
  · obtain ⟨h1, h2, h3⟩ := h
    have hSh2 := CI_Sh h1
    have hR2 := RI_K hA hR h2
    cases x with
    | inl w =>
      obtain ⟨h4, h5⟩ := h3
      cases h4
      refine X_istore dL_law_1081 (by decide) ?_
      refine X_aload_n dL_law_1083 rfl ?_
      refine X_aload_n dL_law_1084 rfl ?_
      refine X_iload dL_law_1085 rfl ?_
      refine X_iconst (v := nI 1) dL_law_1087 (by decide) ?_
      refine X_iadd dL_law_1088 ?_
      refine X_topi (nI_add i 1) ?_
      refine X_xld (i + 1) dL_law_1089 rfl (by omega) hL ?_
      refine X_aload_n dL_law_1090 rfl ?_
      refine X_iload dL_law_1091 rfl ?_
      refine X_iconst (v := nI 2) dL_law_1093 (by decide) ?_
      refine X_iadd dL_law_1094 ?_
      refine X_topi (nI_add i 2) ?_
      refine X_xld (i + 2) dL_law_1095 rfl (by omega) hL ?_
      refine X_aload_n dL_law_1096 rfl ?_
      refine X_iload dL_law_1097 rfl ?_
      refine X_iconst (v := nI 3) dL_law_1099 (by decide) ?_
      refine X_iadd dL_law_1100 ?_
      refine X_topi (nI_add i 3) ?_
      refine X_xld (i + 3) dL_law_1101 rfl (by omega) hL ?_
      refine X_callV (As := [.int (Γ.2.2.2.2.1.2 (i + 1)), .int (Γ.2.2.2.2.1.2 (i + 2)), .int (Γ.2.2.2.2.1.2 (i + 3))]) (z := 0) dL_law_1102 mkL_178 (k_87 hSh2) (hr Γ g' m' l' hSh2 hR2) rfl rfl (by decide) (Nat.zero_le _) (Nat.zero_le _) (Nat.le_of_ble_eq_true rfl) (fun E g2 m2 l2 h => ?_) (fun v2 g2 m2 l2 h => ?_)
      · obtain ⟨-, -, -, -, v3, ho, -⟩ := h
        cases ho
      · obtain ⟨hg2, hl2, hR3, hF3, v3, ho, hv⟩ := h
        cases ho
        rw [hg2, hl2]
        refine X_istore dL_law_1105 (by decide) ?_
        refine X_aload_n dL_law_1107 rfl ?_
        refine X_callVI (z := 0) dL_law_1108 mkL_133 (k_87 hSh2) (c_thrown Γ g' m2 l' hSh2) rfl rfl (by decide) (Nat.le_of_ble_eq_true rfl) ?_
        rw [hv.2]
        refine X_iload dL_law_1111 rfl ?_
        refine X_icmp_eq 1118 dL_law_1113 (by decide) (fun _ => ?_) (fun h => absurd rfl h)
        refine X_iload dL_law_1118 rfl ?_
        refine X_if_ne 1135 dL_law_1120 (by decide) (fun h => absurd rfl h) (fun _ => ?_)
        refine X_aload_n dL_law_1123 rfl ?_
        refine X_iconst (v := nI 0) dL_law_1124 (by decide) ?_
        refine X_lald 0 dL_law_1125 (k_450 hSh2) rfl (by decide) ?_
        refine X_iload dL_law_1126 rfl ?_
        refine X_i2l dL_law_1128 ?_
        refine X_lcmp dL_law_1129 ?_
        refine X_topi (show lg_cmp (l' 450 0) v3.toInt64 = nI 0 by rw [h5, hv.1]; exact cmp_same _) ?_
        refine X_if_eq 1135 dL_law_1130 (by decide) (fun _ => ?_) (fun h => absurd rfl h)
        refine X_goto 2594 dL_law_1135 (by decide) ?_
        refine X_L [(4, .int (nI i)), (0, .ref 999), (1, .ref 0), (2, .ref 87), (3, .ref 450)] ⟨rfl, rfl, rfl, rfl, rfl, trivial⟩ ?_
        exact hk A' g' m2 l' ⟨hA', CI_M2 h1 hF3, hR3⟩
    | inr j =>
      cases h3
      refine X_istore dL_law_1081 (by decide) ?_
      refine X_aload_n dL_law_1083 rfl ?_
      refine X_aload_n dL_law_1084 rfl ?_
      refine X_iload dL_law_1085 rfl ?_
      refine X_iconst (v := nI 1) dL_law_1087 (by decide) ?_
      refine X_iadd dL_law_1088 ?_
      refine X_topi (nI_add i 1) ?_
      refine X_xld (i + 1) dL_law_1089 rfl (by omega) hL ?_
      refine X_aload_n dL_law_1090 rfl ?_
      refine X_iload dL_law_1091 rfl ?_
      refine X_iconst (v := nI 2) dL_law_1093 (by decide) ?_
      refine X_iadd dL_law_1094 ?_
      refine X_topi (nI_add i 2) ?_
      refine X_xld (i + 2) dL_law_1095 rfl (by omega) hL ?_
      refine X_aload_n dL_law_1096 rfl ?_
      refine X_iload dL_law_1097 rfl ?_
      refine X_iconst (v := nI 3) dL_law_1099 (by decide) ?_
      refine X_iadd dL_law_1100 ?_
      refine X_topi (nI_add i 3) ?_
      refine X_xld (i + 3) dL_law_1101 rfl (by omega) hL ?_
      refine X_callV (As := [.int (Γ.2.2.2.2.1.2 (i + 1)), .int (Γ.2.2.2.2.1.2 (i + 2)), .int (Γ.2.2.2.2.1.2 (i + 3))]) (z := 0) dL_law_1102 mkL_178 (k_87 hSh2) (hr Γ g' m' l' hSh2 hR2) rfl rfl (by decide) (Nat.zero_le _) (Nat.zero_le _) (Nat.le_of_ble_eq_true rfl) (fun E g2 m2 l2 h => ?_) (fun v2 g2 m2 l2 h => ?_)
      · obtain ⟨-, -, -, -, v3, ho, -⟩ := h
        cases ho
      · obtain ⟨hg2, hl2, hR3, hF3, v3, ho, hv⟩ := h
        cases ho
        rw [hg2, hl2]
        refine X_istore dL_law_1105 (by decide) ?_
        refine X_aload_n dL_law_1107 rfl ?_
        refine X_callVI (z := 0) dL_law_1108 mkL_133 (k_87 hSh2) (c_thrown Γ g' m2 l' hSh2) rfl rfl (by decide) (Nat.le_of_ble_eq_true rfl) ?_
        rw [hv]
        refine X_iload dL_law_1111 rfl ?_
        refine X_icmp_eq 1118 dL_law_1113 (by decide) (fun _ => ?_) (fun h => absurd rfl h)
        refine X_iload dL_law_1118 rfl ?_
        refine X_if_ne 1135 dL_law_1120 (by decide) (fun _ => ?_) (fun h => absurd h (cd_ne (hj j rfl).2 (cd2_le j)))
        refine X_goto 2594 dL_law_1135 (by decide) ?_
        refine X_L [(4, .int (nI i)), (0, .ref 999), (1, .ref 0), (2, .ref 87), (3, .ref 450)] ⟨rfl, rfl, rfl, rfl, rfl, trivial⟩ ?_
        exact hk A' g' m2 l' ⟨hA', CI_M2 h1 hF3, hR3⟩
set_option maxRecDepth 100000 in
theorem law_had (Γ : pTG) (hL : Γ.2.2.2.2.1.1 ≤ 4096) (i : Nat) (hi : i + 8 ≤ Γ.2.2.2.2.1.1) {K N : Nat} (hK : 20 ≤ K) (hN : 5000 ≤ N) {g : pGG} {mi : pMI} {ml : pML} {A : AS} (hI : LI A g mi ml) {Q : pQ} (hk : ∀ A' g' m' l', LI A' g' m' l' → XW Γ 100 (K - 20) (N - 5000) mL_law 2594 [(4, .int (nI i)), (0, .ref 999), (1, .ref 0), (2, .ref 87), (3, .ref 450)] [] g' m' l' Q) : XW Γ 100 K N mL_law 1382 [(4, .int (nI i)), (0, .ref 999), (1, .ref 0), (2, .ref 87), (3, .ref 450)] [] g mi ml Q := by
  obtain ⟨hA, hC, hR⟩ := hI
  have hSh := CI_Sh hC
  obtain ⟨x, A', hA', hj, hc, hr⟩ := m_had A hA (Γ.2.2.2.2.1.2 (i + 1)) (Γ.2.2.2.2.1.2 (i + 2))
  refine X_aload_n dL_law_1382 rfl ?_
  refine X_aload_n dL_law_1383 rfl ?_
  refine X_iload dL_law_1384 rfl ?_
  refine X_iconst (v := nI 1) dL_law_1386 (by decide) ?_
  refine X_iadd dL_law_1387 ?_
  refine X_topi (nI_add i 1) ?_
  refine X_xld (i + 1) dL_law_1388 rfl (by omega) hL ?_
  refine X_aload_n dL_law_1389 rfl ?_
  refine X_iload dL_law_1390 rfl ?_
  refine X_iconst (v := nI 2) dL_law_1392 (by decide) ?_
  refine X_iadd dL_law_1393 ?_
  refine X_topi (nI_add i 2) ?_
  refine X_xld (i + 2) dL_law_1394 rfl (by omega) hL ?_
  refine X_aload_n dL_law_1395 rfl ?_
  refine X_callH (As := [.ref 0, .int (Γ.2.2.2.2.1.2 (i + 1)), .int (Γ.2.2.2.2.1.2 (i + 2)), .ref 450]) dL_law_1396 mhL_189 (w_had Γ g mi ml hSh A' x hj (Γ.2.2.2.2.1.2 (i + 1)) (Γ.2.2.2.2.1.2 (i + 2)) (hc Γ g mi ml hC)) rfl rfl (by decide) hK hN (Nat.le_of_ble_eq_true rfl) (fun E g' m' l' h => ?_) (fun v g' m' l' h => ?_)
  · obtain ⟨-, -, h3⟩ := h
    cases x with
    | inl v => cases h3.1
    | inr j => cases h3
  · obtain ⟨h1, h2, h3⟩ := h
    have hSh2 := CI_Sh h1
    have hR2 := RI_K hA hR h2
    cases x with
    | inl w =>
      obtain ⟨h4, h5⟩ := h3
      cases h4
      refine X_istore dL_law_1399 (by decide) ?_
      refine X_aload_n dL_law_1401 rfl ?_
      refine X_aload_n dL_law_1402 rfl ?_
      refine X_iload dL_law_1403 rfl ?_
      refine X_iconst (v := nI 1) dL_law_1405 (by decide) ?_
      refine X_iadd dL_law_1406 ?_
      refine X_topi (nI_add i 1) ?_
      refine X_xld (i + 1) dL_law_1407 rfl (by omega) hL ?_
      refine X_aload_n dL_law_1408 rfl ?_
      refine X_iload dL_law_1409 rfl ?_
      refine X_iconst (v := nI 2) dL_law_1411 (by decide) ?_
      refine X_iadd dL_law_1412 ?_
      refine X_topi (nI_add i 2) ?_
      refine X_xld (i + 2) dL_law_1413 rfl (by omega) hL ?_
      refine X_callV (As := [.int (Γ.2.2.2.2.1.2 (i + 1)), .int (Γ.2.2.2.2.1.2 (i + 2))]) (z := 0) dL_law_1414 mkL_191 (k_87 hSh2) (hr Γ g' m' l' hSh2 hR2) rfl rfl (by decide) (Nat.zero_le _) (Nat.zero_le _) (Nat.le_of_ble_eq_true rfl) (fun E g2 m2 l2 h => ?_) (fun v2 g2 m2 l2 h => ?_)
      · obtain ⟨-, -, -, -, v3, ho, -⟩ := h
        cases ho
      · obtain ⟨hg2, hl2, hR3, hF3, v3, ho, hv⟩ := h
        cases ho
        rw [hg2, hl2]
        refine X_istore dL_law_1417 (by decide) ?_
        refine X_aload_n dL_law_1419 rfl ?_
        refine X_callVI (z := 0) dL_law_1420 mkL_133 (k_87 hSh2) (c_thrown Γ g' m2 l' hSh2) rfl rfl (by decide) (Nat.le_of_ble_eq_true rfl) ?_
        rw [hv.2]
        refine X_iload dL_law_1423 rfl ?_
        refine X_icmp_eq 1430 dL_law_1425 (by decide) (fun _ => ?_) (fun h => absurd rfl h)
        refine X_iload dL_law_1430 rfl ?_
        refine X_if_ne 1447 dL_law_1432 (by decide) (fun h => absurd rfl h) (fun _ => ?_)
        refine X_aload_n dL_law_1435 rfl ?_
        refine X_iconst (v := nI 0) dL_law_1436 (by decide) ?_
        refine X_lald 0 dL_law_1437 (k_450 hSh2) rfl (by decide) ?_
        refine X_iload dL_law_1438 rfl ?_
        refine X_i2l dL_law_1440 ?_
        refine X_lcmp dL_law_1441 ?_
        refine X_topi (show lg_cmp (l' 450 0) v3.toInt64 = nI 0 by rw [h5, hv.1]; exact cmp_same _) ?_
        refine X_if_eq 1447 dL_law_1442 (by decide) (fun _ => ?_) (fun h => absurd rfl h)
        refine X_goto 2594 dL_law_1447 (by decide) ?_
        refine X_L [(4, .int (nI i)), (0, .ref 999), (1, .ref 0), (2, .ref 87), (3, .ref 450)] ⟨rfl, rfl, rfl, rfl, rfl, trivial⟩ ?_
        exact hk A' g' m2 l' ⟨hA', CI_M2 h1 hF3, hR3⟩
    | inr j =>
      cases h3
      refine X_istore dL_law_1399 (by decide) ?_
      refine X_aload_n dL_law_1401 rfl ?_
      refine X_aload_n dL_law_1402 rfl ?_
      refine X_iload dL_law_1403 rfl ?_
      refine X_iconst (v := nI 1) dL_law_1405 (by decide) ?_
      refine X_iadd dL_law_1406 ?_
      refine X_topi (nI_add i 1) ?_
      refine X_xld (i + 1) dL_law_1407 rfl (by omega) hL ?_
      refine X_aload_n dL_law_1408 rfl ?_
      refine X_iload dL_law_1409 rfl ?_
      refine X_iconst (v := nI 2) dL_law_1411 (by decide) ?_
      refine X_iadd dL_law_1412 ?_
      refine X_topi (nI_add i 2) ?_
      refine X_xld (i + 2) dL_law_1413 rfl (by omega) hL ?_
      refine X_callV (As := [.int (Γ.2.2.2.2.1.2 (i + 1)), .int (Γ.2.2.2.2.1.2 (i + 2))]) (z := 0) dL_law_1414 mkL_191 (k_87 hSh2) (hr Γ g' m' l' hSh2 hR2) rfl rfl (by decide) (Nat.zero_le _) (Nat.zero_le _) (Nat.le_of_ble_eq_true rfl) (fun E g2 m2 l2 h => ?_) (fun v2 g2 m2 l2 h => ?_)
      · obtain ⟨-, -, -, -, v3, ho, -⟩ := h
        cases ho
      · obtain ⟨hg2, hl2, hR3, hF3, v3, ho, hv⟩ := h
        cases ho
        rw [hg2, hl2]
        refine X_istore dL_law_1417 (by decide) ?_
        refine X_aload_n dL_law_1419 rfl ?_
        refine X_callVI (z := 0) dL_law_1420 mkL_133 (k_87 hSh2) (c_thrown Γ g' m2 l' hSh2) rfl rfl (by decide) (Nat.le_of_ble_eq_true rfl) ?_
        rw [hv]
        refine X_iload dL_law_1423 rfl ?_
        refine X_icmp_eq 1430 dL_law_1425 (by decide) (fun _ => ?_) (fun h => absurd rfl h)
        refine X_iload dL_law_1430 rfl ?_
        refine X_if_ne 1447 dL_law_1432 (by decide) (fun _ => ?_) (fun h => absurd h (cd_ne (hj j rfl).2 (cd2_le j)))
        refine X_goto 2594 dL_law_1447 (by decide) ?_
        refine X_L [(4, .int (nI i)), (0, .ref 999), (1, .ref 0), (2, .ref 87), (3, .ref 450)] ⟨rfl, rfl, rfl, rfl, rfl, trivial⟩ ?_
        exact hk A' g' m2 l' ⟨hA', CI_M2 h1 hF3, hR3⟩
set_option maxRecDepth 100000 in
theorem law_gets (Γ : pTG) (hL : Γ.2.2.2.2.1.1 ≤ 4096) (i : Nat) (hi : i + 8 ≤ Γ.2.2.2.2.1.1) {K N : Nat} (hK : 20 ≤ K) (hN : 5000 ≤ N) {g : pGG} {mi : pMI} {ml : pML} {A : AS} (hI : LI A g mi ml) {Q : pQ} (hk : ∀ A' g' m' l', LI A' g' m' l' → XW Γ 100 (K - 20) (N - 5000) mL_law 2594 [(4, .int (nI i)), (0, .ref 999), (1, .ref 0), (2, .ref 87), (3, .ref 450)] [] g' m' l' Q) : XW Γ 100 K N mL_law 1599 [(4, .int (nI i)), (0, .ref 999), (1, .ref 0), (2, .ref 87), (3, .ref 450)] [] g mi ml Q := by
  obtain ⟨hA, hC, hR⟩ := hI
  have hSh := CI_Sh hC
  obtain ⟨x, A', hA', hj, hc, hr⟩ := m_gets A hA (Γ.2.2.2.2.1.2 (i + 1))
  refine X_aload_n dL_law_1599 rfl ?_
  refine X_aload_n dL_law_1600 rfl ?_
  refine X_iload dL_law_1601 rfl ?_
  refine X_iconst (v := nI 1) dL_law_1603 (by decide) ?_
  refine X_iadd dL_law_1604 ?_
  refine X_topi (nI_add i 1) ?_
  refine X_xld (i + 1) dL_law_1605 rfl (by omega) hL ?_
  refine X_aload_n dL_law_1606 rfl ?_
  refine X_callH (As := [.ref 0, .int (Γ.2.2.2.2.1.2 (i + 1)), .ref 450]) dL_law_1607 mhL_202 (w_gets Γ g mi ml hSh A' x hj (Γ.2.2.2.2.1.2 (i + 1)) (hc Γ g mi ml hC)) rfl rfl (by decide) hK hN (Nat.le_of_ble_eq_true rfl) (fun E g' m' l' h => ?_) (fun v g' m' l' h => ?_)
  · obtain ⟨-, -, h3⟩ := h
    cases x with
    | inl v => cases h3.1
    | inr j => cases h3
  · obtain ⟨h1, h2, h3⟩ := h
    have hSh2 := CI_Sh h1
    have hR2 := RI_K hA hR h2
    cases x with
    | inl w =>
      obtain ⟨h4, h5⟩ := h3
      cases h4
      refine X_istore dL_law_1610 (by decide) ?_
      refine X_aload_n dL_law_1612 rfl ?_
      refine X_aload_n dL_law_1613 rfl ?_
      refine X_iload dL_law_1614 rfl ?_
      refine X_iconst (v := nI 1) dL_law_1616 (by decide) ?_
      refine X_iadd dL_law_1617 ?_
      refine X_topi (nI_add i 1) ?_
      refine X_xld (i + 1) dL_law_1618 rfl (by omega) hL ?_
      refine X_callV (As := [.int (Γ.2.2.2.2.1.2 (i + 1))]) (z := 0) dL_law_1619 mkL_204 (k_87 hSh2) (hr Γ g' m' l' hSh2 hR2) rfl rfl (by decide) (Nat.zero_le _) (Nat.zero_le _) (Nat.le_of_ble_eq_true rfl) (fun E g2 m2 l2 h => ?_) (fun v2 g2 m2 l2 h => ?_)
      · obtain ⟨-, -, -, -, v3, ho, -⟩ := h
        cases ho
      · obtain ⟨hg2, hl2, hR3, hF3, v3, ho, hv⟩ := h
        cases ho
        rw [hg2, hl2]
        refine X_istore dL_law_1622 (by decide) ?_
        refine X_aload_n dL_law_1624 rfl ?_
        refine X_callVI (z := 0) dL_law_1625 mkL_133 (k_87 hSh2) (c_thrown Γ g' m2 l' hSh2) rfl rfl (by decide) (Nat.le_of_ble_eq_true rfl) ?_
        rw [hv.2]
        refine X_iload dL_law_1628 rfl ?_
        refine X_icmp_eq 1635 dL_law_1630 (by decide) (fun _ => ?_) (fun h => absurd rfl h)
        refine X_iload dL_law_1635 rfl ?_
        refine X_if_ne 1652 dL_law_1637 (by decide) (fun h => absurd rfl h) (fun _ => ?_)
        refine X_aload_n dL_law_1640 rfl ?_
        refine X_iconst (v := nI 0) dL_law_1641 (by decide) ?_
        refine X_lald 0 dL_law_1642 (k_450 hSh2) rfl (by decide) ?_
        refine X_iload dL_law_1643 rfl ?_
        refine X_i2l dL_law_1645 ?_
        refine X_lcmp dL_law_1646 ?_
        refine X_topi (show lg_cmp (l' 450 0) v3.toInt64 = nI 0 by rw [h5, hv.1]; exact cmp_same _) ?_
        refine X_if_eq 1652 dL_law_1647 (by decide) (fun _ => ?_) (fun h => absurd rfl h)
        refine X_goto 2594 dL_law_1652 (by decide) ?_
        refine X_L [(4, .int (nI i)), (0, .ref 999), (1, .ref 0), (2, .ref 87), (3, .ref 450)] ⟨rfl, rfl, rfl, rfl, rfl, trivial⟩ ?_
        exact hk A' g' m2 l' ⟨hA', CI_M2 h1 hF3, hR3⟩
    | inr j =>
      cases h3
      refine X_istore dL_law_1610 (by decide) ?_
      refine X_aload_n dL_law_1612 rfl ?_
      refine X_aload_n dL_law_1613 rfl ?_
      refine X_iload dL_law_1614 rfl ?_
      refine X_iconst (v := nI 1) dL_law_1616 (by decide) ?_
      refine X_iadd dL_law_1617 ?_
      refine X_topi (nI_add i 1) ?_
      refine X_xld (i + 1) dL_law_1618 rfl (by omega) hL ?_
      refine X_callV (As := [.int (Γ.2.2.2.2.1.2 (i + 1))]) (z := 0) dL_law_1619 mkL_204 (k_87 hSh2) (hr Γ g' m' l' hSh2 hR2) rfl rfl (by decide) (Nat.zero_le _) (Nat.zero_le _) (Nat.le_of_ble_eq_true rfl) (fun E g2 m2 l2 h => ?_) (fun v2 g2 m2 l2 h => ?_)
      · obtain ⟨-, -, -, -, v3, ho, -⟩ := h
        cases ho
      · obtain ⟨hg2, hl2, hR3, hF3, v3, ho, hv⟩ := h
        cases ho
        rw [hg2, hl2]
        refine X_istore dL_law_1622 (by decide) ?_
        refine X_aload_n dL_law_1624 rfl ?_
        refine X_callVI (z := 0) dL_law_1625 mkL_133 (k_87 hSh2) (c_thrown Γ g' m2 l' hSh2) rfl rfl (by decide) (Nat.le_of_ble_eq_true rfl) ?_
        rw [hv]
        refine X_iload dL_law_1628 rfl ?_
        refine X_icmp_eq 1635 dL_law_1630 (by decide) (fun _ => ?_) (fun h => absurd rfl h)
        refine X_iload dL_law_1635 rfl ?_
        refine X_if_ne 1652 dL_law_1637 (by decide) (fun _ => ?_) (fun h => absurd h (cd_ne (hj j rfl).2 (cd0_le j)))
        refine X_goto 2594 dL_law_1652 (by decide) ?_
        refine X_L [(4, .int (nI i)), (0, .ref 999), (1, .ref 0), (2, .ref 87), (3, .ref 450)] ⟨rfl, rfl, rfl, rfl, rfl, trivial⟩ ?_
        exact hk A' g' m2 l' ⟨hA', CI_M2 h1 hF3, hR3⟩
set_option maxRecDepth 100000 in
theorem law_just (Γ : pTG) (hL : Γ.2.2.2.2.1.1 ≤ 4096) (i : Nat) (hi : i + 8 ≤ Γ.2.2.2.2.1.1) {K N : Nat} (hK : 20 ≤ K) (hN : 5000 ≤ N) {g : pGG} {mi : pMI} {ml : pML} {A : AS} (hI : LI A g mi ml) {Q : pQ} (hk : ∀ A' g' m' l', LI A' g' m' l' → XW Γ 100 (K - 20) (N - 5000) mL_law 2594 [(4, .int (nI i)), (0, .ref 999), (1, .ref 0), (2, .ref 87), (3, .ref 450)] [] g' m' l' Q) : XW Γ 100 K N mL_law 1792 [(4, .int (nI i)), (0, .ref 999), (1, .ref 0), (2, .ref 87), (3, .ref 450)] [] g mi ml Q := by
  obtain ⟨hA, hC, hR⟩ := hI
  have hSh := CI_Sh hC
  obtain ⟨x, A', hA', hj, hc, hr⟩ := m_just A hA (Γ.2.2.2.2.1.2 (i + 1))
  refine X_aload_n dL_law_1792 rfl ?_
  refine X_aload_n dL_law_1793 rfl ?_
  refine X_iload dL_law_1794 rfl ?_
  refine X_iconst (v := nI 1) dL_law_1796 (by decide) ?_
  refine X_iadd dL_law_1797 ?_
  refine X_topi (nI_add i 1) ?_
  refine X_xld (i + 1) dL_law_1798 rfl (by omega) hL ?_
  refine X_aload_n dL_law_1799 rfl ?_
  refine X_callH (As := [.ref 0, .int (Γ.2.2.2.2.1.2 (i + 1)), .ref 450]) dL_law_1800 mhL_215 (w_just Γ g mi ml hSh A' x hj (Γ.2.2.2.2.1.2 (i + 1)) (hc Γ g mi ml hC)) rfl rfl (by decide) hK hN (Nat.le_of_ble_eq_true rfl) (fun E g' m' l' h => ?_) (fun v g' m' l' h => ?_)
  · obtain ⟨-, -, h3⟩ := h
    cases x with
    | inl v => cases h3.1
    | inr j => cases h3
  · obtain ⟨h1, h2, h3⟩ := h
    have hSh2 := CI_Sh h1
    have hR2 := RI_K hA hR h2
    cases x with
    | inl w =>
      obtain ⟨h4, h5⟩ := h3
      cases h4
      refine X_istore dL_law_1803 (by decide) ?_
      refine X_aload_n dL_law_1805 rfl ?_
      refine X_aload_n dL_law_1806 rfl ?_
      refine X_iload dL_law_1807 rfl ?_
      refine X_iconst (v := nI 1) dL_law_1809 (by decide) ?_
      refine X_iadd dL_law_1810 ?_
      refine X_topi (nI_add i 1) ?_
      refine X_xld (i + 1) dL_law_1811 rfl (by omega) hL ?_
      refine X_callV (As := [.int (Γ.2.2.2.2.1.2 (i + 1))]) (z := 0) dL_law_1812 mkL_217 (k_87 hSh2) (hr Γ g' m' l' hSh2 hR2) rfl rfl (by decide) (Nat.zero_le _) (Nat.zero_le _) (Nat.le_of_ble_eq_true rfl) (fun E g2 m2 l2 h => ?_) (fun v2 g2 m2 l2 h => ?_)
      · obtain ⟨-, -, -, -, v3, ho, -⟩ := h
        cases ho
      · obtain ⟨hg2, hl2, hR3, hF3, v3, ho, hv⟩ := h
        cases ho
        rw [hg2, hl2]
        refine X_istore dL_law_1815 (by decide) ?_
        refine X_aload_n dL_law_1817 rfl ?_
        refine X_callVI (z := 0) dL_law_1818 mkL_133 (k_87 hSh2) (c_thrown Γ g' m2 l' hSh2) rfl rfl (by decide) (Nat.le_of_ble_eq_true rfl) ?_
        rw [hv.2]
        refine X_iload dL_law_1821 rfl ?_
        refine X_icmp_eq 1828 dL_law_1823 (by decide) (fun _ => ?_) (fun h => absurd rfl h)
        refine X_iload dL_law_1828 rfl ?_
        refine X_if_ne 1845 dL_law_1830 (by decide) (fun h => absurd rfl h) (fun _ => ?_)
        refine X_aload_n dL_law_1833 rfl ?_
        refine X_iconst (v := nI 0) dL_law_1834 (by decide) ?_
        refine X_lald 0 dL_law_1835 (k_450 hSh2) rfl (by decide) ?_
        refine X_iload dL_law_1836 rfl ?_
        refine X_i2l dL_law_1838 ?_
        refine X_lcmp dL_law_1839 ?_
        refine X_topi (show lg_cmp (l' 450 0) v3.toInt64 = nI 0 by rw [h5, hv.1]; exact cmp_same _) ?_
        refine X_if_eq 1845 dL_law_1840 (by decide) (fun _ => ?_) (fun h => absurd rfl h)
        refine X_goto 2594 dL_law_1845 (by decide) ?_
        refine X_L [(4, .int (nI i)), (0, .ref 999), (1, .ref 0), (2, .ref 87), (3, .ref 450)] ⟨rfl, rfl, rfl, rfl, rfl, trivial⟩ ?_
        exact hk A' g' m2 l' ⟨hA', CI_M2 h1 hF3, hR3⟩
    | inr j =>
      cases h3
      refine X_istore dL_law_1803 (by decide) ?_
      refine X_aload_n dL_law_1805 rfl ?_
      refine X_aload_n dL_law_1806 rfl ?_
      refine X_iload dL_law_1807 rfl ?_
      refine X_iconst (v := nI 1) dL_law_1809 (by decide) ?_
      refine X_iadd dL_law_1810 ?_
      refine X_topi (nI_add i 1) ?_
      refine X_xld (i + 1) dL_law_1811 rfl (by omega) hL ?_
      refine X_callV (As := [.int (Γ.2.2.2.2.1.2 (i + 1))]) (z := 0) dL_law_1812 mkL_217 (k_87 hSh2) (hr Γ g' m' l' hSh2 hR2) rfl rfl (by decide) (Nat.zero_le _) (Nat.zero_le _) (Nat.le_of_ble_eq_true rfl) (fun E g2 m2 l2 h => ?_) (fun v2 g2 m2 l2 h => ?_)
      · obtain ⟨-, -, -, -, v3, ho, -⟩ := h
        cases ho
      · obtain ⟨hg2, hl2, hR3, hF3, v3, ho, hv⟩ := h
        cases ho
        rw [hg2, hl2]
        refine X_istore dL_law_1815 (by decide) ?_
        refine X_aload_n dL_law_1817 rfl ?_
        refine X_callVI (z := 0) dL_law_1818 mkL_133 (k_87 hSh2) (c_thrown Γ g' m2 l' hSh2) rfl rfl (by decide) (Nat.le_of_ble_eq_true rfl) ?_
        rw [hv]
        refine X_iload dL_law_1821 rfl ?_
        refine X_icmp_eq 1828 dL_law_1823 (by decide) (fun _ => ?_) (fun h => absurd rfl h)
        refine X_iload dL_law_1828 rfl ?_
        refine X_if_ne 1845 dL_law_1830 (by decide) (fun _ => ?_) (fun h => absurd h (cd_ne (hj j rfl).2 (cd1_le j)))
        refine X_goto 2594 dL_law_1845 (by decide) ?_
        refine X_L [(4, .int (nI i)), (0, .ref 999), (1, .ref 0), (2, .ref 87), (3, .ref 450)] ⟨rfl, rfl, rfl, rfl, rfl, trivial⟩ ?_
        exact hk A' g' m2 l' ⟨hA', CI_M2 h1 hF3, hR3⟩
set_option maxRecDepth 100000 in
theorem law_lucky (Γ : pTG) (hL : Γ.2.2.2.2.1.1 ≤ 4096) (i : Nat) (hi : i + 8 ≤ Γ.2.2.2.2.1.1) {K N : Nat} (hK : 20 ≤ K) (hN : 5000 ≤ N) {g : pGG} {mi : pMI} {ml : pML} {A : AS} (hI : LI A g mi ml) {Q : pQ} (hk : ∀ A' g' m' l', LI A' g' m' l' → XW Γ 100 (K - 20) (N - 5000) mL_law 2594 [(4, .int (nI i)), (0, .ref 999), (1, .ref 0), (2, .ref 87), (3, .ref 450)] [] g' m' l' Q) : XW Γ 100 K N mL_law 2028 [(4, .int (nI i)), (0, .ref 999), (1, .ref 0), (2, .ref 87), (3, .ref 450)] [] g mi ml Q := by
  obtain ⟨hA, hC, hR⟩ := hI
  have hSh := CI_Sh hC
  obtain ⟨x, A', hA', hj, hc, hr⟩ := m_lucky A hA (Γ.2.2.2.2.1.2 (i + 1)) (Γ.2.2.2.2.1.2 (i + 2)) (Γ.2.2.2.2.1.2 (i + 3))
  refine X_aload_n dL_law_2028 rfl ?_
  refine X_aload_n dL_law_2029 rfl ?_
  refine X_iload dL_law_2030 rfl ?_
  refine X_iconst (v := nI 1) dL_law_2032 (by decide) ?_
  refine X_iadd dL_law_2033 ?_
  refine X_topi (nI_add i 1) ?_
  refine X_xld (i + 1) dL_law_2034 rfl (by omega) hL ?_
  refine X_aload_n dL_law_2035 rfl ?_
  refine X_iload dL_law_2036 rfl ?_
  refine X_iconst (v := nI 2) dL_law_2038 (by decide) ?_
  refine X_iadd dL_law_2039 ?_
  refine X_topi (nI_add i 2) ?_
  refine X_xld (i + 2) dL_law_2040 rfl (by omega) hL ?_
  refine X_aload_n dL_law_2041 rfl ?_
  refine X_iload dL_law_2042 rfl ?_
  refine X_iconst (v := nI 3) dL_law_2044 (by decide) ?_
  refine X_iadd dL_law_2045 ?_
  refine X_topi (nI_add i 3) ?_
  refine X_xld (i + 3) dL_law_2046 rfl (by omega) hL ?_
  refine X_aload_n dL_law_2047 rfl ?_
  refine X_callH (As := [.ref 0, .int (Γ.2.2.2.2.1.2 (i + 1)), .int (Γ.2.2.2.2.1.2 (i + 2)), .int (Γ.2.2.2.2.1.2 (i + 3)), .ref 450]) dL_law_2048 mhL_227 (w_lucky Γ g mi ml hSh A' x hj (Γ.2.2.2.2.1.2 (i + 1)) (Γ.2.2.2.2.1.2 (i + 2)) (Γ.2.2.2.2.1.2 (i + 3)) (hc Γ g mi ml hC)) rfl rfl (by decide) hK hN (Nat.le_of_ble_eq_true rfl) (fun E g' m' l' h => ?_) (fun v g' m' l' h => ?_)
  · obtain ⟨-, -, h3⟩ := h
    cases x with
    | inl v => cases h3.1
    | inr j => cases h3
  · obtain ⟨h1, h2, h3⟩ := h
    have hSh2 := CI_Sh h1
    have hR2 := RI_K hA hR h2
    cases x with
    | inl w =>
      obtain ⟨h4, h5⟩ := h3
      cases h4
      refine X_istore dL_law_2051 (by decide) ?_
      refine X_aload_n dL_law_2053 rfl ?_
      refine X_aload_n dL_law_2054 rfl ?_
      refine X_iload dL_law_2055 rfl ?_
      refine X_iconst (v := nI 1) dL_law_2057 (by decide) ?_
      refine X_iadd dL_law_2058 ?_
      refine X_topi (nI_add i 1) ?_
      refine X_xld (i + 1) dL_law_2059 rfl (by omega) hL ?_
      refine X_aload_n dL_law_2060 rfl ?_
      refine X_iload dL_law_2061 rfl ?_
      refine X_iconst (v := nI 2) dL_law_2063 (by decide) ?_
      refine X_iadd dL_law_2064 ?_
      refine X_topi (nI_add i 2) ?_
      refine X_xld (i + 2) dL_law_2065 rfl (by omega) hL ?_
      refine X_aload_n dL_law_2066 rfl ?_
      refine X_iload dL_law_2067 rfl ?_
      refine X_iconst (v := nI 3) dL_law_2069 (by decide) ?_
      refine X_iadd dL_law_2070 ?_
      refine X_topi (nI_add i 3) ?_
      refine X_xld (i + 3) dL_law_2071 rfl (by omega) hL ?_
      refine X_callV (As := [.int (Γ.2.2.2.2.1.2 (i + 1)), .int (Γ.2.2.2.2.1.2 (i + 2)), .int (Γ.2.2.2.2.1.2 (i + 3))]) (z := 0) dL_law_2072 mkL_229 (k_87 hSh2) (hr Γ g' m' l' hSh2 hR2) rfl rfl (by decide) (Nat.zero_le _) (Nat.zero_le _) (Nat.le_of_ble_eq_true rfl) (fun E g2 m2 l2 h => ?_) (fun v2 g2 m2 l2 h => ?_)
      · obtain ⟨-, -, -, -, v3, ho, -⟩ := h
        cases ho
      · obtain ⟨hg2, hl2, hR3, hF3, v3, ho, hv⟩ := h
        cases ho
        rw [hg2, hl2]
        refine X_istore dL_law_2075 (by decide) ?_
        refine X_aload_n dL_law_2077 rfl ?_
        refine X_callVI (z := 0) dL_law_2078 mkL_133 (k_87 hSh2) (c_thrown Γ g' m2 l' hSh2) rfl rfl (by decide) (Nat.le_of_ble_eq_true rfl) ?_
        rw [hv.2]
        refine X_iload dL_law_2081 rfl ?_
        refine X_icmp_eq 2088 dL_law_2083 (by decide) (fun _ => ?_) (fun h => absurd rfl h)
        refine X_iload dL_law_2088 rfl ?_
        refine X_if_ne 2105 dL_law_2090 (by decide) (fun h => absurd rfl h) (fun _ => ?_)
        refine X_aload_n dL_law_2093 rfl ?_
        refine X_iconst (v := nI 0) dL_law_2094 (by decide) ?_
        refine X_lald 0 dL_law_2095 (k_450 hSh2) rfl (by decide) ?_
        refine X_iload dL_law_2096 rfl ?_
        refine X_i2l dL_law_2098 ?_
        refine X_lcmp dL_law_2099 ?_
        refine X_topi (show lg_cmp (l' 450 0) v3.toInt64 = nI 0 by rw [h5, hv.1]; exact cmp_same _) ?_
        refine X_if_eq 2105 dL_law_2100 (by decide) (fun _ => ?_) (fun h => absurd rfl h)
        refine X_goto 2594 dL_law_2105 (by decide) ?_
        refine X_L [(4, .int (nI i)), (0, .ref 999), (1, .ref 0), (2, .ref 87), (3, .ref 450)] ⟨rfl, rfl, rfl, rfl, rfl, trivial⟩ ?_
        exact hk A' g' m2 l' ⟨hA', CI_M2 h1 hF3, hR3⟩
    | inr j =>
      cases h3
      refine X_istore dL_law_2051 (by decide) ?_
      refine X_aload_n dL_law_2053 rfl ?_
      refine X_aload_n dL_law_2054 rfl ?_
      refine X_iload dL_law_2055 rfl ?_
      refine X_iconst (v := nI 1) dL_law_2057 (by decide) ?_
      refine X_iadd dL_law_2058 ?_
      refine X_topi (nI_add i 1) ?_
      refine X_xld (i + 1) dL_law_2059 rfl (by omega) hL ?_
      refine X_aload_n dL_law_2060 rfl ?_
      refine X_iload dL_law_2061 rfl ?_
      refine X_iconst (v := nI 2) dL_law_2063 (by decide) ?_
      refine X_iadd dL_law_2064 ?_
      refine X_topi (nI_add i 2) ?_
      refine X_xld (i + 2) dL_law_2065 rfl (by omega) hL ?_
      refine X_aload_n dL_law_2066 rfl ?_
      refine X_iload dL_law_2067 rfl ?_
      refine X_iconst (v := nI 3) dL_law_2069 (by decide) ?_
      refine X_iadd dL_law_2070 ?_
      refine X_topi (nI_add i 3) ?_
      refine X_xld (i + 3) dL_law_2071 rfl (by omega) hL ?_
      refine X_callV (As := [.int (Γ.2.2.2.2.1.2 (i + 1)), .int (Γ.2.2.2.2.1.2 (i + 2)), .int (Γ.2.2.2.2.1.2 (i + 3))]) (z := 0) dL_law_2072 mkL_229 (k_87 hSh2) (hr Γ g' m' l' hSh2 hR2) rfl rfl (by decide) (Nat.zero_le _) (Nat.zero_le _) (Nat.le_of_ble_eq_true rfl) (fun E g2 m2 l2 h => ?_) (fun v2 g2 m2 l2 h => ?_)
      · obtain ⟨-, -, -, -, v3, ho, -⟩ := h
        cases ho
      · obtain ⟨hg2, hl2, hR3, hF3, v3, ho, hv⟩ := h
        cases ho
        rw [hg2, hl2]
        refine X_istore dL_law_2075 (by decide) ?_
        refine X_aload_n dL_law_2077 rfl ?_
        refine X_callVI (z := 0) dL_law_2078 mkL_133 (k_87 hSh2) (c_thrown Γ g' m2 l' hSh2) rfl rfl (by decide) (Nat.le_of_ble_eq_true rfl) ?_
        rw [hv]
        refine X_iload dL_law_2081 rfl ?_
        refine X_icmp_eq 2088 dL_law_2083 (by decide) (fun _ => ?_) (fun h => absurd rfl h)
        refine X_iload dL_law_2088 rfl ?_
        refine X_if_ne 2105 dL_law_2090 (by decide) (fun _ => ?_) (fun h => absurd h (cd_ne (hj j rfl).2 (cd2_le j)))
        refine X_goto 2594 dL_law_2105 (by decide) ?_
        refine X_L [(4, .int (nI i)), (0, .ref 999), (1, .ref 0), (2, .ref 87), (3, .ref 450)] ⟨rfl, rfl, rfl, rfl, rfl, trivial⟩ ?_
        exact hk A' g' m2 l' ⟨hA', CI_M2 h1 hF3, hR3⟩
set_option maxRecDepth 100000 in
theorem law_early (Γ : pTG) (hL : Γ.2.2.2.2.1.1 ≤ 4096) (i : Nat) (hi : i + 8 ≤ Γ.2.2.2.2.1.1) {K N : Nat} (hK : 20 ≤ K) (hN : 5000 ≤ N) {g : pGG} {mi : pMI} {ml : pML} {A : AS} (hI : LI A g mi ml) {Q : pQ} (hk : ∀ A' g' m' l', LI A' g' m' l' → XW Γ 100 (K - 20) (N - 5000) mL_law 2594 [(4, .int (nI i)), (0, .ref 999), (1, .ref 0), (2, .ref 87), (3, .ref 450)] [] g' m' l' Q) : XW Γ 100 K N mL_law 2257 [(4, .int (nI i)), (0, .ref 999), (1, .ref 0), (2, .ref 87), (3, .ref 450)] [] g mi ml Q := by
  obtain ⟨hA, hC, hR⟩ := hI
  have hSh := CI_Sh hC
  obtain ⟨x, A', hA', hj, hc, hr⟩ := m_early A hA (Γ.2.2.2.2.1.2 (i + 1))
  refine X_aload_n dL_law_2257 rfl ?_
  refine X_aload_n dL_law_2258 rfl ?_
  refine X_iload dL_law_2259 rfl ?_
  refine X_iconst (v := nI 1) dL_law_2261 (by decide) ?_
  refine X_iadd dL_law_2262 ?_
  refine X_topi (nI_add i 1) ?_
  refine X_xld (i + 1) dL_law_2263 rfl (by omega) hL ?_
  refine X_aload_n dL_law_2264 rfl ?_
  refine X_callH (As := [.ref 0, .int (Γ.2.2.2.2.1.2 (i + 1)), .ref 450]) dL_law_2265 mhL_240 (w_early Γ g mi ml hSh A' x hj (Γ.2.2.2.2.1.2 (i + 1)) (hc Γ g mi ml hC)) rfl rfl (by decide) hK hN (Nat.le_of_ble_eq_true rfl) (fun E g' m' l' h => ?_) (fun v g' m' l' h => ?_)
  · obtain ⟨-, -, h3⟩ := h
    cases x with
    | inl v => cases h3.1
    | inr j => cases h3
  · obtain ⟨h1, h2, h3⟩ := h
    have hSh2 := CI_Sh h1
    have hR2 := RI_K hA hR h2
    cases x with
    | inl w =>
      obtain ⟨h4, h5⟩ := h3
      cases h4
      refine X_istore dL_law_2268 (by decide) ?_
      refine X_aload_n dL_law_2270 rfl ?_
      refine X_aload_n dL_law_2271 rfl ?_
      refine X_iload dL_law_2272 rfl ?_
      refine X_iconst (v := nI 1) dL_law_2274 (by decide) ?_
      refine X_iadd dL_law_2275 ?_
      refine X_topi (nI_add i 1) ?_
      refine X_xld (i + 1) dL_law_2276 rfl (by omega) hL ?_
      refine X_callV (As := [.int (Γ.2.2.2.2.1.2 (i + 1))]) (z := 0) dL_law_2277 mkL_242 (k_87 hSh2) (hr Γ g' m' l' hSh2 hR2) rfl rfl (by decide) (Nat.zero_le _) (Nat.zero_le _) (Nat.le_of_ble_eq_true rfl) (fun E g2 m2 l2 h => ?_) (fun v2 g2 m2 l2 h => ?_)
      · obtain ⟨-, -, -, -, v3, ho, -⟩ := h
        cases ho
      · obtain ⟨hg2, hl2, hR3, hF3, v3, ho, hv⟩ := h
        cases ho
        rw [hg2, hl2]
        refine X_istore dL_law_2280 (by decide) ?_
        refine X_aload_n dL_law_2282 rfl ?_
        refine X_callVI (z := 0) dL_law_2283 mkL_133 (k_87 hSh2) (c_thrown Γ g' m2 l' hSh2) rfl rfl (by decide) (Nat.le_of_ble_eq_true rfl) ?_
        rw [hv.2]
        refine X_iload dL_law_2286 rfl ?_
        refine X_icmp_eq 2293 dL_law_2288 (by decide) (fun _ => ?_) (fun h => absurd rfl h)
        refine X_iload dL_law_2293 rfl ?_
        refine X_if_ne 2310 dL_law_2295 (by decide) (fun h => absurd rfl h) (fun _ => ?_)
        refine X_aload_n dL_law_2298 rfl ?_
        refine X_iconst (v := nI 0) dL_law_2299 (by decide) ?_
        refine X_lald 0 dL_law_2300 (k_450 hSh2) rfl (by decide) ?_
        refine X_iload dL_law_2301 rfl ?_
        refine X_i2l dL_law_2303 ?_
        refine X_lcmp dL_law_2304 ?_
        refine X_topi (show lg_cmp (l' 450 0) v3.toInt64 = nI 0 by rw [h5, hv.1]; exact cmp_same _) ?_
        refine X_if_eq 2310 dL_law_2305 (by decide) (fun _ => ?_) (fun h => absurd rfl h)
        refine X_goto 2594 dL_law_2310 (by decide) ?_
        refine X_L [(4, .int (nI i)), (0, .ref 999), (1, .ref 0), (2, .ref 87), (3, .ref 450)] ⟨rfl, rfl, rfl, rfl, rfl, trivial⟩ ?_
        exact hk A' g' m2 l' ⟨hA', CI_M2 h1 hF3, hR3⟩
    | inr j =>
      cases h3
      refine X_istore dL_law_2268 (by decide) ?_
      refine X_aload_n dL_law_2270 rfl ?_
      refine X_aload_n dL_law_2271 rfl ?_
      refine X_iload dL_law_2272 rfl ?_
      refine X_iconst (v := nI 1) dL_law_2274 (by decide) ?_
      refine X_iadd dL_law_2275 ?_
      refine X_topi (nI_add i 1) ?_
      refine X_xld (i + 1) dL_law_2276 rfl (by omega) hL ?_
      refine X_callV (As := [.int (Γ.2.2.2.2.1.2 (i + 1))]) (z := 0) dL_law_2277 mkL_242 (k_87 hSh2) (hr Γ g' m' l' hSh2 hR2) rfl rfl (by decide) (Nat.zero_le _) (Nat.zero_le _) (Nat.le_of_ble_eq_true rfl) (fun E g2 m2 l2 h => ?_) (fun v2 g2 m2 l2 h => ?_)
      · obtain ⟨-, -, -, -, v3, ho, -⟩ := h
        cases ho
      · obtain ⟨hg2, hl2, hR3, hF3, v3, ho, hv⟩ := h
        cases ho
        rw [hg2, hl2]
        refine X_istore dL_law_2280 (by decide) ?_
        refine X_aload_n dL_law_2282 rfl ?_
        refine X_callVI (z := 0) dL_law_2283 mkL_133 (k_87 hSh2) (c_thrown Γ g' m2 l' hSh2) rfl rfl (by decide) (Nat.le_of_ble_eq_true rfl) ?_
        rw [hv]
        refine X_iload dL_law_2286 rfl ?_
        refine X_icmp_eq 2293 dL_law_2288 (by decide) (fun _ => ?_) (fun h => absurd rfl h)
        refine X_iload dL_law_2293 rfl ?_
        refine X_if_ne 2310 dL_law_2295 (by decide) (fun _ => ?_) (fun h => absurd h (cd_ne (hj j rfl).2 (cd1_le j)))
        refine X_goto 2594 dL_law_2310 (by decide) ?_
        refine X_L [(4, .int (nI i)), (0, .ref 999), (1, .ref 0), (2, .ref 87), (3, .ref 450)] ⟨rfl, rfl, rfl, rfl, rfl, trivial⟩ ?_
        exact hk A' g' m2 l' ⟨hA', CI_M2 h1 hF3, hR3⟩
set_option maxRecDepth 100000 in
theorem law_undo (Γ : pTG) (hL : Γ.2.2.2.2.1.1 ≤ 4096) (i : Nat) (hi : i + 8 ≤ Γ.2.2.2.2.1.1) {K N : Nat} (hK : 20 ≤ K) (hN : 5000 ≤ N) {g : pGG} {mi : pMI} {ml : pML} {A : AS} (hI : LI A g mi ml) {Q : pQ} (hk : ∀ A' g' m' l', LI A' g' m' l' → XW Γ 100 (K - 20) (N - 5000) mL_law 2594 [(4, .int (nI i)), (0, .ref 999), (1, .ref 0), (2, .ref 87), (3, .ref 450)] [] g' m' l' Q) : XW Γ 100 K N mL_law 2505 [(4, .int (nI i)), (0, .ref 999), (1, .ref 0), (2, .ref 87), (3, .ref 450)] [] g mi ml Q := by
  obtain ⟨hA, hC, hR⟩ := hI
  have hSh := CI_Sh hC
  obtain ⟨x, A', hA', hj, hc, hr⟩ := m_undo A hA
  refine X_aload_n dL_law_2505 rfl ?_
  refine X_callV (As := []) (z := 0) dL_law_2506 mkL_252 (k_0 hSh) (hc Γ g mi ml hC) rfl rfl (by decide) hK hN (Nat.le_of_ble_eq_true rfl) (fun E g' m' l' h => ?_) (fun v g' m' l' h => ?_)
  · obtain ⟨h1, h2, h3, h4⟩ := h
    cases x with
    | inl v => cases h1
    | inr j => exact absurd rfl (hj j rfl).2
  · obtain ⟨h1, h2, h3, h4⟩ := h
    cases x with
    | inr j => exact absurd rfl (hj j rfl).2
    | inl v' =>
      cases h1
      have hSh2 := CI_Sh h2
      have hR2 := RI_K hA hR h3
      refine X_aload_n dL_law_2509 rfl ?_
      refine X_callV (As := []) (z := 0) dL_law_2510 mkL_255 (k_87 hSh2) (hr Γ g' m' l' hSh2 hR2) rfl rfl (by decide) (Nat.zero_le _) (Nat.zero_le _) (Nat.le_of_ble_eq_true rfl) (fun E g2 m2 l2 h => ?_) (fun v2 g2 m2 l2 h => ?_)
      · obtain ⟨-, -, -, -, v3, ho, -⟩ := h
        cases ho
      · obtain ⟨hg2, hl2, hR3, hF3, v3, ho, hv⟩ := h
        cases ho
        rw [hg2, hl2]
        refine X_icmp_eq 2594 dL_law_2513 (by decide) (fun _ => ?_) (fun h => absurd hv.1.symm h)
        refine X_L [(4, .int (nI i)), (0, .ref 999), (1, .ref 0), (2, .ref 87), (3, .ref 450)] ⟨rfl, rfl, rfl, rfl, rfl, trivial⟩ ?_
        exact hk A' g' m2 l' ⟨hA', CI_M2 h2 hF3, hR3⟩
set_option maxRecDepth 100000 in
theorem law_count (Γ : pTG) (hL : Γ.2.2.2.2.1.1 ≤ 4096) (i : Nat) (hi : i + 8 ≤ Γ.2.2.2.2.1.1) {K N : Nat} (hK : 20 ≤ K) (hN : 5000 ≤ N) {g : pGG} {mi : pMI} {ml : pML} {A : AS} (hI : LI A g mi ml) {Q : pQ} (hk : ∀ A' g' m' l', LI A' g' m' l' → XW Γ 100 (K - 20) (N - 5000) mL_law 2594 [(4, .int (nI i)), (0, .ref 999), (1, .ref 0), (2, .ref 87), (3, .ref 450)] [] g' m' l' Q) : XW Γ 100 K N mL_law 2569 [(4, .int (nI i)), (0, .ref 999), (1, .ref 0), (2, .ref 87), (3, .ref 450)] [] g mi ml Q := by
  obtain ⟨hA, hC, hR⟩ := hI
  have hSh := CI_Sh hC
  obtain ⟨x, A', hA', hj, hc, hr⟩ := m_count A hA (Γ.2.2.2.2.1.2 (i + 1))
  refine X_aload_n dL_law_2569 rfl ?_
  refine X_aload_n dL_law_2570 rfl ?_
  refine X_iload dL_law_2571 rfl ?_
  refine X_iconst (v := nI 1) dL_law_2573 (by decide) ?_
  refine X_iadd dL_law_2574 ?_
  refine X_topi (nI_add i 1) ?_
  refine X_xld (i + 1) dL_law_2575 rfl (by omega) hL ?_
  refine X_callV (As := [.int (Γ.2.2.2.2.1.2 (i + 1))]) (z := 0) dL_law_2576 mkL_268 (k_0 hSh) (hc Γ g mi ml hC) rfl rfl (by decide) hK hN (Nat.le_of_ble_eq_true rfl) (fun E g' m' l' h => ?_) (fun v g' m' l' h => ?_)
  · obtain ⟨h1, h2, h3, h4⟩ := h
    cases x with
    | inl v => cases h1
    | inr j => exact absurd rfl (hj j rfl).2
  · obtain ⟨h1, h2, h3, h4⟩ := h
    cases x with
    | inr j => exact absurd rfl (hj j rfl).2
    | inl v' =>
      cases h1
      have hSh2 := CI_Sh h2
      have hR2 := RI_K hA hR h3
      refine X_aload_n dL_law_2579 rfl ?_
      refine X_aload_n dL_law_2580 rfl ?_
      refine X_iload dL_law_2581 rfl ?_
      refine X_iconst (v := nI 1) dL_law_2583 (by decide) ?_
      refine X_iadd dL_law_2584 ?_
      refine X_topi (nI_add i 1) ?_
      refine X_xld (i + 1) dL_law_2585 rfl (by omega) hL ?_
      refine X_callV (As := [.int (Γ.2.2.2.2.1.2 (i + 1))]) (z := 0) dL_law_2586 mkL_271 (k_87 hSh2) (hr Γ g' m' l' hSh2 hR2) rfl rfl (by decide) (Nat.zero_le _) (Nat.zero_le _) (Nat.le_of_ble_eq_true rfl) (fun E g2 m2 l2 h => ?_) (fun v2 g2 m2 l2 h => ?_)
      · obtain ⟨-, -, -, -, v3, ho, -⟩ := h
        cases ho
      · obtain ⟨hg2, hl2, hR3, hF3, v3, ho, hv⟩ := h
        cases ho
        rw [hg2, hl2]
        refine X_icmp_eq 2594 dL_law_2589 (by decide) (fun _ => ?_) (fun h => absurd hv.1.symm h)
        refine X_L [(4, .int (nI i)), (0, .ref 999), (1, .ref 0), (2, .ref 87), (3, .ref 450)] ⟨rfl, rfl, rfl, rfl, rfl, trivial⟩ ?_
        exact hk A' g' m2 l' ⟨hA', CI_M2 h2 hF3, hR3⟩

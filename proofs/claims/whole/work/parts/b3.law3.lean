set_option maxRecDepth 100000 in
theorem law_pool (Γ : pTG) (hL : Γ.2.2.2.2.1.1 ≤ 4096) (i : Nat) (hi : i + 8 ≤ Γ.2.2.2.2.1.1) {K N : Nat} (hK : 20 ≤ K) (hN : 5000 ≤ N) {g : pGG} {mi : pMI} {ml : pML} {A : AS} (hI : LI A g mi ml) {Q : pQ} (hk : ∀ A' g' m' l', LI A' g' m' l' → XW Γ 100 (K - 20) (N - 5000) mL_law 2594 [(4, .int (nI i)), (0, .ref 999), (1, .ref 0), (2, .ref 87), (3, .ref 450)] [] g' m' l' Q) : XW Γ 100 K N mL_law 301 [(4, .int (nI i)), (0, .ref 999), (1, .ref 0), (2, .ref 87), (3, .ref 450)] [] g mi ml Q := by
  obtain ⟨hA, hC, hR⟩ := hI
  have hSh := CI_Sh hC
  obtain ⟨x, A', hA', hj, hc, hr⟩ := m_pool A hA (Γ.2.2.2.2.1.2 (i + 1))
  refine X_aload_n dL_law_301 rfl ?_
  refine X_aload_n dL_law_302 rfl ?_
  refine X_iload dL_law_303 rfl ?_
  refine X_iconst (v := nI 1) dL_law_305 (by decide) ?_
  refine X_iadd dL_law_306 ?_
  refine X_topi (nI_add i 1) ?_
  refine X_xld (i + 1) dL_law_307 rfl (by omega) hL ?_
  refine X_aload_n dL_law_308 rfl ?_
  refine X_callH (As := [.ref 0, .int (Γ.2.2.2.2.1.2 (i + 1)), .ref 450]) dL_law_309 mhL_127 (w_pool Γ g mi ml hSh A' x hj (Γ.2.2.2.2.1.2 (i + 1)) (hc Γ g mi ml hC)) rfl rfl (by decide) hK hN (Nat.le_of_ble_eq_true rfl) (fun E g' m' l' h => ?_) (fun v g' m' l' h => ?_)
  · obtain ⟨-, -, h3⟩ := h
    cases x with
    | inl v => cases h3.1
    | inr j => cases h3
  · obtain ⟨h1, h2, h3⟩ := h
    have hSh2 := CI_Sh h1
    have hR2 := RI_K hA hR h2
    cases x with
    | inl w =>
      obtain ⟨h4, h5⟩ := h3
      cases h4
      refine X_istore dL_law_312 (by decide) ?_
      refine X_aload_n dL_law_314 rfl ?_
      refine X_aload_n dL_law_315 rfl ?_
      refine X_iload dL_law_316 rfl ?_
      refine X_iconst (v := nI 1) dL_law_318 (by decide) ?_
      refine X_iadd dL_law_319 ?_
      refine X_topi (nI_add i 1) ?_
      refine X_xld (i + 1) dL_law_320 rfl (by omega) hL ?_
      refine X_callV (As := [.int (Γ.2.2.2.2.1.2 (i + 1))]) (z := 0) dL_law_321 mkL_132 (k_87 hSh2) (hr Γ g' m' l' hSh2 hR2) rfl rfl (by decide) (Nat.zero_le _) (Nat.zero_le _) (Nat.le_of_ble_eq_true rfl) (fun E g2 m2 l2 h => ?_) (fun v2 g2 m2 l2 h => ?_)
      · obtain ⟨-, -, -, -, v3, ho, -⟩ := h
        cases ho
      · obtain ⟨hg2, hl2, hR3, hF3, v3, ho, hv⟩ := h
        cases ho
        rw [hg2, hl2]
        refine X_istore dL_law_324 (by decide) ?_
        refine X_aload_n dL_law_326 rfl ?_
        refine X_callVI (z := 0) dL_law_327 mkL_133 (k_87 hSh2) (c_thrown Γ g' m2 l' hSh2) rfl rfl (by decide) (Nat.le_of_ble_eq_true rfl) ?_
        rw [hv.2]
        refine X_iload dL_law_330 rfl ?_
        refine X_icmp_eq 337 dL_law_332 (by decide) (fun _ => ?_) (fun h => absurd rfl h)
        refine X_iload dL_law_337 rfl ?_
        refine X_if_ne 354 dL_law_339 (by decide) (fun h => absurd rfl h) (fun _ => ?_)
        refine X_aload_n dL_law_342 rfl ?_
        refine X_iconst (v := nI 0) dL_law_343 (by decide) ?_
        refine X_lald 0 dL_law_344 (k_450 hSh2) rfl (by decide) ?_
        refine X_iload dL_law_345 rfl ?_
        refine X_i2l dL_law_347 ?_
        refine X_lcmp dL_law_348 ?_
        refine X_topi (show lg_cmp (l' 450 0) v3.toInt64 = nI 0 by rw [h5, hv.1]; exact cmp_same _) ?_
        refine X_if_eq 354 dL_law_349 (by decide) (fun _ => ?_) (fun h => absurd rfl h)
        refine X_goto 2594 dL_law_354 (by decide) ?_
        refine X_L [(4, .int (nI i)), (0, .ref 999), (1, .ref 0), (2, .ref 87), (3, .ref 450)] ⟨rfl, rfl, rfl, rfl, rfl, trivial⟩ ?_
        exact hk A' g' m2 l' ⟨hA', CI_M2 h1 hF3, hR3⟩
    | inr j =>
      cases h3
      refine X_istore dL_law_312 (by decide) ?_
      refine X_aload_n dL_law_314 rfl ?_
      refine X_aload_n dL_law_315 rfl ?_
      refine X_iload dL_law_316 rfl ?_
      refine X_iconst (v := nI 1) dL_law_318 (by decide) ?_
      refine X_iadd dL_law_319 ?_
      refine X_topi (nI_add i 1) ?_
      refine X_xld (i + 1) dL_law_320 rfl (by omega) hL ?_
      refine X_callV (As := [.int (Γ.2.2.2.2.1.2 (i + 1))]) (z := 0) dL_law_321 mkL_132 (k_87 hSh2) (hr Γ g' m' l' hSh2 hR2) rfl rfl (by decide) (Nat.zero_le _) (Nat.zero_le _) (Nat.le_of_ble_eq_true rfl) (fun E g2 m2 l2 h => ?_) (fun v2 g2 m2 l2 h => ?_)
      · obtain ⟨-, -, -, -, v3, ho, -⟩ := h
        cases ho
      · obtain ⟨hg2, hl2, hR3, hF3, v3, ho, hv⟩ := h
        cases ho
        rw [hg2, hl2]
        refine X_istore dL_law_324 (by decide) ?_
        refine X_aload_n dL_law_326 rfl ?_
        refine X_callVI (z := 0) dL_law_327 mkL_133 (k_87 hSh2) (c_thrown Γ g' m2 l' hSh2) rfl rfl (by decide) (Nat.le_of_ble_eq_true rfl) ?_
        rw [hv]
        refine X_iload dL_law_330 rfl ?_
        refine X_icmp_eq 337 dL_law_332 (by decide) (fun _ => ?_) (fun h => absurd rfl h)
        refine X_iload dL_law_337 rfl ?_
        refine X_if_ne 354 dL_law_339 (by decide) (fun _ => ?_) (fun h => absurd h (cd_ne (hj j rfl).2 (cd1_le j)))
        refine X_goto 2594 dL_law_354 (by decide) ?_
        refine X_L [(4, .int (nI i)), (0, .ref 999), (1, .ref 0), (2, .ref 87), (3, .ref 450)] ⟨rfl, rfl, rfl, rfl, rfl, trivial⟩ ?_
        exact hk A' g' m2 l' ⟨hA', CI_M2 h1 hF3, hR3⟩
set_option maxRecDepth 100000 in
theorem law_told (Γ : pTG) (hL : Γ.2.2.2.2.1.1 ≤ 4096) (i : Nat) (hi : i + 8 ≤ Γ.2.2.2.2.1.1) {K N : Nat} (hK : 20 ≤ K) (hN : 5000 ≤ N) {g : pGG} {mi : pMI} {ml : pML} {A : AS} (hI : LI A g mi ml) {Q : pQ} (hk : ∀ A' g' m' l', LI A' g' m' l' → XW Γ 100 (K - 20) (N - 5000) mL_law 2594 [(4, .int (nI i)), (0, .ref 999), (1, .ref 0), (2, .ref 87), (3, .ref 450)] [] g' m' l' Q) : XW Γ 100 K N mL_law 494 [(4, .int (nI i)), (0, .ref 999), (1, .ref 0), (2, .ref 87), (3, .ref 450)] [] g mi ml Q := by
  obtain ⟨hA, hC, hR⟩ := hI
  have hSh := CI_Sh hC
  obtain ⟨x, A', hA', hj, hc, hr⟩ := m_told A hA (Γ.2.2.2.2.1.2 (i + 1))
  refine X_aload_n dL_law_494 rfl ?_
  refine X_aload_n dL_law_495 rfl ?_
  refine X_iload dL_law_496 rfl ?_
  refine X_iconst (v := nI 1) dL_law_498 (by decide) ?_
  refine X_iadd dL_law_499 ?_
  refine X_topi (nI_add i 1) ?_
  refine X_xld (i + 1) dL_law_500 rfl (by omega) hL ?_
  refine X_aload_n dL_law_501 rfl ?_
  refine X_callH (As := [.ref 0, .int (Γ.2.2.2.2.1.2 (i + 1)), .ref 450]) dL_law_502 mhL_148 (w_told Γ g mi ml hSh A' x hj (Γ.2.2.2.2.1.2 (i + 1)) (hc Γ g mi ml hC)) rfl rfl (by decide) hK hN (Nat.le_of_ble_eq_true rfl) (fun E g' m' l' h => ?_) (fun v g' m' l' h => ?_)
  · obtain ⟨-, -, h3⟩ := h
    cases x with
    | inl v => cases h3.1
    | inr j => cases h3
  · obtain ⟨h1, h2, h3⟩ := h
    have hSh2 := CI_Sh h1
    have hR2 := RI_K hA hR h2
    cases x with
    | inl w =>
      obtain ⟨h4, h5⟩ := h3
      cases h4
      refine X_istore dL_law_505 (by decide) ?_
      refine X_aload_n dL_law_507 rfl ?_
      refine X_aload_n dL_law_508 rfl ?_
      refine X_iload dL_law_509 rfl ?_
      refine X_iconst (v := nI 1) dL_law_511 (by decide) ?_
      refine X_iadd dL_law_512 ?_
      refine X_topi (nI_add i 1) ?_
      refine X_xld (i + 1) dL_law_513 rfl (by omega) hL ?_
      refine X_callV (As := [.int (Γ.2.2.2.2.1.2 (i + 1))]) (z := 0) dL_law_514 mkL_150 (k_87 hSh2) (hr Γ g' m' l' hSh2 hR2) rfl rfl (by decide) (Nat.zero_le _) (Nat.zero_le _) (Nat.le_of_ble_eq_true rfl) (fun E g2 m2 l2 h => ?_) (fun v2 g2 m2 l2 h => ?_)
      · obtain ⟨-, -, -, -, v3, ho, -⟩ := h
        cases ho
      · obtain ⟨hg2, hl2, hR3, hF3, v3, ho, hv⟩ := h
        cases ho
        rw [hg2, hl2]
        refine X_istore dL_law_517 (by decide) ?_
        refine X_aload_n dL_law_519 rfl ?_
        refine X_callVI (z := 0) dL_law_520 mkL_133 (k_87 hSh2) (c_thrown Γ g' m2 l' hSh2) rfl rfl (by decide) (Nat.le_of_ble_eq_true rfl) ?_
        rw [hv.2]
        refine X_iload dL_law_523 rfl ?_
        refine X_icmp_eq 530 dL_law_525 (by decide) (fun _ => ?_) (fun h => absurd rfl h)
        refine X_iload dL_law_530 rfl ?_
        refine X_if_ne 547 dL_law_532 (by decide) (fun h => absurd rfl h) (fun _ => ?_)
        refine X_aload_n dL_law_535 rfl ?_
        refine X_iconst (v := nI 0) dL_law_536 (by decide) ?_
        refine X_lald 0 dL_law_537 (k_450 hSh2) rfl (by decide) ?_
        refine X_iload dL_law_538 rfl ?_
        refine X_i2l dL_law_540 ?_
        refine X_lcmp dL_law_541 ?_
        refine X_topi (show lg_cmp (l' 450 0) v3.toInt64 = nI 0 by rw [h5, hv.1]; exact cmp_same _) ?_
        refine X_if_eq 547 dL_law_542 (by decide) (fun _ => ?_) (fun h => absurd rfl h)
        refine X_goto 2594 dL_law_547 (by decide) ?_
        refine X_L [(4, .int (nI i)), (0, .ref 999), (1, .ref 0), (2, .ref 87), (3, .ref 450)] ⟨rfl, rfl, rfl, rfl, rfl, trivial⟩ ?_
        exact hk A' g' m2 l' ⟨hA', CI_M2 h1 hF3, hR3⟩
    | inr j =>
      cases h3
      refine X_istore dL_law_505 (by decide) ?_
      refine X_aload_n dL_law_507 rfl ?_
      refine X_aload_n dL_law_508 rfl ?_
      refine X_iload dL_law_509 rfl ?_
      refine X_iconst (v := nI 1) dL_law_511 (by decide) ?_
      refine X_iadd dL_law_512 ?_
      refine X_topi (nI_add i 1) ?_
      refine X_xld (i + 1) dL_law_513 rfl (by omega) hL ?_
      refine X_callV (As := [.int (Γ.2.2.2.2.1.2 (i + 1))]) (z := 0) dL_law_514 mkL_150 (k_87 hSh2) (hr Γ g' m' l' hSh2 hR2) rfl rfl (by decide) (Nat.zero_le _) (Nat.zero_le _) (Nat.le_of_ble_eq_true rfl) (fun E g2 m2 l2 h => ?_) (fun v2 g2 m2 l2 h => ?_)
      · obtain ⟨-, -, -, -, v3, ho, -⟩ := h
        cases ho
      · obtain ⟨hg2, hl2, hR3, hF3, v3, ho, hv⟩ := h
        cases ho
        rw [hg2, hl2]
        refine X_istore dL_law_517 (by decide) ?_
        refine X_aload_n dL_law_519 rfl ?_
        refine X_callVI (z := 0) dL_law_520 mkL_133 (k_87 hSh2) (c_thrown Γ g' m2 l' hSh2) rfl rfl (by decide) (Nat.le_of_ble_eq_true rfl) ?_
        rw [hv]
        refine X_iload dL_law_523 rfl ?_
        refine X_icmp_eq 530 dL_law_525 (by decide) (fun _ => ?_) (fun h => absurd rfl h)
        refine X_iload dL_law_530 rfl ?_
        refine X_if_ne 547 dL_law_532 (by decide) (fun _ => ?_) (fun h => absurd h (cd_ne (hj j rfl).2 (cd1_le j)))
        refine X_goto 2594 dL_law_547 (by decide) ?_
        refine X_L [(4, .int (nI i)), (0, .ref 999), (1, .ref 0), (2, .ref 87), (3, .ref 450)] ⟨rfl, rfl, rfl, rfl, rfl, trivial⟩ ?_
        exact hk A' g' m2 l' ⟨hA', CI_M2 h1 hF3, hR3⟩
set_option maxRecDepth 100000 in
theorem law_did (Γ : pTG) (hL : Γ.2.2.2.2.1.1 ≤ 4096) (i : Nat) (hi : i + 8 ≤ Γ.2.2.2.2.1.1) {K N : Nat} (hK : 20 ≤ K) (hN : 5000 ≤ N) {g : pGG} {mi : pMI} {ml : pML} {A : AS} (hI : LI A g mi ml) {Q : pQ} (hk : ∀ A' g' m' l', LI A' g' m' l' → XW Γ 100 (K - 20) (N - 5000) mL_law 2594 [(4, .int (nI i)), (0, .ref 999), (1, .ref 0), (2, .ref 87), (3, .ref 450)] [] g' m' l' Q) : XW Γ 100 K N mL_law 742 [(4, .int (nI i)), (0, .ref 999), (1, .ref 0), (2, .ref 87), (3, .ref 450)] [] g mi ml Q := by
  obtain ⟨hA, hC, hR⟩ := hI
  have hSh := CI_Sh hC
  obtain ⟨x, A', hA', hj, hc, hr⟩ := m_did A hA (Γ.2.2.2.2.1.2 (i + 1)) (Γ.2.2.2.2.1.2 (i + 2))
  refine X_aload_n dL_law_742 rfl ?_
  refine X_aload_n dL_law_743 rfl ?_
  refine X_iload dL_law_744 rfl ?_
  refine X_iconst (v := nI 1) dL_law_746 (by decide) ?_
  refine X_iadd dL_law_747 ?_
  refine X_topi (nI_add i 1) ?_
  refine X_xld (i + 1) dL_law_748 rfl (by omega) hL ?_
  refine X_aload_n dL_law_749 rfl ?_
  refine X_iload dL_law_750 rfl ?_
  refine X_iconst (v := nI 2) dL_law_752 (by decide) ?_
  refine X_iadd dL_law_753 ?_
  refine X_topi (nI_add i 2) ?_
  refine X_xld (i + 2) dL_law_754 rfl (by omega) hL ?_
  refine X_aload_n dL_law_755 rfl ?_
  refine X_callH (As := [.ref 0, .int (Γ.2.2.2.2.1.2 (i + 1)), .int (Γ.2.2.2.2.1.2 (i + 2)), .ref 450]) dL_law_756 mhL_160 (w_did Γ g mi ml hSh A' x hj (Γ.2.2.2.2.1.2 (i + 1)) (Γ.2.2.2.2.1.2 (i + 2)) (hc Γ g mi ml hC)) rfl rfl (by decide) hK hN (Nat.le_of_ble_eq_true rfl) (fun E g' m' l' h => ?_) (fun v g' m' l' h => ?_)
  · obtain ⟨-, -, h3⟩ := h
    cases x with
    | inl v => cases h3.1
    | inr j => cases h3
  · obtain ⟨h1, h2, h3⟩ := h
    have hSh2 := CI_Sh h1
    have hR2 := RI_K hA hR h2
    cases x with
    | inl w =>
      obtain ⟨h4, h5⟩ := h3
      cases h4
      refine X_istore dL_law_759 (by decide) ?_
      refine X_aload_n dL_law_761 rfl ?_
      refine X_aload_n dL_law_762 rfl ?_
      refine X_iload dL_law_763 rfl ?_
      refine X_iconst (v := nI 1) dL_law_765 (by decide) ?_
      refine X_iadd dL_law_766 ?_
      refine X_topi (nI_add i 1) ?_
      refine X_xld (i + 1) dL_law_767 rfl (by omega) hL ?_
      refine X_aload_n dL_law_768 rfl ?_
      refine X_iload dL_law_769 rfl ?_
      refine X_iconst (v := nI 2) dL_law_771 (by decide) ?_
      refine X_iadd dL_law_772 ?_
      refine X_topi (nI_add i 2) ?_
      refine X_xld (i + 2) dL_law_773 rfl (by omega) hL ?_
      refine X_callV (As := [.int (Γ.2.2.2.2.1.2 (i + 1)), .int (Γ.2.2.2.2.1.2 (i + 2))]) (z := 0) dL_law_774 mkL_162 (k_87 hSh2) (hr Γ g' m' l' hSh2 hR2) rfl rfl (by decide) (Nat.zero_le _) (Nat.zero_le _) (Nat.le_of_ble_eq_true rfl) (fun E g2 m2 l2 h => ?_) (fun v2 g2 m2 l2 h => ?_)
      · obtain ⟨-, -, -, -, v3, ho, -⟩ := h
        cases ho
      · obtain ⟨hg2, hl2, hR3, hF3, v3, ho, hv⟩ := h
        cases ho
        rw [hg2, hl2]
        refine X_istore dL_law_777 (by decide) ?_
        refine X_aload_n dL_law_779 rfl ?_
        refine X_callVI (z := 0) dL_law_780 mkL_133 (k_87 hSh2) (c_thrown Γ g' m2 l' hSh2) rfl rfl (by decide) (Nat.le_of_ble_eq_true rfl) ?_
        rw [hv.2]
        refine X_iload dL_law_783 rfl ?_
        refine X_icmp_eq 790 dL_law_785 (by decide) (fun _ => ?_) (fun h => absurd rfl h)
        refine X_iload dL_law_790 rfl ?_
        refine X_if_ne 807 dL_law_792 (by decide) (fun h => absurd rfl h) (fun _ => ?_)
        refine X_aload_n dL_law_795 rfl ?_
        refine X_iconst (v := nI 0) dL_law_796 (by decide) ?_
        refine X_lald 0 dL_law_797 (k_450 hSh2) rfl (by decide) ?_
        refine X_iload dL_law_798 rfl ?_
        refine X_i2l dL_law_800 ?_
        refine X_lcmp dL_law_801 ?_
        refine X_topi (show lg_cmp (l' 450 0) v3.toInt64 = nI 0 by rw [h5, hv.1]; exact cmp_same _) ?_
        refine X_if_eq 807 dL_law_802 (by decide) (fun _ => ?_) (fun h => absurd rfl h)
        refine X_goto 2594 dL_law_807 (by decide) ?_
        refine X_L [(4, .int (nI i)), (0, .ref 999), (1, .ref 0), (2, .ref 87), (3, .ref 450)] ⟨rfl, rfl, rfl, rfl, rfl, trivial⟩ ?_
        exact hk A' g' m2 l' ⟨hA', CI_M2 h1 hF3, hR3⟩
    | inr j =>
      cases h3
      refine X_istore dL_law_759 (by decide) ?_
      refine X_aload_n dL_law_761 rfl ?_
      refine X_aload_n dL_law_762 rfl ?_
      refine X_iload dL_law_763 rfl ?_
      refine X_iconst (v := nI 1) dL_law_765 (by decide) ?_
      refine X_iadd dL_law_766 ?_
      refine X_topi (nI_add i 1) ?_
      refine X_xld (i + 1) dL_law_767 rfl (by omega) hL ?_
      refine X_aload_n dL_law_768 rfl ?_
      refine X_iload dL_law_769 rfl ?_
      refine X_iconst (v := nI 2) dL_law_771 (by decide) ?_
      refine X_iadd dL_law_772 ?_
      refine X_topi (nI_add i 2) ?_
      refine X_xld (i + 2) dL_law_773 rfl (by omega) hL ?_
      refine X_callV (As := [.int (Γ.2.2.2.2.1.2 (i + 1)), .int (Γ.2.2.2.2.1.2 (i + 2))]) (z := 0) dL_law_774 mkL_162 (k_87 hSh2) (hr Γ g' m' l' hSh2 hR2) rfl rfl (by decide) (Nat.zero_le _) (Nat.zero_le _) (Nat.le_of_ble_eq_true rfl) (fun E g2 m2 l2 h => ?_) (fun v2 g2 m2 l2 h => ?_)
      · obtain ⟨-, -, -, -, v3, ho, -⟩ := h
        cases ho
      · obtain ⟨hg2, hl2, hR3, hF3, v3, ho, hv⟩ := h
        cases ho
        rw [hg2, hl2]
        refine X_istore dL_law_777 (by decide) ?_
        refine X_aload_n dL_law_779 rfl ?_
        refine X_callVI (z := 0) dL_law_780 mkL_133 (k_87 hSh2) (c_thrown Γ g' m2 l' hSh2) rfl rfl (by decide) (Nat.le_of_ble_eq_true rfl) ?_
        rw [hv]
        refine X_iload dL_law_783 rfl ?_
        refine X_icmp_eq 790 dL_law_785 (by decide) (fun _ => ?_) (fun h => absurd rfl h)
        refine X_iload dL_law_790 rfl ?_
        refine X_if_ne 807 dL_law_792 (by decide) (fun _ => ?_) (fun h => absurd h (cd_ne (hj j rfl).2 (cd2_le j)))
        refine X_goto 2594 dL_law_807 (by decide) ?_
        refine X_L [(4, .int (nI i)), (0, .ref 999), (1, .ref 0), (2, .ref 87), (3, .ref 450)] ⟨rfl, rfl, rfl, rfl, rfl, trivial⟩ ?_
        exact hk A' g' m2 l' ⟨hA', CI_M2 h1 hF3, hR3⟩
set_option maxRecDepth 100000 in
theorem law_sums (Γ : pTG) (hL : Γ.2.2.2.2.1.1 ≤ 4096) (i : Nat) (hi : i + 8 ≤ Γ.2.2.2.2.1.1) {K N : Nat} (hK : 20 ≤ K) (hN : 5000 ≤ N) {g : pGG} {mi : pMI} {ml : pML} {A : AS} (hI : LI A g mi ml) {Q : pQ} (hk : ∀ A' g' m' l', LI A' g' m' l' → XW Γ 100 (K - 20) (N - 5000) mL_law 2594 [(4, .int (nI i)), (0, .ref 999), (1, .ref 0), (2, .ref 87), (3, .ref 450)] [] g' m' l' Q) : XW Γ 100 K N mL_law 1002 [(4, .int (nI i)), (0, .ref 999), (1, .ref 0), (2, .ref 87), (3, .ref 450)] [] g mi ml Q := by
  obtain ⟨hA, hC, hR⟩ := hI
  have hSh := CI_Sh hC
  obtain ⟨x, A', hA', hj, hc, hr⟩ := m_sums A hA (Γ.2.2.2.2.1.2 (i + 1))
  refine X_aload_n dL_law_1002 rfl ?_
  refine X_aload_n dL_law_1003 rfl ?_
  refine X_iload dL_law_1004 rfl ?_
  refine X_iconst (v := nI 1) dL_law_1006 (by decide) ?_
  refine X_iadd dL_law_1007 ?_
  refine X_topi (nI_add i 1) ?_
  refine X_xld (i + 1) dL_law_1008 rfl (by omega) hL ?_
  refine X_aload_n dL_law_1009 rfl ?_
  refine X_callH (As := [.ref 0, .int (Γ.2.2.2.2.1.2 (i + 1)), .ref 450]) dL_law_1010 mhL_172 (w_sums Γ g mi ml hSh A' x hj (Γ.2.2.2.2.1.2 (i + 1)) (hc Γ g mi ml hC)) rfl rfl (by decide) hK hN (Nat.le_of_ble_eq_true rfl) (fun E g' m' l' h => ?_) (fun v g' m' l' h => ?_)
  · obtain ⟨-, -, h3⟩ := h
    cases x with
    | inl v => cases h3.1
    | inr j => cases h3
  · obtain ⟨h1, h2, h3⟩ := h
    have hSh2 := CI_Sh h1
    have hR2 := RI_K hA hR h2
    cases x with
    | inl w =>
      obtain ⟨h4, h5⟩ := h3
      cases h4
      refine X_istore dL_law_1013 (by decide) ?_
      refine X_aload_n dL_law_1015 rfl ?_
      refine X_aload_n dL_law_1016 rfl ?_
      refine X_iload dL_law_1017 rfl ?_
      refine X_iconst (v := nI 1) dL_law_1019 (by decide) ?_
      refine X_iadd dL_law_1020 ?_
      refine X_topi (nI_add i 1) ?_
      refine X_xld (i + 1) dL_law_1021 rfl (by omega) hL ?_
      refine X_callV (As := [.int (Γ.2.2.2.2.1.2 (i + 1))]) (z := 0) dL_law_1022 mkL_174 (k_87 hSh2) (hr Γ g' m' l' hSh2 hR2) rfl rfl (by decide) (Nat.zero_le _) (Nat.zero_le _) (Nat.le_of_ble_eq_true rfl) (fun E g2 m2 l2 h => ?_) (fun v2 g2 m2 l2 h => ?_)
      · obtain ⟨-, -, -, -, v3, ho, -⟩ := h
        cases ho
      · obtain ⟨hg2, hl2, hR3, hF3, v3, ho, hv⟩ := h
        cases ho
        rw [hg2, hl2]
        refine X_istore dL_law_1025 (by decide) ?_
        refine X_aload_n dL_law_1027 rfl ?_
        refine X_callVI (z := 0) dL_law_1028 mkL_133 (k_87 hSh2) (c_thrown Γ g' m2 l' hSh2) rfl rfl (by decide) (Nat.le_of_ble_eq_true rfl) ?_
        rw [hv.2]
        refine X_iload dL_law_1031 rfl ?_
        refine X_icmp_eq 1038 dL_law_1033 (by decide) (fun _ => ?_) (fun h => absurd rfl h)
        refine X_iload dL_law_1038 rfl ?_
        refine X_if_ne 1055 dL_law_1040 (by decide) (fun h => absurd rfl h) (fun _ => ?_)
        refine X_aload_n dL_law_1043 rfl ?_
        refine X_iconst (v := nI 0) dL_law_1044 (by decide) ?_
        refine X_lald 0 dL_law_1045 (k_450 hSh2) rfl (by decide) ?_
        refine X_iload dL_law_1046 rfl ?_
        refine X_i2l dL_law_1048 ?_
        refine X_lcmp dL_law_1049 ?_
        refine X_topi (show lg_cmp (l' 450 0) v3.toInt64 = nI 0 by rw [h5, hv.1]; exact cmp_same _) ?_
        refine X_if_eq 1055 dL_law_1050 (by decide) (fun _ => ?_) (fun h => absurd rfl h)
        refine X_goto 2594 dL_law_1055 (by decide) ?_
        refine X_L [(4, .int (nI i)), (0, .ref 999), (1, .ref 0), (2, .ref 87), (3, .ref 450)] ⟨rfl, rfl, rfl, rfl, rfl, trivial⟩ ?_
        exact hk A' g' m2 l' ⟨hA', CI_M2 h1 hF3, hR3⟩
    | inr j =>
      cases h3
      refine X_istore dL_law_1013 (by decide) ?_
      refine X_aload_n dL_law_1015 rfl ?_
      refine X_aload_n dL_law_1016 rfl ?_
      refine X_iload dL_law_1017 rfl ?_
      refine X_iconst (v := nI 1) dL_law_1019 (by decide) ?_
      refine X_iadd dL_law_1020 ?_
      refine X_topi (nI_add i 1) ?_
      refine X_xld (i + 1) dL_law_1021 rfl (by omega) hL ?_
      refine X_callV (As := [.int (Γ.2.2.2.2.1.2 (i + 1))]) (z := 0) dL_law_1022 mkL_174 (k_87 hSh2) (hr Γ g' m' l' hSh2 hR2) rfl rfl (by decide) (Nat.zero_le _) (Nat.zero_le _) (Nat.le_of_ble_eq_true rfl) (fun E g2 m2 l2 h => ?_) (fun v2 g2 m2 l2 h => ?_)
      · obtain ⟨-, -, -, -, v3, ho, -⟩ := h
        cases ho
      · obtain ⟨hg2, hl2, hR3, hF3, v3, ho, hv⟩ := h
        cases ho
        rw [hg2, hl2]
        refine X_istore dL_law_1025 (by decide) ?_
        refine X_aload_n dL_law_1027 rfl ?_
        refine X_callVI (z := 0) dL_law_1028 mkL_133 (k_87 hSh2) (c_thrown Γ g' m2 l' hSh2) rfl rfl (by decide) (Nat.le_of_ble_eq_true rfl) ?_
        rw [hv]
        refine X_iload dL_law_1031 rfl ?_
        refine X_icmp_eq 1038 dL_law_1033 (by decide) (fun _ => ?_) (fun h => absurd rfl h)
        refine X_iload dL_law_1038 rfl ?_
        refine X_if_ne 1055 dL_law_1040 (by decide) (fun _ => ?_) (fun h => absurd h (cd_ne (hj j rfl).2 (cd1_le j)))
        refine X_goto 2594 dL_law_1055 (by decide) ?_
        refine X_L [(4, .int (nI i)), (0, .ref 999), (1, .ref 0), (2, .ref 87), (3, .ref 450)] ⟨rfl, rfl, rfl, rfl, rfl, trivial⟩ ?_
        exact hk A' g' m2 l' ⟨hA', CI_M2 h1 hF3, hR3⟩
set_option maxRecDepth 100000 in
theorem law_out (Γ : pTG) (hL : Γ.2.2.2.2.1.1 ≤ 4096) (i : Nat) (hi : i + 8 ≤ Γ.2.2.2.2.1.1) {K N : Nat} (hK : 20 ≤ K) (hN : 5000 ≤ N) {g : pGG} {mi : pMI} {ml : pML} {A : AS} (hI : LI A g mi ml) {Q : pQ} (hk : ∀ A' g' m' l', LI A' g' m' l' → XW Γ 100 (K - 20) (N - 5000) mL_law 2594 [(4, .int (nI i)), (0, .ref 999), (1, .ref 0), (2, .ref 87), (3, .ref 450)] [] g' m' l' Q) : XW Γ 100 K N mL_law 1326 [(4, .int (nI i)), (0, .ref 999), (1, .ref 0), (2, .ref 87), (3, .ref 450)] [] g mi ml Q := by
  obtain ⟨hA, hC, hR⟩ := hI
  have hSh := CI_Sh hC
  obtain ⟨x, A', hA', hj, hc, hr⟩ := m_out A hA (Γ.2.2.2.2.1.2 (i + 1))
  refine X_aload_n dL_law_1326 rfl ?_
  refine X_aload_n dL_law_1327 rfl ?_
  refine X_iload dL_law_1328 rfl ?_
  refine X_iconst (v := nI 1) dL_law_1330 (by decide) ?_
  refine X_iadd dL_law_1331 ?_
  refine X_topi (nI_add i 1) ?_
  refine X_xld (i + 1) dL_law_1332 rfl (by omega) hL ?_
  refine X_aload_n dL_law_1333 rfl ?_
  refine X_callH (As := [.ref 0, .int (Γ.2.2.2.2.1.2 (i + 1)), .ref 450]) dL_law_1334 mhL_186 (w_out Γ g mi ml hSh A' x hj (Γ.2.2.2.2.1.2 (i + 1)) (hc Γ g mi ml hC)) rfl rfl (by decide) hK hN (Nat.le_of_ble_eq_true rfl) (fun E g' m' l' h => ?_) (fun v g' m' l' h => ?_)
  · obtain ⟨-, -, h3⟩ := h
    cases x with
    | inl v => cases h3.1
    | inr j => cases h3
  · obtain ⟨h1, h2, h3⟩ := h
    have hSh2 := CI_Sh h1
    have hR2 := RI_K hA hR h2
    cases x with
    | inl w =>
      obtain ⟨h4, h5⟩ := h3
      cases h4
      refine X_istore dL_law_1337 (by decide) ?_
      refine X_aload_n dL_law_1339 rfl ?_
      refine X_aload_n dL_law_1340 rfl ?_
      refine X_iload dL_law_1341 rfl ?_
      refine X_iconst (v := nI 1) dL_law_1343 (by decide) ?_
      refine X_iadd dL_law_1344 ?_
      refine X_topi (nI_add i 1) ?_
      refine X_xld (i + 1) dL_law_1345 rfl (by omega) hL ?_
      refine X_callV (As := [.int (Γ.2.2.2.2.1.2 (i + 1))]) (z := 0) dL_law_1346 mkL_188 (k_87 hSh2) (hr Γ g' m' l' hSh2 hR2) rfl rfl (by decide) (Nat.zero_le _) (Nat.zero_le _) (Nat.le_of_ble_eq_true rfl) (fun E g2 m2 l2 h => ?_) (fun v2 g2 m2 l2 h => ?_)
      · obtain ⟨-, -, -, -, v3, ho, -⟩ := h
        cases ho
      · obtain ⟨hg2, hl2, hR3, hF3, v3, ho, hv⟩ := h
        cases ho
        rw [hg2, hl2]
        refine X_istore dL_law_1349 (by decide) ?_
        refine X_aload_n dL_law_1351 rfl ?_
        refine X_callVI (z := 0) dL_law_1352 mkL_133 (k_87 hSh2) (c_thrown Γ g' m2 l' hSh2) rfl rfl (by decide) (Nat.le_of_ble_eq_true rfl) ?_
        rw [hv.2]
        refine X_iload dL_law_1355 rfl ?_
        refine X_icmp_eq 1362 dL_law_1357 (by decide) (fun _ => ?_) (fun h => absurd rfl h)
        refine X_iload dL_law_1362 rfl ?_
        refine X_if_ne 1379 dL_law_1364 (by decide) (fun h => absurd rfl h) (fun _ => ?_)
        refine X_aload_n dL_law_1367 rfl ?_
        refine X_iconst (v := nI 0) dL_law_1368 (by decide) ?_
        refine X_lald 0 dL_law_1369 (k_450 hSh2) rfl (by decide) ?_
        refine X_iload dL_law_1370 rfl ?_
        refine X_i2l dL_law_1372 ?_
        refine X_lcmp dL_law_1373 ?_
        refine X_topi (show lg_cmp (l' 450 0) v3.toInt64 = nI 0 by rw [h5, hv.1]; exact cmp_same _) ?_
        refine X_if_eq 1379 dL_law_1374 (by decide) (fun _ => ?_) (fun h => absurd rfl h)
        refine X_goto 2594 dL_law_1379 (by decide) ?_
        refine X_L [(4, .int (nI i)), (0, .ref 999), (1, .ref 0), (2, .ref 87), (3, .ref 450)] ⟨rfl, rfl, rfl, rfl, rfl, trivial⟩ ?_
        exact hk A' g' m2 l' ⟨hA', CI_M2 h1 hF3, hR3⟩
    | inr j =>
      cases h3
      refine X_istore dL_law_1337 (by decide) ?_
      refine X_aload_n dL_law_1339 rfl ?_
      refine X_aload_n dL_law_1340 rfl ?_
      refine X_iload dL_law_1341 rfl ?_
      refine X_iconst (v := nI 1) dL_law_1343 (by decide) ?_
      refine X_iadd dL_law_1344 ?_
      refine X_topi (nI_add i 1) ?_
      refine X_xld (i + 1) dL_law_1345 rfl (by omega) hL ?_
      refine X_callV (As := [.int (Γ.2.2.2.2.1.2 (i + 1))]) (z := 0) dL_law_1346 mkL_188 (k_87 hSh2) (hr Γ g' m' l' hSh2 hR2) rfl rfl (by decide) (Nat.zero_le _) (Nat.zero_le _) (Nat.le_of_ble_eq_true rfl) (fun E g2 m2 l2 h => ?_) (fun v2 g2 m2 l2 h => ?_)
      · obtain ⟨-, -, -, -, v3, ho, -⟩ := h
        cases ho
      · obtain ⟨hg2, hl2, hR3, hF3, v3, ho, hv⟩ := h
        cases ho
        rw [hg2, hl2]
        refine X_istore dL_law_1349 (by decide) ?_
        refine X_aload_n dL_law_1351 rfl ?_
        refine X_callVI (z := 0) dL_law_1352 mkL_133 (k_87 hSh2) (c_thrown Γ g' m2 l' hSh2) rfl rfl (by decide) (Nat.le_of_ble_eq_true rfl) ?_
        rw [hv]
        refine X_iload dL_law_1355 rfl ?_
        refine X_icmp_eq 1362 dL_law_1357 (by decide) (fun _ => ?_) (fun h => absurd rfl h)
        refine X_iload dL_law_1362 rfl ?_
        refine X_if_ne 1379 dL_law_1364 (by decide) (fun _ => ?_) (fun h => absurd h (cd_ne (hj j rfl).2 (cd0_le j)))
        refine X_goto 2594 dL_law_1379 (by decide) ?_
        refine X_L [(4, .int (nI i)), (0, .ref 999), (1, .ref 0), (2, .ref 87), (3, .ref 450)] ⟨rfl, rfl, rfl, rfl, rfl, trivial⟩ ?_
        exact hk A' g' m2 l' ⟨hA', CI_M2 h1 hF3, hR3⟩
set_option maxRecDepth 100000 in
theorem law_given (Γ : pTG) (hL : Γ.2.2.2.2.1.1 ≤ 4096) (i : Nat) (hi : i + 8 ≤ Γ.2.2.2.2.1.1) {K N : Nat} (hK : 20 ≤ K) (hN : 5000 ≤ N) {g : pGG} {mi : pMI} {ml : pML} {A : AS} (hI : LI A g mi ml) {Q : pQ} (hk : ∀ A' g' m' l', LI A' g' m' l' → XW Γ 100 (K - 20) (N - 5000) mL_law 2594 [(4, .int (nI i)), (0, .ref 999), (1, .ref 0), (2, .ref 87), (3, .ref 450)] [] g' m' l' Q) : XW Γ 100 K N mL_law 1586 [(4, .int (nI i)), (0, .ref 999), (1, .ref 0), (2, .ref 87), (3, .ref 450)] [] g mi ml Q := by
  obtain ⟨hA, hC, hR⟩ := hI
  have hSh := CI_Sh hC
  obtain ⟨x, A', hA', hj, hc, hr⟩ := m_given A hA
  refine X_aload_n dL_law_1586 rfl ?_
  refine X_callV (As := []) (z := 0) dL_law_1587 mkL_198 (k_0 hSh) (hc Γ g mi ml hC) rfl rfl (by decide) hK hN (Nat.le_of_ble_eq_true rfl) (fun E g' m' l' h => ?_) (fun v g' m' l' h => ?_)
  · obtain ⟨h1, h2, h3, h4⟩ := h
    cases x with
    | inl v => cases h1
    | inr j => exact absurd rfl (hj j rfl).2
  · obtain ⟨h1, h2, h3, h4⟩ := h
    cases x with
    | inr j => exact absurd rfl (hj j rfl).2
    | inl v' =>
      cases h1
      have hSh2 := CI_Sh h2
      have hR2 := RI_K hA hR h3
      refine X_aload_n dL_law_1590 rfl ?_
      refine X_callV (As := []) (z := 0) dL_law_1591 mkL_201 (k_87 hSh2) (hr Γ g' m' l' hSh2 hR2) rfl rfl (by decide) (Nat.zero_le _) (Nat.zero_le _) (Nat.le_of_ble_eq_true rfl) (fun E g2 m2 l2 h => ?_) (fun v2 g2 m2 l2 h => ?_)
      · obtain ⟨-, -, -, -, v3, ho, -⟩ := h
        cases ho
      · obtain ⟨hg2, hl2, hR3, hF3, v3, ho, hv⟩ := h
        cases ho
        rw [hg2, hl2]
        refine X_icmp_eq 2594 dL_law_1594 (by decide) (fun _ => ?_) (fun h => absurd hv.1.symm h)
        refine X_L [(4, .int (nI i)), (0, .ref 999), (1, .ref 0), (2, .ref 87), (3, .ref 450)] ⟨rfl, rfl, rfl, rfl, rfl, trivial⟩ ?_
        exact hk A' g' m2 l' ⟨hA', CI_M2 h2 hF3, hR3⟩
set_option maxRecDepth 100000 in
theorem law_want (Γ : pTG) (hL : Γ.2.2.2.2.1.1 ≤ 4096) (i : Nat) (hi : i + 8 ≤ Γ.2.2.2.2.1.1) {K N : Nat} (hK : 20 ≤ K) (hN : 5000 ≤ N) {g : pGG} {mi : pMI} {ml : pML} {A : AS} (hI : LI A g mi ml) {Q : pQ} (hk : ∀ A' g' m' l', LI A' g' m' l' → XW Γ 100 (K - 20) (N - 5000) mL_law 2594 [(4, .int (nI i)), (0, .ref 999), (1, .ref 0), (2, .ref 87), (3, .ref 450)] [] g' m' l' Q) : XW Γ 100 K N mL_law 1736 [(4, .int (nI i)), (0, .ref 999), (1, .ref 0), (2, .ref 87), (3, .ref 450)] [] g mi ml Q := by
  obtain ⟨hA, hC, hR⟩ := hI
  have hSh := CI_Sh hC
  obtain ⟨x, A', hA', hj, hc, hr⟩ := m_want A hA (Γ.2.2.2.2.1.2 (i + 1))
  refine X_aload_n dL_law_1736 rfl ?_
  refine X_aload_n dL_law_1737 rfl ?_
  refine X_iload dL_law_1738 rfl ?_
  refine X_iconst (v := nI 1) dL_law_1740 (by decide) ?_
  refine X_iadd dL_law_1741 ?_
  refine X_topi (nI_add i 1) ?_
  refine X_xld (i + 1) dL_law_1742 rfl (by omega) hL ?_
  refine X_aload_n dL_law_1743 rfl ?_
  refine X_callH (As := [.ref 0, .int (Γ.2.2.2.2.1.2 (i + 1)), .ref 450]) dL_law_1744 mhL_212 (w_want Γ g mi ml hSh A' x hj (Γ.2.2.2.2.1.2 (i + 1)) (hc Γ g mi ml hC)) rfl rfl (by decide) hK hN (Nat.le_of_ble_eq_true rfl) (fun E g' m' l' h => ?_) (fun v g' m' l' h => ?_)
  · obtain ⟨-, -, h3⟩ := h
    cases x with
    | inl v => cases h3.1
    | inr j => cases h3
  · obtain ⟨h1, h2, h3⟩ := h
    have hSh2 := CI_Sh h1
    have hR2 := RI_K hA hR h2
    cases x with
    | inl w =>
      obtain ⟨h4, h5⟩ := h3
      cases h4
      refine X_istore dL_law_1747 (by decide) ?_
      refine X_aload_n dL_law_1749 rfl ?_
      refine X_aload_n dL_law_1750 rfl ?_
      refine X_iload dL_law_1751 rfl ?_
      refine X_iconst (v := nI 1) dL_law_1753 (by decide) ?_
      refine X_iadd dL_law_1754 ?_
      refine X_topi (nI_add i 1) ?_
      refine X_xld (i + 1) dL_law_1755 rfl (by omega) hL ?_
      refine X_callV (As := [.int (Γ.2.2.2.2.1.2 (i + 1))]) (z := 0) dL_law_1756 mkL_214 (k_87 hSh2) (hr Γ g' m' l' hSh2 hR2) rfl rfl (by decide) (Nat.zero_le _) (Nat.zero_le _) (Nat.le_of_ble_eq_true rfl) (fun E g2 m2 l2 h => ?_) (fun v2 g2 m2 l2 h => ?_)
      · obtain ⟨-, -, -, -, v3, ho, -⟩ := h
        cases ho
      · obtain ⟨hg2, hl2, hR3, hF3, v3, ho, hv⟩ := h
        cases ho
        rw [hg2, hl2]
        refine X_istore dL_law_1759 (by decide) ?_
        refine X_aload_n dL_law_1761 rfl ?_
        refine X_callVI (z := 0) dL_law_1762 mkL_133 (k_87 hSh2) (c_thrown Γ g' m2 l' hSh2) rfl rfl (by decide) (Nat.le_of_ble_eq_true rfl) ?_
        rw [hv.2]
        refine X_iload dL_law_1765 rfl ?_
        refine X_icmp_eq 1772 dL_law_1767 (by decide) (fun _ => ?_) (fun h => absurd rfl h)
        refine X_iload dL_law_1772 rfl ?_
        refine X_if_ne 1789 dL_law_1774 (by decide) (fun h => absurd rfl h) (fun _ => ?_)
        refine X_aload_n dL_law_1777 rfl ?_
        refine X_iconst (v := nI 0) dL_law_1778 (by decide) ?_
        refine X_lald 0 dL_law_1779 (k_450 hSh2) rfl (by decide) ?_
        refine X_iload dL_law_1780 rfl ?_
        refine X_i2l dL_law_1782 ?_
        refine X_lcmp dL_law_1783 ?_
        refine X_topi (show lg_cmp (l' 450 0) v3.toInt64 = nI 0 by rw [h5, hv.1]; exact cmp_same _) ?_
        refine X_if_eq 1789 dL_law_1784 (by decide) (fun _ => ?_) (fun h => absurd rfl h)
        refine X_goto 2594 dL_law_1789 (by decide) ?_
        refine X_L [(4, .int (nI i)), (0, .ref 999), (1, .ref 0), (2, .ref 87), (3, .ref 450)] ⟨rfl, rfl, rfl, rfl, rfl, trivial⟩ ?_
        exact hk A' g' m2 l' ⟨hA', CI_M2 h1 hF3, hR3⟩
    | inr j =>
      cases h3
      refine X_istore dL_law_1747 (by decide) ?_
      refine X_aload_n dL_law_1749 rfl ?_
      refine X_aload_n dL_law_1750 rfl ?_
      refine X_iload dL_law_1751 rfl ?_
      refine X_iconst (v := nI 1) dL_law_1753 (by decide) ?_
      refine X_iadd dL_law_1754 ?_
      refine X_topi (nI_add i 1) ?_
      refine X_xld (i + 1) dL_law_1755 rfl (by omega) hL ?_
      refine X_callV (As := [.int (Γ.2.2.2.2.1.2 (i + 1))]) (z := 0) dL_law_1756 mkL_214 (k_87 hSh2) (hr Γ g' m' l' hSh2 hR2) rfl rfl (by decide) (Nat.zero_le _) (Nat.zero_le _) (Nat.le_of_ble_eq_true rfl) (fun E g2 m2 l2 h => ?_) (fun v2 g2 m2 l2 h => ?_)
      · obtain ⟨-, -, -, -, v3, ho, -⟩ := h
        cases ho
      · obtain ⟨hg2, hl2, hR3, hF3, v3, ho, hv⟩ := h
        cases ho
        rw [hg2, hl2]
        refine X_istore dL_law_1759 (by decide) ?_
        refine X_aload_n dL_law_1761 rfl ?_
        refine X_callVI (z := 0) dL_law_1762 mkL_133 (k_87 hSh2) (c_thrown Γ g' m2 l' hSh2) rfl rfl (by decide) (Nat.le_of_ble_eq_true rfl) ?_
        rw [hv]
        refine X_iload dL_law_1765 rfl ?_
        refine X_icmp_eq 1772 dL_law_1767 (by decide) (fun _ => ?_) (fun h => absurd rfl h)
        refine X_iload dL_law_1772 rfl ?_
        refine X_if_ne 1789 dL_law_1774 (by decide) (fun _ => ?_) (fun h => absurd h (cd_ne (hj j rfl).2 (cd1_le j)))
        refine X_goto 2594 dL_law_1789 (by decide) ?_
        refine X_L [(4, .int (nI i)), (0, .ref 999), (1, .ref 0), (2, .ref 87), (3, .ref 450)] ⟨rfl, rfl, rfl, rfl, rfl, trivial⟩ ?_
        exact hk A' g' m2 l' ⟨hA', CI_M2 h1 hF3, hR3⟩
set_option maxRecDepth 100000 in
theorem law_lot (Γ : pTG) (hL : Γ.2.2.2.2.1.1 ≤ 4096) (i : Nat) (hi : i + 8 ≤ Γ.2.2.2.2.1.1) {K N : Nat} (hK : 20 ≤ K) (hN : 5000 ≤ N) {g : pGG} {mi : pMI} {ml : pML} {A : AS} (hI : LI A g mi ml) {Q : pQ} (hk : ∀ A' g' m' l', LI A' g' m' l' → XW Γ 100 (K - 20) (N - 5000) mL_law 2594 [(4, .int (nI i)), (0, .ref 999), (1, .ref 0), (2, .ref 87), (3, .ref 450)] [] g' m' l' Q) : XW Γ 100 K N mL_law 1960 [(4, .int (nI i)), (0, .ref 999), (1, .ref 0), (2, .ref 87), (3, .ref 450)] [] g mi ml Q := by
  obtain ⟨hA, hC, hR⟩ := hI
  have hSh := CI_Sh hC
  obtain ⟨x, A', hA', hj, hc, hr⟩ := m_lot A hA (Γ.2.2.2.2.1.2 (i + 1)) (Γ.2.2.2.2.1.2 (i + 2))
  refine X_aload_n dL_law_1960 rfl ?_
  refine X_aload_n dL_law_1961 rfl ?_
  refine X_iload dL_law_1962 rfl ?_
  refine X_iconst (v := nI 1) dL_law_1964 (by decide) ?_
  refine X_iadd dL_law_1965 ?_
  refine X_topi (nI_add i 1) ?_
  refine X_xld (i + 1) dL_law_1966 rfl (by omega) hL ?_
  refine X_aload_n dL_law_1967 rfl ?_
  refine X_iload dL_law_1968 rfl ?_
  refine X_iconst (v := nI 2) dL_law_1970 (by decide) ?_
  refine X_iadd dL_law_1971 ?_
  refine X_topi (nI_add i 2) ?_
  refine X_xld (i + 2) dL_law_1972 rfl (by omega) hL ?_
  refine X_aload_n dL_law_1973 rfl ?_
  refine X_callH (As := [.ref 0, .int (Γ.2.2.2.2.1.2 (i + 1)), .int (Γ.2.2.2.2.1.2 (i + 2)), .ref 450]) dL_law_1974 mhL_224 (w_lot Γ g mi ml hSh A' x hj (Γ.2.2.2.2.1.2 (i + 1)) (Γ.2.2.2.2.1.2 (i + 2)) (hc Γ g mi ml hC)) rfl rfl (by decide) hK hN (Nat.le_of_ble_eq_true rfl) (fun E g' m' l' h => ?_) (fun v g' m' l' h => ?_)
  · obtain ⟨-, -, h3⟩ := h
    cases x with
    | inl v => cases h3.1
    | inr j => cases h3
  · obtain ⟨h1, h2, h3⟩ := h
    have hSh2 := CI_Sh h1
    have hR2 := RI_K hA hR h2
    cases x with
    | inl w =>
      obtain ⟨h4, h5⟩ := h3
      cases h4
      refine X_istore dL_law_1977 (by decide) ?_
      refine X_aload_n dL_law_1979 rfl ?_
      refine X_aload_n dL_law_1980 rfl ?_
      refine X_iload dL_law_1981 rfl ?_
      refine X_iconst (v := nI 1) dL_law_1983 (by decide) ?_
      refine X_iadd dL_law_1984 ?_
      refine X_topi (nI_add i 1) ?_
      refine X_xld (i + 1) dL_law_1985 rfl (by omega) hL ?_
      refine X_aload_n dL_law_1986 rfl ?_
      refine X_iload dL_law_1987 rfl ?_
      refine X_iconst (v := nI 2) dL_law_1989 (by decide) ?_
      refine X_iadd dL_law_1990 ?_
      refine X_topi (nI_add i 2) ?_
      refine X_xld (i + 2) dL_law_1991 rfl (by omega) hL ?_
      refine X_callV (As := [.int (Γ.2.2.2.2.1.2 (i + 1)), .int (Γ.2.2.2.2.1.2 (i + 2))]) (z := 0) dL_law_1992 mkL_226 (k_87 hSh2) (hr Γ g' m' l' hSh2 hR2) rfl rfl (by decide) (Nat.zero_le _) (Nat.zero_le _) (Nat.le_of_ble_eq_true rfl) (fun E g2 m2 l2 h => ?_) (fun v2 g2 m2 l2 h => ?_)
      · obtain ⟨-, -, -, -, v3, ho, -⟩ := h
        cases ho
      · obtain ⟨hg2, hl2, hR3, hF3, v3, ho, hv⟩ := h
        cases ho
        rw [hg2, hl2]
        refine X_istore dL_law_1995 (by decide) ?_
        refine X_aload_n dL_law_1997 rfl ?_
        refine X_callVI (z := 0) dL_law_1998 mkL_133 (k_87 hSh2) (c_thrown Γ g' m2 l' hSh2) rfl rfl (by decide) (Nat.le_of_ble_eq_true rfl) ?_
        rw [hv.2]
        refine X_iload dL_law_2001 rfl ?_
        refine X_icmp_eq 2008 dL_law_2003 (by decide) (fun _ => ?_) (fun h => absurd rfl h)
        refine X_iload dL_law_2008 rfl ?_
        refine X_if_ne 2025 dL_law_2010 (by decide) (fun h => absurd rfl h) (fun _ => ?_)
        refine X_aload_n dL_law_2013 rfl ?_
        refine X_iconst (v := nI 0) dL_law_2014 (by decide) ?_
        refine X_lald 0 dL_law_2015 (k_450 hSh2) rfl (by decide) ?_
        refine X_iload dL_law_2016 rfl ?_
        refine X_i2l dL_law_2018 ?_
        refine X_lcmp dL_law_2019 ?_
        refine X_topi (show lg_cmp (l' 450 0) v3.toInt64 = nI 0 by rw [h5, hv.1]; exact cmp_same _) ?_
        refine X_if_eq 2025 dL_law_2020 (by decide) (fun _ => ?_) (fun h => absurd rfl h)
        refine X_goto 2594 dL_law_2025 (by decide) ?_
        refine X_L [(4, .int (nI i)), (0, .ref 999), (1, .ref 0), (2, .ref 87), (3, .ref 450)] ⟨rfl, rfl, rfl, rfl, rfl, trivial⟩ ?_
        exact hk A' g' m2 l' ⟨hA', CI_M2 h1 hF3, hR3⟩
    | inr j =>
      cases h3
      refine X_istore dL_law_1977 (by decide) ?_
      refine X_aload_n dL_law_1979 rfl ?_
      refine X_aload_n dL_law_1980 rfl ?_
      refine X_iload dL_law_1981 rfl ?_
      refine X_iconst (v := nI 1) dL_law_1983 (by decide) ?_
      refine X_iadd dL_law_1984 ?_
      refine X_topi (nI_add i 1) ?_
      refine X_xld (i + 1) dL_law_1985 rfl (by omega) hL ?_
      refine X_aload_n dL_law_1986 rfl ?_
      refine X_iload dL_law_1987 rfl ?_
      refine X_iconst (v := nI 2) dL_law_1989 (by decide) ?_
      refine X_iadd dL_law_1990 ?_
      refine X_topi (nI_add i 2) ?_
      refine X_xld (i + 2) dL_law_1991 rfl (by omega) hL ?_
      refine X_callV (As := [.int (Γ.2.2.2.2.1.2 (i + 1)), .int (Γ.2.2.2.2.1.2 (i + 2))]) (z := 0) dL_law_1992 mkL_226 (k_87 hSh2) (hr Γ g' m' l' hSh2 hR2) rfl rfl (by decide) (Nat.zero_le _) (Nat.zero_le _) (Nat.le_of_ble_eq_true rfl) (fun E g2 m2 l2 h => ?_) (fun v2 g2 m2 l2 h => ?_)
      · obtain ⟨-, -, -, -, v3, ho, -⟩ := h
        cases ho
      · obtain ⟨hg2, hl2, hR3, hF3, v3, ho, hv⟩ := h
        cases ho
        rw [hg2, hl2]
        refine X_istore dL_law_1995 (by decide) ?_
        refine X_aload_n dL_law_1997 rfl ?_
        refine X_callVI (z := 0) dL_law_1998 mkL_133 (k_87 hSh2) (c_thrown Γ g' m2 l' hSh2) rfl rfl (by decide) (Nat.le_of_ble_eq_true rfl) ?_
        rw [hv]
        refine X_iload dL_law_2001 rfl ?_
        refine X_icmp_eq 2008 dL_law_2003 (by decide) (fun _ => ?_) (fun h => absurd rfl h)
        refine X_iload dL_law_2008 rfl ?_
        refine X_if_ne 2025 dL_law_2010 (by decide) (fun _ => ?_) (fun h => absurd h (cd_ne (hj j rfl).2 (cd1_le j)))
        refine X_goto 2594 dL_law_2025 (by decide) ?_
        refine X_L [(4, .int (nI i)), (0, .ref 999), (1, .ref 0), (2, .ref 87), (3, .ref 450)] ⟨rfl, rfl, rfl, rfl, rfl, trivial⟩ ?_
        exact hk A' g' m2 l' ⟨hA', CI_M2 h1 hF3, hR3⟩
set_option maxRecDepth 100000 in
theorem law_right (Γ : pTG) (hL : Γ.2.2.2.2.1.1 ≤ 4096) (i : Nat) (hi : i + 8 ≤ Γ.2.2.2.2.1.1) {K N : Nat} (hK : 20 ≤ K) (hN : 5000 ≤ N) {g : pGG} {mi : pMI} {ml : pML} {A : AS} (hI : LI A g mi ml) {Q : pQ} (hk : ∀ A' g' m' l', LI A' g' m' l' → XW Γ 100 (K - 20) (N - 5000) mL_law 2594 [(4, .int (nI i)), (0, .ref 999), (1, .ref 0), (2, .ref 87), (3, .ref 450)] [] g' m' l' Q) : XW Γ 100 K N mL_law 2244 [(4, .int (nI i)), (0, .ref 999), (1, .ref 0), (2, .ref 87), (3, .ref 450)] [] g mi ml Q := by
  obtain ⟨hA, hC, hR⟩ := hI
  have hSh := CI_Sh hC
  obtain ⟨x, A', hA', hj, hc, hr⟩ := m_right A hA
  refine X_aload_n dL_law_2244 rfl ?_
  refine X_callV (As := []) (z := 0) dL_law_2245 mkL_236 (k_0 hSh) (hc Γ g mi ml hC) rfl rfl (by decide) hK hN (Nat.le_of_ble_eq_true rfl) (fun E g' m' l' h => ?_) (fun v g' m' l' h => ?_)
  · obtain ⟨h1, h2, h3, h4⟩ := h
    cases x with
    | inl v => cases h1
    | inr j => exact absurd rfl (hj j rfl).2
  · obtain ⟨h1, h2, h3, h4⟩ := h
    cases x with
    | inr j => exact absurd rfl (hj j rfl).2
    | inl v' =>
      cases h1
      have hSh2 := CI_Sh h2
      have hR2 := RI_K hA hR h3
      refine X_aload_n dL_law_2248 rfl ?_
      refine X_callV (As := []) (z := 0) dL_law_2249 mkL_239 (k_87 hSh2) (hr Γ g' m' l' hSh2 hR2) rfl rfl (by decide) (Nat.zero_le _) (Nat.zero_le _) (Nat.le_of_ble_eq_true rfl) (fun E g2 m2 l2 h => ?_) (fun v2 g2 m2 l2 h => ?_)
      · obtain ⟨-, -, -, -, v3, ho, -⟩ := h
        cases ho
      · obtain ⟨hg2, hl2, hR3, hF3, v3, ho, hv⟩ := h
        cases ho
        rw [hg2, hl2]
        refine X_icmp_eq 2594 dL_law_2252 (by decide) (fun _ => ?_) (fun h => absurd hv.1.symm h)
        refine X_L [(4, .int (nI i)), (0, .ref 999), (1, .ref 0), (2, .ref 87), (3, .ref 450)] ⟨rfl, rfl, rfl, rfl, rfl, trivial⟩ ?_
        exact hk A' g' m2 l' ⟨hA', CI_M2 h2 hF3, hR3⟩
set_option maxRecDepth 100000 in
theorem law_wakes (Γ : pTG) (hL : Γ.2.2.2.2.1.1 ≤ 4096) (i : Nat) (hi : i + 8 ≤ Γ.2.2.2.2.1.1) {K N : Nat} (hK : 20 ≤ K) (hN : 5000 ≤ N) {g : pGG} {mi : pMI} {ml : pML} {A : AS} (hI : LI A g mi ml) {Q : pQ} (hk : ∀ A' g' m' l', LI A' g' m' l' → XW Γ 100 (K - 20) (N - 5000) mL_law 2594 [(4, .int (nI i)), (0, .ref 999), (1, .ref 0), (2, .ref 87), (3, .ref 450)] [] g' m' l' Q) : XW Γ 100 K N mL_law 2437 [(4, .int (nI i)), (0, .ref 999), (1, .ref 0), (2, .ref 87), (3, .ref 450)] [] g mi ml Q := by
  obtain ⟨hA, hC, hR⟩ := hI
  have hSh := CI_Sh hC
  obtain ⟨x, A', hA', hj, hc, hr⟩ := m_wakes A hA (Γ.2.2.2.2.1.2 (i + 1)) (Γ.2.2.2.2.1.2 (i + 2))
  refine X_aload_n dL_law_2437 rfl ?_
  refine X_aload_n dL_law_2438 rfl ?_
  refine X_iload dL_law_2439 rfl ?_
  refine X_iconst (v := nI 1) dL_law_2441 (by decide) ?_
  refine X_iadd dL_law_2442 ?_
  refine X_topi (nI_add i 1) ?_
  refine X_xld (i + 1) dL_law_2443 rfl (by omega) hL ?_
  refine X_aload_n dL_law_2444 rfl ?_
  refine X_iload dL_law_2445 rfl ?_
  refine X_iconst (v := nI 2) dL_law_2447 (by decide) ?_
  refine X_iadd dL_law_2448 ?_
  refine X_topi (nI_add i 2) ?_
  refine X_xld (i + 2) dL_law_2449 rfl (by omega) hL ?_
  refine X_aload_n dL_law_2450 rfl ?_
  refine X_callH (As := [.ref 0, .int (Γ.2.2.2.2.1.2 (i + 1)), .int (Γ.2.2.2.2.1.2 (i + 2)), .ref 450]) dL_law_2451 mhL_249 (w_wakes Γ g mi ml hSh A' x hj (Γ.2.2.2.2.1.2 (i + 1)) (Γ.2.2.2.2.1.2 (i + 2)) (hc Γ g mi ml hC)) rfl rfl (by decide) hK hN (Nat.le_of_ble_eq_true rfl) (fun E g' m' l' h => ?_) (fun v g' m' l' h => ?_)
  · obtain ⟨-, -, h3⟩ := h
    cases x with
    | inl v => cases h3.1
    | inr j => cases h3
  · obtain ⟨h1, h2, h3⟩ := h
    have hSh2 := CI_Sh h1
    have hR2 := RI_K hA hR h2
    cases x with
    | inl w =>
      obtain ⟨h4, h5⟩ := h3
      cases h4
      refine X_istore dL_law_2454 (by decide) ?_
      refine X_aload_n dL_law_2456 rfl ?_
      refine X_aload_n dL_law_2457 rfl ?_
      refine X_iload dL_law_2458 rfl ?_
      refine X_iconst (v := nI 1) dL_law_2460 (by decide) ?_
      refine X_iadd dL_law_2461 ?_
      refine X_topi (nI_add i 1) ?_
      refine X_xld (i + 1) dL_law_2462 rfl (by omega) hL ?_
      refine X_aload_n dL_law_2463 rfl ?_
      refine X_iload dL_law_2464 rfl ?_
      refine X_iconst (v := nI 2) dL_law_2466 (by decide) ?_
      refine X_iadd dL_law_2467 ?_
      refine X_topi (nI_add i 2) ?_
      refine X_xld (i + 2) dL_law_2468 rfl (by omega) hL ?_
      refine X_callV (As := [.int (Γ.2.2.2.2.1.2 (i + 1)), .int (Γ.2.2.2.2.1.2 (i + 2))]) (z := 0) dL_law_2469 mkL_251 (k_87 hSh2) (hr Γ g' m' l' hSh2 hR2) rfl rfl (by decide) (Nat.zero_le _) (Nat.zero_le _) (Nat.le_of_ble_eq_true rfl) (fun E g2 m2 l2 h => ?_) (fun v2 g2 m2 l2 h => ?_)
      · obtain ⟨-, -, -, -, v3, ho, -⟩ := h
        cases ho
      · obtain ⟨hg2, hl2, hR3, hF3, v3, ho, hv⟩ := h
        cases ho
        rw [hg2, hl2]
        refine X_istore dL_law_2472 (by decide) ?_
        refine X_aload_n dL_law_2474 rfl ?_
        refine X_callVI (z := 0) dL_law_2475 mkL_133 (k_87 hSh2) (c_thrown Γ g' m2 l' hSh2) rfl rfl (by decide) (Nat.le_of_ble_eq_true rfl) ?_
        rw [hv.2]
        refine X_iload dL_law_2478 rfl ?_
        refine X_icmp_eq 2485 dL_law_2480 (by decide) (fun _ => ?_) (fun h => absurd rfl h)
        refine X_iload dL_law_2485 rfl ?_
        refine X_if_ne 2502 dL_law_2487 (by decide) (fun h => absurd rfl h) (fun _ => ?_)
        refine X_aload_n dL_law_2490 rfl ?_
        refine X_iconst (v := nI 0) dL_law_2491 (by decide) ?_
        refine X_lald 0 dL_law_2492 (k_450 hSh2) rfl (by decide) ?_
        refine X_iload dL_law_2493 rfl ?_
        refine X_i2l dL_law_2495 ?_
        refine X_lcmp dL_law_2496 ?_
        refine X_topi (show lg_cmp (l' 450 0) v3.toInt64 = nI 0 by rw [h5, hv.1]; exact cmp_same _) ?_
        refine X_if_eq 2502 dL_law_2497 (by decide) (fun _ => ?_) (fun h => absurd rfl h)
        refine X_goto 2594 dL_law_2502 (by decide) ?_
        refine X_L [(4, .int (nI i)), (0, .ref 999), (1, .ref 0), (2, .ref 87), (3, .ref 450)] ⟨rfl, rfl, rfl, rfl, rfl, trivial⟩ ?_
        exact hk A' g' m2 l' ⟨hA', CI_M2 h1 hF3, hR3⟩
    | inr j =>
      cases h3
      refine X_istore dL_law_2454 (by decide) ?_
      refine X_aload_n dL_law_2456 rfl ?_
      refine X_aload_n dL_law_2457 rfl ?_
      refine X_iload dL_law_2458 rfl ?_
      refine X_iconst (v := nI 1) dL_law_2460 (by decide) ?_
      refine X_iadd dL_law_2461 ?_
      refine X_topi (nI_add i 1) ?_
      refine X_xld (i + 1) dL_law_2462 rfl (by omega) hL ?_
      refine X_aload_n dL_law_2463 rfl ?_
      refine X_iload dL_law_2464 rfl ?_
      refine X_iconst (v := nI 2) dL_law_2466 (by decide) ?_
      refine X_iadd dL_law_2467 ?_
      refine X_topi (nI_add i 2) ?_
      refine X_xld (i + 2) dL_law_2468 rfl (by omega) hL ?_
      refine X_callV (As := [.int (Γ.2.2.2.2.1.2 (i + 1)), .int (Γ.2.2.2.2.1.2 (i + 2))]) (z := 0) dL_law_2469 mkL_251 (k_87 hSh2) (hr Γ g' m' l' hSh2 hR2) rfl rfl (by decide) (Nat.zero_le _) (Nat.zero_le _) (Nat.le_of_ble_eq_true rfl) (fun E g2 m2 l2 h => ?_) (fun v2 g2 m2 l2 h => ?_)
      · obtain ⟨-, -, -, -, v3, ho, -⟩ := h
        cases ho
      · obtain ⟨hg2, hl2, hR3, hF3, v3, ho, hv⟩ := h
        cases ho
        rw [hg2, hl2]
        refine X_istore dL_law_2472 (by decide) ?_
        refine X_aload_n dL_law_2474 rfl ?_
        refine X_callVI (z := 0) dL_law_2475 mkL_133 (k_87 hSh2) (c_thrown Γ g' m2 l' hSh2) rfl rfl (by decide) (Nat.le_of_ble_eq_true rfl) ?_
        rw [hv]
        refine X_iload dL_law_2478 rfl ?_
        refine X_icmp_eq 2485 dL_law_2480 (by decide) (fun _ => ?_) (fun h => absurd rfl h)
        refine X_iload dL_law_2485 rfl ?_
        refine X_if_ne 2502 dL_law_2487 (by decide) (fun _ => ?_) (fun h => absurd h (cd_ne (hj j rfl).2 (cd2_le j)))
        refine X_goto 2594 dL_law_2502 (by decide) ?_
        refine X_L [(4, .int (nI i)), (0, .ref 999), (1, .ref 0), (2, .ref 87), (3, .ref 450)] ⟨rfl, rfl, rfl, rfl, rfl, trivial⟩ ?_
        exact hk A' g' m2 l' ⟨hA', CI_M2 h1 hF3, hR3⟩
set_option maxRecDepth 100000 in
theorem law_status (Γ : pTG) (hL : Γ.2.2.2.2.1.1 ≤ 4096) (i : Nat) (hi : i + 8 ≤ Γ.2.2.2.2.1.1) {K N : Nat} (hK : 20 ≤ K) (hN : 5000 ≤ N) {g : pGG} {mi : pMI} {ml : pML} {A : AS} (hI : LI A g mi ml) {Q : pQ} (hk : ∀ A' g' m' l', LI A' g' m' l' → XW Γ 100 (K - 20) (N - 5000) mL_law 2594 [(4, .int (nI i)), (0, .ref 999), (1, .ref 0), (2, .ref 87), (3, .ref 450)] [] g' m' l' Q) : XW Γ 100 K N mL_law 2544 [(4, .int (nI i)), (0, .ref 999), (1, .ref 0), (2, .ref 87), (3, .ref 450)] [] g mi ml Q := by
  obtain ⟨hA, hC, hR⟩ := hI
  have hSh := CI_Sh hC
  obtain ⟨x, A', hA', hj, hc, hr⟩ := m_status A hA (Γ.2.2.2.2.1.2 (i + 1))
  refine X_aload_n dL_law_2544 rfl ?_
  refine X_aload_n dL_law_2545 rfl ?_
  refine X_iload dL_law_2546 rfl ?_
  refine X_iconst (v := nI 1) dL_law_2548 (by decide) ?_
  refine X_iadd dL_law_2549 ?_
  refine X_topi (nI_add i 1) ?_
  refine X_xld (i + 1) dL_law_2550 rfl (by omega) hL ?_
  refine X_callV (As := [.int (Γ.2.2.2.2.1.2 (i + 1))]) (z := 0) dL_law_2551 mkL_264 (k_0 hSh) (hc Γ g mi ml hC) rfl rfl (by decide) hK hN (Nat.le_of_ble_eq_true rfl) (fun E g' m' l' h => ?_) (fun v g' m' l' h => ?_)
  · obtain ⟨h1, h2, h3, h4⟩ := h
    cases x with
    | inl v => cases h1
    | inr j => exact absurd rfl (hj j rfl).2
  · obtain ⟨h1, h2, h3, h4⟩ := h
    cases x with
    | inr j => exact absurd rfl (hj j rfl).2
    | inl v' =>
      cases h1
      have hSh2 := CI_Sh h2
      have hR2 := RI_K hA hR h3
      refine X_aload_n dL_law_2554 rfl ?_
      refine X_aload_n dL_law_2555 rfl ?_
      refine X_iload dL_law_2556 rfl ?_
      refine X_iconst (v := nI 1) dL_law_2558 (by decide) ?_
      refine X_iadd dL_law_2559 ?_
      refine X_topi (nI_add i 1) ?_
      refine X_xld (i + 1) dL_law_2560 rfl (by omega) hL ?_
      refine X_callV (As := [.int (Γ.2.2.2.2.1.2 (i + 1))]) (z := 0) dL_law_2561 mkL_267 (k_87 hSh2) (hr Γ g' m' l' hSh2 hR2) rfl rfl (by decide) (Nat.zero_le _) (Nat.zero_le _) (Nat.le_of_ble_eq_true rfl) (fun E g2 m2 l2 h => ?_) (fun v2 g2 m2 l2 h => ?_)
      · obtain ⟨-, -, -, -, v3, ho, -⟩ := h
        cases ho
      · obtain ⟨hg2, hl2, hR3, hF3, v3, ho, hv⟩ := h
        cases ho
        rw [hg2, hl2]
        refine X_icmp_eq 2594 dL_law_2564 (by decide) (fun _ => ?_) (fun h => absurd hv.1.symm h)
        refine X_L [(4, .int (nI i)), (0, .ref 999), (1, .ref 0), (2, .ref 87), (3, .ref 450)] ⟨rfl, rfl, rfl, rfl, rfl, trivial⟩ ?_
        exact hk A' g' m2 l' ⟨hA', CI_M2 h2 hF3, hR3⟩

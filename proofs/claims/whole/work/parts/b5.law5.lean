set_option maxRecDepth 100000 in
theorem law_book (Γ : pTG) (hL : Γ.2.2.2.2.1.1 ≤ 4096) (i : Nat) (hi : i + 8 ≤ Γ.2.2.2.2.1.1) {K N : Nat} (hK : 20 ≤ K) (hN : 5000 ≤ N) {g : pGG} {mi : pMI} {ml : pML} {A : AS} (hI : LI A g mi ml) {Q : pQ} (hk : ∀ A' g' m' l', LI A' g' m' l' → XW Γ 100 (K - 20) (N - 5000) mL_law 2594 [(4, .int (nI i)), (0, .ref 999), (1, .ref 0), (2, .ref 87), (3, .ref 450)] [] g' m' l' Q) : XW Γ 100 K N mL_law 425 [(4, .int (nI i)), (0, .ref 999), (1, .ref 0), (2, .ref 87), (3, .ref 450)] [] g mi ml Q := by
  obtain ⟨hA, hC, hR⟩ := hI
  have hSh := CI_Sh hC
  obtain ⟨x, A', hA', hj, hc, hr⟩ := m_book A hA (Γ.2.2.2.2.1.2 (i + 1))
  refine X_aload_n dL_law_425 rfl ?_
  refine X_aload_n dL_law_426 rfl ?_
  refine X_iload dL_law_427 rfl ?_
  refine X_iconst (v := nI 1) dL_law_429 (by decide) ?_
  refine X_iadd dL_law_430 ?_
  refine X_topi (nI_add i 1) ?_
  refine X_xld (i + 1) dL_law_431 rfl (by omega) hL ?_
  refine X_aload_n dL_law_432 rfl ?_
  refine X_callH (As := [.ref 0, .int (Γ.2.2.2.2.1.2 (i + 1)), .ref 450]) dL_law_433 mhL_141 (w_book Γ g mi ml hSh A' x hj (Γ.2.2.2.2.1.2 (i + 1)) (hc Γ g mi ml hC)) rfl rfl (by decide) hK hN (Nat.le_of_ble_eq_true rfl) (fun E g' m' l' h => ?_) (fun v g' m' l' h => ?_)
  · obtain ⟨-, -, h3⟩ := h
    cases x with
    | inl v => cases h3.1
    | inr j => cases h3
  · obtain ⟨h1, h2, h3⟩ := h
    have hSh2 := CI_Sh h1
    have hR2 := RI_K hA hR h2
    cases x with
    | inl w =>
      obtain ⟨h4, h5⟩ := h3
      cases h4
      refine X_istore dL_law_436 (by decide) ?_
      refine X_aload_n dL_law_438 rfl ?_
      refine X_aload_n dL_law_439 rfl ?_
      refine X_iload dL_law_440 rfl ?_
      refine X_iconst (v := nI 1) dL_law_442 (by decide) ?_
      refine X_iadd dL_law_443 ?_
      refine X_topi (nI_add i 1) ?_
      refine X_xld (i + 1) dL_law_444 rfl (by omega) hL ?_
      refine X_callV (As := [.int (Γ.2.2.2.2.1.2 (i + 1))]) (z := 0) dL_law_445 mkL_143 (k_87 hSh2) (hr Γ g' m' l' hSh2 hR2) rfl rfl (by decide) (Nat.zero_le _) (Nat.zero_le _) (Nat.le_of_ble_eq_true rfl) (fun E g2 m2 l2 h => ?_) (fun v2 g2 m2 l2 h => ?_)
      · obtain ⟨-, -, -, -, v3, ho, -⟩ := h
        cases ho
      · obtain ⟨hg2, hl2, hR3, hF3, v3, ho, hv⟩ := h
        cases ho
        rw [hg2, hl2]
        refine X_istore dL_law_448 (by decide) ?_
        refine X_aload_n dL_law_450 rfl ?_
        refine X_callVI (z := 0) dL_law_451 mkL_133 (k_87 hSh2) (c_thrown Γ g' m2 l' hSh2) rfl rfl (by decide) (Nat.le_of_ble_eq_true rfl) ?_
        rw [hv.2]
        refine X_iload dL_law_454 rfl ?_
        refine X_icmp_eq 461 dL_law_456 (by decide) (fun _ => ?_) (fun h => absurd rfl h)
        refine X_iload dL_law_461 rfl ?_
        refine X_if_ne 478 dL_law_463 (by decide) (fun h => absurd rfl h) (fun _ => ?_)
        refine X_aload_n dL_law_466 rfl ?_
        refine X_iconst (v := nI 0) dL_law_467 (by decide) ?_
        refine X_lald 0 dL_law_468 (k_450 hSh2) rfl (by decide) ?_
        refine X_iload dL_law_469 rfl ?_
        refine X_i2l dL_law_471 ?_
        refine X_lcmp dL_law_472 ?_
        refine X_topi (show lg_cmp (l' 450 0) v3.toInt64 = nI 0 by rw [h5, hv.1]; exact cmp_same _) ?_
        refine X_if_eq 478 dL_law_473 (by decide) (fun _ => ?_) (fun h => absurd rfl h)
        refine X_goto 2594 dL_law_478 (by decide) ?_
        refine X_L [(4, .int (nI i)), (0, .ref 999), (1, .ref 0), (2, .ref 87), (3, .ref 450)] ⟨rfl, rfl, rfl, rfl, rfl, trivial⟩ ?_
        exact hk A' g' m2 l' ⟨hA', CI_M2 h1 hF3, hR3⟩
    | inr j =>
      cases h3
      refine X_istore dL_law_436 (by decide) ?_
      refine X_aload_n dL_law_438 rfl ?_
      refine X_aload_n dL_law_439 rfl ?_
      refine X_iload dL_law_440 rfl ?_
      refine X_iconst (v := nI 1) dL_law_442 (by decide) ?_
      refine X_iadd dL_law_443 ?_
      refine X_topi (nI_add i 1) ?_
      refine X_xld (i + 1) dL_law_444 rfl (by omega) hL ?_
      refine X_callV (As := [.int (Γ.2.2.2.2.1.2 (i + 1))]) (z := 0) dL_law_445 mkL_143 (k_87 hSh2) (hr Γ g' m' l' hSh2 hR2) rfl rfl (by decide) (Nat.zero_le _) (Nat.zero_le _) (Nat.le_of_ble_eq_true rfl) (fun E g2 m2 l2 h => ?_) (fun v2 g2 m2 l2 h => ?_)
      · obtain ⟨-, -, -, -, v3, ho, -⟩ := h
        cases ho
      · obtain ⟨hg2, hl2, hR3, hF3, v3, ho, hv⟩ := h
        cases ho
        rw [hg2, hl2]
        refine X_istore dL_law_448 (by decide) ?_
        refine X_aload_n dL_law_450 rfl ?_
        refine X_callVI (z := 0) dL_law_451 mkL_133 (k_87 hSh2) (c_thrown Γ g' m2 l' hSh2) rfl rfl (by decide) (Nat.le_of_ble_eq_true rfl) ?_
        rw [hv]
        refine X_iload dL_law_454 rfl ?_
        refine X_icmp_eq 461 dL_law_456 (by decide) (fun _ => ?_) (fun h => absurd rfl h)
        refine X_iload dL_law_461 rfl ?_
        refine X_if_ne 478 dL_law_463 (by decide) (fun _ => ?_) (fun h => absurd h (cd_ne (hj j rfl).2 (cd1_le j)))
        refine X_goto 2594 dL_law_478 (by decide) ?_
        refine X_L [(4, .int (nI i)), (0, .ref 999), (1, .ref 0), (2, .ref 87), (3, .ref 450)] ⟨rfl, rfl, rfl, rfl, rfl, trivial⟩ ?_
        exact hk A' g' m2 l' ⟨hA', CI_M2 h1 hF3, hR3⟩
set_option maxRecDepth 100000 in
theorem law_guest (Γ : pTG) (hL : Γ.2.2.2.2.1.1 ≤ 4096) (i : Nat) (hi : i + 8 ≤ Γ.2.2.2.2.1.1) {K N : Nat} (hK : 20 ≤ K) (hN : 5000 ≤ N) {g : pGG} {mi : pMI} {ml : pML} {A : AS} (hI : LI A g mi ml) {Q : pQ} (hk : ∀ A' g' m' l', LI A' g' m' l' → XW Γ 100 (K - 20) (N - 5000) mL_law 2594 [(4, .int (nI i)), (0, .ref 999), (1, .ref 0), (2, .ref 87), (3, .ref 450)] [] g' m' l' Q) : XW Γ 100 K N mL_law 618 [(4, .int (nI i)), (0, .ref 999), (1, .ref 0), (2, .ref 87), (3, .ref 450)] [] g mi ml Q := by
  obtain ⟨hA, hC, hR⟩ := hI
  have hSh := CI_Sh hC
  obtain ⟨x, A', hA', hj, hc, hr⟩ := m_guest A hA (Γ.2.2.2.2.1.2 (i + 1)) (Γ.2.2.2.2.1.2 (i + 2))
  refine X_aload_n dL_law_618 rfl ?_
  refine X_aload_n dL_law_619 rfl ?_
  refine X_iload dL_law_620 rfl ?_
  refine X_iconst (v := nI 1) dL_law_622 (by decide) ?_
  refine X_iadd dL_law_623 ?_
  refine X_topi (nI_add i 1) ?_
  refine X_xld (i + 1) dL_law_624 rfl (by omega) hL ?_
  refine X_aload_n dL_law_625 rfl ?_
  refine X_iload dL_law_626 rfl ?_
  refine X_iconst (v := nI 2) dL_law_628 (by decide) ?_
  refine X_iadd dL_law_629 ?_
  refine X_topi (nI_add i 2) ?_
  refine X_xld (i + 2) dL_law_630 rfl (by omega) hL ?_
  refine X_aload_n dL_law_631 rfl ?_
  refine X_callH (As := [.ref 0, .int (Γ.2.2.2.2.1.2 (i + 1)), .int (Γ.2.2.2.2.1.2 (i + 2)), .ref 450]) dL_law_632 mhL_154 (w_guest Γ g mi ml hSh A' x hj (Γ.2.2.2.2.1.2 (i + 1)) (Γ.2.2.2.2.1.2 (i + 2)) (hc Γ g mi ml hC)) rfl rfl (by decide) hK hN (Nat.le_of_ble_eq_true rfl) (fun E g' m' l' h => ?_) (fun v g' m' l' h => ?_)
  · obtain ⟨-, -, h3⟩ := h
    cases x with
    | inl v => cases h3.1
    | inr j => cases h3
  · obtain ⟨h1, h2, h3⟩ := h
    have hSh2 := CI_Sh h1
    have hR2 := RI_K hA hR h2
    cases x with
    | inl w =>
      obtain ⟨h4, h5⟩ := h3
      cases h4
      refine X_istore dL_law_635 (by decide) ?_
      refine X_aload_n dL_law_637 rfl ?_
      refine X_aload_n dL_law_638 rfl ?_
      refine X_iload dL_law_639 rfl ?_
      refine X_iconst (v := nI 1) dL_law_641 (by decide) ?_
      refine X_iadd dL_law_642 ?_
      refine X_topi (nI_add i 1) ?_
      refine X_xld (i + 1) dL_law_643 rfl (by omega) hL ?_
      refine X_aload_n dL_law_644 rfl ?_
      refine X_iload dL_law_645 rfl ?_
      refine X_iconst (v := nI 2) dL_law_647 (by decide) ?_
      refine X_iadd dL_law_648 ?_
      refine X_topi (nI_add i 2) ?_
      refine X_xld (i + 2) dL_law_649 rfl (by omega) hL ?_
      refine X_callV (As := [.int (Γ.2.2.2.2.1.2 (i + 1)), .int (Γ.2.2.2.2.1.2 (i + 2))]) (z := 0) dL_law_650 mkL_156 (k_87 hSh2) (hr Γ g' m' l' hSh2 hR2) rfl rfl (by decide) (Nat.zero_le _) (Nat.zero_le _) (Nat.le_of_ble_eq_true rfl) (fun E g2 m2 l2 h => ?_) (fun v2 g2 m2 l2 h => ?_)
      · obtain ⟨-, -, -, -, v3, ho, -⟩ := h
        cases ho
      · obtain ⟨hg2, hl2, hR3, hF3, v3, ho, hv⟩ := h
        cases ho
        rw [hg2, hl2]
        refine X_istore dL_law_653 (by decide) ?_
        refine X_aload_n dL_law_655 rfl ?_
        refine X_callVI (z := 0) dL_law_656 mkL_133 (k_87 hSh2) (c_thrown Γ g' m2 l' hSh2) rfl rfl (by decide) (Nat.le_of_ble_eq_true rfl) ?_
        rw [hv.2]
        refine X_iload dL_law_659 rfl ?_
        refine X_icmp_eq 666 dL_law_661 (by decide) (fun _ => ?_) (fun h => absurd rfl h)
        refine X_iload dL_law_666 rfl ?_
        refine X_if_ne 683 dL_law_668 (by decide) (fun h => absurd rfl h) (fun _ => ?_)
        refine X_aload_n dL_law_671 rfl ?_
        refine X_iconst (v := nI 0) dL_law_672 (by decide) ?_
        refine X_lald 0 dL_law_673 (k_450 hSh2) rfl (by decide) ?_
        refine X_iload dL_law_674 rfl ?_
        refine X_i2l dL_law_676 ?_
        refine X_lcmp dL_law_677 ?_
        refine X_topi (show lg_cmp (l' 450 0) v3.toInt64 = nI 0 by rw [h5, hv.1]; exact cmp_same _) ?_
        refine X_if_eq 683 dL_law_678 (by decide) (fun _ => ?_) (fun h => absurd rfl h)
        refine X_goto 2594 dL_law_683 (by decide) ?_
        refine X_L [(4, .int (nI i)), (0, .ref 999), (1, .ref 0), (2, .ref 87), (3, .ref 450)] ⟨rfl, rfl, rfl, rfl, rfl, trivial⟩ ?_
        exact hk A' g' m2 l' ⟨hA', CI_M2 h1 hF3, hR3⟩
    | inr j =>
      cases h3
      refine X_istore dL_law_635 (by decide) ?_
      refine X_aload_n dL_law_637 rfl ?_
      refine X_aload_n dL_law_638 rfl ?_
      refine X_iload dL_law_639 rfl ?_
      refine X_iconst (v := nI 1) dL_law_641 (by decide) ?_
      refine X_iadd dL_law_642 ?_
      refine X_topi (nI_add i 1) ?_
      refine X_xld (i + 1) dL_law_643 rfl (by omega) hL ?_
      refine X_aload_n dL_law_644 rfl ?_
      refine X_iload dL_law_645 rfl ?_
      refine X_iconst (v := nI 2) dL_law_647 (by decide) ?_
      refine X_iadd dL_law_648 ?_
      refine X_topi (nI_add i 2) ?_
      refine X_xld (i + 2) dL_law_649 rfl (by omega) hL ?_
      refine X_callV (As := [.int (Γ.2.2.2.2.1.2 (i + 1)), .int (Γ.2.2.2.2.1.2 (i + 2))]) (z := 0) dL_law_650 mkL_156 (k_87 hSh2) (hr Γ g' m' l' hSh2 hR2) rfl rfl (by decide) (Nat.zero_le _) (Nat.zero_le _) (Nat.le_of_ble_eq_true rfl) (fun E g2 m2 l2 h => ?_) (fun v2 g2 m2 l2 h => ?_)
      · obtain ⟨-, -, -, -, v3, ho, -⟩ := h
        cases ho
      · obtain ⟨hg2, hl2, hR3, hF3, v3, ho, hv⟩ := h
        cases ho
        rw [hg2, hl2]
        refine X_istore dL_law_653 (by decide) ?_
        refine X_aload_n dL_law_655 rfl ?_
        refine X_callVI (z := 0) dL_law_656 mkL_133 (k_87 hSh2) (c_thrown Γ g' m2 l' hSh2) rfl rfl (by decide) (Nat.le_of_ble_eq_true rfl) ?_
        rw [hv]
        refine X_iload dL_law_659 rfl ?_
        refine X_icmp_eq 666 dL_law_661 (by decide) (fun _ => ?_) (fun h => absurd rfl h)
        refine X_iload dL_law_666 rfl ?_
        refine X_if_ne 683 dL_law_668 (by decide) (fun _ => ?_) (fun h => absurd h (cd_ne (hj j rfl).2 (cd2_le j)))
        refine X_goto 2594 dL_law_683 (by decide) ?_
        refine X_L [(4, .int (nI i)), (0, .ref 999), (1, .ref 0), (2, .ref 87), (3, .ref 450)] ⟨rfl, rfl, rfl, rfl, rfl, trivial⟩ ?_
        exact hk A' g' m2 l' ⟨hA', CI_M2 h1 hF3, hR3⟩
set_option maxRecDepth 100000 in
theorem law_lies (Γ : pTG) (hL : Γ.2.2.2.2.1.1 ≤ 4096) (i : Nat) (hi : i + 8 ≤ Γ.2.2.2.2.1.1) {K N : Nat} (hK : 20 ≤ K) (hN : 5000 ≤ N) {g : pGG} {mi : pMI} {ml : pML} {A : AS} (hI : LI A g mi ml) {Q : pQ} (hk : ∀ A' g' m' l', LI A' g' m' l' → XW Γ 100 (K - 20) (N - 5000) mL_law 2594 [(4, .int (nI i)), (0, .ref 999), (1, .ref 0), (2, .ref 87), (3, .ref 450)] [] g' m' l' Q) : XW Γ 100 K N mL_law 878 [(4, .int (nI i)), (0, .ref 999), (1, .ref 0), (2, .ref 87), (3, .ref 450)] [] g mi ml Q := by
  obtain ⟨hA, hC, hR⟩ := hI
  have hSh := CI_Sh hC
  obtain ⟨x, A', hA', hj, hc, hr⟩ := m_lies A hA (Γ.2.2.2.2.1.2 (i + 1)) (Γ.2.2.2.2.1.2 (i + 2))
  refine X_aload_n dL_law_878 rfl ?_
  refine X_aload_n dL_law_879 rfl ?_
  refine X_iload dL_law_880 rfl ?_
  refine X_iconst (v := nI 1) dL_law_882 (by decide) ?_
  refine X_iadd dL_law_883 ?_
  refine X_topi (nI_add i 1) ?_
  refine X_xld (i + 1) dL_law_884 rfl (by omega) hL ?_
  refine X_aload_n dL_law_885 rfl ?_
  refine X_iload dL_law_886 rfl ?_
  refine X_iconst (v := nI 2) dL_law_888 (by decide) ?_
  refine X_iadd dL_law_889 ?_
  refine X_topi (nI_add i 2) ?_
  refine X_xld (i + 2) dL_law_890 rfl (by omega) hL ?_
  refine X_aload_n dL_law_891 rfl ?_
  refine X_callH (As := [.ref 0, .int (Γ.2.2.2.2.1.2 (i + 1)), .int (Γ.2.2.2.2.1.2 (i + 2)), .ref 450]) dL_law_892 mhL_166 (w_lies Γ g mi ml hSh A' x hj (Γ.2.2.2.2.1.2 (i + 1)) (Γ.2.2.2.2.1.2 (i + 2)) (hc Γ g mi ml hC)) rfl rfl (by decide) hK hN (Nat.le_of_ble_eq_true rfl) (fun E g' m' l' h => ?_) (fun v g' m' l' h => ?_)
  · obtain ⟨-, -, h3⟩ := h
    cases x with
    | inl v => cases h3.1
    | inr j => cases h3
  · obtain ⟨h1, h2, h3⟩ := h
    have hSh2 := CI_Sh h1
    have hR2 := RI_K hA hR h2
    cases x with
    | inl w =>
      obtain ⟨h4, h5⟩ := h3
      cases h4
      refine X_istore dL_law_895 (by decide) ?_
      refine X_aload_n dL_law_897 rfl ?_
      refine X_aload_n dL_law_898 rfl ?_
      refine X_iload dL_law_899 rfl ?_
      refine X_iconst (v := nI 1) dL_law_901 (by decide) ?_
      refine X_iadd dL_law_902 ?_
      refine X_topi (nI_add i 1) ?_
      refine X_xld (i + 1) dL_law_903 rfl (by omega) hL ?_
      refine X_aload_n dL_law_904 rfl ?_
      refine X_iload dL_law_905 rfl ?_
      refine X_iconst (v := nI 2) dL_law_907 (by decide) ?_
      refine X_iadd dL_law_908 ?_
      refine X_topi (nI_add i 2) ?_
      refine X_xld (i + 2) dL_law_909 rfl (by omega) hL ?_
      refine X_callV (As := [.int (Γ.2.2.2.2.1.2 (i + 1)), .int (Γ.2.2.2.2.1.2 (i + 2))]) (z := 0) dL_law_910 mkL_168 (k_87 hSh2) (hr Γ g' m' l' hSh2 hR2) rfl rfl (by decide) (Nat.zero_le _) (Nat.zero_le _) (Nat.le_of_ble_eq_true rfl) (fun E g2 m2 l2 h => ?_) (fun v2 g2 m2 l2 h => ?_)
      · obtain ⟨-, -, -, -, v3, ho, -⟩ := h
        cases ho
      · obtain ⟨hg2, hl2, hR3, hF3, v3, ho, hv⟩ := h
        cases ho
        rw [hg2, hl2]
        refine X_istore dL_law_913 (by decide) ?_
        refine X_aload_n dL_law_915 rfl ?_
        refine X_callVI (z := 0) dL_law_916 mkL_133 (k_87 hSh2) (c_thrown Γ g' m2 l' hSh2) rfl rfl (by decide) (Nat.le_of_ble_eq_true rfl) ?_
        rw [hv.2]
        refine X_iload dL_law_919 rfl ?_
        refine X_icmp_eq 926 dL_law_921 (by decide) (fun _ => ?_) (fun h => absurd rfl h)
        refine X_iload dL_law_926 rfl ?_
        refine X_if_ne 943 dL_law_928 (by decide) (fun h => absurd rfl h) (fun _ => ?_)
        refine X_aload_n dL_law_931 rfl ?_
        refine X_iconst (v := nI 0) dL_law_932 (by decide) ?_
        refine X_lald 0 dL_law_933 (k_450 hSh2) rfl (by decide) ?_
        refine X_iload dL_law_934 rfl ?_
        refine X_i2l dL_law_936 ?_
        refine X_lcmp dL_law_937 ?_
        refine X_topi (show lg_cmp (l' 450 0) v3.toInt64 = nI 0 by rw [h5, hv.1]; exact cmp_same _) ?_
        refine X_if_eq 943 dL_law_938 (by decide) (fun _ => ?_) (fun h => absurd rfl h)
        refine X_goto 2594 dL_law_943 (by decide) ?_
        refine X_L [(4, .int (nI i)), (0, .ref 999), (1, .ref 0), (2, .ref 87), (3, .ref 450)] ⟨rfl, rfl, rfl, rfl, rfl, trivial⟩ ?_
        exact hk A' g' m2 l' ⟨hA', CI_M2 h1 hF3, hR3⟩
    | inr j =>
      cases h3
      refine X_istore dL_law_895 (by decide) ?_
      refine X_aload_n dL_law_897 rfl ?_
      refine X_aload_n dL_law_898 rfl ?_
      refine X_iload dL_law_899 rfl ?_
      refine X_iconst (v := nI 1) dL_law_901 (by decide) ?_
      refine X_iadd dL_law_902 ?_
      refine X_topi (nI_add i 1) ?_
      refine X_xld (i + 1) dL_law_903 rfl (by omega) hL ?_
      refine X_aload_n dL_law_904 rfl ?_
      refine X_iload dL_law_905 rfl ?_
      refine X_iconst (v := nI 2) dL_law_907 (by decide) ?_
      refine X_iadd dL_law_908 ?_
      refine X_topi (nI_add i 2) ?_
      refine X_xld (i + 2) dL_law_909 rfl (by omega) hL ?_
      refine X_callV (As := [.int (Γ.2.2.2.2.1.2 (i + 1)), .int (Γ.2.2.2.2.1.2 (i + 2))]) (z := 0) dL_law_910 mkL_168 (k_87 hSh2) (hr Γ g' m' l' hSh2 hR2) rfl rfl (by decide) (Nat.zero_le _) (Nat.zero_le _) (Nat.le_of_ble_eq_true rfl) (fun E g2 m2 l2 h => ?_) (fun v2 g2 m2 l2 h => ?_)
      · obtain ⟨-, -, -, -, v3, ho, -⟩ := h
        cases ho
      · obtain ⟨hg2, hl2, hR3, hF3, v3, ho, hv⟩ := h
        cases ho
        rw [hg2, hl2]
        refine X_istore dL_law_913 (by decide) ?_
        refine X_aload_n dL_law_915 rfl ?_
        refine X_callVI (z := 0) dL_law_916 mkL_133 (k_87 hSh2) (c_thrown Γ g' m2 l' hSh2) rfl rfl (by decide) (Nat.le_of_ble_eq_true rfl) ?_
        rw [hv]
        refine X_iload dL_law_919 rfl ?_
        refine X_icmp_eq 926 dL_law_921 (by decide) (fun _ => ?_) (fun h => absurd rfl h)
        refine X_iload dL_law_926 rfl ?_
        refine X_if_ne 943 dL_law_928 (by decide) (fun _ => ?_) (fun h => absurd h (cd_ne (hj j rfl).2 (cd2_le j)))
        refine X_goto 2594 dL_law_943 (by decide) ?_
        refine X_L [(4, .int (nI i)), (0, .ref 999), (1, .ref 0), (2, .ref 87), (3, .ref 450)] ⟨rfl, rfl, rfl, rfl, rfl, trivial⟩ ?_
        exact hk A' g' m2 l' ⟨hA', CI_M2 h1 hF3, hR3⟩
set_option maxRecDepth 100000 in
theorem law_would (Γ : pTG) (hL : Γ.2.2.2.2.1.1 ≤ 4096) (i : Nat) (hi : i + 8 ≤ Γ.2.2.2.2.1.1) {K N : Nat} (hK : 20 ≤ K) (hN : 5000 ≤ N) {g : pGG} {mi : pMI} {ml : pML} {A : AS} (hI : LI A g mi ml) {Q : pQ} (hk : ∀ A' g' m' l', LI A' g' m' l' → XW Γ 100 (K - 20) (N - 5000) mL_law 2594 [(4, .int (nI i)), (0, .ref 999), (1, .ref 0), (2, .ref 87), (3, .ref 450)] [] g' m' l' Q) : XW Γ 100 K N mL_law 1138 [(4, .int (nI i)), (0, .ref 999), (1, .ref 0), (2, .ref 87), (3, .ref 450)] [] g mi ml Q := by
  obtain ⟨hA, hC, hR⟩ := hI
  have hSh := CI_Sh hC
  obtain ⟨x, A', hA', hj, hc, hr⟩ := m_would A hA (Γ.2.2.2.2.1.2 (i + 1)) (Γ.2.2.2.2.1.2 (i + 2)) (Γ.2.2.2.2.1.2 (i + 3)) (Γ.2.2.2.2.1.2 (i + 4)) (Γ.2.2.2.2.1.2 (i + 5)) (Γ.2.2.2.2.1.2 (i + 6)) (Γ.2.2.2.2.1.2 (i + 7))
  refine X_aload_n dL_law_1138 rfl ?_
  refine X_aload_n dL_law_1139 rfl ?_
  refine X_iload dL_law_1140 rfl ?_
  refine X_iconst (v := nI 1) dL_law_1142 (by decide) ?_
  refine X_iadd dL_law_1143 ?_
  refine X_topi (nI_add i 1) ?_
  refine X_xld (i + 1) dL_law_1144 rfl (by omega) hL ?_
  refine X_aload_n dL_law_1145 rfl ?_
  refine X_iload dL_law_1146 rfl ?_
  refine X_iconst (v := nI 2) dL_law_1148 (by decide) ?_
  refine X_iadd dL_law_1149 ?_
  refine X_topi (nI_add i 2) ?_
  refine X_xld (i + 2) dL_law_1150 rfl (by omega) hL ?_
  refine X_aload_n dL_law_1151 rfl ?_
  refine X_iload dL_law_1152 rfl ?_
  refine X_iconst (v := nI 3) dL_law_1154 (by decide) ?_
  refine X_iadd dL_law_1155 ?_
  refine X_topi (nI_add i 3) ?_
  refine X_xld (i + 3) dL_law_1156 rfl (by omega) hL ?_
  refine X_aload_n dL_law_1157 rfl ?_
  refine X_iload dL_law_1158 rfl ?_
  refine X_iconst (v := nI 4) dL_law_1160 (by decide) ?_
  refine X_iadd dL_law_1161 ?_
  refine X_topi (nI_add i 4) ?_
  refine X_xld (i + 4) dL_law_1162 rfl (by omega) hL ?_
  refine X_aload_n dL_law_1163 rfl ?_
  refine X_iload dL_law_1164 rfl ?_
  refine X_iconst (v := nI 5) dL_law_1166 (by decide) ?_
  refine X_iadd dL_law_1167 ?_
  refine X_topi (nI_add i 5) ?_
  refine X_xld (i + 5) dL_law_1168 rfl (by omega) hL ?_
  refine X_aload_n dL_law_1169 rfl ?_
  refine X_iload dL_law_1170 rfl ?_
  refine X_bipush (v := nI 6) dL_law_1172 (by decide) ?_
  refine X_iadd dL_law_1174 ?_
  refine X_topi (nI_add i 6) ?_
  refine X_xld (i + 6) dL_law_1175 rfl (by omega) hL ?_
  refine X_aload_n dL_law_1176 rfl ?_
  refine X_iload dL_law_1177 rfl ?_
  refine X_bipush (v := nI 7) dL_law_1179 (by decide) ?_
  refine X_iadd dL_law_1181 ?_
  refine X_topi (nI_add i 7) ?_
  refine X_xld (i + 7) dL_law_1182 rfl (by omega) hL ?_
  refine X_aload_n dL_law_1183 rfl ?_
  refine X_callH (As := [.ref 0, .int (Γ.2.2.2.2.1.2 (i + 1)), .int (Γ.2.2.2.2.1.2 (i + 2)), .int (Γ.2.2.2.2.1.2 (i + 3)), .int (Γ.2.2.2.2.1.2 (i + 4)), .int (Γ.2.2.2.2.1.2 (i + 5)), .int (Γ.2.2.2.2.1.2 (i + 6)), .int (Γ.2.2.2.2.1.2 (i + 7)), .ref 450]) dL_law_1184 mhL_179 (w_would Γ g mi ml hSh A' x hj (Γ.2.2.2.2.1.2 (i + 1)) (Γ.2.2.2.2.1.2 (i + 2)) (Γ.2.2.2.2.1.2 (i + 3)) (Γ.2.2.2.2.1.2 (i + 4)) (Γ.2.2.2.2.1.2 (i + 5)) (Γ.2.2.2.2.1.2 (i + 6)) (Γ.2.2.2.2.1.2 (i + 7)) (hc Γ g mi ml hC)) rfl rfl (by decide) hK hN (Nat.le_of_ble_eq_true rfl) (fun E g' m' l' h => ?_) (fun v g' m' l' h => ?_)
  · obtain ⟨-, -, h3⟩ := h
    cases x with
    | inl v => cases h3.1
    | inr j => cases h3
  · obtain ⟨h1, h2, h3⟩ := h
    have hSh2 := CI_Sh h1
    have hR2 := RI_K hA hR h2
    cases x with
    | inl w =>
      obtain ⟨h4, h5⟩ := h3
      cases h4
      refine X_istore dL_law_1187 (by decide) ?_
      refine X_aload_n dL_law_1189 rfl ?_
      refine X_aload_n dL_law_1190 rfl ?_
      refine X_iload dL_law_1191 rfl ?_
      refine X_iconst (v := nI 1) dL_law_1193 (by decide) ?_
      refine X_iadd dL_law_1194 ?_
      refine X_topi (nI_add i 1) ?_
      refine X_xld (i + 1) dL_law_1195 rfl (by omega) hL ?_
      refine X_aload_n dL_law_1196 rfl ?_
      refine X_iload dL_law_1197 rfl ?_
      refine X_iconst (v := nI 2) dL_law_1199 (by decide) ?_
      refine X_iadd dL_law_1200 ?_
      refine X_topi (nI_add i 2) ?_
      refine X_xld (i + 2) dL_law_1201 rfl (by omega) hL ?_
      refine X_aload_n dL_law_1202 rfl ?_
      refine X_iload dL_law_1203 rfl ?_
      refine X_iconst (v := nI 3) dL_law_1205 (by decide) ?_
      refine X_iadd dL_law_1206 ?_
      refine X_topi (nI_add i 3) ?_
      refine X_xld (i + 3) dL_law_1207 rfl (by omega) hL ?_
      refine X_aload_n dL_law_1208 rfl ?_
      refine X_iload dL_law_1209 rfl ?_
      refine X_iconst (v := nI 4) dL_law_1211 (by decide) ?_
      refine X_iadd dL_law_1212 ?_
      refine X_topi (nI_add i 4) ?_
      refine X_xld (i + 4) dL_law_1213 rfl (by omega) hL ?_
      refine X_aload_n dL_law_1214 rfl ?_
      refine X_iload dL_law_1215 rfl ?_
      refine X_iconst (v := nI 5) dL_law_1217 (by decide) ?_
      refine X_iadd dL_law_1218 ?_
      refine X_topi (nI_add i 5) ?_
      refine X_xld (i + 5) dL_law_1219 rfl (by omega) hL ?_
      refine X_aload_n dL_law_1220 rfl ?_
      refine X_iload dL_law_1221 rfl ?_
      refine X_bipush (v := nI 6) dL_law_1223 (by decide) ?_
      refine X_iadd dL_law_1225 ?_
      refine X_topi (nI_add i 6) ?_
      refine X_xld (i + 6) dL_law_1226 rfl (by omega) hL ?_
      refine X_aload_n dL_law_1227 rfl ?_
      refine X_iload dL_law_1228 rfl ?_
      refine X_bipush (v := nI 7) dL_law_1230 (by decide) ?_
      refine X_iadd dL_law_1232 ?_
      refine X_topi (nI_add i 7) ?_
      refine X_xld (i + 7) dL_law_1233 rfl (by omega) hL ?_
      refine X_callV (As := [.int (Γ.2.2.2.2.1.2 (i + 1)), .int (Γ.2.2.2.2.1.2 (i + 2)), .int (Γ.2.2.2.2.1.2 (i + 3)), .int (Γ.2.2.2.2.1.2 (i + 4)), .int (Γ.2.2.2.2.1.2 (i + 5)), .int (Γ.2.2.2.2.1.2 (i + 6)), .int (Γ.2.2.2.2.1.2 (i + 7))]) (z := 0) dL_law_1234 mkL_182 (k_87 hSh2) (hr Γ g' m' l' hSh2 hR2) rfl rfl (by decide) (Nat.zero_le _) (Nat.zero_le _) (Nat.le_of_ble_eq_true rfl) (fun E g2 m2 l2 h => ?_) (fun v2 g2 m2 l2 h => ?_)
      · obtain ⟨-, -, -, -, v3, ho, -⟩ := h
        cases ho
      · obtain ⟨hg2, hl2, hR3, hF3, v3, ho, hv⟩ := h
        cases ho
        rw [hg2, hl2]
        refine X_istore dL_law_1237 (by decide) ?_
        refine X_aload_n dL_law_1239 rfl ?_
        refine X_callVI (z := 0) dL_law_1240 mkL_133 (k_87 hSh2) (c_thrown Γ g' m2 l' hSh2) rfl rfl (by decide) (Nat.le_of_ble_eq_true rfl) ?_
        rw [hv.2]
        refine X_iload dL_law_1243 rfl ?_
        refine X_icmp_eq 1250 dL_law_1245 (by decide) (fun _ => ?_) (fun h => absurd rfl h)
        refine X_iload dL_law_1250 rfl ?_
        refine X_if_ne 1267 dL_law_1252 (by decide) (fun h => absurd rfl h) (fun _ => ?_)
        refine X_aload_n dL_law_1255 rfl ?_
        refine X_iconst (v := nI 0) dL_law_1256 (by decide) ?_
        refine X_lald 0 dL_law_1257 (k_450 hSh2) rfl (by decide) ?_
        refine X_iload dL_law_1258 rfl ?_
        refine X_i2l dL_law_1260 ?_
        refine X_lcmp dL_law_1261 ?_
        refine X_topi (show lg_cmp (l' 450 0) v3.toInt64 = nI 0 by rw [h5, hv.1]; exact cmp_same _) ?_
        refine X_if_eq 1267 dL_law_1262 (by decide) (fun _ => ?_) (fun h => absurd rfl h)
        refine X_goto 2594 dL_law_1267 (by decide) ?_
        refine X_L [(4, .int (nI i)), (0, .ref 999), (1, .ref 0), (2, .ref 87), (3, .ref 450)] ⟨rfl, rfl, rfl, rfl, rfl, trivial⟩ ?_
        exact hk A' g' m2 l' ⟨hA', CI_M2 h1 hF3, hR3⟩
    | inr j =>
      cases h3
      refine X_istore dL_law_1187 (by decide) ?_
      refine X_aload_n dL_law_1189 rfl ?_
      refine X_aload_n dL_law_1190 rfl ?_
      refine X_iload dL_law_1191 rfl ?_
      refine X_iconst (v := nI 1) dL_law_1193 (by decide) ?_
      refine X_iadd dL_law_1194 ?_
      refine X_topi (nI_add i 1) ?_
      refine X_xld (i + 1) dL_law_1195 rfl (by omega) hL ?_
      refine X_aload_n dL_law_1196 rfl ?_
      refine X_iload dL_law_1197 rfl ?_
      refine X_iconst (v := nI 2) dL_law_1199 (by decide) ?_
      refine X_iadd dL_law_1200 ?_
      refine X_topi (nI_add i 2) ?_
      refine X_xld (i + 2) dL_law_1201 rfl (by omega) hL ?_
      refine X_aload_n dL_law_1202 rfl ?_
      refine X_iload dL_law_1203 rfl ?_
      refine X_iconst (v := nI 3) dL_law_1205 (by decide) ?_
      refine X_iadd dL_law_1206 ?_
      refine X_topi (nI_add i 3) ?_
      refine X_xld (i + 3) dL_law_1207 rfl (by omega) hL ?_
      refine X_aload_n dL_law_1208 rfl ?_
      refine X_iload dL_law_1209 rfl ?_
      refine X_iconst (v := nI 4) dL_law_1211 (by decide) ?_
      refine X_iadd dL_law_1212 ?_
      refine X_topi (nI_add i 4) ?_
      refine X_xld (i + 4) dL_law_1213 rfl (by omega) hL ?_
      refine X_aload_n dL_law_1214 rfl ?_
      refine X_iload dL_law_1215 rfl ?_
      refine X_iconst (v := nI 5) dL_law_1217 (by decide) ?_
      refine X_iadd dL_law_1218 ?_
      refine X_topi (nI_add i 5) ?_
      refine X_xld (i + 5) dL_law_1219 rfl (by omega) hL ?_
      refine X_aload_n dL_law_1220 rfl ?_
      refine X_iload dL_law_1221 rfl ?_
      refine X_bipush (v := nI 6) dL_law_1223 (by decide) ?_
      refine X_iadd dL_law_1225 ?_
      refine X_topi (nI_add i 6) ?_
      refine X_xld (i + 6) dL_law_1226 rfl (by omega) hL ?_
      refine X_aload_n dL_law_1227 rfl ?_
      refine X_iload dL_law_1228 rfl ?_
      refine X_bipush (v := nI 7) dL_law_1230 (by decide) ?_
      refine X_iadd dL_law_1232 ?_
      refine X_topi (nI_add i 7) ?_
      refine X_xld (i + 7) dL_law_1233 rfl (by omega) hL ?_
      refine X_callV (As := [.int (Γ.2.2.2.2.1.2 (i + 1)), .int (Γ.2.2.2.2.1.2 (i + 2)), .int (Γ.2.2.2.2.1.2 (i + 3)), .int (Γ.2.2.2.2.1.2 (i + 4)), .int (Γ.2.2.2.2.1.2 (i + 5)), .int (Γ.2.2.2.2.1.2 (i + 6)), .int (Γ.2.2.2.2.1.2 (i + 7))]) (z := 0) dL_law_1234 mkL_182 (k_87 hSh2) (hr Γ g' m' l' hSh2 hR2) rfl rfl (by decide) (Nat.zero_le _) (Nat.zero_le _) (Nat.le_of_ble_eq_true rfl) (fun E g2 m2 l2 h => ?_) (fun v2 g2 m2 l2 h => ?_)
      · obtain ⟨-, -, -, -, v3, ho, -⟩ := h
        cases ho
      · obtain ⟨hg2, hl2, hR3, hF3, v3, ho, hv⟩ := h
        cases ho
        rw [hg2, hl2]
        refine X_istore dL_law_1237 (by decide) ?_
        refine X_aload_n dL_law_1239 rfl ?_
        refine X_callVI (z := 0) dL_law_1240 mkL_133 (k_87 hSh2) (c_thrown Γ g' m2 l' hSh2) rfl rfl (by decide) (Nat.le_of_ble_eq_true rfl) ?_
        rw [hv]
        refine X_iload dL_law_1243 rfl ?_
        refine X_icmp_eq 1250 dL_law_1245 (by decide) (fun _ => ?_) (fun h => absurd rfl h)
        refine X_iload dL_law_1250 rfl ?_
        refine X_if_ne 1267 dL_law_1252 (by decide) (fun _ => ?_) (fun h => absurd h (cd_ne (hj j rfl).2 (cd2_le j)))
        refine X_goto 2594 dL_law_1267 (by decide) ?_
        refine X_L [(4, .int (nI i)), (0, .ref 999), (1, .ref 0), (2, .ref 87), (3, .ref 450)] ⟨rfl, rfl, rfl, rfl, rfl, trivial⟩ ?_
        exact hk A' g' m2 l' ⟨hA', CI_M2 h1 hF3, hR3⟩
set_option maxRecDepth 100000 in
theorem law_still (Γ : pTG) (hL : Γ.2.2.2.2.1.1 ≤ 4096) (i : Nat) (hi : i + 8 ≤ Γ.2.2.2.2.1.1) {K N : Nat} (hK : 20 ≤ K) (hN : 5000 ≤ N) {g : pGG} {mi : pMI} {ml : pML} {A : AS} (hI : LI A g mi ml) {Q : pQ} (hk : ∀ A' g' m' l', LI A' g' m' l' → XW Γ 100 (K - 20) (N - 5000) mL_law 2594 [(4, .int (nI i)), (0, .ref 999), (1, .ref 0), (2, .ref 87), (3, .ref 450)] [] g' m' l' Q) : XW Γ 100 K N mL_law 1450 [(4, .int (nI i)), (0, .ref 999), (1, .ref 0), (2, .ref 87), (3, .ref 450)] [] g mi ml Q := by
  obtain ⟨hA, hC, hR⟩ := hI
  have hSh := CI_Sh hC
  obtain ⟨x, A', hA', hj, hc, hr⟩ := m_still A hA (Γ.2.2.2.2.1.2 (i + 1)) (Γ.2.2.2.2.1.2 (i + 2))
  refine X_aload_n dL_law_1450 rfl ?_
  refine X_aload_n dL_law_1451 rfl ?_
  refine X_iload dL_law_1452 rfl ?_
  refine X_iconst (v := nI 1) dL_law_1454 (by decide) ?_
  refine X_iadd dL_law_1455 ?_
  refine X_topi (nI_add i 1) ?_
  refine X_xld (i + 1) dL_law_1456 rfl (by omega) hL ?_
  refine X_aload_n dL_law_1457 rfl ?_
  refine X_iload dL_law_1458 rfl ?_
  refine X_iconst (v := nI 2) dL_law_1460 (by decide) ?_
  refine X_iadd dL_law_1461 ?_
  refine X_topi (nI_add i 2) ?_
  refine X_xld (i + 2) dL_law_1462 rfl (by omega) hL ?_
  refine X_aload_n dL_law_1463 rfl ?_
  refine X_callH (As := [.ref 0, .int (Γ.2.2.2.2.1.2 (i + 1)), .int (Γ.2.2.2.2.1.2 (i + 2)), .ref 450]) dL_law_1464 mhL_192 (w_still Γ g mi ml hSh A' x hj (Γ.2.2.2.2.1.2 (i + 1)) (Γ.2.2.2.2.1.2 (i + 2)) (hc Γ g mi ml hC)) rfl rfl (by decide) hK hN (Nat.le_of_ble_eq_true rfl) (fun E g' m' l' h => ?_) (fun v g' m' l' h => ?_)
  · obtain ⟨-, -, h3⟩ := h
    cases x with
    | inl v => cases h3.1
    | inr j => cases h3
  · obtain ⟨h1, h2, h3⟩ := h
    have hSh2 := CI_Sh h1
    have hR2 := RI_K hA hR h2
    cases x with
    | inl w =>
      obtain ⟨h4, h5⟩ := h3
      cases h4
      refine X_istore dL_law_1467 (by decide) ?_
      refine X_aload_n dL_law_1469 rfl ?_
      refine X_aload_n dL_law_1470 rfl ?_
      refine X_iload dL_law_1471 rfl ?_
      refine X_iconst (v := nI 1) dL_law_1473 (by decide) ?_
      refine X_iadd dL_law_1474 ?_
      refine X_topi (nI_add i 1) ?_
      refine X_xld (i + 1) dL_law_1475 rfl (by omega) hL ?_
      refine X_aload_n dL_law_1476 rfl ?_
      refine X_iload dL_law_1477 rfl ?_
      refine X_iconst (v := nI 2) dL_law_1479 (by decide) ?_
      refine X_iadd dL_law_1480 ?_
      refine X_topi (nI_add i 2) ?_
      refine X_xld (i + 2) dL_law_1481 rfl (by omega) hL ?_
      refine X_callV (As := [.int (Γ.2.2.2.2.1.2 (i + 1)), .int (Γ.2.2.2.2.1.2 (i + 2))]) (z := 0) dL_law_1482 mkL_194 (k_87 hSh2) (hr Γ g' m' l' hSh2 hR2) rfl rfl (by decide) (Nat.zero_le _) (Nat.zero_le _) (Nat.le_of_ble_eq_true rfl) (fun E g2 m2 l2 h => ?_) (fun v2 g2 m2 l2 h => ?_)
      · obtain ⟨-, -, -, -, v3, ho, -⟩ := h
        cases ho
      · obtain ⟨hg2, hl2, hR3, hF3, v3, ho, hv⟩ := h
        cases ho
        rw [hg2, hl2]
        refine X_istore dL_law_1485 (by decide) ?_
        refine X_aload_n dL_law_1487 rfl ?_
        refine X_callVI (z := 0) dL_law_1488 mkL_133 (k_87 hSh2) (c_thrown Γ g' m2 l' hSh2) rfl rfl (by decide) (Nat.le_of_ble_eq_true rfl) ?_
        rw [hv.2]
        refine X_iload dL_law_1491 rfl ?_
        refine X_icmp_eq 1498 dL_law_1493 (by decide) (fun _ => ?_) (fun h => absurd rfl h)
        refine X_iload dL_law_1498 rfl ?_
        refine X_if_ne 1515 dL_law_1500 (by decide) (fun h => absurd rfl h) (fun _ => ?_)
        refine X_aload_n dL_law_1503 rfl ?_
        refine X_iconst (v := nI 0) dL_law_1504 (by decide) ?_
        refine X_lald 0 dL_law_1505 (k_450 hSh2) rfl (by decide) ?_
        refine X_iload dL_law_1506 rfl ?_
        refine X_i2l dL_law_1508 ?_
        refine X_lcmp dL_law_1509 ?_
        refine X_topi (show lg_cmp (l' 450 0) v3.toInt64 = nI 0 by rw [h5, hv.1]; exact cmp_same _) ?_
        refine X_if_eq 1515 dL_law_1510 (by decide) (fun _ => ?_) (fun h => absurd rfl h)
        refine X_goto 2594 dL_law_1515 (by decide) ?_
        refine X_L [(4, .int (nI i)), (0, .ref 999), (1, .ref 0), (2, .ref 87), (3, .ref 450)] ⟨rfl, rfl, rfl, rfl, rfl, trivial⟩ ?_
        exact hk A' g' m2 l' ⟨hA', CI_M2 h1 hF3, hR3⟩
    | inr j =>
      cases h3
      refine X_istore dL_law_1467 (by decide) ?_
      refine X_aload_n dL_law_1469 rfl ?_
      refine X_aload_n dL_law_1470 rfl ?_
      refine X_iload dL_law_1471 rfl ?_
      refine X_iconst (v := nI 1) dL_law_1473 (by decide) ?_
      refine X_iadd dL_law_1474 ?_
      refine X_topi (nI_add i 1) ?_
      refine X_xld (i + 1) dL_law_1475 rfl (by omega) hL ?_
      refine X_aload_n dL_law_1476 rfl ?_
      refine X_iload dL_law_1477 rfl ?_
      refine X_iconst (v := nI 2) dL_law_1479 (by decide) ?_
      refine X_iadd dL_law_1480 ?_
      refine X_topi (nI_add i 2) ?_
      refine X_xld (i + 2) dL_law_1481 rfl (by omega) hL ?_
      refine X_callV (As := [.int (Γ.2.2.2.2.1.2 (i + 1)), .int (Γ.2.2.2.2.1.2 (i + 2))]) (z := 0) dL_law_1482 mkL_194 (k_87 hSh2) (hr Γ g' m' l' hSh2 hR2) rfl rfl (by decide) (Nat.zero_le _) (Nat.zero_le _) (Nat.le_of_ble_eq_true rfl) (fun E g2 m2 l2 h => ?_) (fun v2 g2 m2 l2 h => ?_)
      · obtain ⟨-, -, -, -, v3, ho, -⟩ := h
        cases ho
      · obtain ⟨hg2, hl2, hR3, hF3, v3, ho, hv⟩ := h
        cases ho
        rw [hg2, hl2]
        refine X_istore dL_law_1485 (by decide) ?_
        refine X_aload_n dL_law_1487 rfl ?_
        refine X_callVI (z := 0) dL_law_1488 mkL_133 (k_87 hSh2) (c_thrown Γ g' m2 l' hSh2) rfl rfl (by decide) (Nat.le_of_ble_eq_true rfl) ?_
        rw [hv]
        refine X_iload dL_law_1491 rfl ?_
        refine X_icmp_eq 1498 dL_law_1493 (by decide) (fun _ => ?_) (fun h => absurd rfl h)
        refine X_iload dL_law_1498 rfl ?_
        refine X_if_ne 1515 dL_law_1500 (by decide) (fun _ => ?_) (fun h => absurd h (cd_ne (hj j rfl).2 (cd3_le j)))
        refine X_goto 2594 dL_law_1515 (by decide) ?_
        refine X_L [(4, .int (nI i)), (0, .ref 999), (1, .ref 0), (2, .ref 87), (3, .ref 450)] ⟨rfl, rfl, rfl, rfl, rfl, trivial⟩ ?_
        exact hk A' g' m2 l' ⟨hA', CI_M2 h1 hF3, hR3⟩
set_option maxRecDepth 100000 in
theorem law_waste (Γ : pTG) (hL : Γ.2.2.2.2.1.1 ≤ 4096) (i : Nat) (hi : i + 8 ≤ Γ.2.2.2.2.1.1) {K N : Nat} (hK : 20 ≤ K) (hN : 5000 ≤ N) {g : pGG} {mi : pMI} {ml : pML} {A : AS} (hI : LI A g mi ml) {Q : pQ} (hk : ∀ A' g' m' l', LI A' g' m' l' → XW Γ 100 (K - 20) (N - 5000) mL_law 2594 [(4, .int (nI i)), (0, .ref 999), (1, .ref 0), (2, .ref 87), (3, .ref 450)] [] g' m' l' Q) : XW Γ 100 K N mL_law 1655 [(4, .int (nI i)), (0, .ref 999), (1, .ref 0), (2, .ref 87), (3, .ref 450)] [] g mi ml Q := by
  obtain ⟨hA, hC, hR⟩ := hI
  have hSh := CI_Sh hC
  obtain ⟨x, A', hA', hj, hc, hr⟩ := m_waste A hA
  refine X_aload_n dL_law_1655 rfl ?_
  refine X_callV (As := []) (z := 0) dL_law_1656 mkL_205 (k_0 hSh) (hc Γ g mi ml hC) rfl rfl (by decide) hK hN (Nat.le_of_ble_eq_true rfl) (fun E g' m' l' h => ?_) (fun v g' m' l' h => ?_)
  · obtain ⟨h1, h2, h3, h4⟩ := h
    cases x with
    | inl v => cases h1
    | inr j => exact absurd rfl (hj j rfl).2
  · obtain ⟨h1, h2, h3, h4⟩ := h
    cases x with
    | inr j => exact absurd rfl (hj j rfl).2
    | inl v' =>
      cases h1
      have hSh2 := CI_Sh h2
      have hR2 := RI_K hA hR h3
      refine X_aload_n dL_law_1659 rfl ?_
      refine X_callV (As := []) (z := 0) dL_law_1660 mkL_208 (k_87 hSh2) (hr Γ g' m' l' hSh2 hR2) rfl rfl (by decide) (Nat.zero_le _) (Nat.zero_le _) (Nat.le_of_ble_eq_true rfl) (fun E g2 m2 l2 h => ?_) (fun v2 g2 m2 l2 h => ?_)
      · obtain ⟨-, -, -, -, v3, ho, -⟩ := h
        cases ho
      · obtain ⟨hg2, hl2, hR3, hF3, v3, ho, hv⟩ := h
        cases ho
        rw [hg2, hl2]
        refine X_icmp_eq 2594 dL_law_1663 (by decide) (fun _ => ?_) (fun h => absurd hv.1.symm h)
        refine X_L [(4, .int (nI i)), (0, .ref 999), (1, .ref 0), (2, .ref 87), (3, .ref 450)] ⟨rfl, rfl, rfl, rfl, rfl, trivial⟩ ?_
        exact hk A' g' m2 l' ⟨hA', CI_M2 h2 hF3, hR3⟩
set_option maxRecDepth 100000 in
theorem law_off (Γ : pTG) (hL : Γ.2.2.2.2.1.1 ≤ 4096) (i : Nat) (hi : i + 8 ≤ Γ.2.2.2.2.1.1) {K N : Nat} (hK : 20 ≤ K) (hN : 5000 ≤ N) {g : pGG} {mi : pMI} {ml : pML} {A : AS} (hI : LI A g mi ml) {Q : pQ} (hk : ∀ A' g' m' l', LI A' g' m' l' → XW Γ 100 (K - 20) (N - 5000) mL_law 2594 [(4, .int (nI i)), (0, .ref 999), (1, .ref 0), (2, .ref 87), (3, .ref 450)] [] g' m' l' Q) : XW Γ 100 K N mL_law 1848 [(4, .int (nI i)), (0, .ref 999), (1, .ref 0), (2, .ref 87), (3, .ref 450)] [] g mi ml Q := by
  obtain ⟨hA, hC, hR⟩ := hI
  have hSh := CI_Sh hC
  obtain ⟨x, A', hA', hj, hc, hr⟩ := m_off A hA (Γ.2.2.2.2.1.2 (i + 1))
  refine X_aload_n dL_law_1848 rfl ?_
  refine X_aload_n dL_law_1849 rfl ?_
  refine X_iload dL_law_1850 rfl ?_
  refine X_iconst (v := nI 1) dL_law_1852 (by decide) ?_
  refine X_iadd dL_law_1853 ?_
  refine X_topi (nI_add i 1) ?_
  refine X_xld (i + 1) dL_law_1854 rfl (by omega) hL ?_
  refine X_aload_n dL_law_1855 rfl ?_
  refine X_callH (As := [.ref 0, .int (Γ.2.2.2.2.1.2 (i + 1)), .ref 450]) dL_law_1856 mhL_218 (w_off Γ g mi ml hSh A' x hj (Γ.2.2.2.2.1.2 (i + 1)) (hc Γ g mi ml hC)) rfl rfl (by decide) hK hN (Nat.le_of_ble_eq_true rfl) (fun E g' m' l' h => ?_) (fun v g' m' l' h => ?_)
  · obtain ⟨-, -, h3⟩ := h
    cases x with
    | inl v => cases h3.1
    | inr j => cases h3
  · obtain ⟨h1, h2, h3⟩ := h
    have hSh2 := CI_Sh h1
    have hR2 := RI_K hA hR h2
    cases x with
    | inl w =>
      obtain ⟨h4, h5⟩ := h3
      cases h4
      refine X_istore dL_law_1859 (by decide) ?_
      refine X_aload_n dL_law_1861 rfl ?_
      refine X_aload_n dL_law_1862 rfl ?_
      refine X_iload dL_law_1863 rfl ?_
      refine X_iconst (v := nI 1) dL_law_1865 (by decide) ?_
      refine X_iadd dL_law_1866 ?_
      refine X_topi (nI_add i 1) ?_
      refine X_xld (i + 1) dL_law_1867 rfl (by omega) hL ?_
      refine X_callV (As := [.int (Γ.2.2.2.2.1.2 (i + 1))]) (z := 0) dL_law_1868 mkL_220 (k_87 hSh2) (hr Γ g' m' l' hSh2 hR2) rfl rfl (by decide) (Nat.zero_le _) (Nat.zero_le _) (Nat.le_of_ble_eq_true rfl) (fun E g2 m2 l2 h => ?_) (fun v2 g2 m2 l2 h => ?_)
      · obtain ⟨-, -, -, -, v3, ho, -⟩ := h
        cases ho
      · obtain ⟨hg2, hl2, hR3, hF3, v3, ho, hv⟩ := h
        cases ho
        rw [hg2, hl2]
        refine X_istore dL_law_1871 (by decide) ?_
        refine X_aload_n dL_law_1873 rfl ?_
        refine X_callVI (z := 0) dL_law_1874 mkL_133 (k_87 hSh2) (c_thrown Γ g' m2 l' hSh2) rfl rfl (by decide) (Nat.le_of_ble_eq_true rfl) ?_
        rw [hv.2]
        refine X_iload dL_law_1877 rfl ?_
        refine X_icmp_eq 1884 dL_law_1879 (by decide) (fun _ => ?_) (fun h => absurd rfl h)
        refine X_iload dL_law_1884 rfl ?_
        refine X_if_ne 1901 dL_law_1886 (by decide) (fun h => absurd rfl h) (fun _ => ?_)
        refine X_aload_n dL_law_1889 rfl ?_
        refine X_iconst (v := nI 0) dL_law_1890 (by decide) ?_
        refine X_lald 0 dL_law_1891 (k_450 hSh2) rfl (by decide) ?_
        refine X_iload dL_law_1892 rfl ?_
        refine X_i2l dL_law_1894 ?_
        refine X_lcmp dL_law_1895 ?_
        refine X_topi (show lg_cmp (l' 450 0) v3.toInt64 = nI 0 by rw [h5, hv.1]; exact cmp_same _) ?_
        refine X_if_eq 1901 dL_law_1896 (by decide) (fun _ => ?_) (fun h => absurd rfl h)
        refine X_goto 2594 dL_law_1901 (by decide) ?_
        refine X_L [(4, .int (nI i)), (0, .ref 999), (1, .ref 0), (2, .ref 87), (3, .ref 450)] ⟨rfl, rfl, rfl, rfl, rfl, trivial⟩ ?_
        exact hk A' g' m2 l' ⟨hA', CI_M2 h1 hF3, hR3⟩
    | inr j =>
      cases h3
      refine X_istore dL_law_1859 (by decide) ?_
      refine X_aload_n dL_law_1861 rfl ?_
      refine X_aload_n dL_law_1862 rfl ?_
      refine X_iload dL_law_1863 rfl ?_
      refine X_iconst (v := nI 1) dL_law_1865 (by decide) ?_
      refine X_iadd dL_law_1866 ?_
      refine X_topi (nI_add i 1) ?_
      refine X_xld (i + 1) dL_law_1867 rfl (by omega) hL ?_
      refine X_callV (As := [.int (Γ.2.2.2.2.1.2 (i + 1))]) (z := 0) dL_law_1868 mkL_220 (k_87 hSh2) (hr Γ g' m' l' hSh2 hR2) rfl rfl (by decide) (Nat.zero_le _) (Nat.zero_le _) (Nat.le_of_ble_eq_true rfl) (fun E g2 m2 l2 h => ?_) (fun v2 g2 m2 l2 h => ?_)
      · obtain ⟨-, -, -, -, v3, ho, -⟩ := h
        cases ho
      · obtain ⟨hg2, hl2, hR3, hF3, v3, ho, hv⟩ := h
        cases ho
        rw [hg2, hl2]
        refine X_istore dL_law_1871 (by decide) ?_
        refine X_aload_n dL_law_1873 rfl ?_
        refine X_callVI (z := 0) dL_law_1874 mkL_133 (k_87 hSh2) (c_thrown Γ g' m2 l' hSh2) rfl rfl (by decide) (Nat.le_of_ble_eq_true rfl) ?_
        rw [hv]
        refine X_iload dL_law_1877 rfl ?_
        refine X_icmp_eq 1884 dL_law_1879 (by decide) (fun _ => ?_) (fun h => absurd rfl h)
        refine X_iload dL_law_1884 rfl ?_
        refine X_if_ne 1901 dL_law_1886 (by decide) (fun _ => ?_) (fun h => absurd h (cd_ne (hj j rfl).2 (cd1_le j)))
        refine X_goto 2594 dL_law_1901 (by decide) ?_
        refine X_L [(4, .int (nI i)), (0, .ref 999), (1, .ref 0), (2, .ref 87), (3, .ref 450)] ⟨rfl, rfl, rfl, rfl, rfl, trivial⟩ ?_
        exact hk A' g' m2 l' ⟨hA', CI_M2 h1 hF3, hR3⟩
set_option maxRecDepth 100000 in
theorem law_summer (Γ : pTG) (hL : Γ.2.2.2.2.1.1 ≤ 4096) (i : Nat) (hi : i + 8 ≤ Γ.2.2.2.2.1.1) {K N : Nat} (hK : 20 ≤ K) (hN : 5000 ≤ N) {g : pGG} {mi : pMI} {ml : pML} {A : AS} (hI : LI A g mi ml) {Q : pQ} (hk : ∀ A' g' m' l', LI A' g' m' l' → XW Γ 100 (K - 20) (N - 5000) mL_law 2594 [(4, .int (nI i)), (0, .ref 999), (1, .ref 0), (2, .ref 87), (3, .ref 450)] [] g' m' l' Q) : XW Γ 100 K N mL_law 2108 [(4, .int (nI i)), (0, .ref 999), (1, .ref 0), (2, .ref 87), (3, .ref 450)] [] g mi ml Q := by
  obtain ⟨hA, hC, hR⟩ := hI
  have hSh := CI_Sh hC
  obtain ⟨x, A', hA', hj, hc, hr⟩ := m_summer A hA (Γ.2.2.2.2.1.2 (i + 1)) (Γ.2.2.2.2.1.2 (i + 2)) (Γ.2.2.2.2.1.2 (i + 3))
  refine X_aload_n dL_law_2108 rfl ?_
  refine X_aload_n dL_law_2109 rfl ?_
  refine X_iload dL_law_2110 rfl ?_
  refine X_iconst (v := nI 1) dL_law_2112 (by decide) ?_
  refine X_iadd dL_law_2113 ?_
  refine X_topi (nI_add i 1) ?_
  refine X_xld (i + 1) dL_law_2114 rfl (by omega) hL ?_
  refine X_aload_n dL_law_2115 rfl ?_
  refine X_iload dL_law_2116 rfl ?_
  refine X_iconst (v := nI 2) dL_law_2118 (by decide) ?_
  refine X_iadd dL_law_2119 ?_
  refine X_topi (nI_add i 2) ?_
  refine X_xld (i + 2) dL_law_2120 rfl (by omega) hL ?_
  refine X_aload_n dL_law_2121 rfl ?_
  refine X_iload dL_law_2122 rfl ?_
  refine X_iconst (v := nI 3) dL_law_2124 (by decide) ?_
  refine X_iadd dL_law_2125 ?_
  refine X_topi (nI_add i 3) ?_
  refine X_xld (i + 3) dL_law_2126 rfl (by omega) hL ?_
  refine X_aload_n dL_law_2127 rfl ?_
  refine X_callH (As := [.ref 0, .int (Γ.2.2.2.2.1.2 (i + 1)), .int (Γ.2.2.2.2.1.2 (i + 2)), .int (Γ.2.2.2.2.1.2 (i + 3)), .ref 450]) dL_law_2128 mhL_230 (w_summer Γ g mi ml hSh A' x hj (Γ.2.2.2.2.1.2 (i + 1)) (Γ.2.2.2.2.1.2 (i + 2)) (Γ.2.2.2.2.1.2 (i + 3)) (hc Γ g mi ml hC)) rfl rfl (by decide) hK hN (Nat.le_of_ble_eq_true rfl) (fun E g' m' l' h => ?_) (fun v g' m' l' h => ?_)
  · obtain ⟨-, -, h3⟩ := h
    cases x with
    | inl v => cases h3.1
    | inr j => cases h3
  · obtain ⟨h1, h2, h3⟩ := h
    have hSh2 := CI_Sh h1
    have hR2 := RI_K hA hR h2
    cases x with
    | inl w =>
      obtain ⟨h4, h5⟩ := h3
      cases h4
      refine X_istore dL_law_2131 (by decide) ?_
      refine X_aload_n dL_law_2133 rfl ?_
      refine X_aload_n dL_law_2134 rfl ?_
      refine X_iload dL_law_2135 rfl ?_
      refine X_iconst (v := nI 1) dL_law_2137 (by decide) ?_
      refine X_iadd dL_law_2138 ?_
      refine X_topi (nI_add i 1) ?_
      refine X_xld (i + 1) dL_law_2139 rfl (by omega) hL ?_
      refine X_aload_n dL_law_2140 rfl ?_
      refine X_iload dL_law_2141 rfl ?_
      refine X_iconst (v := nI 2) dL_law_2143 (by decide) ?_
      refine X_iadd dL_law_2144 ?_
      refine X_topi (nI_add i 2) ?_
      refine X_xld (i + 2) dL_law_2145 rfl (by omega) hL ?_
      refine X_aload_n dL_law_2146 rfl ?_
      refine X_iload dL_law_2147 rfl ?_
      refine X_iconst (v := nI 3) dL_law_2149 (by decide) ?_
      refine X_iadd dL_law_2150 ?_
      refine X_topi (nI_add i 3) ?_
      refine X_xld (i + 3) dL_law_2151 rfl (by omega) hL ?_
      refine X_callV (As := [.int (Γ.2.2.2.2.1.2 (i + 1)), .int (Γ.2.2.2.2.1.2 (i + 2)), .int (Γ.2.2.2.2.1.2 (i + 3))]) (z := 0) dL_law_2152 mkL_232 (k_87 hSh2) (hr Γ g' m' l' hSh2 hR2) rfl rfl (by decide) (Nat.zero_le _) (Nat.zero_le _) (Nat.le_of_ble_eq_true rfl) (fun E g2 m2 l2 h => ?_) (fun v2 g2 m2 l2 h => ?_)
      · obtain ⟨-, -, -, -, v3, ho, -⟩ := h
        cases ho
      · obtain ⟨hg2, hl2, hR3, hF3, v3, ho, hv⟩ := h
        cases ho
        rw [hg2, hl2]
        refine X_istore dL_law_2155 (by decide) ?_
        refine X_aload_n dL_law_2157 rfl ?_
        refine X_callVI (z := 0) dL_law_2158 mkL_133 (k_87 hSh2) (c_thrown Γ g' m2 l' hSh2) rfl rfl (by decide) (Nat.le_of_ble_eq_true rfl) ?_
        rw [hv.2]
        refine X_iload dL_law_2161 rfl ?_
        refine X_icmp_eq 2168 dL_law_2163 (by decide) (fun _ => ?_) (fun h => absurd rfl h)
        refine X_iload dL_law_2168 rfl ?_
        refine X_if_ne 2185 dL_law_2170 (by decide) (fun h => absurd rfl h) (fun _ => ?_)
        refine X_aload_n dL_law_2173 rfl ?_
        refine X_iconst (v := nI 0) dL_law_2174 (by decide) ?_
        refine X_lald 0 dL_law_2175 (k_450 hSh2) rfl (by decide) ?_
        refine X_iload dL_law_2176 rfl ?_
        refine X_i2l dL_law_2178 ?_
        refine X_lcmp dL_law_2179 ?_
        refine X_topi (show lg_cmp (l' 450 0) v3.toInt64 = nI 0 by rw [h5, hv.1]; exact cmp_same _) ?_
        refine X_if_eq 2185 dL_law_2180 (by decide) (fun _ => ?_) (fun h => absurd rfl h)
        refine X_goto 2594 dL_law_2185 (by decide) ?_
        refine X_L [(4, .int (nI i)), (0, .ref 999), (1, .ref 0), (2, .ref 87), (3, .ref 450)] ⟨rfl, rfl, rfl, rfl, rfl, trivial⟩ ?_
        exact hk A' g' m2 l' ⟨hA', CI_M2 h1 hF3, hR3⟩
    | inr j =>
      cases h3
      refine X_istore dL_law_2131 (by decide) ?_
      refine X_aload_n dL_law_2133 rfl ?_
      refine X_aload_n dL_law_2134 rfl ?_
      refine X_iload dL_law_2135 rfl ?_
      refine X_iconst (v := nI 1) dL_law_2137 (by decide) ?_
      refine X_iadd dL_law_2138 ?_
      refine X_topi (nI_add i 1) ?_
      refine X_xld (i + 1) dL_law_2139 rfl (by omega) hL ?_
      refine X_aload_n dL_law_2140 rfl ?_
      refine X_iload dL_law_2141 rfl ?_
      refine X_iconst (v := nI 2) dL_law_2143 (by decide) ?_
      refine X_iadd dL_law_2144 ?_
      refine X_topi (nI_add i 2) ?_
      refine X_xld (i + 2) dL_law_2145 rfl (by omega) hL ?_
      refine X_aload_n dL_law_2146 rfl ?_
      refine X_iload dL_law_2147 rfl ?_
      refine X_iconst (v := nI 3) dL_law_2149 (by decide) ?_
      refine X_iadd dL_law_2150 ?_
      refine X_topi (nI_add i 3) ?_
      refine X_xld (i + 3) dL_law_2151 rfl (by omega) hL ?_
      refine X_callV (As := [.int (Γ.2.2.2.2.1.2 (i + 1)), .int (Γ.2.2.2.2.1.2 (i + 2)), .int (Γ.2.2.2.2.1.2 (i + 3))]) (z := 0) dL_law_2152 mkL_232 (k_87 hSh2) (hr Γ g' m' l' hSh2 hR2) rfl rfl (by decide) (Nat.zero_le _) (Nat.zero_le _) (Nat.le_of_ble_eq_true rfl) (fun E g2 m2 l2 h => ?_) (fun v2 g2 m2 l2 h => ?_)
      · obtain ⟨-, -, -, -, v3, ho, -⟩ := h
        cases ho
      · obtain ⟨hg2, hl2, hR3, hF3, v3, ho, hv⟩ := h
        cases ho
        rw [hg2, hl2]
        refine X_istore dL_law_2155 (by decide) ?_
        refine X_aload_n dL_law_2157 rfl ?_
        refine X_callVI (z := 0) dL_law_2158 mkL_133 (k_87 hSh2) (c_thrown Γ g' m2 l' hSh2) rfl rfl (by decide) (Nat.le_of_ble_eq_true rfl) ?_
        rw [hv]
        refine X_iload dL_law_2161 rfl ?_
        refine X_icmp_eq 2168 dL_law_2163 (by decide) (fun _ => ?_) (fun h => absurd rfl h)
        refine X_iload dL_law_2168 rfl ?_
        refine X_if_ne 2185 dL_law_2170 (by decide) (fun _ => ?_) (fun h => absurd h (cd_ne (hj j rfl).2 (cd1_le j)))
        refine X_goto 2594 dL_law_2185 (by decide) ?_
        refine X_L [(4, .int (nI i)), (0, .ref 999), (1, .ref 0), (2, .ref 87), (3, .ref 450)] ⟨rfl, rfl, rfl, rfl, rfl, trivial⟩ ?_
        exact hk A' g' m2 l' ⟨hA', CI_M2 h1 hF3, hR3⟩
set_option maxRecDepth 100000 in
theorem law_hotel (Γ : pTG) (hL : Γ.2.2.2.2.1.1 ≤ 4096) (i : Nat) (hi : i + 8 ≤ Γ.2.2.2.2.1.1) {K N : Nat} (hK : 20 ≤ K) (hN : 5000 ≤ N) {g : pGG} {mi : pMI} {ml : pML} {A : AS} (hI : LI A g mi ml) {Q : pQ} (hk : ∀ A' g' m' l', LI A' g' m' l' → XW Γ 100 (K - 20) (N - 5000) mL_law 2594 [(4, .int (nI i)), (0, .ref 999), (1, .ref 0), (2, .ref 87), (3, .ref 450)] [] g' m' l' Q) : XW Γ 100 K N mL_law 2313 [(4, .int (nI i)), (0, .ref 999), (1, .ref 0), (2, .ref 87), (3, .ref 450)] [] g mi ml Q := by
  obtain ⟨hA, hC, hR⟩ := hI
  have hSh := CI_Sh hC
  obtain ⟨x, A', hA', hj, hc, hr⟩ := m_hotel A hA (Γ.2.2.2.2.1.2 (i + 1)) (Γ.2.2.2.2.1.2 (i + 2))
  refine X_aload_n dL_law_2313 rfl ?_
  refine X_aload_n dL_law_2314 rfl ?_
  refine X_iload dL_law_2315 rfl ?_
  refine X_iconst (v := nI 1) dL_law_2317 (by decide) ?_
  refine X_iadd dL_law_2318 ?_
  refine X_topi (nI_add i 1) ?_
  refine X_xld (i + 1) dL_law_2319 rfl (by omega) hL ?_
  refine X_aload_n dL_law_2320 rfl ?_
  refine X_iload dL_law_2321 rfl ?_
  refine X_iconst (v := nI 2) dL_law_2323 (by decide) ?_
  refine X_iadd dL_law_2324 ?_
  refine X_topi (nI_add i 2) ?_
  refine X_xld (i + 2) dL_law_2325 rfl (by omega) hL ?_
  refine X_aload_n dL_law_2326 rfl ?_
  refine X_callH (As := [.ref 0, .int (Γ.2.2.2.2.1.2 (i + 1)), .int (Γ.2.2.2.2.1.2 (i + 2)), .ref 450]) dL_law_2327 mhL_243 (w_hotel Γ g mi ml hSh A' x hj (Γ.2.2.2.2.1.2 (i + 1)) (Γ.2.2.2.2.1.2 (i + 2)) (hc Γ g mi ml hC)) rfl rfl (by decide) hK hN (Nat.le_of_ble_eq_true rfl) (fun E g' m' l' h => ?_) (fun v g' m' l' h => ?_)
  · obtain ⟨-, -, h3⟩ := h
    cases x with
    | inl v => cases h3.1
    | inr j => cases h3
  · obtain ⟨h1, h2, h3⟩ := h
    have hSh2 := CI_Sh h1
    have hR2 := RI_K hA hR h2
    cases x with
    | inl w =>
      obtain ⟨h4, h5⟩ := h3
      cases h4
      refine X_istore dL_law_2330 (by decide) ?_
      refine X_aload_n dL_law_2332 rfl ?_
      refine X_aload_n dL_law_2333 rfl ?_
      refine X_iload dL_law_2334 rfl ?_
      refine X_iconst (v := nI 1) dL_law_2336 (by decide) ?_
      refine X_iadd dL_law_2337 ?_
      refine X_topi (nI_add i 1) ?_
      refine X_xld (i + 1) dL_law_2338 rfl (by omega) hL ?_
      refine X_aload_n dL_law_2339 rfl ?_
      refine X_iload dL_law_2340 rfl ?_
      refine X_iconst (v := nI 2) dL_law_2342 (by decide) ?_
      refine X_iadd dL_law_2343 ?_
      refine X_topi (nI_add i 2) ?_
      refine X_xld (i + 2) dL_law_2344 rfl (by omega) hL ?_
      refine X_callV (As := [.int (Γ.2.2.2.2.1.2 (i + 1)), .int (Γ.2.2.2.2.1.2 (i + 2))]) (z := 0) dL_law_2345 mkL_245 (k_87 hSh2) (hr Γ g' m' l' hSh2 hR2) rfl rfl (by decide) (Nat.zero_le _) (Nat.zero_le _) (Nat.le_of_ble_eq_true rfl) (fun E g2 m2 l2 h => ?_) (fun v2 g2 m2 l2 h => ?_)
      · obtain ⟨-, -, -, -, v3, ho, -⟩ := h
        cases ho
      · obtain ⟨hg2, hl2, hR3, hF3, v3, ho, hv⟩ := h
        cases ho
        rw [hg2, hl2]
        refine X_istore dL_law_2348 (by decide) ?_
        refine X_aload_n dL_law_2350 rfl ?_
        refine X_callVI (z := 0) dL_law_2351 mkL_133 (k_87 hSh2) (c_thrown Γ g' m2 l' hSh2) rfl rfl (by decide) (Nat.le_of_ble_eq_true rfl) ?_
        rw [hv.2]
        refine X_iload dL_law_2354 rfl ?_
        refine X_icmp_eq 2361 dL_law_2356 (by decide) (fun _ => ?_) (fun h => absurd rfl h)
        refine X_iload dL_law_2361 rfl ?_
        refine X_if_ne 2378 dL_law_2363 (by decide) (fun h => absurd rfl h) (fun _ => ?_)
        refine X_aload_n dL_law_2366 rfl ?_
        refine X_iconst (v := nI 0) dL_law_2367 (by decide) ?_
        refine X_lald 0 dL_law_2368 (k_450 hSh2) rfl (by decide) ?_
        refine X_iload dL_law_2369 rfl ?_
        refine X_i2l dL_law_2371 ?_
        refine X_lcmp dL_law_2372 ?_
        refine X_topi (show lg_cmp (l' 450 0) v3.toInt64 = nI 0 by rw [h5, hv.1]; exact cmp_same _) ?_
        refine X_if_eq 2378 dL_law_2373 (by decide) (fun _ => ?_) (fun h => absurd rfl h)
        refine X_goto 2594 dL_law_2378 (by decide) ?_
        refine X_L [(4, .int (nI i)), (0, .ref 999), (1, .ref 0), (2, .ref 87), (3, .ref 450)] ⟨rfl, rfl, rfl, rfl, rfl, trivial⟩ ?_
        exact hk A' g' m2 l' ⟨hA', CI_M2 h1 hF3, hR3⟩
    | inr j =>
      cases h3
      refine X_istore dL_law_2330 (by decide) ?_
      refine X_aload_n dL_law_2332 rfl ?_
      refine X_aload_n dL_law_2333 rfl ?_
      refine X_iload dL_law_2334 rfl ?_
      refine X_iconst (v := nI 1) dL_law_2336 (by decide) ?_
      refine X_iadd dL_law_2337 ?_
      refine X_topi (nI_add i 1) ?_
      refine X_xld (i + 1) dL_law_2338 rfl (by omega) hL ?_
      refine X_aload_n dL_law_2339 rfl ?_
      refine X_iload dL_law_2340 rfl ?_
      refine X_iconst (v := nI 2) dL_law_2342 (by decide) ?_
      refine X_iadd dL_law_2343 ?_
      refine X_topi (nI_add i 2) ?_
      refine X_xld (i + 2) dL_law_2344 rfl (by omega) hL ?_
      refine X_callV (As := [.int (Γ.2.2.2.2.1.2 (i + 1)), .int (Γ.2.2.2.2.1.2 (i + 2))]) (z := 0) dL_law_2345 mkL_245 (k_87 hSh2) (hr Γ g' m' l' hSh2 hR2) rfl rfl (by decide) (Nat.zero_le _) (Nat.zero_le _) (Nat.le_of_ble_eq_true rfl) (fun E g2 m2 l2 h => ?_) (fun v2 g2 m2 l2 h => ?_)
      · obtain ⟨-, -, -, -, v3, ho, -⟩ := h
        cases ho
      · obtain ⟨hg2, hl2, hR3, hF3, v3, ho, hv⟩ := h
        cases ho
        rw [hg2, hl2]
        refine X_istore dL_law_2348 (by decide) ?_
        refine X_aload_n dL_law_2350 rfl ?_
        refine X_callVI (z := 0) dL_law_2351 mkL_133 (k_87 hSh2) (c_thrown Γ g' m2 l' hSh2) rfl rfl (by decide) (Nat.le_of_ble_eq_true rfl) ?_
        rw [hv]
        refine X_iload dL_law_2354 rfl ?_
        refine X_icmp_eq 2361 dL_law_2356 (by decide) (fun _ => ?_) (fun h => absurd rfl h)
        refine X_iload dL_law_2361 rfl ?_
        refine X_if_ne 2378 dL_law_2363 (by decide) (fun _ => ?_) (fun h => absurd h (cd_ne (hj j rfl).2 (cd1_le j)))
        refine X_goto 2594 dL_law_2378 (by decide) ?_
        refine X_L [(4, .int (nI i)), (0, .ref 999), (1, .ref 0), (2, .ref 87), (3, .ref 450)] ⟨rfl, rfl, rfl, rfl, rfl, trivial⟩ ?_
        exact hk A' g' m2 l' ⟨hA', CI_M2 h1 hF3, hR3⟩
set_option maxRecDepth 100000 in
theorem law_image (Γ : pTG) (hL : Γ.2.2.2.2.1.1 ≤ 4096) (i : Nat) (hi : i + 8 ≤ Γ.2.2.2.2.1.1) {K N : Nat} (hK : 20 ≤ K) (hN : 5000 ≤ N) {g : pGG} {mi : pMI} {ml : pML} {A : AS} (hI : LI A g mi ml) {Q : pQ} (hk : ∀ A' g' m' l', LI A' g' m' l' → XW Γ 100 (K - 20) (N - 5000) mL_law 2594 [(4, .int (nI i)), (0, .ref 999), (1, .ref 0), (2, .ref 87), (3, .ref 450)] [] g' m' l' Q) : XW Γ 100 K N mL_law 2518 [(4, .int (nI i)), (0, .ref 999), (1, .ref 0), (2, .ref 87), (3, .ref 450)] [] g mi ml Q := by
  obtain ⟨hA, hC, hR⟩ := hI
  have hSh := CI_Sh hC
  obtain ⟨x, A', hA', hj, hc, hr⟩ := m_image A hA
  refine X_aload_n dL_law_2518 rfl ?_
  refine X_callV (As := []) (z := 0) dL_law_2519 mkL_256 (k_0 hSh) (hc Γ g mi ml hC) rfl rfl (by decide) hK hN (Nat.le_of_ble_eq_true rfl) (fun E g' m' l' h => ?_) (fun v g' m' l' h => ?_)
  · obtain ⟨h1, h2, h3, h4⟩ := h
    cases x with
    | inl v => cases h1
    | inr j => exact absurd rfl (hj j rfl).2
  · obtain ⟨h1, h2, h3, h4⟩ := h
    cases x with
    | inr j => exact absurd rfl (hj j rfl).2
    | inl v' =>
      cases h1
      have hSh2 := CI_Sh h2
      have hR2 := RI_K hA hR h3
      refine X_aload_n dL_law_2522 rfl ?_
      refine X_callV (As := []) (z := 0) dL_law_2523 mkL_259 (k_87 hSh2) (hr Γ g' m' l' hSh2 hR2) rfl rfl (by decide) (Nat.zero_le _) (Nat.zero_le _) (Nat.le_of_ble_eq_true rfl) (fun E g2 m2 l2 h => ?_) (fun v2 g2 m2 l2 h => ?_)
      · obtain ⟨-, -, -, -, v3, ho, -⟩ := h
        cases ho
      · obtain ⟨hg2, hl2, hR3, hF3, v3, ho, hv⟩ := h
        cases ho
        rw [hg2, hl2]
        refine X_icmp_eq 2594 dL_law_2526 (by decide) (fun _ => ?_) (fun h => absurd hv.1.symm h)
        refine X_L [(4, .int (nI i)), (0, .ref 999), (1, .ref 0), (2, .ref 87), (3, .ref 450)] ⟨rfl, rfl, rfl, rfl, rfl, trivial⟩ ?_
        exact hk A' g' m2 l' ⟨hA', CI_M2 h2 hF3, hR3⟩

set_option maxRecDepth 100000 in
theorem law_feed (Γ : pTG) (hL : Γ.2.2.2.2.1.1 ≤ 4096) (i : Nat) (hi : i + 8 ≤ Γ.2.2.2.2.1.1) {K N : Nat} (hK : 20 ≤ K) (hN : 5000 ≤ N) {g : pGG} {mi : pMI} {ml : pML} {A : AS} (hI : LI A g mi ml) {Q : pQ} (hk : ∀ A' g' m' l', LI A' g' m' l' → XW Γ 100 (K - 20) (N - 5000) mL_law 2594 [(4, .int (nI i)), (0, .ref 999), (1, .ref 0), (2, .ref 87), (3, .ref 450)] [] g' m' l' Q) : XW Γ 100 K N mL_law 228 [(4, .int (nI i)), (0, .ref 999), (1, .ref 0), (2, .ref 87), (3, .ref 450)] [] g mi ml Q := by
  obtain ⟨hA, hC, hR⟩ := hI
  have hSh := CI_Sh hC
  obtain ⟨x, A', hA', hj, hc, hr⟩ := m_feed A hA (Γ.2.2.2.2.1.2 (i + 1)) (Γ.2.2.2.2.1.2 (i + 2)) (Γ.2.2.2.2.1.2 (i + 3)) (Γ.2.2.2.2.1.2 (i + 4)) (Γ.2.2.2.2.1.2 (i + 5))
  refine X_aload_n dL_law_228 rfl ?_
  refine X_aload_n dL_law_229 rfl ?_
  refine X_iload dL_law_230 rfl ?_
  refine X_iconst (v := nI 1) dL_law_232 (by decide) ?_
  refine X_iadd dL_law_233 ?_
  refine X_topi (nI_add i 1) ?_
  refine X_xld (i + 1) dL_law_234 rfl (by omega) hL ?_
  refine X_aload_n dL_law_235 rfl ?_
  refine X_iload dL_law_236 rfl ?_
  refine X_iconst (v := nI 2) dL_law_238 (by decide) ?_
  refine X_iadd dL_law_239 ?_
  refine X_topi (nI_add i 2) ?_
  refine X_xld (i + 2) dL_law_240 rfl (by omega) hL ?_
  refine X_aload_n dL_law_241 rfl ?_
  refine X_iload dL_law_242 rfl ?_
  refine X_iconst (v := nI 3) dL_law_244 (by decide) ?_
  refine X_iadd dL_law_245 ?_
  refine X_topi (nI_add i 3) ?_
  refine X_xld (i + 3) dL_law_246 rfl (by omega) hL ?_
  refine X_aload_n dL_law_247 rfl ?_
  refine X_iload dL_law_248 rfl ?_
  refine X_iconst (v := nI 4) dL_law_250 (by decide) ?_
  refine X_iadd dL_law_251 ?_
  refine X_topi (nI_add i 4) ?_
  refine X_xld (i + 4) dL_law_252 rfl (by omega) hL ?_
  refine X_aload_n dL_law_253 rfl ?_
  refine X_iload dL_law_254 rfl ?_
  refine X_iconst (v := nI 5) dL_law_256 (by decide) ?_
  refine X_iadd dL_law_257 ?_
  refine X_topi (nI_add i 5) ?_
  refine X_xld (i + 5) dL_law_258 rfl (by omega) hL ?_
  refine X_callV (As := [.int (Γ.2.2.2.2.1.2 (i + 1)), .int (Γ.2.2.2.2.1.2 (i + 2)), .int (Γ.2.2.2.2.1.2 (i + 3)), .int (Γ.2.2.2.2.1.2 (i + 4)), .int (Γ.2.2.2.2.1.2 (i + 5))]) (z := 0) dL_law_259 mkL_122 (k_0 hSh) (hc Γ g mi ml hC) rfl rfl (by decide) hK hN (Nat.le_of_ble_eq_true rfl) (fun E g' m' l' h => ?_) (fun v g' m' l' h => ?_)
  · obtain ⟨h1, h2, h3, h4⟩ := h
    cases x with
    | inl v => cases h1
    | inr j => exact absurd rfl (hj j rfl).2
  · obtain ⟨h1, h2, h3, h4⟩ := h
    cases x with
    | inr j => exact absurd rfl (hj j rfl).2
    | inl v' =>
      cases h1
      have hSh2 := CI_Sh h2
      have hR2 := RI_K hA hR h3
      refine X_aload_n dL_law_262 rfl ?_
      refine X_aload_n dL_law_263 rfl ?_
      refine X_iload dL_law_264 rfl ?_
      refine X_iconst (v := nI 1) dL_law_266 (by decide) ?_
      refine X_iadd dL_law_267 ?_
      refine X_topi (nI_add i 1) ?_
      refine X_xld (i + 1) dL_law_268 rfl (by omega) hL ?_
      refine X_aload_n dL_law_269 rfl ?_
      refine X_iload dL_law_270 rfl ?_
      refine X_iconst (v := nI 2) dL_law_272 (by decide) ?_
      refine X_iadd dL_law_273 ?_
      refine X_topi (nI_add i 2) ?_
      refine X_xld (i + 2) dL_law_274 rfl (by omega) hL ?_
      refine X_aload_n dL_law_275 rfl ?_
      refine X_iload dL_law_276 rfl ?_
      refine X_iconst (v := nI 3) dL_law_278 (by decide) ?_
      refine X_iadd dL_law_279 ?_
      refine X_topi (nI_add i 3) ?_
      refine X_xld (i + 3) dL_law_280 rfl (by omega) hL ?_
      refine X_aload_n dL_law_281 rfl ?_
      refine X_iload dL_law_282 rfl ?_
      refine X_iconst (v := nI 4) dL_law_284 (by decide) ?_
      refine X_iadd dL_law_285 ?_
      refine X_topi (nI_add i 4) ?_
      refine X_xld (i + 4) dL_law_286 rfl (by omega) hL ?_
      refine X_aload_n dL_law_287 rfl ?_
      refine X_iload dL_law_288 rfl ?_
      refine X_iconst (v := nI 5) dL_law_290 (by decide) ?_
      refine X_iadd dL_law_291 ?_
      refine X_topi (nI_add i 5) ?_
      refine X_xld (i + 5) dL_law_292 rfl (by omega) hL ?_
      refine X_callV (As := [.int (Γ.2.2.2.2.1.2 (i + 1)), .int (Γ.2.2.2.2.1.2 (i + 2)), .int (Γ.2.2.2.2.1.2 (i + 3)), .int (Γ.2.2.2.2.1.2 (i + 4)), .int (Γ.2.2.2.2.1.2 (i + 5))]) (z := 0) dL_law_293 mkL_126 (k_87 hSh2) (hr Γ g' m' l' hSh2 hR2) rfl rfl (by decide) (Nat.zero_le _) (Nat.zero_le _) (Nat.le_of_ble_eq_true rfl) (fun E g2 m2 l2 h => ?_) (fun v2 g2 m2 l2 h => ?_)
      · obtain ⟨-, -, -, -, v3, ho, -⟩ := h
        cases ho
      · obtain ⟨hg2, hl2, hR3, hF3, v3, ho, hv⟩ := h
        cases ho
        rw [hg2, hl2]
        refine X_icmp_eq 2594 dL_law_296 (by decide) (fun _ => ?_) (fun h => absurd hv.1.symm h)
        refine X_L [(4, .int (nI i)), (0, .ref 999), (1, .ref 0), (2, .ref 87), (3, .ref 450)] ⟨rfl, rfl, rfl, rfl, rfl, trivial⟩ ?_
        exact hk A' g' m2 l' ⟨hA', CI_M2 h2 hF3, hR3⟩
set_option maxRecDepth 100000 in
theorem law_fault (Γ : pTG) (hL : Γ.2.2.2.2.1.1 ≤ 4096) (i : Nat) (hi : i + 8 ≤ Γ.2.2.2.2.1.1) {K N : Nat} (hK : 20 ≤ K) (hN : 5000 ≤ N) {g : pGG} {mi : pMI} {ml : pML} {A : AS} (hI : LI A g mi ml) {Q : pQ} (hk : ∀ A' g' m' l', LI A' g' m' l' → XW Γ 100 (K - 20) (N - 5000) mL_law 2594 [(4, .int (nI i)), (0, .ref 999), (1, .ref 0), (2, .ref 87), (3, .ref 450)] [] g' m' l' Q) : XW Γ 100 K N mL_law 481 [(4, .int (nI i)), (0, .ref 999), (1, .ref 0), (2, .ref 87), (3, .ref 450)] [] g mi ml Q := by
  obtain ⟨hA, hC, hR⟩ := hI
  have hSh := CI_Sh hC
  obtain ⟨x, A', hA', hj, hc, hr⟩ := m_fault A hA
  refine X_aload_n dL_law_481 rfl ?_
  refine X_callV (As := []) (z := 0) dL_law_482 mkL_144 (k_0 hSh) (hc Γ g mi ml hC) rfl rfl (by decide) hK hN (Nat.le_of_ble_eq_true rfl) (fun E g' m' l' h => ?_) (fun v g' m' l' h => ?_)
  · obtain ⟨h1, h2, h3, h4⟩ := h
    cases x with
    | inl v => cases h1
    | inr j => exact absurd rfl (hj j rfl).2
  · obtain ⟨h1, h2, h3, h4⟩ := h
    cases x with
    | inr j => exact absurd rfl (hj j rfl).2
    | inl v' =>
      cases h1
      have hSh2 := CI_Sh h2
      have hR2 := RI_K hA hR h3
      refine X_aload_n dL_law_485 rfl ?_
      refine X_callV (As := []) (z := 0) dL_law_486 mkL_147 (k_87 hSh2) (hr Γ g' m' l' hSh2 hR2) rfl rfl (by decide) (Nat.zero_le _) (Nat.zero_le _) (Nat.le_of_ble_eq_true rfl) (fun E g2 m2 l2 h => ?_) (fun v2 g2 m2 l2 h => ?_)
      · obtain ⟨-, -, -, -, v3, ho, -⟩ := h
        cases ho
      · obtain ⟨hg2, hl2, hR3, hF3, v3, ho, hv⟩ := h
        cases ho
        rw [hg2, hl2]
        refine X_icmp_eq 2594 dL_law_489 (by decide) (fun _ => ?_) (fun h => absurd hv.1.symm h)
        refine X_L [(4, .int (nI i)), (0, .ref 999), (1, .ref 0), (2, .ref 87), (3, .ref 450)] ⟨rfl, rfl, rfl, rfl, rfl, trivial⟩ ?_
        exact hk A' g' m2 l' ⟨hA', CI_M2 h2 hF3, hR3⟩
set_option maxRecDepth 100000 in
theorem law_day (Γ : pTG) (hL : Γ.2.2.2.2.1.1 ≤ 4096) (i : Nat) (hi : i + 8 ≤ Γ.2.2.2.2.1.1) {K N : Nat} (hK : 20 ≤ K) (hN : 5000 ≤ N) {g : pGG} {mi : pMI} {ml : pML} {A : AS} (hI : LI A g mi ml) {Q : pQ} (hk : ∀ A' g' m' l', LI A' g' m' l' → XW Γ 100 (K - 20) (N - 5000) mL_law 2594 [(4, .int (nI i)), (0, .ref 999), (1, .ref 0), (2, .ref 87), (3, .ref 450)] [] g' m' l' Q) : XW Γ 100 K N mL_law 686 [(4, .int (nI i)), (0, .ref 999), (1, .ref 0), (2, .ref 87), (3, .ref 450)] [] g mi ml Q := by
  obtain ⟨hA, hC, hR⟩ := hI
  have hSh := CI_Sh hC
  obtain ⟨x, A', hA', hj, hc, hr⟩ := m_day A hA (Γ.2.2.2.2.1.2 (i + 1))
  refine X_aload_n dL_law_686 rfl ?_
  refine X_aload_n dL_law_687 rfl ?_
  refine X_iload dL_law_688 rfl ?_
  refine X_iconst (v := nI 1) dL_law_690 (by decide) ?_
  refine X_iadd dL_law_691 ?_
  refine X_topi (nI_add i 1) ?_
  refine X_xld (i + 1) dL_law_692 rfl (by omega) hL ?_
  refine X_aload_n dL_law_693 rfl ?_
  refine X_callH (As := [.ref 0, .int (Γ.2.2.2.2.1.2 (i + 1)), .ref 450]) dL_law_694 mhL_157 (w_day Γ g mi ml hSh A' x hj (Γ.2.2.2.2.1.2 (i + 1)) (hc Γ g mi ml hC)) rfl rfl (by decide) hK hN (Nat.le_of_ble_eq_true rfl) (fun E g' m' l' h => ?_) (fun v g' m' l' h => ?_)
  · obtain ⟨-, -, h3⟩ := h
    cases x with
    | inl v => cases h3.1
    | inr j => cases h3
  · obtain ⟨h1, h2, h3⟩ := h
    have hSh2 := CI_Sh h1
    have hR2 := RI_K hA hR h2
    cases x with
    | inl w =>
      obtain ⟨h4, h5⟩ := h3
      cases h4
      refine X_istore dL_law_697 (by decide) ?_
      refine X_aload_n dL_law_699 rfl ?_
      refine X_aload_n dL_law_700 rfl ?_
      refine X_iload dL_law_701 rfl ?_
      refine X_iconst (v := nI 1) dL_law_703 (by decide) ?_
      refine X_iadd dL_law_704 ?_
      refine X_topi (nI_add i 1) ?_
      refine X_xld (i + 1) dL_law_705 rfl (by omega) hL ?_
      refine X_callV (As := [.int (Γ.2.2.2.2.1.2 (i + 1))]) (z := 0) dL_law_706 mkL_159 (k_87 hSh2) (hr Γ g' m' l' hSh2 hR2) rfl rfl (by decide) (Nat.zero_le _) (Nat.zero_le _) (Nat.le_of_ble_eq_true rfl) (fun E g2 m2 l2 h => ?_) (fun v2 g2 m2 l2 h => ?_)
      · obtain ⟨-, -, -, -, v3, ho, -⟩ := h
        cases ho
      · obtain ⟨hg2, hl2, hR3, hF3, v3, ho, hv⟩ := h
        cases ho
        rw [hg2, hl2]
        refine X_istore dL_law_709 (by decide) ?_
        refine X_aload_n dL_law_711 rfl ?_
        refine X_callVI (z := 0) dL_law_712 mkL_133 (k_87 hSh2) (c_thrown Γ g' m2 l' hSh2) rfl rfl (by decide) (Nat.le_of_ble_eq_true rfl) ?_
        rw [hv.2]
        refine X_iload dL_law_715 rfl ?_
        refine X_icmp_eq 722 dL_law_717 (by decide) (fun _ => ?_) (fun h => absurd rfl h)
        refine X_iload dL_law_722 rfl ?_
        refine X_if_ne 739 dL_law_724 (by decide) (fun h => absurd rfl h) (fun _ => ?_)
        refine X_aload_n dL_law_727 rfl ?_
        refine X_iconst (v := nI 0) dL_law_728 (by decide) ?_
        refine X_lald 0 dL_law_729 (k_450 hSh2) rfl (by decide) ?_
        refine X_iload dL_law_730 rfl ?_
        refine X_i2l dL_law_732 ?_
        refine X_lcmp dL_law_733 ?_
        refine X_topi (show lg_cmp (l' 450 0) v3.toInt64 = nI 0 by rw [h5, hv.1]; exact cmp_same _) ?_
        refine X_if_eq 739 dL_law_734 (by decide) (fun _ => ?_) (fun h => absurd rfl h)
        refine X_goto 2594 dL_law_739 (by decide) ?_
        refine X_L [(4, .int (nI i)), (0, .ref 999), (1, .ref 0), (2, .ref 87), (3, .ref 450)] ⟨rfl, rfl, rfl, rfl, rfl, trivial⟩ ?_
        exact hk A' g' m2 l' ⟨hA', CI_M2 h1 hF3, hR3⟩
    | inr j =>
      cases h3
      refine X_istore dL_law_697 (by decide) ?_
      refine X_aload_n dL_law_699 rfl ?_
      refine X_aload_n dL_law_700 rfl ?_
      refine X_iload dL_law_701 rfl ?_
      refine X_iconst (v := nI 1) dL_law_703 (by decide) ?_
      refine X_iadd dL_law_704 ?_
      refine X_topi (nI_add i 1) ?_
      refine X_xld (i + 1) dL_law_705 rfl (by omega) hL ?_
      refine X_callV (As := [.int (Γ.2.2.2.2.1.2 (i + 1))]) (z := 0) dL_law_706 mkL_159 (k_87 hSh2) (hr Γ g' m' l' hSh2 hR2) rfl rfl (by decide) (Nat.zero_le _) (Nat.zero_le _) (Nat.le_of_ble_eq_true rfl) (fun E g2 m2 l2 h => ?_) (fun v2 g2 m2 l2 h => ?_)
      · obtain ⟨-, -, -, -, v3, ho, -⟩ := h
        cases ho
      · obtain ⟨hg2, hl2, hR3, hF3, v3, ho, hv⟩ := h
        cases ho
        rw [hg2, hl2]
        refine X_istore dL_law_709 (by decide) ?_
        refine X_aload_n dL_law_711 rfl ?_
        refine X_callVI (z := 0) dL_law_712 mkL_133 (k_87 hSh2) (c_thrown Γ g' m2 l' hSh2) rfl rfl (by decide) (Nat.le_of_ble_eq_true rfl) ?_
        rw [hv]
        refine X_iload dL_law_715 rfl ?_
        refine X_icmp_eq 722 dL_law_717 (by decide) (fun _ => ?_) (fun h => absurd rfl h)
        refine X_iload dL_law_722 rfl ?_
        refine X_if_ne 739 dL_law_724 (by decide) (fun _ => ?_) (fun h => absurd h (cd_ne (hj j rfl).2 (cd1_le j)))
        refine X_goto 2594 dL_law_739 (by decide) ?_
        refine X_L [(4, .int (nI i)), (0, .ref 999), (1, .ref 0), (2, .ref 87), (3, .ref 450)] ⟨rfl, rfl, rfl, rfl, rfl, trivial⟩ ?_
        exact hk A' g' m2 l' ⟨hA', CI_M2 h1 hF3, hR3⟩
set_option maxRecDepth 100000 in
theorem law_waits (Γ : pTG) (hL : Γ.2.2.2.2.1.1 ≤ 4096) (i : Nat) (hi : i + 8 ≤ Γ.2.2.2.2.1.1) {K N : Nat} (hK : 20 ≤ K) (hN : 5000 ≤ N) {g : pGG} {mi : pMI} {ml : pML} {A : AS} (hI : LI A g mi ml) {Q : pQ} (hk : ∀ A' g' m' l', LI A' g' m' l' → XW Γ 100 (K - 20) (N - 5000) mL_law 2594 [(4, .int (nI i)), (0, .ref 999), (1, .ref 0), (2, .ref 87), (3, .ref 450)] [] g' m' l' Q) : XW Γ 100 K N mL_law 946 [(4, .int (nI i)), (0, .ref 999), (1, .ref 0), (2, .ref 87), (3, .ref 450)] [] g mi ml Q := by
  obtain ⟨hA, hC, hR⟩ := hI
  have hSh := CI_Sh hC
  obtain ⟨x, A', hA', hj, hc, hr⟩ := m_waits A hA (Γ.2.2.2.2.1.2 (i + 1))
  refine X_aload_n dL_law_946 rfl ?_
  refine X_aload_n dL_law_947 rfl ?_
  refine X_iload dL_law_948 rfl ?_
  refine X_iconst (v := nI 1) dL_law_950 (by decide) ?_
  refine X_iadd dL_law_951 ?_
  refine X_topi (nI_add i 1) ?_
  refine X_xld (i + 1) dL_law_952 rfl (by omega) hL ?_
  refine X_aload_n dL_law_953 rfl ?_
  refine X_callH (As := [.ref 0, .int (Γ.2.2.2.2.1.2 (i + 1)), .ref 450]) dL_law_954 mhL_169 (w_waits Γ g mi ml hSh A' x hj (Γ.2.2.2.2.1.2 (i + 1)) (hc Γ g mi ml hC)) rfl rfl (by decide) hK hN (Nat.le_of_ble_eq_true rfl) (fun E g' m' l' h => ?_) (fun v g' m' l' h => ?_)
  · obtain ⟨-, -, h3⟩ := h
    cases x with
    | inl v => cases h3.1
    | inr j => cases h3
  · obtain ⟨h1, h2, h3⟩ := h
    have hSh2 := CI_Sh h1
    have hR2 := RI_K hA hR h2
    cases x with
    | inl w =>
      obtain ⟨h4, h5⟩ := h3
      cases h4
      refine X_istore dL_law_957 (by decide) ?_
      refine X_aload_n dL_law_959 rfl ?_
      refine X_aload_n dL_law_960 rfl ?_
      refine X_iload dL_law_961 rfl ?_
      refine X_iconst (v := nI 1) dL_law_963 (by decide) ?_
      refine X_iadd dL_law_964 ?_
      refine X_topi (nI_add i 1) ?_
      refine X_xld (i + 1) dL_law_965 rfl (by omega) hL ?_
      refine X_callV (As := [.int (Γ.2.2.2.2.1.2 (i + 1))]) (z := 0) dL_law_966 mkL_171 (k_87 hSh2) (hr Γ g' m' l' hSh2 hR2) rfl rfl (by decide) (Nat.zero_le _) (Nat.zero_le _) (Nat.le_of_ble_eq_true rfl) (fun E g2 m2 l2 h => ?_) (fun v2 g2 m2 l2 h => ?_)
      · obtain ⟨-, -, -, -, v3, ho, -⟩ := h
        cases ho
      · obtain ⟨hg2, hl2, hR3, hF3, v3, ho, hv⟩ := h
        cases ho
        rw [hg2, hl2]
        refine X_istore dL_law_969 (by decide) ?_
        refine X_aload_n dL_law_971 rfl ?_
        refine X_callVI (z := 0) dL_law_972 mkL_133 (k_87 hSh2) (c_thrown Γ g' m2 l' hSh2) rfl rfl (by decide) (Nat.le_of_ble_eq_true rfl) ?_
        rw [hv.2]
        refine X_iload dL_law_975 rfl ?_
        refine X_icmp_eq 982 dL_law_977 (by decide) (fun _ => ?_) (fun h => absurd rfl h)
        refine X_iload dL_law_982 rfl ?_
        refine X_if_ne 999 dL_law_984 (by decide) (fun h => absurd rfl h) (fun _ => ?_)
        refine X_aload_n dL_law_987 rfl ?_
        refine X_iconst (v := nI 0) dL_law_988 (by decide) ?_
        refine X_lald 0 dL_law_989 (k_450 hSh2) rfl (by decide) ?_
        refine X_iload dL_law_990 rfl ?_
        refine X_i2l dL_law_992 ?_
        refine X_lcmp dL_law_993 ?_
        refine X_topi (show lg_cmp (l' 450 0) v3.toInt64 = nI 0 by rw [h5, hv.1]; exact cmp_same _) ?_
        refine X_if_eq 999 dL_law_994 (by decide) (fun _ => ?_) (fun h => absurd rfl h)
        refine X_goto 2594 dL_law_999 (by decide) ?_
        refine X_L [(4, .int (nI i)), (0, .ref 999), (1, .ref 0), (2, .ref 87), (3, .ref 450)] ⟨rfl, rfl, rfl, rfl, rfl, trivial⟩ ?_
        exact hk A' g' m2 l' ⟨hA', CI_M2 h1 hF3, hR3⟩
    | inr j =>
      cases h3
      refine X_istore dL_law_957 (by decide) ?_
      refine X_aload_n dL_law_959 rfl ?_
      refine X_aload_n dL_law_960 rfl ?_
      refine X_iload dL_law_961 rfl ?_
      refine X_iconst (v := nI 1) dL_law_963 (by decide) ?_
      refine X_iadd dL_law_964 ?_
      refine X_topi (nI_add i 1) ?_
      refine X_xld (i + 1) dL_law_965 rfl (by omega) hL ?_
      refine X_callV (As := [.int (Γ.2.2.2.2.1.2 (i + 1))]) (z := 0) dL_law_966 mkL_171 (k_87 hSh2) (hr Γ g' m' l' hSh2 hR2) rfl rfl (by decide) (Nat.zero_le _) (Nat.zero_le _) (Nat.le_of_ble_eq_true rfl) (fun E g2 m2 l2 h => ?_) (fun v2 g2 m2 l2 h => ?_)
      · obtain ⟨-, -, -, -, v3, ho, -⟩ := h
        cases ho
      · obtain ⟨hg2, hl2, hR3, hF3, v3, ho, hv⟩ := h
        cases ho
        rw [hg2, hl2]
        refine X_istore dL_law_969 (by decide) ?_
        refine X_aload_n dL_law_971 rfl ?_
        refine X_callVI (z := 0) dL_law_972 mkL_133 (k_87 hSh2) (c_thrown Γ g' m2 l' hSh2) rfl rfl (by decide) (Nat.le_of_ble_eq_true rfl) ?_
        rw [hv]
        refine X_iload dL_law_975 rfl ?_
        refine X_icmp_eq 982 dL_law_977 (by decide) (fun _ => ?_) (fun h => absurd rfl h)
        refine X_iload dL_law_982 rfl ?_
        refine X_if_ne 999 dL_law_984 (by decide) (fun _ => ?_) (fun h => absurd h (cd_ne (hj j rfl).2 (cd1_le j)))
        refine X_goto 2594 dL_law_999 (by decide) ?_
        refine X_L [(4, .int (nI i)), (0, .ref 999), (1, .ref 0), (2, .ref 87), (3, .ref 450)] ⟨rfl, rfl, rfl, rfl, rfl, trivial⟩ ?_
        exact hk A' g' m2 l' ⟨hA', CI_M2 h1 hF3, hR3⟩
set_option maxRecDepth 100000 in
theorem law_round (Γ : pTG) (hL : Γ.2.2.2.2.1.1 ≤ 4096) (i : Nat) (hi : i + 8 ≤ Γ.2.2.2.2.1.1) {K N : Nat} (hK : 20 ≤ K) (hN : 5000 ≤ N) {g : pGG} {mi : pMI} {ml : pML} {A : AS} (hI : LI A g mi ml) {Q : pQ} (hk : ∀ A' g' m' l', LI A' g' m' l' → XW Γ 100 (K - 20) (N - 5000) mL_law 2594 [(4, .int (nI i)), (0, .ref 999), (1, .ref 0), (2, .ref 87), (3, .ref 450)] [] g' m' l' Q) : XW Γ 100 K N mL_law 1270 [(4, .int (nI i)), (0, .ref 999), (1, .ref 0), (2, .ref 87), (3, .ref 450)] [] g mi ml Q := by
  obtain ⟨hA, hC, hR⟩ := hI
  have hSh := CI_Sh hC
  obtain ⟨x, A', hA', hj, hc, hr⟩ := m_round A hA (Γ.2.2.2.2.1.2 (i + 1))
  refine X_aload_n dL_law_1270 rfl ?_
  refine X_aload_n dL_law_1271 rfl ?_
  refine X_iload dL_law_1272 rfl ?_
  refine X_iconst (v := nI 1) dL_law_1274 (by decide) ?_
  refine X_iadd dL_law_1275 ?_
  refine X_topi (nI_add i 1) ?_
  refine X_xld (i + 1) dL_law_1276 rfl (by omega) hL ?_
  refine X_aload_n dL_law_1277 rfl ?_
  refine X_callH (As := [.ref 0, .int (Γ.2.2.2.2.1.2 (i + 1)), .ref 450]) dL_law_1278 mhL_183 (w_round Γ g mi ml hSh A' x hj (Γ.2.2.2.2.1.2 (i + 1)) (hc Γ g mi ml hC)) rfl rfl (by decide) hK hN (Nat.le_of_ble_eq_true rfl) (fun E g' m' l' h => ?_) (fun v g' m' l' h => ?_)
  · obtain ⟨-, -, h3⟩ := h
    cases x with
    | inl v => cases h3.1
    | inr j => cases h3
  · obtain ⟨h1, h2, h3⟩ := h
    have hSh2 := CI_Sh h1
    have hR2 := RI_K hA hR h2
    cases x with
    | inl w =>
      obtain ⟨h4, h5⟩ := h3
      cases h4
      refine X_istore dL_law_1281 (by decide) ?_
      refine X_aload_n dL_law_1283 rfl ?_
      refine X_aload_n dL_law_1284 rfl ?_
      refine X_iload dL_law_1285 rfl ?_
      refine X_iconst (v := nI 1) dL_law_1287 (by decide) ?_
      refine X_iadd dL_law_1288 ?_
      refine X_topi (nI_add i 1) ?_
      refine X_xld (i + 1) dL_law_1289 rfl (by omega) hL ?_
      refine X_callV (As := [.int (Γ.2.2.2.2.1.2 (i + 1))]) (z := 0) dL_law_1290 mkL_185 (k_87 hSh2) (hr Γ g' m' l' hSh2 hR2) rfl rfl (by decide) (Nat.zero_le _) (Nat.zero_le _) (Nat.le_of_ble_eq_true rfl) (fun E g2 m2 l2 h => ?_) (fun v2 g2 m2 l2 h => ?_)
      · obtain ⟨-, -, -, -, v3, ho, -⟩ := h
        cases ho
      · obtain ⟨hg2, hl2, hR3, hF3, v3, ho, hv⟩ := h
        cases ho
        rw [hg2, hl2]
        refine X_istore dL_law_1293 (by decide) ?_
        refine X_aload_n dL_law_1295 rfl ?_
        refine X_callVI (z := 0) dL_law_1296 mkL_133 (k_87 hSh2) (c_thrown Γ g' m2 l' hSh2) rfl rfl (by decide) (Nat.le_of_ble_eq_true rfl) ?_
        rw [hv.2]
        refine X_iload dL_law_1299 rfl ?_
        refine X_icmp_eq 1306 dL_law_1301 (by decide) (fun _ => ?_) (fun h => absurd rfl h)
        refine X_iload dL_law_1306 rfl ?_
        refine X_if_ne 1323 dL_law_1308 (by decide) (fun h => absurd rfl h) (fun _ => ?_)
        refine X_aload_n dL_law_1311 rfl ?_
        refine X_iconst (v := nI 0) dL_law_1312 (by decide) ?_
        refine X_lald 0 dL_law_1313 (k_450 hSh2) rfl (by decide) ?_
        refine X_iload dL_law_1314 rfl ?_
        refine X_i2l dL_law_1316 ?_
        refine X_lcmp dL_law_1317 ?_
        refine X_topi (show lg_cmp (l' 450 0) v3.toInt64 = nI 0 by rw [h5, hv.1]; exact cmp_same _) ?_
        refine X_if_eq 1323 dL_law_1318 (by decide) (fun _ => ?_) (fun h => absurd rfl h)
        refine X_goto 2594 dL_law_1323 (by decide) ?_
        refine X_L [(4, .int (nI i)), (0, .ref 999), (1, .ref 0), (2, .ref 87), (3, .ref 450)] ⟨rfl, rfl, rfl, rfl, rfl, trivial⟩ ?_
        exact hk A' g' m2 l' ⟨hA', CI_M2 h1 hF3, hR3⟩
    | inr j =>
      cases h3
      refine X_istore dL_law_1281 (by decide) ?_
      refine X_aload_n dL_law_1283 rfl ?_
      refine X_aload_n dL_law_1284 rfl ?_
      refine X_iload dL_law_1285 rfl ?_
      refine X_iconst (v := nI 1) dL_law_1287 (by decide) ?_
      refine X_iadd dL_law_1288 ?_
      refine X_topi (nI_add i 1) ?_
      refine X_xld (i + 1) dL_law_1289 rfl (by omega) hL ?_
      refine X_callV (As := [.int (Γ.2.2.2.2.1.2 (i + 1))]) (z := 0) dL_law_1290 mkL_185 (k_87 hSh2) (hr Γ g' m' l' hSh2 hR2) rfl rfl (by decide) (Nat.zero_le _) (Nat.zero_le _) (Nat.le_of_ble_eq_true rfl) (fun E g2 m2 l2 h => ?_) (fun v2 g2 m2 l2 h => ?_)
      · obtain ⟨-, -, -, -, v3, ho, -⟩ := h
        cases ho
      · obtain ⟨hg2, hl2, hR3, hF3, v3, ho, hv⟩ := h
        cases ho
        rw [hg2, hl2]
        refine X_istore dL_law_1293 (by decide) ?_
        refine X_aload_n dL_law_1295 rfl ?_
        refine X_callVI (z := 0) dL_law_1296 mkL_133 (k_87 hSh2) (c_thrown Γ g' m2 l' hSh2) rfl rfl (by decide) (Nat.le_of_ble_eq_true rfl) ?_
        rw [hv]
        refine X_iload dL_law_1299 rfl ?_
        refine X_icmp_eq 1306 dL_law_1301 (by decide) (fun _ => ?_) (fun h => absurd rfl h)
        refine X_iload dL_law_1306 rfl ?_
        refine X_if_ne 1323 dL_law_1308 (by decide) (fun _ => ?_) (fun h => absurd h (cd_ne (hj j rfl).2 (cd1_le j)))
        refine X_goto 2594 dL_law_1323 (by decide) ?_
        refine X_L [(4, .int (nI i)), (0, .ref 999), (1, .ref 0), (2, .ref 87), (3, .ref 450)] ⟨rfl, rfl, rfl, rfl, rfl, trivial⟩ ?_
        exact hk A' g' m2 l' ⟨hA', CI_M2 h1 hF3, hR3⟩
set_option maxRecDepth 100000 in
theorem law_net (Γ : pTG) (hL : Γ.2.2.2.2.1.1 ≤ 4096) (i : Nat) (hi : i + 8 ≤ Γ.2.2.2.2.1.1) {K N : Nat} (hK : 20 ≤ K) (hN : 5000 ≤ N) {g : pGG} {mi : pMI} {ml : pML} {A : AS} (hI : LI A g mi ml) {Q : pQ} (hk : ∀ A' g' m' l', LI A' g' m' l' → XW Γ 100 (K - 20) (N - 5000) mL_law 2594 [(4, .int (nI i)), (0, .ref 999), (1, .ref 0), (2, .ref 87), (3, .ref 450)] [] g' m' l' Q) : XW Γ 100 K N mL_law 1518 [(4, .int (nI i)), (0, .ref 999), (1, .ref 0), (2, .ref 87), (3, .ref 450)] [] g mi ml Q := by
  obtain ⟨hA, hC, hR⟩ := hI
  have hSh := CI_Sh hC
  obtain ⟨x, A', hA', hj, hc, hr⟩ := m_net A hA (Γ.2.2.2.2.1.2 (i + 1)) (Γ.2.2.2.2.1.2 (i + 2))
  refine X_aload_n dL_law_1518 rfl ?_
  refine X_aload_n dL_law_1519 rfl ?_
  refine X_iload dL_law_1520 rfl ?_
  refine X_iconst (v := nI 1) dL_law_1522 (by decide) ?_
  refine X_iadd dL_law_1523 ?_
  refine X_topi (nI_add i 1) ?_
  refine X_xld (i + 1) dL_law_1524 rfl (by omega) hL ?_
  refine X_aload_n dL_law_1525 rfl ?_
  refine X_iload dL_law_1526 rfl ?_
  refine X_iconst (v := nI 2) dL_law_1528 (by decide) ?_
  refine X_iadd dL_law_1529 ?_
  refine X_topi (nI_add i 2) ?_
  refine X_xld (i + 2) dL_law_1530 rfl (by omega) hL ?_
  refine X_aload_n dL_law_1531 rfl ?_
  refine X_callH (As := [.ref 0, .int (Γ.2.2.2.2.1.2 (i + 1)), .int (Γ.2.2.2.2.1.2 (i + 2)), .ref 450]) dL_law_1532 mhL_195 (w_net Γ g mi ml hSh A' x hj (Γ.2.2.2.2.1.2 (i + 1)) (Γ.2.2.2.2.1.2 (i + 2)) (hc Γ g mi ml hC)) rfl rfl (by decide) hK hN (Nat.le_of_ble_eq_true rfl) (fun E g' m' l' h => ?_) (fun v g' m' l' h => ?_)
  · obtain ⟨-, -, h3⟩ := h
    cases x with
    | inl v => cases h3.1
    | inr j => cases h3
  · obtain ⟨h1, h2, h3⟩ := h
    have hSh2 := CI_Sh h1
    have hR2 := RI_K hA hR h2
    cases x with
    | inl w =>
      obtain ⟨h4, h5⟩ := h3
      cases h4
      refine X_istore dL_law_1535 (by decide) ?_
      refine X_aload_n dL_law_1537 rfl ?_
      refine X_aload_n dL_law_1538 rfl ?_
      refine X_iload dL_law_1539 rfl ?_
      refine X_iconst (v := nI 1) dL_law_1541 (by decide) ?_
      refine X_iadd dL_law_1542 ?_
      refine X_topi (nI_add i 1) ?_
      refine X_xld (i + 1) dL_law_1543 rfl (by omega) hL ?_
      refine X_aload_n dL_law_1544 rfl ?_
      refine X_iload dL_law_1545 rfl ?_
      refine X_iconst (v := nI 2) dL_law_1547 (by decide) ?_
      refine X_iadd dL_law_1548 ?_
      refine X_topi (nI_add i 2) ?_
      refine X_xld (i + 2) dL_law_1549 rfl (by omega) hL ?_
      refine X_callV (As := [.int (Γ.2.2.2.2.1.2 (i + 1)), .int (Γ.2.2.2.2.1.2 (i + 2))]) (z := 0) dL_law_1550 mkL_197 (k_87 hSh2) (hr Γ g' m' l' hSh2 hR2) rfl rfl (by decide) (Nat.zero_le _) (Nat.zero_le _) (Nat.le_of_ble_eq_true rfl) (fun E g2 m2 l2 h => ?_) (fun v2 g2 m2 l2 h => ?_)
      · obtain ⟨-, -, -, -, v3, ho, -⟩ := h
        cases ho
      · obtain ⟨hg2, hl2, hR3, hF3, v3, ho, hv⟩ := h
        cases ho
        rw [hg2, hl2]
        refine X_istore dL_law_1553 (by decide) ?_
        refine X_aload_n dL_law_1555 rfl ?_
        refine X_callVI (z := 0) dL_law_1556 mkL_133 (k_87 hSh2) (c_thrown Γ g' m2 l' hSh2) rfl rfl (by decide) (Nat.le_of_ble_eq_true rfl) ?_
        rw [hv.2]
        refine X_iload dL_law_1559 rfl ?_
        refine X_icmp_eq 1566 dL_law_1561 (by decide) (fun _ => ?_) (fun h => absurd rfl h)
        refine X_iload dL_law_1566 rfl ?_
        refine X_if_ne 1583 dL_law_1568 (by decide) (fun h => absurd rfl h) (fun _ => ?_)
        refine X_aload_n dL_law_1571 rfl ?_
        refine X_iconst (v := nI 0) dL_law_1572 (by decide) ?_
        refine X_lald 0 dL_law_1573 (k_450 hSh2) rfl (by decide) ?_
        refine X_iload dL_law_1574 rfl ?_
        refine X_i2l dL_law_1576 ?_
        refine X_lcmp dL_law_1577 ?_
        refine X_topi (show lg_cmp (l' 450 0) v3.toInt64 = nI 0 by rw [h5, hv.1]; exact cmp_same _) ?_
        refine X_if_eq 1583 dL_law_1578 (by decide) (fun _ => ?_) (fun h => absurd rfl h)
        refine X_goto 2594 dL_law_1583 (by decide) ?_
        refine X_L [(4, .int (nI i)), (0, .ref 999), (1, .ref 0), (2, .ref 87), (3, .ref 450)] ⟨rfl, rfl, rfl, rfl, rfl, trivial⟩ ?_
        exact hk A' g' m2 l' ⟨hA', CI_M2 h1 hF3, hR3⟩
    | inr j =>
      cases h3
      refine X_istore dL_law_1535 (by decide) ?_
      refine X_aload_n dL_law_1537 rfl ?_
      refine X_aload_n dL_law_1538 rfl ?_
      refine X_iload dL_law_1539 rfl ?_
      refine X_iconst (v := nI 1) dL_law_1541 (by decide) ?_
      refine X_iadd dL_law_1542 ?_
      refine X_topi (nI_add i 1) ?_
      refine X_xld (i + 1) dL_law_1543 rfl (by omega) hL ?_
      refine X_aload_n dL_law_1544 rfl ?_
      refine X_iload dL_law_1545 rfl ?_
      refine X_iconst (v := nI 2) dL_law_1547 (by decide) ?_
      refine X_iadd dL_law_1548 ?_
      refine X_topi (nI_add i 2) ?_
      refine X_xld (i + 2) dL_law_1549 rfl (by omega) hL ?_
      refine X_callV (As := [.int (Γ.2.2.2.2.1.2 (i + 1)), .int (Γ.2.2.2.2.1.2 (i + 2))]) (z := 0) dL_law_1550 mkL_197 (k_87 hSh2) (hr Γ g' m' l' hSh2 hR2) rfl rfl (by decide) (Nat.zero_le _) (Nat.zero_le _) (Nat.le_of_ble_eq_true rfl) (fun E g2 m2 l2 h => ?_) (fun v2 g2 m2 l2 h => ?_)
      · obtain ⟨-, -, -, -, v3, ho, -⟩ := h
        cases ho
      · obtain ⟨hg2, hl2, hR3, hF3, v3, ho, hv⟩ := h
        cases ho
        rw [hg2, hl2]
        refine X_istore dL_law_1553 (by decide) ?_
        refine X_aload_n dL_law_1555 rfl ?_
        refine X_callVI (z := 0) dL_law_1556 mkL_133 (k_87 hSh2) (c_thrown Γ g' m2 l' hSh2) rfl rfl (by decide) (Nat.le_of_ble_eq_true rfl) ?_
        rw [hv]
        refine X_iload dL_law_1559 rfl ?_
        refine X_icmp_eq 1566 dL_law_1561 (by decide) (fun _ => ?_) (fun h => absurd rfl h)
        refine X_iload dL_law_1566 rfl ?_
        refine X_if_ne 1583 dL_law_1568 (by decide) (fun _ => ?_) (fun h => absurd h (cd_ne (hj j rfl).2 (cd2_le j)))
        refine X_goto 2594 dL_law_1583 (by decide) ?_
        refine X_L [(4, .int (nI i)), (0, .ref 999), (1, .ref 0), (2, .ref 87), (3, .ref 450)] ⟨rfl, rfl, rfl, rfl, rfl, trivial⟩ ?_
        exact hk A' g' m2 l' ⟨hA', CI_M2 h1 hF3, hR3⟩
set_option maxRecDepth 100000 in
theorem law_more (Γ : pTG) (hL : Γ.2.2.2.2.1.1 ≤ 4096) (i : Nat) (hi : i + 8 ≤ Γ.2.2.2.2.1.1) {K N : Nat} (hK : 20 ≤ K) (hN : 5000 ≤ N) {g : pGG} {mi : pMI} {ml : pML} {A : AS} (hI : LI A g mi ml) {Q : pQ} (hk : ∀ A' g' m' l', LI A' g' m' l' → XW Γ 100 (K - 20) (N - 5000) mL_law 2594 [(4, .int (nI i)), (0, .ref 999), (1, .ref 0), (2, .ref 87), (3, .ref 450)] [] g' m' l' Q) : XW Γ 100 K N mL_law 1668 [(4, .int (nI i)), (0, .ref 999), (1, .ref 0), (2, .ref 87), (3, .ref 450)] [] g mi ml Q := by
  obtain ⟨hA, hC, hR⟩ := hI
  have hSh := CI_Sh hC
  obtain ⟨x, A', hA', hj, hc, hr⟩ := m_more A hA (Γ.2.2.2.2.1.2 (i + 1)) (Γ.2.2.2.2.1.2 (i + 2))
  refine X_aload_n dL_law_1668 rfl ?_
  refine X_aload_n dL_law_1669 rfl ?_
  refine X_iload dL_law_1670 rfl ?_
  refine X_iconst (v := nI 1) dL_law_1672 (by decide) ?_
  refine X_iadd dL_law_1673 ?_
  refine X_topi (nI_add i 1) ?_
  refine X_xld (i + 1) dL_law_1674 rfl (by omega) hL ?_
  refine X_aload_n dL_law_1675 rfl ?_
  refine X_iload dL_law_1676 rfl ?_
  refine X_iconst (v := nI 2) dL_law_1678 (by decide) ?_
  refine X_iadd dL_law_1679 ?_
  refine X_topi (nI_add i 2) ?_
  refine X_xld (i + 2) dL_law_1680 rfl (by omega) hL ?_
  refine X_aload_n dL_law_1681 rfl ?_
  refine X_callH (As := [.ref 0, .int (Γ.2.2.2.2.1.2 (i + 1)), .int (Γ.2.2.2.2.1.2 (i + 2)), .ref 450]) dL_law_1682 mhL_209 (w_more Γ g mi ml hSh A' x hj (Γ.2.2.2.2.1.2 (i + 1)) (Γ.2.2.2.2.1.2 (i + 2)) (hc Γ g mi ml hC)) rfl rfl (by decide) hK hN (Nat.le_of_ble_eq_true rfl) (fun E g' m' l' h => ?_) (fun v g' m' l' h => ?_)
  · obtain ⟨-, -, h3⟩ := h
    cases x with
    | inl v => cases h3.1
    | inr j => cases h3
  · obtain ⟨h1, h2, h3⟩ := h
    have hSh2 := CI_Sh h1
    have hR2 := RI_K hA hR h2
    cases x with
    | inl w =>
      obtain ⟨h4, h5⟩ := h3
      cases h4
      refine X_istore dL_law_1685 (by decide) ?_
      refine X_aload_n dL_law_1687 rfl ?_
      refine X_aload_n dL_law_1688 rfl ?_
      refine X_iload dL_law_1689 rfl ?_
      refine X_iconst (v := nI 1) dL_law_1691 (by decide) ?_
      refine X_iadd dL_law_1692 ?_
      refine X_topi (nI_add i 1) ?_
      refine X_xld (i + 1) dL_law_1693 rfl (by omega) hL ?_
      refine X_aload_n dL_law_1694 rfl ?_
      refine X_iload dL_law_1695 rfl ?_
      refine X_iconst (v := nI 2) dL_law_1697 (by decide) ?_
      refine X_iadd dL_law_1698 ?_
      refine X_topi (nI_add i 2) ?_
      refine X_xld (i + 2) dL_law_1699 rfl (by omega) hL ?_
      refine X_callV (As := [.int (Γ.2.2.2.2.1.2 (i + 1)), .int (Γ.2.2.2.2.1.2 (i + 2))]) (z := 0) dL_law_1700 mkL_211 (k_87 hSh2) (hr Γ g' m' l' hSh2 hR2) rfl rfl (by decide) (Nat.zero_le _) (Nat.zero_le _) (Nat.le_of_ble_eq_true rfl) (fun E g2 m2 l2 h => ?_) (fun v2 g2 m2 l2 h => ?_)
      · obtain ⟨-, -, -, -, v3, ho, -⟩ := h
        cases ho
      · obtain ⟨hg2, hl2, hR3, hF3, v3, ho, hv⟩ := h
        cases ho
        rw [hg2, hl2]
        refine X_istore dL_law_1703 (by decide) ?_
        refine X_aload_n dL_law_1705 rfl ?_
        refine X_callVI (z := 0) dL_law_1706 mkL_133 (k_87 hSh2) (c_thrown Γ g' m2 l' hSh2) rfl rfl (by decide) (Nat.le_of_ble_eq_true rfl) ?_
        rw [hv.2]
        refine X_iload dL_law_1709 rfl ?_
        refine X_icmp_eq 1716 dL_law_1711 (by decide) (fun _ => ?_) (fun h => absurd rfl h)
        refine X_iload dL_law_1716 rfl ?_
        refine X_if_ne 1733 dL_law_1718 (by decide) (fun h => absurd rfl h) (fun _ => ?_)
        refine X_aload_n dL_law_1721 rfl ?_
        refine X_iconst (v := nI 0) dL_law_1722 (by decide) ?_
        refine X_lald 0 dL_law_1723 (k_450 hSh2) rfl (by decide) ?_
        refine X_iload dL_law_1724 rfl ?_
        refine X_i2l dL_law_1726 ?_
        refine X_lcmp dL_law_1727 ?_
        refine X_topi (show lg_cmp (l' 450 0) v3.toInt64 = nI 0 by rw [h5, hv.1]; exact cmp_same _) ?_
        refine X_if_eq 1733 dL_law_1728 (by decide) (fun _ => ?_) (fun h => absurd rfl h)
        refine X_goto 2594 dL_law_1733 (by decide) ?_
        refine X_L [(4, .int (nI i)), (0, .ref 999), (1, .ref 0), (2, .ref 87), (3, .ref 450)] ⟨rfl, rfl, rfl, rfl, rfl, trivial⟩ ?_
        exact hk A' g' m2 l' ⟨hA', CI_M2 h1 hF3, hR3⟩
    | inr j =>
      cases h3
      refine X_istore dL_law_1685 (by decide) ?_
      refine X_aload_n dL_law_1687 rfl ?_
      refine X_aload_n dL_law_1688 rfl ?_
      refine X_iload dL_law_1689 rfl ?_
      refine X_iconst (v := nI 1) dL_law_1691 (by decide) ?_
      refine X_iadd dL_law_1692 ?_
      refine X_topi (nI_add i 1) ?_
      refine X_xld (i + 1) dL_law_1693 rfl (by omega) hL ?_
      refine X_aload_n dL_law_1694 rfl ?_
      refine X_iload dL_law_1695 rfl ?_
      refine X_iconst (v := nI 2) dL_law_1697 (by decide) ?_
      refine X_iadd dL_law_1698 ?_
      refine X_topi (nI_add i 2) ?_
      refine X_xld (i + 2) dL_law_1699 rfl (by omega) hL ?_
      refine X_callV (As := [.int (Γ.2.2.2.2.1.2 (i + 1)), .int (Γ.2.2.2.2.1.2 (i + 2))]) (z := 0) dL_law_1700 mkL_211 (k_87 hSh2) (hr Γ g' m' l' hSh2 hR2) rfl rfl (by decide) (Nat.zero_le _) (Nat.zero_le _) (Nat.le_of_ble_eq_true rfl) (fun E g2 m2 l2 h => ?_) (fun v2 g2 m2 l2 h => ?_)
      · obtain ⟨-, -, -, -, v3, ho, -⟩ := h
        cases ho
      · obtain ⟨hg2, hl2, hR3, hF3, v3, ho, hv⟩ := h
        cases ho
        rw [hg2, hl2]
        refine X_istore dL_law_1703 (by decide) ?_
        refine X_aload_n dL_law_1705 rfl ?_
        refine X_callVI (z := 0) dL_law_1706 mkL_133 (k_87 hSh2) (c_thrown Γ g' m2 l' hSh2) rfl rfl (by decide) (Nat.le_of_ble_eq_true rfl) ?_
        rw [hv]
        refine X_iload dL_law_1709 rfl ?_
        refine X_icmp_eq 1716 dL_law_1711 (by decide) (fun _ => ?_) (fun h => absurd rfl h)
        refine X_iload dL_law_1716 rfl ?_
        refine X_if_ne 1733 dL_law_1718 (by decide) (fun _ => ?_) (fun h => absurd h (cd_ne (hj j rfl).2 (cd1_le j)))
        refine X_goto 2594 dL_law_1733 (by decide) ?_
        refine X_L [(4, .int (nI i)), (0, .ref 999), (1, .ref 0), (2, .ref 87), (3, .ref 450)] ⟨rfl, rfl, rfl, rfl, rfl, trivial⟩ ?_
        exact hk A' g' m2 l' ⟨hA', CI_M2 h1 hF3, hR3⟩
set_option maxRecDepth 100000 in
theorem law_turnsOf (Γ : pTG) (hL : Γ.2.2.2.2.1.1 ≤ 4096) (i : Nat) (hi : i + 8 ≤ Γ.2.2.2.2.1.1) {K N : Nat} (hK : 20 ≤ K) (hN : 5000 ≤ N) {g : pGG} {mi : pMI} {ml : pML} {A : AS} (hI : LI A g mi ml) {Q : pQ} (hk : ∀ A' g' m' l', LI A' g' m' l' → XW Γ 100 (K - 20) (N - 5000) mL_law 2594 [(4, .int (nI i)), (0, .ref 999), (1, .ref 0), (2, .ref 87), (3, .ref 450)] [] g' m' l' Q) : XW Γ 100 K N mL_law 1904 [(4, .int (nI i)), (0, .ref 999), (1, .ref 0), (2, .ref 87), (3, .ref 450)] [] g mi ml Q := by
  obtain ⟨hA, hC, hR⟩ := hI
  have hSh := CI_Sh hC
  obtain ⟨x, A', hA', hj, hc, hr⟩ := m_turnsOf A hA (Γ.2.2.2.2.1.2 (i + 1))
  refine X_aload_n dL_law_1904 rfl ?_
  refine X_aload_n dL_law_1905 rfl ?_
  refine X_iload dL_law_1906 rfl ?_
  refine X_iconst (v := nI 1) dL_law_1908 (by decide) ?_
  refine X_iadd dL_law_1909 ?_
  refine X_topi (nI_add i 1) ?_
  refine X_xld (i + 1) dL_law_1910 rfl (by omega) hL ?_
  refine X_aload_n dL_law_1911 rfl ?_
  refine X_callH (As := [.ref 0, .int (Γ.2.2.2.2.1.2 (i + 1)), .ref 450]) dL_law_1912 mhL_221 (w_turnsOf Γ g mi ml hSh A' x hj (Γ.2.2.2.2.1.2 (i + 1)) (hc Γ g mi ml hC)) rfl rfl (by decide) hK hN (Nat.le_of_ble_eq_true rfl) (fun E g' m' l' h => ?_) (fun v g' m' l' h => ?_)
  · obtain ⟨-, -, h3⟩ := h
    cases x with
    | inl v => cases h3.1
    | inr j => cases h3
  · obtain ⟨h1, h2, h3⟩ := h
    have hSh2 := CI_Sh h1
    have hR2 := RI_K hA hR h2
    cases x with
    | inl w =>
      obtain ⟨h4, h5⟩ := h3
      cases h4
      refine X_istore dL_law_1915 (by decide) ?_
      refine X_aload_n dL_law_1917 rfl ?_
      refine X_aload_n dL_law_1918 rfl ?_
      refine X_iload dL_law_1919 rfl ?_
      refine X_iconst (v := nI 1) dL_law_1921 (by decide) ?_
      refine X_iadd dL_law_1922 ?_
      refine X_topi (nI_add i 1) ?_
      refine X_xld (i + 1) dL_law_1923 rfl (by omega) hL ?_
      refine X_callV (As := [.int (Γ.2.2.2.2.1.2 (i + 1))]) (z := 0) dL_law_1924 mkL_223 (k_87 hSh2) (hr Γ g' m' l' hSh2 hR2) rfl rfl (by decide) (Nat.zero_le _) (Nat.zero_le _) (Nat.le_of_ble_eq_true rfl) (fun E g2 m2 l2 h => ?_) (fun v2 g2 m2 l2 h => ?_)
      · obtain ⟨-, -, -, -, v3, ho, -⟩ := h
        cases ho
      · obtain ⟨hg2, hl2, hR3, hF3, v3, ho, hv⟩ := h
        cases ho
        rw [hg2, hl2]
        refine X_istore dL_law_1927 (by decide) ?_
        refine X_aload_n dL_law_1929 rfl ?_
        refine X_callVI (z := 0) dL_law_1930 mkL_133 (k_87 hSh2) (c_thrown Γ g' m2 l' hSh2) rfl rfl (by decide) (Nat.le_of_ble_eq_true rfl) ?_
        rw [hv.2]
        refine X_iload dL_law_1933 rfl ?_
        refine X_icmp_eq 1940 dL_law_1935 (by decide) (fun _ => ?_) (fun h => absurd rfl h)
        refine X_iload dL_law_1940 rfl ?_
        refine X_if_ne 1957 dL_law_1942 (by decide) (fun h => absurd rfl h) (fun _ => ?_)
        refine X_aload_n dL_law_1945 rfl ?_
        refine X_iconst (v := nI 0) dL_law_1946 (by decide) ?_
        refine X_lald 0 dL_law_1947 (k_450 hSh2) rfl (by decide) ?_
        refine X_iload dL_law_1948 rfl ?_
        refine X_i2l dL_law_1950 ?_
        refine X_lcmp dL_law_1951 ?_
        refine X_topi (show lg_cmp (l' 450 0) v3.toInt64 = nI 0 by rw [h5, hv.1]; exact cmp_same _) ?_
        refine X_if_eq 1957 dL_law_1952 (by decide) (fun _ => ?_) (fun h => absurd rfl h)
        refine X_goto 2594 dL_law_1957 (by decide) ?_
        refine X_L [(4, .int (nI i)), (0, .ref 999), (1, .ref 0), (2, .ref 87), (3, .ref 450)] ⟨rfl, rfl, rfl, rfl, rfl, trivial⟩ ?_
        exact hk A' g' m2 l' ⟨hA', CI_M2 h1 hF3, hR3⟩
    | inr j =>
      cases h3
      refine X_istore dL_law_1915 (by decide) ?_
      refine X_aload_n dL_law_1917 rfl ?_
      refine X_aload_n dL_law_1918 rfl ?_
      refine X_iload dL_law_1919 rfl ?_
      refine X_iconst (v := nI 1) dL_law_1921 (by decide) ?_
      refine X_iadd dL_law_1922 ?_
      refine X_topi (nI_add i 1) ?_
      refine X_xld (i + 1) dL_law_1923 rfl (by omega) hL ?_
      refine X_callV (As := [.int (Γ.2.2.2.2.1.2 (i + 1))]) (z := 0) dL_law_1924 mkL_223 (k_87 hSh2) (hr Γ g' m' l' hSh2 hR2) rfl rfl (by decide) (Nat.zero_le _) (Nat.zero_le _) (Nat.le_of_ble_eq_true rfl) (fun E g2 m2 l2 h => ?_) (fun v2 g2 m2 l2 h => ?_)
      · obtain ⟨-, -, -, -, v3, ho, -⟩ := h
        cases ho
      · obtain ⟨hg2, hl2, hR3, hF3, v3, ho, hv⟩ := h
        cases ho
        rw [hg2, hl2]
        refine X_istore dL_law_1927 (by decide) ?_
        refine X_aload_n dL_law_1929 rfl ?_
        refine X_callVI (z := 0) dL_law_1930 mkL_133 (k_87 hSh2) (c_thrown Γ g' m2 l' hSh2) rfl rfl (by decide) (Nat.le_of_ble_eq_true rfl) ?_
        rw [hv]
        refine X_iload dL_law_1933 rfl ?_
        refine X_icmp_eq 1940 dL_law_1935 (by decide) (fun _ => ?_) (fun h => absurd rfl h)
        refine X_iload dL_law_1940 rfl ?_
        refine X_if_ne 1957 dL_law_1942 (by decide) (fun _ => ?_) (fun h => absurd h (cd_ne (hj j rfl).2 (cd1_le j)))
        refine X_goto 2594 dL_law_1957 (by decide) ?_
        refine X_L [(4, .int (nI i)), (0, .ref 999), (1, .ref 0), (2, .ref 87), (3, .ref 450)] ⟨rfl, rfl, rfl, rfl, rfl, trivial⟩ ?_
        exact hk A' g' m2 l' ⟨hA', CI_M2 h1 hF3, hR3⟩
set_option maxRecDepth 100000 in
theorem law_fits (Γ : pTG) (hL : Γ.2.2.2.2.1.1 ≤ 4096) (i : Nat) (hi : i + 8 ≤ Γ.2.2.2.2.1.1) {K N : Nat} (hK : 20 ≤ K) (hN : 5000 ≤ N) {g : pGG} {mi : pMI} {ml : pML} {A : AS} (hI : LI A g mi ml) {Q : pQ} (hk : ∀ A' g' m' l', LI A' g' m' l' → XW Γ 100 (K - 20) (N - 5000) mL_law 2594 [(4, .int (nI i)), (0, .ref 999), (1, .ref 0), (2, .ref 87), (3, .ref 450)] [] g' m' l' Q) : XW Γ 100 K N mL_law 2188 [(4, .int (nI i)), (0, .ref 999), (1, .ref 0), (2, .ref 87), (3, .ref 450)] [] g mi ml Q := by
  obtain ⟨hA, hC, hR⟩ := hI
  have hSh := CI_Sh hC
  obtain ⟨x, A', hA', hj, hc, hr⟩ := m_fits A hA (Γ.2.2.2.2.1.2 (i + 1))
  refine X_aload_n dL_law_2188 rfl ?_
  refine X_aload_n dL_law_2189 rfl ?_
  refine X_iload dL_law_2190 rfl ?_
  refine X_iconst (v := nI 1) dL_law_2192 (by decide) ?_
  refine X_iadd dL_law_2193 ?_
  refine X_topi (nI_add i 1) ?_
  refine X_xld (i + 1) dL_law_2194 rfl (by omega) hL ?_
  refine X_aload_n dL_law_2195 rfl ?_
  refine X_callH (As := [.ref 0, .int (Γ.2.2.2.2.1.2 (i + 1)), .ref 450]) dL_law_2196 mhL_233 (w_fits Γ g mi ml hSh A' x hj (Γ.2.2.2.2.1.2 (i + 1)) (hc Γ g mi ml hC)) rfl rfl (by decide) hK hN (Nat.le_of_ble_eq_true rfl) (fun E g' m' l' h => ?_) (fun v g' m' l' h => ?_)
  · obtain ⟨-, -, h3⟩ := h
    cases x with
    | inl v => cases h3.1
    | inr j => cases h3
  · obtain ⟨h1, h2, h3⟩ := h
    have hSh2 := CI_Sh h1
    have hR2 := RI_K hA hR h2
    cases x with
    | inl w =>
      obtain ⟨h4, h5⟩ := h3
      cases h4
      refine X_istore dL_law_2199 (by decide) ?_
      refine X_aload_n dL_law_2201 rfl ?_
      refine X_aload_n dL_law_2202 rfl ?_
      refine X_iload dL_law_2203 rfl ?_
      refine X_iconst (v := nI 1) dL_law_2205 (by decide) ?_
      refine X_iadd dL_law_2206 ?_
      refine X_topi (nI_add i 1) ?_
      refine X_xld (i + 1) dL_law_2207 rfl (by omega) hL ?_
      refine X_callV (As := [.int (Γ.2.2.2.2.1.2 (i + 1))]) (z := 0) dL_law_2208 mkL_235 (k_87 hSh2) (hr Γ g' m' l' hSh2 hR2) rfl rfl (by decide) (Nat.zero_le _) (Nat.zero_le _) (Nat.le_of_ble_eq_true rfl) (fun E g2 m2 l2 h => ?_) (fun v2 g2 m2 l2 h => ?_)
      · obtain ⟨-, -, -, -, v3, ho, -⟩ := h
        cases ho
      · obtain ⟨hg2, hl2, hR3, hF3, v3, ho, hv⟩ := h
        cases ho
        rw [hg2, hl2]
        refine X_istore dL_law_2211 (by decide) ?_
        refine X_aload_n dL_law_2213 rfl ?_
        refine X_callVI (z := 0) dL_law_2214 mkL_133 (k_87 hSh2) (c_thrown Γ g' m2 l' hSh2) rfl rfl (by decide) (Nat.le_of_ble_eq_true rfl) ?_
        rw [hv.2]
        refine X_iload dL_law_2217 rfl ?_
        refine X_icmp_eq 2224 dL_law_2219 (by decide) (fun _ => ?_) (fun h => absurd rfl h)
        refine X_iload dL_law_2224 rfl ?_
        refine X_if_ne 2241 dL_law_2226 (by decide) (fun h => absurd rfl h) (fun _ => ?_)
        refine X_aload_n dL_law_2229 rfl ?_
        refine X_iconst (v := nI 0) dL_law_2230 (by decide) ?_
        refine X_lald 0 dL_law_2231 (k_450 hSh2) rfl (by decide) ?_
        refine X_iload dL_law_2232 rfl ?_
        refine X_i2l dL_law_2234 ?_
        refine X_lcmp dL_law_2235 ?_
        refine X_topi (show lg_cmp (l' 450 0) v3.toInt64 = nI 0 by rw [h5, hv.1]; exact cmp_same _) ?_
        refine X_if_eq 2241 dL_law_2236 (by decide) (fun _ => ?_) (fun h => absurd rfl h)
        refine X_goto 2594 dL_law_2241 (by decide) ?_
        refine X_L [(4, .int (nI i)), (0, .ref 999), (1, .ref 0), (2, .ref 87), (3, .ref 450)] ⟨rfl, rfl, rfl, rfl, rfl, trivial⟩ ?_
        exact hk A' g' m2 l' ⟨hA', CI_M2 h1 hF3, hR3⟩
    | inr j =>
      cases h3
      refine X_istore dL_law_2199 (by decide) ?_
      refine X_aload_n dL_law_2201 rfl ?_
      refine X_aload_n dL_law_2202 rfl ?_
      refine X_iload dL_law_2203 rfl ?_
      refine X_iconst (v := nI 1) dL_law_2205 (by decide) ?_
      refine X_iadd dL_law_2206 ?_
      refine X_topi (nI_add i 1) ?_
      refine X_xld (i + 1) dL_law_2207 rfl (by omega) hL ?_
      refine X_callV (As := [.int (Γ.2.2.2.2.1.2 (i + 1))]) (z := 0) dL_law_2208 mkL_235 (k_87 hSh2) (hr Γ g' m' l' hSh2 hR2) rfl rfl (by decide) (Nat.zero_le _) (Nat.zero_le _) (Nat.le_of_ble_eq_true rfl) (fun E g2 m2 l2 h => ?_) (fun v2 g2 m2 l2 h => ?_)
      · obtain ⟨-, -, -, -, v3, ho, -⟩ := h
        cases ho
      · obtain ⟨hg2, hl2, hR3, hF3, v3, ho, hv⟩ := h
        cases ho
        rw [hg2, hl2]
        refine X_istore dL_law_2211 (by decide) ?_
        refine X_aload_n dL_law_2213 rfl ?_
        refine X_callVI (z := 0) dL_law_2214 mkL_133 (k_87 hSh2) (c_thrown Γ g' m2 l' hSh2) rfl rfl (by decide) (Nat.le_of_ble_eq_true rfl) ?_
        rw [hv]
        refine X_iload dL_law_2217 rfl ?_
        refine X_icmp_eq 2224 dL_law_2219 (by decide) (fun _ => ?_) (fun h => absurd rfl h)
        refine X_iload dL_law_2224 rfl ?_
        refine X_if_ne 2241 dL_law_2226 (by decide) (fun _ => ?_) (fun h => absurd h (cd_ne (hj j rfl).2 (cd0_le j)))
        refine X_goto 2594 dL_law_2241 (by decide) ?_
        refine X_L [(4, .int (nI i)), (0, .ref 999), (1, .ref 0), (2, .ref 87), (3, .ref 450)] ⟨rfl, rfl, rfl, rfl, rfl, trivial⟩ ?_
        exact hk A' g' m2 l' ⟨hA', CI_M2 h1 hF3, hR3⟩
set_option maxRecDepth 100000 in
theorem law_hire (Γ : pTG) (hL : Γ.2.2.2.2.1.1 ≤ 4096) (i : Nat) (hi : i + 8 ≤ Γ.2.2.2.2.1.1) {K N : Nat} (hK : 20 ≤ K) (hN : 5000 ≤ N) {g : pGG} {mi : pMI} {ml : pML} {A : AS} (hI : LI A g mi ml) {Q : pQ} (hk : ∀ A' g' m' l', LI A' g' m' l' → XW Γ 100 (K - 20) (N - 5000) mL_law 2594 [(4, .int (nI i)), (0, .ref 999), (1, .ref 0), (2, .ref 87), (3, .ref 450)] [] g' m' l' Q) : XW Γ 100 K N mL_law 2381 [(4, .int (nI i)), (0, .ref 999), (1, .ref 0), (2, .ref 87), (3, .ref 450)] [] g mi ml Q := by
  obtain ⟨hA, hC, hR⟩ := hI
  have hSh := CI_Sh hC
  obtain ⟨x, A', hA', hj, hc, hr⟩ := m_hire A hA (Γ.2.2.2.2.1.2 (i + 1))
  refine X_aload_n dL_law_2381 rfl ?_
  refine X_aload_n dL_law_2382 rfl ?_
  refine X_iload dL_law_2383 rfl ?_
  refine X_iconst (v := nI 1) dL_law_2385 (by decide) ?_
  refine X_iadd dL_law_2386 ?_
  refine X_topi (nI_add i 1) ?_
  refine X_xld (i + 1) dL_law_2387 rfl (by omega) hL ?_
  refine X_aload_n dL_law_2388 rfl ?_
  refine X_callH (As := [.ref 0, .int (Γ.2.2.2.2.1.2 (i + 1)), .ref 450]) dL_law_2389 mhL_246 (w_hire Γ g mi ml hSh A' x hj (Γ.2.2.2.2.1.2 (i + 1)) (hc Γ g mi ml hC)) rfl rfl (by decide) hK hN (Nat.le_of_ble_eq_true rfl) (fun E g' m' l' h => ?_) (fun v g' m' l' h => ?_)
  · obtain ⟨-, -, h3⟩ := h
    cases x with
    | inl v => cases h3.1
    | inr j => cases h3
  · obtain ⟨h1, h2, h3⟩ := h
    have hSh2 := CI_Sh h1
    have hR2 := RI_K hA hR h2
    cases x with
    | inl w =>
      obtain ⟨h4, h5⟩ := h3
      cases h4
      refine X_istore dL_law_2392 (by decide) ?_
      refine X_aload_n dL_law_2394 rfl ?_
      refine X_aload_n dL_law_2395 rfl ?_
      refine X_iload dL_law_2396 rfl ?_
      refine X_iconst (v := nI 1) dL_law_2398 (by decide) ?_
      refine X_iadd dL_law_2399 ?_
      refine X_topi (nI_add i 1) ?_
      refine X_xld (i + 1) dL_law_2400 rfl (by omega) hL ?_
      refine X_callV (As := [.int (Γ.2.2.2.2.1.2 (i + 1))]) (z := 0) dL_law_2401 mkL_248 (k_87 hSh2) (hr Γ g' m' l' hSh2 hR2) rfl rfl (by decide) (Nat.zero_le _) (Nat.zero_le _) (Nat.le_of_ble_eq_true rfl) (fun E g2 m2 l2 h => ?_) (fun v2 g2 m2 l2 h => ?_)
      · obtain ⟨-, -, -, -, v3, ho, -⟩ := h
        cases ho
      · obtain ⟨hg2, hl2, hR3, hF3, v3, ho, hv⟩ := h
        cases ho
        rw [hg2, hl2]
        refine X_istore dL_law_2404 (by decide) ?_
        refine X_aload_n dL_law_2406 rfl ?_
        refine X_callVI (z := 0) dL_law_2407 mkL_133 (k_87 hSh2) (c_thrown Γ g' m2 l' hSh2) rfl rfl (by decide) (Nat.le_of_ble_eq_true rfl) ?_
        rw [hv.2]
        refine X_iload dL_law_2410 rfl ?_
        refine X_icmp_eq 2417 dL_law_2412 (by decide) (fun _ => ?_) (fun h => absurd rfl h)
        refine X_iload dL_law_2417 rfl ?_
        refine X_if_ne 2434 dL_law_2419 (by decide) (fun h => absurd rfl h) (fun _ => ?_)
        refine X_aload_n dL_law_2422 rfl ?_
        refine X_iconst (v := nI 0) dL_law_2423 (by decide) ?_
        refine X_lald 0 dL_law_2424 (k_450 hSh2) rfl (by decide) ?_
        refine X_iload dL_law_2425 rfl ?_
        refine X_i2l dL_law_2427 ?_
        refine X_lcmp dL_law_2428 ?_
        refine X_topi (show lg_cmp (l' 450 0) v3.toInt64 = nI 0 by rw [h5, hv.1]; exact cmp_same _) ?_
        refine X_if_eq 2434 dL_law_2429 (by decide) (fun _ => ?_) (fun h => absurd rfl h)
        refine X_goto 2594 dL_law_2434 (by decide) ?_
        refine X_L [(4, .int (nI i)), (0, .ref 999), (1, .ref 0), (2, .ref 87), (3, .ref 450)] ⟨rfl, rfl, rfl, rfl, rfl, trivial⟩ ?_
        exact hk A' g' m2 l' ⟨hA', CI_M2 h1 hF3, hR3⟩
    | inr j =>
      cases h3
      refine X_istore dL_law_2392 (by decide) ?_
      refine X_aload_n dL_law_2394 rfl ?_
      refine X_aload_n dL_law_2395 rfl ?_
      refine X_iload dL_law_2396 rfl ?_
      refine X_iconst (v := nI 1) dL_law_2398 (by decide) ?_
      refine X_iadd dL_law_2399 ?_
      refine X_topi (nI_add i 1) ?_
      refine X_xld (i + 1) dL_law_2400 rfl (by omega) hL ?_
      refine X_callV (As := [.int (Γ.2.2.2.2.1.2 (i + 1))]) (z := 0) dL_law_2401 mkL_248 (k_87 hSh2) (hr Γ g' m' l' hSh2 hR2) rfl rfl (by decide) (Nat.zero_le _) (Nat.zero_le _) (Nat.le_of_ble_eq_true rfl) (fun E g2 m2 l2 h => ?_) (fun v2 g2 m2 l2 h => ?_)
      · obtain ⟨-, -, -, -, v3, ho, -⟩ := h
        cases ho
      · obtain ⟨hg2, hl2, hR3, hF3, v3, ho, hv⟩ := h
        cases ho
        rw [hg2, hl2]
        refine X_istore dL_law_2404 (by decide) ?_
        refine X_aload_n dL_law_2406 rfl ?_
        refine X_callVI (z := 0) dL_law_2407 mkL_133 (k_87 hSh2) (c_thrown Γ g' m2 l' hSh2) rfl rfl (by decide) (Nat.le_of_ble_eq_true rfl) ?_
        rw [hv]
        refine X_iload dL_law_2410 rfl ?_
        refine X_icmp_eq 2417 dL_law_2412 (by decide) (fun _ => ?_) (fun h => absurd rfl h)
        refine X_iload dL_law_2417 rfl ?_
        refine X_if_ne 2434 dL_law_2419 (by decide) (fun _ => ?_) (fun h => absurd h (cd_ne (hj j rfl).2 (cd1_le j)))
        refine X_goto 2594 dL_law_2434 (by decide) ?_
        refine X_L [(4, .int (nI i)), (0, .ref 999), (1, .ref 0), (2, .ref 87), (3, .ref 450)] ⟨rfl, rfl, rfl, rfl, rfl, trivial⟩ ?_
        exact hk A' g' m2 l' ⟨hA', CI_M2 h1 hF3, hR3⟩
set_option maxRecDepth 100000 in
theorem law_restore (Γ : pTG) (hL : Γ.2.2.2.2.1.1 ≤ 4096) (i : Nat) (hi : i + 8 ≤ Γ.2.2.2.2.1.1) {K N : Nat} (hK : 20 ≤ K) (hN : 5000 ≤ N) {g : pGG} {mi : pMI} {ml : pML} {A : AS} (hI : LI A g mi ml) {Q : pQ} (hk : ∀ A' g' m' l', LI A' g' m' l' → XW Γ 100 (K - 20) (N - 5000) mL_law 2594 [(4, .int (nI i)), (0, .ref 999), (1, .ref 0), (2, .ref 87), (3, .ref 450)] [] g' m' l' Q) : XW Γ 100 K N mL_law 2531 [(4, .int (nI i)), (0, .ref 999), (1, .ref 0), (2, .ref 87), (3, .ref 450)] [] g mi ml Q := by
  obtain ⟨hA, hC, hR⟩ := hI
  have hSh := CI_Sh hC
  obtain ⟨x, A', hA', hj, hc, hr⟩ := m_restore A hA
  refine X_aload_n dL_law_2531 rfl ?_
  refine X_callV (As := []) (z := 0) dL_law_2532 mkL_260 (k_0 hSh) (hc Γ g mi ml hC) rfl rfl (by decide) hK hN (Nat.le_of_ble_eq_true rfl) (fun E g' m' l' h => ?_) (fun v g' m' l' h => ?_)
  · obtain ⟨h1, h2, h3, h4⟩ := h
    cases x with
    | inl v => cases h1
    | inr j => exact absurd rfl (hj j rfl).2
  · obtain ⟨h1, h2, h3, h4⟩ := h
    cases x with
    | inr j => exact absurd rfl (hj j rfl).2
    | inl v' =>
      cases h1
      have hSh2 := CI_Sh h2
      have hR2 := RI_K hA hR h3
      refine X_aload_n dL_law_2535 rfl ?_
      refine X_callV (As := []) (z := 0) dL_law_2536 mkL_263 (k_87 hSh2) (hr Γ g' m' l' hSh2 hR2) rfl rfl (by decide) (Nat.zero_le _) (Nat.zero_le _) (Nat.le_of_ble_eq_true rfl) (fun E g2 m2 l2 h => ?_) (fun v2 g2 m2 l2 h => ?_)
      · obtain ⟨-, -, -, -, v3, ho, -⟩ := h
        cases ho
      · obtain ⟨hg2, hl2, hR3, hF3, v3, ho, hv⟩ := h
        cases ho
        rw [hg2, hl2]
        refine X_icmp_eq 2594 dL_law_2539 (by decide) (fun _ => ?_) (fun h => absurd hv.1.symm h)
        refine X_L [(4, .int (nI i)), (0, .ref 999), (1, .ref 0), (2, .ref 87), (3, .ref 450)] ⟨rfl, rfl, rfl, rfl, rfl, trivial⟩ ?_
        exact hk A' g' m2 l' ⟨hA', CI_M2 h2 hF3, hR3⟩

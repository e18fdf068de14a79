theorem nI10 : ¬ (nI 1 = 0) := by decide
def xIAE : String := "java/lang/IllegalArgumentException"
def xNSE : String := "java/util/NoSuchElementException"
def xISE : String := "java/lang/IllegalStateException"
/-- a test that lets pass (nothing changes) or counts a refusal and throws -/
def qN (g : pGG) (mi : pMI) (ml : pML) (ok : Prop) (E : String) (j : Nat) : pQ := fun o g' mi' ml' => g' = g ∧ ml' = ml ∧ ((ok ∧ o = .inl none ∧ mi' = mi) ∨ (¬ ok ∧ o = .inr E ∧ mi' = up2 mi 86 j (mi 86 j + nI 1)))
set_option maxRecDepth 100000 in
set_option maxHeartbeats 4000000 in
theorem c_needArgument (Γ : pTG) (g : pGG) (mi : pMI) (ml : pML) (hSh : Sh g) (b : Int32) : CT Γ 7 1 6 mX11_needArgument [.ref 0, .int b] g mi ml (qN g mi ml (¬ b = 0) xIAE 1) := by
  refine CT_of (by decide +kernel) (Nat.le_of_ble_eq_true rfl) ?_
  refine X_iload_n dX11_needArgument_0 rfl ?_
  refine X_if_ne 25 dX11_needArgument_1 (by decide) (fun h_1 => ?_) (fun h_1 => ?_)
  · exact X_vret dX11_needArgument_25 rfl ⟨rfl, rfl, Or.inl ⟨by first | assumption | (simp_all [← Int32.not_lt]; done), rfl, rfl⟩⟩
  · refine X_aload_n dX11_needArgument_4 rfl ?_
    refine X_getr (a := 86) dX11_needArgument_5 fkX11_101 rfl (k_0 hSh) (r_0_15 hSh) ?_
    refine X_iconst (v := nI 1) dX11_needArgument_8 (by decide) ?_
    refine X_dup2 dX11_needArgument_9 rfl rfl ?_
    refine X_iald 1 dX11_needArgument_10 (k_86 hSh) rfl (by omega) ?_
    refine X_iconst (v := nI 1) dX11_needArgument_11 (by decide) ?_
    refine X_iadd dX11_needArgument_12 ?_
    refine X_iast 1 dX11_needArgument_13 (k_86 hSh) rfl (by omega) ?_
    exact X_throw thA dX11_needArgument_14 dX11_needArgument_17 dX11_needArgument_18 dX11_needArgument_21 dX11_needArgument_24 (by decide) (by decide) (by decide) (by decide) (⟨rfl, rfl, Or.inr ⟨by first | assumption | (simp_all [← Int32.not_lt]; done), rfl, rfl⟩⟩)
set_option maxRecDepth 100000 in
set_option maxHeartbeats 4000000 in
theorem c_needGuest (Γ : pTG) (g : pGG) (mi : pMI) (ml : pML) (hSh : Sh g) (v : Int32) : CT Γ 7 1 6 mX11_needGuest [.ref 0, .int v] g mi ml (qN g mi ml (¬ v < 0 ∧ v < mi 3 10) xNSE 0) := by
  refine CT_of (by decide +kernel) (Nat.le_of_ble_eq_true rfl) ?_
  refine X_iload_n dX11_needGuest_0 rfl ?_
  refine X_if_lt 15 dX11_needGuest_1 (by decide) (fun h_1 => ?_) (fun h_1 => ?_)
  · refine X_aload_n dX11_needGuest_15 rfl ?_
    refine X_getr (a := 86) dX11_needGuest_16 fkX11_101 rfl (k_0 hSh) (r_0_15 hSh) ?_
    refine X_iconst (v := nI 0) dX11_needGuest_19 (by decide) ?_
    refine X_dup2 dX11_needGuest_20 rfl rfl ?_
    refine X_iald 0 dX11_needGuest_21 (k_86 hSh) rfl (by omega) ?_
    refine X_iconst (v := nI 1) dX11_needGuest_22 (by decide) ?_
    refine X_iadd dX11_needGuest_23 ?_
    refine X_iast 0 dX11_needGuest_24 (k_86 hSh) rfl (by omega) ?_
    exact X_throw thG dX11_needGuest_25 dX11_needGuest_28 dX11_needGuest_29 dX11_needGuest_32 dX11_needGuest_35 (by decide) (by decide) (by decide) (by decide) (⟨rfl, rfl, Or.inr ⟨by first | assumption | (simp_all [← Int32.not_lt]; done), rfl, rfl⟩⟩)
  · refine X_iload_n dX11_needGuest_4 rfl ?_
    refine X_aload_n dX11_needGuest_5 rfl ?_
    refine X_getr (a := 3) dX11_needGuest_6 fkX11_25 rfl (k_0 hSh) (r_0_2 hSh) ?_
    refine X_geti dX11_needGuest_9 fkX11_144 rfl (k_3 hSh) ?_
    refine X_icmp_lt 36 dX11_needGuest_12 (by decide) (fun h_2 => ?_) (fun h_2 => ?_)
    · exact X_vret dX11_needGuest_36 rfl ⟨rfl, rfl, Or.inl ⟨by first | assumption | (simp_all [← Int32.not_lt]; done), rfl, rfl⟩⟩
    · refine X_aload_n dX11_needGuest_15 rfl ?_
      refine X_getr (a := 86) dX11_needGuest_16 fkX11_101 rfl (k_0 hSh) (r_0_15 hSh) ?_
      refine X_iconst (v := nI 0) dX11_needGuest_19 (by decide) ?_
      refine X_dup2 dX11_needGuest_20 rfl rfl ?_
      refine X_iald 0 dX11_needGuest_21 (k_86 hSh) rfl (by omega) ?_
      refine X_iconst (v := nI 1) dX11_needGuest_22 (by decide) ?_
      refine X_iadd dX11_needGuest_23 ?_
      refine X_iast 0 dX11_needGuest_24 (k_86 hSh) rfl (by omega) ?_
      exact X_throw thG dX11_needGuest_25 dX11_needGuest_28 dX11_needGuest_29 dX11_needGuest_32 dX11_needGuest_35 (by decide) (by decide) (by decide) (by decide) (⟨rfl, rfl, Or.inr ⟨by first | assumption | (simp_all [← Int32.not_lt]; done), rfl, rfl⟩⟩)
set_option maxRecDepth 100000 in
set_option maxHeartbeats 4000000 in
theorem c_needChair (Γ : pTG) (g : pGG) (mi : pMI) (ml : pML) (hSh : Sh g) (v : Int32) : CT Γ 7 1 6 mX11_needChair [.ref 0, .int v] g mi ml (qN g mi ml (¬ v < 0 ∧ v < mi 3 9) xNSE 0) := by
  refine CT_of (by decide +kernel) (Nat.le_of_ble_eq_true rfl) ?_
  refine X_iload_n dX11_needChair_0 rfl ?_
  refine X_if_lt 15 dX11_needChair_1 (by decide) (fun h_1 => ?_) (fun h_1 => ?_)
  · refine X_aload_n dX11_needChair_15 rfl ?_
    refine X_getr (a := 86) dX11_needChair_16 fkX11_101 rfl (k_0 hSh) (r_0_15 hSh) ?_
    refine X_iconst (v := nI 0) dX11_needChair_19 (by decide) ?_
    refine X_dup2 dX11_needChair_20 rfl rfl ?_
    refine X_iald 0 dX11_needChair_21 (k_86 hSh) rfl (by omega) ?_
    refine X_iconst (v := nI 1) dX11_needChair_22 (by decide) ?_
    refine X_iadd dX11_needChair_23 ?_
    refine X_iast 0 dX11_needChair_24 (k_86 hSh) rfl (by omega) ?_
    exact X_throw thC dX11_needChair_25 dX11_needChair_28 dX11_needChair_29 dX11_needChair_32 dX11_needChair_35 (by decide) (by decide) (by decide) (by decide) (⟨rfl, rfl, Or.inr ⟨by first | assumption | (simp_all [← Int32.not_lt]; done), rfl, rfl⟩⟩)
  · refine X_iload_n dX11_needChair_4 rfl ?_
    refine X_aload_n dX11_needChair_5 rfl ?_
    refine X_getr (a := 3) dX11_needChair_6 fkX11_25 rfl (k_0 hSh) (r_0_2 hSh) ?_
    refine X_geti dX11_needChair_9 fkX11_172 rfl (k_3 hSh) ?_
    refine X_icmp_lt 36 dX11_needChair_12 (by decide) (fun h_2 => ?_) (fun h_2 => ?_)
    · exact X_vret dX11_needChair_36 rfl ⟨rfl, rfl, Or.inl ⟨by first | assumption | (simp_all [← Int32.not_lt]; done), rfl, rfl⟩⟩
    · refine X_aload_n dX11_needChair_15 rfl ?_
      refine X_getr (a := 86) dX11_needChair_16 fkX11_101 rfl (k_0 hSh) (r_0_15 hSh) ?_
      refine X_iconst (v := nI 0) dX11_needChair_19 (by decide) ?_
      refine X_dup2 dX11_needChair_20 rfl rfl ?_
      refine X_iald 0 dX11_needChair_21 (k_86 hSh) rfl (by omega) ?_
      refine X_iconst (v := nI 1) dX11_needChair_22 (by decide) ?_
      refine X_iadd dX11_needChair_23 ?_
      refine X_iast 0 dX11_needChair_24 (k_86 hSh) rfl (by omega) ?_
      exact X_throw thC dX11_needChair_25 dX11_needChair_28 dX11_needChair_29 dX11_needChair_32 dX11_needChair_35 (by decide) (by decide) (by decide) (by decide) (⟨rfl, rfl, Or.inr ⟨by first | assumption | (simp_all [← Int32.not_lt]; done), rfl, rfl⟩⟩)
set_option maxRecDepth 100000 in
set_option maxHeartbeats 4000000 in
theorem c_needFewGuests (Γ : pTG) (g : pGG) (mi : pMI) (ml : pML) (hSh : Sh g)  : CT Γ 7 1 6 mX11_needFewGuests [.ref 0] g mi ml (qN g mi ml (¬ nI 4 < mi 3 10) xISE 2) := by
  refine CT_of (by decide +kernel) (Nat.le_of_ble_eq_true rfl) ?_
  refine X_aload_n dX11_needFewGuests_0 rfl ?_
  refine X_getr (a := 3) dX11_needFewGuests_1 fkX11_25 rfl (k_0 hSh) (r_0_2 hSh) ?_
  refine X_geti dX11_needFewGuests_4 fkX11_144 rfl (k_3 hSh) ?_
  refine X_iconst (v := nI 4) dX11_needFewGuests_7 (by decide) ?_
  refine X_icmp_le 32 dX11_needFewGuests_8 (by decide) (fun h_1 => ?_) (fun h_1 => ?_)
  · exact X_vret dX11_needFewGuests_32 rfl ⟨rfl, rfl, Or.inl ⟨by first | assumption | (simp_all [← Int32.not_lt]; done), rfl, rfl⟩⟩
  · refine X_aload_n dX11_needFewGuests_11 rfl ?_
    refine X_getr (a := 86) dX11_needFewGuests_12 fkX11_101 rfl (k_0 hSh) (r_0_15 hSh) ?_
    refine X_iconst (v := nI 2) dX11_needFewGuests_15 (by decide) ?_
    refine X_dup2 dX11_needFewGuests_16 rfl rfl ?_
    refine X_iald 2 dX11_needFewGuests_17 (k_86 hSh) rfl (by omega) ?_
    refine X_iconst (v := nI 1) dX11_needFewGuests_18 (by decide) ?_
    refine X_iadd dX11_needFewGuests_19 ?_
    refine X_iast 2 dX11_needFewGuests_20 (k_86 hSh) rfl (by omega) ?_
    exact X_throw thS dX11_needFewGuests_21 dX11_needFewGuests_24 dX11_needFewGuests_25 dX11_needFewGuests_28 dX11_needFewGuests_31 (by decide) (by decide) (by decide) (by decide) (⟨rfl, rfl, Or.inr ⟨by first | assumption | (simp_all [← Int32.not_lt]; done), rfl, rfl⟩⟩)
set_option maxRecDepth 100000 in
set_option maxHeartbeats 4000000 in
theorem c_needWithin (Γ : pTG) (g : pGG) (mi : pMI) (ml : pML) (hSh : Sh g) (v a b : Int32) : CT Γ 8 1 6 mX11_needWithin [.ref 0, .int v, .int a, .int b] g mi ml (qN g mi ml (a ≤ v ∧ v ≤ b) xIAE 1) := by
  refine CT_of (by decide +kernel) (Nat.le_of_ble_eq_true rfl) ?_
  refine X_aload_n dX11_needWithin_0 rfl ?_
  refine X_iload_n dX11_needWithin_1 rfl ?_
  refine X_iload_n dX11_needWithin_2 rfl ?_
  refine X_icmp_lt 15 dX11_needWithin_3 (by decide) (fun h_1 => ?_) (fun h_1 => ?_)
  · refine X_iconst (v := nI 0) dX11_needWithin_15 (by decide) ?_
    refine X_callV dX11_needWithin_16 mkX11_296 (k_0 hSh) (c_needArgument Γ g mi ml hSh _) rfl rfl (by decide) (by decide) (by decide) (by decide) (fun E g' mi' ml' h => ?_) (fun v g' mi' ml' h => ?_)
    · obtain ⟨rfl, rfl, ⟨h1, h2, rfl⟩ | ⟨h1, h2, rfl⟩⟩ := h
      · cases h2
      · cases h2; exact ⟨rfl, rfl, Or.inr ⟨by simp_all [← Int32.not_lt, nI_0, nI10], rfl, rfl⟩⟩
    · obtain ⟨rfl, rfl, ⟨h1, h2, rfl⟩ | ⟨h1, h2, rfl⟩⟩ := h
      · cases h2
        exact X_vret dX11_needWithin_19 rfl ⟨rfl, rfl, Or.inl ⟨by simp_all [← Int32.not_lt, nI_0, nI10], rfl, rfl⟩⟩
      · cases h2
  · refine X_iload_n dX11_needWithin_6 rfl ?_
    refine X_iload_n dX11_needWithin_7 rfl ?_
    refine X_icmp_gt 15 dX11_needWithin_8 (by decide) (fun h_2 => ?_) (fun h_2 => ?_)
    · refine X_iconst (v := nI 0) dX11_needWithin_15 (by decide) ?_
      refine X_callV dX11_needWithin_16 mkX11_296 (k_0 hSh) (c_needArgument Γ g mi ml hSh _) rfl rfl (by decide) (by decide) (by decide) (by decide) (fun E g' mi' ml' h => ?_) (fun v g' mi' ml' h => ?_)
      · obtain ⟨rfl, rfl, ⟨h1, h2, rfl⟩ | ⟨h1, h2, rfl⟩⟩ := h
        · cases h2
        · cases h2; exact ⟨rfl, rfl, Or.inr ⟨by simp_all [← Int32.not_lt, nI_0, nI10], rfl, rfl⟩⟩
      · obtain ⟨rfl, rfl, ⟨h1, h2, rfl⟩ | ⟨h1, h2, rfl⟩⟩ := h
        · cases h2
          exact X_vret dX11_needWithin_19 rfl ⟨rfl, rfl, Or.inl ⟨by simp_all [← Int32.not_lt, nI_0, nI10], rfl, rfl⟩⟩
        · cases h2
    · refine X_iconst (v := nI 1) dX11_needWithin_11 (by decide) ?_
      refine X_goto 16 dX11_needWithin_12 (by decide) ?_
      refine X_callV dX11_needWithin_16 mkX11_296 (k_0 hSh) (c_needArgument Γ g mi ml hSh _) rfl rfl (by decide) (by decide) (by decide) (by decide) (fun E g' mi' ml' h => ?_) (fun v g' mi' ml' h => ?_)
      · obtain ⟨rfl, rfl, ⟨h1, h2, rfl⟩ | ⟨h1, h2, rfl⟩⟩ := h
        · cases h2
        · cases h2; exact ⟨rfl, rfl, Or.inr ⟨by simp_all [← Int32.not_lt, nI_0, nI10], rfl, rfl⟩⟩
      · obtain ⟨rfl, rfl, ⟨h1, h2, rfl⟩ | ⟨h1, h2, rfl⟩⟩ := h
        · cases h2
          exact X_vret dX11_needWithin_19 rfl ⟨rfl, rfl, Or.inl ⟨by simp_all [← Int32.not_lt, nI_0, nI10], rfl, rfl⟩⟩
        · cases h2

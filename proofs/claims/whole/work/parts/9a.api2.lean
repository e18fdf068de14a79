set_option maxRecDepth 100000 in
set_option maxHeartbeats 4000000 in
theorem k_count_0 (Γ : pTG) (g : pGG) (mi : pMI) (ml : pML) (A : AS) (hA : okAS A) (hC : CI A g mi ml)  : CT Γ 60 20 5000 mX11_count [.ref 0, .int (nI 0)] g mi ml (CQ A (.inl (nI (aIn A))) mi ml) := by
  refine CT_of (by decide +kernel) (Nat.le_of_ble_eq_true rfl) ?_
  have hSh := CI_Sh hC
  have hcl := CI_cl hC
  have hP := hA.1
  have hG8 : aG A ≤ 8 := hP.2.1
  have hC8 : (aP A).1 ≤ 8 := hP.1
  refine X_iload_n dX11_count_0 rfl ?_
  refine X_tableIn 28 dX11_count_1 (by decide) (by decide) rfl (by decide) ?_
  refine X_aload_n dX11_count_28 rfl ?_
  refine X_getr (a := 81) dX11_count_29 fkX11_91 rfl (k_0 hSh) (r_0_12 hSh) ?_
  refine X_geti dX11_count_32 fkX11_368 rfl (k_81 hSh) ?_
  exact X_iret dX11_count_35 rfl ⟨congrArg (fun z => Sum.inl (some (Value.int z))) ((CI_k hC).2.2.2.1), hC, frK_r, rfl⟩
set_option maxRecDepth 100000 in
set_option maxHeartbeats 4000000 in
theorem r_count_0 (Γ : pTG) (g : pGG) (mi : pMI) (ml : pML) (A : AS) (hA : okAS A) (hSh : Sh g) (hR : RI A mi)  : CT Γ 60 0 0 mX12_count [.ref 87, .int (nI 0)] g mi ml (RQ A (.inl (nI (aIn A))) cdN g mi ml) := by
  refine CT_of (by decide +kernel) (Nat.le_of_ble_eq_true rfl) ?_
  have hP := hA.1
  have hG8 : aG A ≤ 8 := hP.2.1
  have hC8 : (aP A).1 ≤ 8 := hP.1
  refine X_aload_n dX12_count_0 rfl ?_
  refine X_iconst (v := nI 0) dX12_count_1 (by decide) ?_
  refine X_puti dX12_count_2 fkX12_158 rfl rfl (k_87 hSh) ?_
  refine X_iload_n dX12_count_5 rfl ?_
  refine X_if_neN (a := 0) 16 dX12_count_6 (by decide) (by omega) (fun h_1 => ?_) (fun h_1 => ?_)
  · exact absurd h_1 (by omega)
  · refine X_aload_n dX12_count_9 rfl ?_
    refine X_geti dX12_count_10 fkX12_250 rfl (k_87 hSh) ?_
    refine X_topi (show (up2 mi 87 0 (nI 0)) 87 31 = mi 87 31 by rw [up2_n (by omega)]) ?_
    refine X_goto 41 dX12_count_13 (by decide) ?_
    exact X_iret dX12_count_41 rfl ⟨rfl, rfl, RI_fr hA hR (frW_u frW_r (by unfold rsF rsR; omega)), (frM2_u frM2_r (by omega)), _, rfl, by first | exact hR.2.2.2.2.2.2.1.1 | exact (congrFun (up2_row (by omega)) _).trans (hR.2.2.2.2.2.2.1.1) | exact (up2_n (by omega)).trans (hR.2.2.2.2.2.2.1.1), (show (up2 mi 87 0 (nI 0)) 87 0 = nI 0 by rw [up2_s])⟩
set_option maxRecDepth 100000 in
set_option maxHeartbeats 4000000 in
theorem k_count_1 (Γ : pTG) (g : pGG) (mi : pMI) (ml : pML) (A : AS) (hA : okAS A) (hC : CI A g mi ml)  : CT Γ 60 20 5000 mX11_count [.ref 0, .int (nI 1)] g mi ml (CQ A (.inl (nI (aTn A))) mi ml) := by
  refine CT_of (by decide +kernel) (Nat.le_of_ble_eq_true rfl) ?_
  have hSh := CI_Sh hC
  have hcl := CI_cl hC
  have hP := hA.1
  have hG8 : aG A ≤ 8 := hP.2.1
  have hC8 : (aP A).1 ≤ 8 := hP.1
  refine X_iload_n dX11_count_0 rfl ?_
  refine X_tableIn 36 dX11_count_1 (by decide) (by decide) rfl (by decide) ?_
  refine X_aload_n dX11_count_36 rfl ?_
  refine X_geti dX11_count_37 fkX11_108 rfl (k_0 hSh) ?_
  exact X_iret dX11_count_40 rfl ⟨congrArg (fun z => Sum.inl (some (Value.int z))) ((CI_k hC).2.2.2.2.1.1), hC, frK_r, rfl⟩
set_option maxRecDepth 100000 in
set_option maxHeartbeats 4000000 in
theorem r_count_1 (Γ : pTG) (g : pGG) (mi : pMI) (ml : pML) (A : AS) (hA : okAS A) (hSh : Sh g) (hR : RI A mi)  : CT Γ 60 0 0 mX12_count [.ref 87, .int (nI 1)] g mi ml (RQ A (.inl (nI (aTn A))) cdN g mi ml) := by
  refine CT_of (by decide +kernel) (Nat.le_of_ble_eq_true rfl) ?_
  have hP := hA.1
  have hG8 : aG A ≤ 8 := hP.2.1
  have hC8 : (aP A).1 ≤ 8 := hP.1
  refine X_aload_n dX12_count_0 rfl ?_
  refine X_iconst (v := nI 0) dX12_count_1 (by decide) ?_
  refine X_puti dX12_count_2 fkX12_158 rfl rfl (k_87 hSh) ?_
  refine X_iload_n dX12_count_5 rfl ?_
  refine X_if_neN (a := 1) 16 dX12_count_6 (by decide) (by omega) (fun h_1 => ?_) (fun h_1 => ?_)
  · refine X_iload_n dX12_count_16 rfl ?_
    refine X_iconst (v := nI 1) dX12_count_17 (by decide) ?_
    refine X_icmp_neN (a := 1) (b := 1) 28 dX12_count_18 (by decide) (by omega) (by omega) (fun h_2 => ?_) (fun h_2 => ?_)
    · exact absurd h_2 (by omega)
    · refine X_aload_n dX12_count_21 rfl ?_
      refine X_geti dX12_count_22 fkX12_161 rfl (k_87 hSh) ?_
      refine X_topi (show (up2 mi 87 0 (nI 0)) 87 1 = mi 87 1 by rw [up2_n (by omega)]) ?_
      refine X_goto 41 dX12_count_25 (by decide) ?_
      exact X_iret dX12_count_41 rfl ⟨rfl, rfl, RI_fr hA hR (frW_u frW_r (by unfold rsF rsR; omega)), (frM2_u frM2_r (by omega)), _, rfl, by first | exact hR.2.2.2.2.2.2.2.1.1 | exact (congrFun (up2_row (by omega)) _).trans (hR.2.2.2.2.2.2.2.1.1) | exact (up2_n (by omega)).trans (hR.2.2.2.2.2.2.2.1.1), (show (up2 mi 87 0 (nI 0)) 87 0 = nI 0 by rw [up2_s])⟩
  · exact absurd h_1 (by omega)
set_option maxRecDepth 100000 in
set_option maxHeartbeats 4000000 in
theorem k_count_2 (Γ : pTG) (g : pGG) (mi : pMI) (ml : pML) (A : AS) (hA : okAS A) (hC : CI A g mi ml)  : CT Γ 60 20 5000 mX11_count [.ref 0, .int (nI 2)] g mi ml (CQ A (.inl (nI (aCn A))) mi ml) := by
  refine CT_of (by decide +kernel) (Nat.le_of_ble_eq_true rfl) ?_
  have hSh := CI_Sh hC
  have hcl := CI_cl hC
  have hP := hA.1
  have hG8 : aG A ≤ 8 := hP.2.1
  have hC8 : (aP A).1 ≤ 8 := hP.1
  refine X_iload_n dX11_count_0 rfl ?_
  refine X_tableIn 41 dX11_count_1 (by decide) (by decide) rfl (by decide) ?_
  refine X_aload_n dX11_count_41 rfl ?_
  refine X_getr (a := 81) dX11_count_42 fkX11_91 rfl (k_0 hSh) (r_0_12 hSh) ?_
  refine X_geti dX11_count_45 fkX11_360 rfl (k_81 hSh) ?_
  exact X_iret dX11_count_48 rfl ⟨congrArg (fun z => Sum.inl (some (Value.int z))) ((CI_k hC).2.2.1), hC, frK_r, rfl⟩
set_option maxRecDepth 100000 in
set_option maxHeartbeats 4000000 in
theorem r_count_2 (Γ : pTG) (g : pGG) (mi : pMI) (ml : pML) (A : AS) (hA : okAS A) (hSh : Sh g) (hR : RI A mi)  : CT Γ 60 0 0 mX12_count [.ref 87, .int (nI 2)] g mi ml (RQ A (.inl (nI (aCn A))) cdN g mi ml) := by
  refine CT_of (by decide +kernel) (Nat.le_of_ble_eq_true rfl) ?_
  have hP := hA.1
  have hG8 : aG A ≤ 8 := hP.2.1
  have hC8 : (aP A).1 ≤ 8 := hP.1
  refine X_aload_n dX12_count_0 rfl ?_
  refine X_iconst (v := nI 0) dX12_count_1 (by decide) ?_
  refine X_puti dX12_count_2 fkX12_158 rfl rfl (k_87 hSh) ?_
  refine X_iload_n dX12_count_5 rfl ?_
  refine X_if_neN (a := 2) 16 dX12_count_6 (by decide) (by omega) (fun h_1 => ?_) (fun h_1 => ?_)
  · refine X_iload_n dX12_count_16 rfl ?_
    refine X_iconst (v := nI 1) dX12_count_17 (by decide) ?_
    refine X_icmp_neN (a := 2) (b := 1) 28 dX12_count_18 (by decide) (by omega) (by omega) (fun h_2 => ?_) (fun h_2 => ?_)
    · refine X_iload_n dX12_count_28 rfl ?_
      refine X_iconst (v := nI 2) dX12_count_29 (by decide) ?_
      refine X_icmp_neN (a := 2) (b := 2) 40 dX12_count_30 (by decide) (by omega) (by omega) (fun h_3 => ?_) (fun h_3 => ?_)
      · exact absurd h_3 (by omega)
      · refine X_aload_n dX12_count_33 rfl ?_
        refine X_geti dX12_count_34 fkX12_247 rfl (k_87 hSh) ?_
        refine X_topi (show (up2 mi 87 0 (nI 0)) 87 30 = mi 87 30 by rw [up2_n (by omega)]) ?_
        refine X_goto 41 dX12_count_37 (by decide) ?_
        exact X_iret dX12_count_41 rfl ⟨rfl, rfl, RI_fr hA hR (frW_u frW_r (by unfold rsF rsR; omega)), (frM2_u frM2_r (by omega)), _, rfl, by first | exact hR.2.2.2.2.2.1.1 | exact (congrFun (up2_row (by omega)) _).trans (hR.2.2.2.2.2.1.1) | exact (up2_n (by omega)).trans (hR.2.2.2.2.2.1.1), (show (up2 mi 87 0 (nI 0)) 87 0 = nI 0 by rw [up2_s])⟩
    · exact absurd h_2 (by omega)
  · exact absurd h_1 (by omega)
theorem ni_out {w : Int32} {b : Nat} (hb : b < 2147483648) (hf : ¬ (nI 0 ≤ w ∧ w ≤ nI b)) : w.toInt < 0 ∨ (b : Int) < w.toInt := by
  by_cases h : w < 0
  · exact Or.inl (Int32.lt_iff_toInt_lt.mp h)
  · obtain ⟨k, hk, rfl⟩ := nI_of h
    refine Or.inr ?_
    rw [nI_toInt hk]
    by_cases q : k ≤ b
    · exact absurd ⟨nI_le (Nat.zero_le _) (by omega), nI_le q hb⟩ hf
    · omega
set_option maxRecDepth 100000 in
set_option maxHeartbeats 4000000 in
theorem k_count_n (Γ : pTG) (g : pGG) (mi : pMI) (ml : pML) (A : AS) (hA : okAS A) (hC : CI A g mi ml) (w : Int32) (hf : ¬ (nI 0 ≤ w ∧ w ≤ nI 2)) : CT Γ 60 20 5000 mX11_count [.ref 0, .int w] g mi ml (CQ A (.inl (-1)) mi ml) := by
  refine CT_of (by decide +kernel) (Nat.le_of_ble_eq_true rfl) ?_
  have hSh := CI_Sh hC
  have hcl := CI_cl hC
  have hP := hA.1
  have hG8 : aG A ≤ 8 := hP.2.1
  have hC8 : (aP A).1 ≤ 8 := hP.1
  refine X_iload_n dX11_count_0 rfl ?_
  refine X_tableOut 49 dX11_count_1 (ni_out (by decide) hf) (by decide) ?_
  refine X_iconst (v := -1) dX11_count_49 (by decide) ?_
  exact X_iret dX11_count_50 rfl ⟨rfl, hC, frK_r, rfl⟩
set_option maxRecDepth 100000 in
set_option maxHeartbeats 4000000 in
theorem r_count_n (Γ : pTG) (g : pGG) (mi : pMI) (ml : pML) (A : AS) (hA : okAS A) (hSh : Sh g) (hR : RI A mi) (w : Int32) (hf : ¬ (nI 0 ≤ w ∧ w ≤ nI 2)) : CT Γ 60 0 0 mX12_count [.ref 87, .int w] g mi ml (RQ A (.inl (-1)) cdN g mi ml) := by
  refine CT_of (by decide +kernel) (Nat.le_of_ble_eq_true rfl) ?_
  have hP := hA.1
  have hG8 : aG A ≤ 8 := hP.2.1
  have hC8 : (aP A).1 ≤ 8 := hP.1
  refine X_aload_n dX12_count_0 rfl ?_
  refine X_iconst (v := nI 0) dX12_count_1 (by decide) ?_
  refine X_puti dX12_count_2 fkX12_158 rfl rfl (k_87 hSh) ?_
  refine X_iload_n dX12_count_5 rfl ?_
  refine X_if_ne 16 dX12_count_6 (by decide) (fun h_1 => ?_) (fun h_1 => ?_)
  · refine X_iload_n dX12_count_16 rfl ?_
    refine X_iconst (v := nI 1) dX12_count_17 (by decide) ?_
    refine X_icmp_ne 28 dX12_count_18 (by decide) (fun h_2 => ?_) (fun h_2 => ?_)
    · refine X_iload_n dX12_count_28 rfl ?_
      refine X_iconst (v := nI 2) dX12_count_29 (by decide) ?_
      refine X_icmp_ne 40 dX12_count_30 (by decide) (fun h_3 => ?_) (fun h_3 => ?_)
      · refine X_iconst (v := -1) dX12_count_40 (by decide) ?_
        exact X_iret dX12_count_41 rfl ⟨rfl, rfl, RI_fr hA hR (frW_u frW_r (by unfold rsF rsR; omega)), (frM2_u frM2_r (by omega)), _, rfl, rfl, (show (up2 mi 87 0 (nI 0)) 87 0 = nI 0 by rw [up2_s])⟩
      · exact absurd (show nI 0 ≤ w ∧ w ≤ nI 2 by rw [show w = nI 2 from h_3]; decide) hf
    · exact absurd (show nI 0 ≤ w ∧ w ≤ nI 2 by rw [show w = nI 1 from h_2]; decide) hf
  · exact absurd (show nI 0 ≤ w ∧ w ≤ nI 2 by rw [show w = nI 0 from h_1]; decide) hf
theorem m_count (A : AS) (hA : okAS A) (w : Int32) : MOK mX11_count mX12_count cdN [.int w] A := by
  by_cases hg0 : nI 0 ≤ w ∧ w ≤ nI 2
  · obtain ⟨k, hka, hk, rfl⟩ := (wi_iff (by decide) (by decide)).mp hg0
    have hkk : k < 3 := by omega
    match k, hkk with
    | 0, _ => exact ⟨.inl (nI (aIn A)), A, hA, fun j h => (by cases h), fun Γ g m l hC => k_count_0 Γ g m l A hA hC, fun Γ g m l hSh hR => r_count_0 Γ g m l A hA hSh hR⟩
    | 1, _ => exact ⟨.inl (nI (aTn A)), A, hA, fun j h => (by cases h), fun Γ g m l hC => k_count_1 Γ g m l A hA hC, fun Γ g m l hSh hR => r_count_1 Γ g m l A hA hSh hR⟩
    | 2, _ => exact ⟨.inl (nI (aCn A)), A, hA, fun j h => (by cases h), fun Γ g m l hC => k_count_2 Γ g m l A hA hC, fun Γ g m l hSh hR => r_count_2 Γ g m l A hA hSh hR⟩
  · exact ⟨.inl (-1), A, hA, fun j h => (by cases h), fun Γ g m l hC => k_count_n Γ g m l A hA hC w hg0, fun Γ g m l hSh hR => r_count_n Γ g m l A hA hSh hR w hg0⟩
set_option maxRecDepth 100000 in
set_option maxHeartbeats 4000000 in
theorem k_status (Γ : pTG) (g : pGG) (mi : pMI) (ml : pML) (A : AS) (hA : okAS A) (hC : CI A g mi ml) (k : Nat) (hka : 0 ≤ k) (hk : k ≤ 2) : CT Γ 60 20 5000 mX11_status [.ref 0, .int (nI k)] g mi ml (CQ A (.inl (aR A k)) mi ml) := by
  refine CT_of (by decide +kernel) (Nat.le_of_ble_eq_true rfl) ?_
  have hSh := CI_Sh hC
  have hcl := CI_cl hC
  have hP := hA.1
  have hG8 : aG A ≤ 8 := hP.2.1
  have hC8 : (aP A).1 ≤ 8 := hP.1
  refine X_iload_n dX11_status_0 rfl ?_
  refine X_if_ltN (a := k) 13 dX11_status_1 (by decide) (by omega) (fun h_1 => ?_) (fun h_1 => ?_)
  · exact h_1.elim
  · refine X_iload_n dX11_status_4 rfl ?_
    refine X_aload_n dX11_status_5 rfl ?_
    refine X_getr (a := 86) dX11_status_6 fkX11_101 rfl (k_0 hSh) (r_0_15 hSh) ?_
    refine X_alen (len := 3) dX11_status_9 (k_86 hSh) (by decide) ?_
    refine X_icmp_ltN (a := k) (b := 3) 17 dX11_status_10 (by decide) (by omega) (by omega) (fun h_2 => ?_) (fun h_2 => ?_)
    · refine X_aload_n dX11_status_17 rfl ?_
      refine X_getr (a := 86) dX11_status_18 fkX11_101 rfl (k_0 hSh) (r_0_15 hSh) ?_
      refine X_iload_n dX11_status_21 rfl ?_
      refine X_iald k dX11_status_22 (k_86 hSh) rfl (by omega) ?_
      exact X_iret dX11_status_23 rfl ⟨congrArg (fun z => Sum.inl (some (Value.int z))) ((CI_k hC).2.2.2.2.2.2 k (by omega)), hC, frK_r, rfl⟩
    · exact absurd h_2 (by omega)
set_option maxRecDepth 100000 in
set_option maxHeartbeats 4000000 in
theorem r_status (Γ : pTG) (g : pGG) (mi : pMI) (ml : pML) (A : AS) (hA : okAS A) (hSh : Sh g) (hR : RI A mi) (k : Nat) (hka : 0 ≤ k) (hk : k ≤ 2) : CT Γ 60 0 0 mX12_status [.ref 87, .int (nI k)] g mi ml (RQ A (.inl (aR A k)) cdN g mi ml) := by
  refine CT_of (by decide +kernel) (Nat.le_of_ble_eq_true rfl) ?_
  have hP := hA.1
  have hG8 : aG A ≤ 8 := hP.2.1
  have hC8 : (aP A).1 ≤ 8 := hP.1
  refine X_aload_n dX12_status_0 rfl ?_
  refine X_iconst (v := nI 0) dX12_status_1 (by decide) ?_
  refine X_puti dX12_status_2 fkX12_158 rfl rfl (k_87 hSh) ?_
  refine X_iload_n dX12_status_5 rfl ?_
  refine X_iconst (v := nI 0) dX12_status_6 (by decide) ?_
  refine X_iconst (v := nI 2) dX12_status_7 (by decide) ?_
  refine X_callSI dX12_status_8 mkX12_192 (c_in Γ g (up2 mi 87 0 (nI 0)) ml (nI k) (nI 0) (nI 2)) rfl rfl (by decide) (Nat.le_of_ble_eq_true rfl) ?_
  refine X_topi (show bI (decide (nI 0 ≤ nI k) && decide (nI k ≤ nI 2)) = nI 1 from congrArg bI (show (decide (nI 0 ≤ nI k) && decide (nI k ≤ nI 2)) = true from by rw [decide_eq_true (nI_le (by omega) (by omega)), decide_eq_true (nI_le (by omega) (by omega))]; rfl)) ?_
  refine X_if_eqN (a := 1) 23 dX12_status_11 (by decide) (by omega) (fun h_1 => ?_) (fun h_1 => ?_)
  · exact absurd h_1 (by omega)
  · refine X_aload_n dX12_status_14 rfl ?_
    refine X_getr (a := 89) dX12_status_15 fkX12_17 rfl (k_87 hSh) (r_87_10 hSh) ?_
    refine X_iload_n dX12_status_18 rfl ?_
    refine X_iald k dX12_status_19 (k_89 hSh) rfl (by omega) ?_
    refine X_topi (show (up2 mi 87 0 (nI 0)) 89 k = mi 89 k by rw [up2_row (by omega)]) ?_
    refine X_goto 24 dX12_status_20 (by decide) ?_
    exact X_iret dX12_status_24 rfl ⟨rfl, rfl, RI_fr hA hR (frW_u frW_r (by unfold rsF rsR; omega)), (frM2_u frM2_r (by omega)), _, rfl, by first | exact hR.2.2.2.2.2.2.2.2.2 k (by omega) | exact (congrFun (up2_row (by omega)) _).trans (hR.2.2.2.2.2.2.2.2.2 k (by omega)) | exact (up2_n (by omega)).trans (hR.2.2.2.2.2.2.2.2.2 k (by omega)), (show (up2 mi 87 0 (nI 0)) 87 0 = nI 0 by rw [up2_s])⟩
theorem lt3 {w : Int32} (h : w < nI 3) : w ≤ nI 2 := by
  by_cases q : w < 0
  · exact Int32.le_trans (Int32.le_of_lt q) (by decide)
  · obtain ⟨k, hk, rfl⟩ := nI_of q
    exact nI_le (by have := (nI_ltI hk (by omega)).mp h; omega) (by omega)
set_option maxRecDepth 100000 in
set_option maxHeartbeats 4000000 in
theorem k_status_n (Γ : pTG) (g : pGG) (mi : pMI) (ml : pML) (A : AS) (hA : okAS A) (hC : CI A g mi ml) (w : Int32) (hf : ¬ (nI 0 ≤ w ∧ w ≤ nI 2)) : CT Γ 60 20 5000 mX11_status [.ref 0, .int w] g mi ml (CQ A (.inl (-1)) mi ml) := by
  refine CT_of (by decide +kernel) (Nat.le_of_ble_eq_true rfl) ?_
  have hSh := CI_Sh hC
  have hcl := CI_cl hC
  have hP := hA.1
  have hG8 : aG A ≤ 8 := hP.2.1
  have hC8 : (aP A).1 ≤ 8 := hP.1
  refine X_iload_n dX11_status_0 rfl ?_
  refine X_if_lt 13 dX11_status_1 (by decide) (fun h_1 => ?_) (fun h_1 => ?_)
  · refine X_iconst (v := -1) dX11_status_13 (by decide) ?_
    refine X_goto 23 dX11_status_14 (by decide) ?_
    exact X_iret dX11_status_23 rfl ⟨rfl, hC, frK_r, rfl⟩
  · refine X_iload_n dX11_status_4 rfl ?_
    refine X_aload_n dX11_status_5 rfl ?_
    refine X_getr (a := 86) dX11_status_6 fkX11_101 rfl (k_0 hSh) (r_0_15 hSh) ?_
    refine X_alen (len := 3) dX11_status_9 (k_86 hSh) (by decide) ?_
    refine X_icmp_lt 17 dX11_status_10 (by decide) (fun h_2 => ?_) (fun h_2 => ?_)
    · exact absurd (show nI 0 ≤ w ∧ w ≤ nI 2 from ⟨Int32.not_lt.mp (by assumption), lt3 h_2⟩) hf
    · refine X_iconst (v := -1) dX11_status_13 (by decide) ?_
      refine X_goto 23 dX11_status_14 (by decide) ?_
      exact X_iret dX11_status_23 rfl ⟨rfl, hC, frK_r, rfl⟩
set_option maxRecDepth 100000 in
set_option maxHeartbeats 4000000 in
theorem r_status_n (Γ : pTG) (g : pGG) (mi : pMI) (ml : pML) (A : AS) (hA : okAS A) (hSh : Sh g) (hR : RI A mi) (w : Int32) (hf : ¬ (nI 0 ≤ w ∧ w ≤ nI 2)) : CT Γ 60 0 0 mX12_status [.ref 87, .int w] g mi ml (RQ A (.inl (-1)) cdN g mi ml) := by
  refine CT_of (by decide +kernel) (Nat.le_of_ble_eq_true rfl) ?_
  have hP := hA.1
  have hG8 : aG A ≤ 8 := hP.2.1
  have hC8 : (aP A).1 ≤ 8 := hP.1
  refine X_aload_n dX12_status_0 rfl ?_
  refine X_iconst (v := nI 0) dX12_status_1 (by decide) ?_
  refine X_puti dX12_status_2 fkX12_158 rfl rfl (k_87 hSh) ?_
  refine X_iload_n dX12_status_5 rfl ?_
  refine X_iconst (v := nI 0) dX12_status_6 (by decide) ?_
  refine X_iconst (v := nI 2) dX12_status_7 (by decide) ?_
  refine X_callSI dX12_status_8 mkX12_192 (c_in Γ g (up2 mi 87 0 (nI 0)) ml w (nI 0) (nI 2)) rfl rfl (by decide) (Nat.le_of_ble_eq_true rfl) ?_
  refine X_topi (show bI (decide (nI 0 ≤ w) && decide (w ≤ nI 2)) = nI 0 from congrArg bI (show (decide (nI 0 ≤ w) && decide (w ≤ nI 2)) = false from Bool.eq_false_iff.mpr (fun q => hf (by rw [Bool.and_eq_true, decide_eq_true_eq, decide_eq_true_eq] at q; exact q)))) ?_
  refine X_if_eqN (a := 0) 23 dX12_status_11 (by decide) (by omega) (fun h_1 => ?_) (fun h_1 => ?_)
  · refine X_iconst (v := -1) dX12_status_23 (by decide) ?_
    exact X_iret dX12_status_24 rfl ⟨rfl, rfl, RI_fr hA hR (frW_u frW_r (by unfold rsF rsR; omega)), (frM2_u frM2_r (by omega)), _, rfl, rfl, (show (up2 mi 87 0 (nI 0)) 87 0 = nI 0 by rw [up2_s])⟩
  · exact absurd h_1 (by omega)
theorem m_status (A : AS) (hA : okAS A) (w : Int32) : MOK mX11_status mX12_status cdN [.int w] A := by
  by_cases hg0 : nI 0 ≤ w ∧ w ≤ nI 2
  · obtain ⟨k, hka, hk, rfl⟩ := (wi_iff (by decide) (by decide)).mp hg0
    exact ⟨.inl (aR A k), A, hA, fun j h => (by cases h), fun Γ g m l hC => k_status Γ g m l A hA hC k hka hk, fun Γ g m l hSh hR => r_status Γ g m l A hA hSh hR k hka hk⟩
  · exact ⟨.inl (-1), A, hA, fun j h => (by cases h), fun Γ g m l hC => k_status_n Γ g m l A hA hC w hg0, fun Γ g m l hSh hR => r_status_n Γ g m l A hA hSh hR w hg0⟩
def stD (A : AS) (d : Nat) : AS := (A.1, A.2.1, A.2.2.1, A.2.2.2.1, d, A.2.2.2.2.2.1, A.2.2.2.2.2.2.1, A.2.2.2.2.2.2.2.1, A.2.2.2.2.2.2.2.2.1, A.2.2.2.2.2.2.2.2.2)
theorem CI_day {A : AS} {g : pGG} {m : pMI} {l : pML} {d : Nat} (h : CI A g m l) : CI (stD A d) g (up2 (up2 m 0 18 (nI d)) 0 19 (nI 0)) l := by
  obtain ⟨r, im, st, qi, si, c1, c2, c3, c4, c5, c6, c7, c8, c9, c10, c11, c12, c13⟩ := h
  have e : ∀ i, i ≠ 0 → (up2 (up2 m 0 18 (nI d)) 0 19 (nI 0)) i = m i := fun i hi => by rw [up2_row hi, up2_row hi]
  refine ⟨r, im, st, qi, si, c1, DOK_row c2 (fun i hi => e i (by omega)) (by rw [e 17 (by omega)]) rfl, ?_, ?_, ?_, ?_, ?_, ?_, ?_, ?_, ?_, c12, ?_⟩
  · rw [e 24 (by omega), e 25 (by omega)]; exact c3
  · exact (up2_n (by omega)).trans up2_s
  · rw [e 81 (by omega)]; exact ⟨c5.1, chR_row c5.2 (e 82 (by omega))⟩
  · rw [e 81 (by omega)]
    refine ⟨c6.1, c6.2.1, fun k hk => ?_⟩
    have := (c12.2.2.2.2.2.1 k (Nat.lt_of_lt_of_le hk c6.2.1)).2.2.1
    exact imC_row (c6.2.2 k hk) (e _ (by omega)) (e _ (by omega)) (e _ (by omega))
  · rw [e 1 (by omega)]; exact ⟨(up2_n (by omega)).trans ((up2_n (by omega)).trans c7.1), c7.2⟩
  · rw [e 2 (by omega), e 86 (by omega)]; exact c8
  · exact Or.inl up2_s
  · rw [e 57 (by omega), e 63 (by omega), e 67 (by omega), e 43 (by omega), e 47 (by omega), e 53 (by omega)]; exact c10
  · rw [e 77 (by omega)]
    rcases c11 with q | ⟨q1, q2⟩
    · exact Or.inl q
    · exact Or.inr ⟨q1, GOK_row q2 (by rw [e 77 (by omega)]) (e 78 (by omega)) (e 80 (by omega))⟩
  · intro hst
    have := (c12.2.2.2.2.2.2.2.2 hst).2.2.1
    rw [e si (by omega)]
    exact c13 hst
theorem RI_day {A : AS} {m x : pMI} {d : Nat} (hA : okAS A) (h : RI A m) (hx : ∀ i, i ≠ 87 → x i = m i) (h7 : ∀ j, j ≠ 0 → j ≠ 29 → x 87 j = m 87 j) (hd : x 87 29 = nI d) : RI (stD A d) x := by
  obtain ⟨r1, r2, r3, r4, r5, r6, r7, r8, r9, r10⟩ := h
  exact ⟨rfP_w hA.1 r1 (fun i hi => hx i (by omega)), rfHb_w r2 (fun i hi => hx i (by omega)), fun b hb => by rw [hx 193 (by omega)]; exact r3 b hb, ⟨(h7 28 (by omega) (by omega)).trans r4.1, fun k hk q hq => by rw [hx (143 + k) (by omega)]; exact r4.2 k hk q hq⟩, hd, ⟨(h7 30 (by omega) (by omega)).trans r6.1, fun k hk => rfSn_row (r6.2 k hk) (hx _ (by omega))⟩, ⟨(h7 31 (by omega) (by omega)).trans r7.1, fun k hk => rfIm_row (r7.2 k hk) (hx _ (by omega))⟩, ⟨(h7 1 (by omega) (by omega)).trans r8.1, fun k hk => by rw [hx 88 (by omega)]; exact r8.2 k hk⟩, (h7 3 (by omega) (by omega)).trans r9, fun j hj => by rw [hx 89 (by omega)]; exact r10 j hj⟩
theorem ok_day {A : AS} {d : Nat} (h : okAS A) (hd : d < 200) : okAS (stD A d) := ⟨h.1, h.2.1, h.2.2.1, h.2.2.2.1, hd, h.2.2.2.2.2⟩
set_option maxRecDepth 100000 in
set_option maxHeartbeats 4000000 in
theorem k_day_f0 (Γ : pTG) (g : pGG) (mi : pMI) (ml : pML) (A : AS) (hA : okAS A) (hC : CI A g mi ml) (w : Int32) (hf : ¬ (nI 0 ≤ w ∧ w ≤ nI 199)) : CT Γ 60 20 5000 mX11_day [.ref 0, .int w] g mi ml (CQ (rfA A 1) (.inr 1) mi ml) := by
  refine CT_of (by decide +kernel) (Nat.le_of_ble_eq_true rfl) ?_
  have hSh := CI_Sh hC
  have hcl := CI_cl hC
  have hP := hA.1
  have hG8 : aG A ≤ 8 := hP.2.1
  have hC8 : (aP A).1 ≤ 8 := hP.1
  refine X_aload_n dX11_day_0 rfl ?_
  refine X_iload_n dX11_day_1 rfl ?_
  refine X_iconst (v := nI 0) dX11_day_2 (by decide) ?_
  refine X_sipush (v := nI 199) dX11_day_3 (by decide) ?_
  exact X_need dX11_day_6 mkX11_116 (k_0 hSh) (c_needWithin Γ g mi ml hSh w (nI 0) (nI 199)) rfl rfl (by decide) (by decide) (by decide) (by decide) (fun _ => ⟨rfl, CI_rf (by decide) hC, frK_86, rfl⟩) (fun h => absurd h hf)
set_option maxRecDepth 100000 in
set_option maxHeartbeats 4000000 in
theorem r_day_f0 (Γ : pTG) (g : pGG) (mi : pMI) (ml : pML) (A : AS) (hA : okAS A) (hSh : Sh g) (hR : RI A mi) (w : Int32) (hf : ¬ (nI 0 ≤ w ∧ w ≤ nI 199)) : CT Γ 60 0 0 mX12_day [.ref 87, .int w] g mi ml (RQ (rfA A 1) (.inr 1) cd1 g mi ml) := by
  refine CT_of (by decide +kernel) (Nat.le_of_ble_eq_true rfl) ?_
  have hP := hA.1
  have hG8 : aG A ≤ 8 := hP.2.1
  have hC8 : (aP A).1 ≤ 8 := hP.1
  refine X_aload_n dX12_day_0 rfl ?_
  refine X_iconst (v := nI 0) dX12_day_1 (by decide) ?_
  refine X_puti dX12_day_2 fkX12_158 rfl rfl (k_87 hSh) ?_
  refine X_aload_n dX12_day_5 rfl ?_
  refine X_iload_n dX12_day_6 rfl ?_
  refine X_iconst (v := nI 0) dX12_day_7 (by decide) ?_
  refine X_sipush (v := nI 199) dX12_day_8 (by decide) ?_
  refine X_callSI dX12_day_11 mkX12_192 (c_in Γ g (up2 mi 87 0 (nI 0)) ml w (nI 0) (nI 199)) rfl rfl (by decide) (Nat.le_of_ble_eq_true rfl) ?_
  refine X_topi (show bI (decide (nI 0 ≤ w) && decide (w ≤ nI 199)) = nI 0 from congrArg bI (show (decide (nI 0 ≤ w) && decide (w ≤ nI 199)) = false from Bool.eq_false_iff.mpr (fun q => hf (by rw [Bool.and_eq_true, decide_eq_true_eq, decide_eq_true_eq] at q; exact q)))) ?_
  refine X_if_neN (a := 0) 21 dX12_day_14 (by decide) (by omega) (fun h_1 => ?_) (fun h_1 => ?_)
  · exact absurd h_1 (by omega)
  · refine X_iconst (v := nI 1) dX12_day_17 (by decide) ?_
    refine X_goto 22 dX12_day_18 (by decide) ?_
    refine X_iconst (v := nI 1) dX12_day_22 (by decide) ?_
    refine X_iconst (v := nI 1) dX12_day_23 (by decide) ?_
    refine X_callVI dX12_day_24 mkX12_228 (k_87 hSh) (c_bad1 Γ g (up2 mi 87 0 (nI 0)) ml hSh 1 1 (by decide) (by decide) (by decide) up2_s) rfl rfl (by decide) (Nat.le_of_ble_eq_true rfl) ?_
    refine X_mi (show _ = mB mi 1 1 from rfl) ?_
    refine X_if_eqN (a := 1) 32 dX12_day_27 (by decide) (by omega) (fun h_2 => ?_) (fun h_2 => ?_)
    · exact absurd h_2 (by omega)
    · refine X_iconst (v := nI 0) dX12_day_30 (by decide) ?_
      exact X_iret dX12_day_31 rfl ⟨rfl, rfl, RI_rf hA (by decide) hR, fr2_B, _, rfl, mB_0⟩
set_option maxRecDepth 100000 in
set_option maxHeartbeats 4000000 in
theorem k_day (Γ : pTG) (g : pGG) (mi : pMI) (ml : pML) (A : AS) (hA : okAS A) (hC : CI A g mi ml) (k : Nat) (hka : 0 ≤ k) (hk : k ≤ 199) : CT Γ 60 20 5000 mX11_day [.ref 0, .int (nI k)] g mi ml (CQ (stD A k) (.inl (nI (aD A))) mi ml) := by
  refine CT_of (by decide +kernel) (Nat.le_of_ble_eq_true rfl) ?_
  have hSh := CI_Sh hC
  have hcl := CI_cl hC
  have hP := hA.1
  have hG8 : aG A ≤ 8 := hP.2.1
  have hC8 : (aP A).1 ≤ 8 := hP.1
  refine X_aload_n dX11_day_0 rfl ?_
  refine X_iload_n dX11_day_1 rfl ?_
  refine X_iconst (v := nI 0) dX11_day_2 (by decide) ?_
  refine X_sipush (v := nI 199) dX11_day_3 (by decide) ?_
  refine X_need dX11_day_6 mkX11_116 (k_0 hSh) (c_needWithin Γ g mi ml hSh (nI k) (nI 0) (nI 199)) rfl rfl (by decide) (by decide) (by decide) (by decide) (fun h => absurd (⟨nI_le (by omega) (by omega), nI_le (by omega) (by omega)⟩) h) (fun _ => ?_)
  refine X_aload_n dX11_day_9 rfl ?_
  refine X_geti dX11_day_10 fkX11_138 rfl (k_0 hSh) ?_
  rw [(CI_k hC).2.1]
  refine X_istore_n dX11_day_13 (by decide) ?_
  refine X_aload_n dX11_day_14 rfl ?_
  refine X_iload_n dX11_day_15 rfl ?_
  refine X_puti dX11_day_16 fkX11_138 rfl rfl (k_0 hSh) ?_
  refine X_aload_n dX11_day_19 rfl ?_
  refine X_iconst (v := nI 0) dX11_day_20 (by decide) ?_
  refine X_putz dX11_day_21 fkX11_211 rfl (by first | exact Or.inl rfl | exact Or.inr rfl | assumption) rfl (k_0 hSh) ?_
  refine X_iload_n dX11_day_24 rfl ?_
  exact X_iret dX11_day_25 rfl ⟨rfl, CI_day hC, frK_u (frK_u frK_r (by omega)) (by omega), rfl⟩
set_option maxRecDepth 100000 in
set_option maxHeartbeats 4000000 in
theorem r_day (Γ : pTG) (g : pGG) (mi : pMI) (ml : pML) (A : AS) (hA : okAS A) (hSh : Sh g) (hR : RI A mi) (k : Nat) (hka : 0 ≤ k) (hk : k ≤ 199) : CT Γ 60 0 0 mX12_day [.ref 87, .int (nI k)] g mi ml (RQ (stD A k) (.inl (nI (aD A))) cd1 g mi ml) := by
  refine CT_of (by decide +kernel) (Nat.le_of_ble_eq_true rfl) ?_
  have hP := hA.1
  have hG8 : aG A ≤ 8 := hP.2.1
  have hC8 : (aP A).1 ≤ 8 := hP.1
  refine X_aload_n dX12_day_0 rfl ?_
  refine X_iconst (v := nI 0) dX12_day_1 (by decide) ?_
  refine X_puti dX12_day_2 fkX12_158 rfl rfl (k_87 hSh) ?_
  refine X_aload_n dX12_day_5 rfl ?_
  refine X_iload_n dX12_day_6 rfl ?_
  refine X_iconst (v := nI 0) dX12_day_7 (by decide) ?_
  refine X_sipush (v := nI 199) dX12_day_8 (by decide) ?_
  refine X_callSI dX12_day_11 mkX12_192 (c_in Γ g (up2 mi 87 0 (nI 0)) ml (nI k) (nI 0) (nI 199)) rfl rfl (by decide) (Nat.le_of_ble_eq_true rfl) ?_
  refine X_topi (show bI (decide (nI 0 ≤ nI k) && decide (nI k ≤ nI 199)) = nI 1 from congrArg bI (show (decide (nI 0 ≤ nI k) && decide (nI k ≤ nI 199)) = true from by rw [decide_eq_true (nI_le (by omega) (by omega)), decide_eq_true (nI_le (by omega) (by omega))]; rfl)) ?_
  refine X_if_neN (a := 1) 21 dX12_day_14 (by decide) (by omega) (fun h_1 => ?_) (fun h_1 => ?_)
  · refine X_iconst (v := nI 0) dX12_day_21 (by decide) ?_
    refine X_iconst (v := nI 1) dX12_day_22 (by decide) ?_
    refine X_iconst (v := nI 1) dX12_day_23 (by decide) ?_
    refine X_callVI dX12_day_24 mkX12_228 (k_87 hSh) (c_bad0 Γ g (up2 mi 87 0 (nI 0)) ml hSh 1 1 up2_s) rfl rfl (by decide) (Nat.le_of_ble_eq_true rfl) ?_
    refine X_if_eqN (a := 0) 32 dX12_day_27 (by decide) (by omega) (fun h_2 => ?_) (fun h_2 => ?_)
    · refine X_aload_n dX12_day_32 rfl ?_
      refine X_geti dX12_day_33 fkX12_244 rfl (k_87 hSh) ?_
      rw [((up2_n (by omega)).trans hR.2.2.2.2.1)]
      refine X_istore_n dX12_day_36 (by decide) ?_
      refine X_aload_n dX12_day_37 rfl ?_
      refine X_iload_n dX12_day_38 rfl ?_
      refine X_puti dX12_day_39 fkX12_244 rfl rfl (k_87 hSh) ?_
      refine X_iload_n dX12_day_42 rfl ?_
      exact X_iret dX12_day_43 rfl ⟨rfl, rfl, RI_day hA hR (fun i hi => by rw [up2_row hi, up2_row hi]) (fun j h1 h2 => by rw [up2_n h2, up2_n h1]) up2_s, (frM2_u (frM2_u frM2_r (by omega)) (by omega)), _, rfl, rfl, (show (up2 (up2 mi 87 0 (nI 0)) 87 29 (nI k)) 87 0 = nI 0 by rw [up2_n (by omega), up2_s])⟩
    · exact absurd h_2 (by omega)
  · exact absurd h_1 (by omega)
theorem m_day (A : AS) (hA : okAS A) (w : Int32) : MOK mX11_day mX12_day cd1 [.int w] A := by
  by_cases hg0 : nI 0 ≤ w ∧ w ≤ nI 199
  · obtain ⟨k, hka, hk, rfl⟩ := (wi_iff (by decide) (by decide)).mp hg0
    exact ⟨.inl (nI (aD A)), stD A k, ok_day hA (by omega), fun j h => (by cases h), fun Γ g m l hC => k_day Γ g m l A hA hC k hka hk, fun Γ g m l hSh hR => r_day Γ g m l A hA hSh hR k hka hk⟩
  · exact ⟨.inr 1, rfA A 1, ok_rf hA, fun j h => by cases h; decide, fun Γ g m l hC => k_day_f0 Γ g m l A hA hC w hg0, fun Γ g m l hSh hR => r_day_f0 Γ g m l A hA hSh hR w hg0⟩
def kwV (P : PD) (b a f l o n d : Nat) : Nat → Int32 := fun k => match k with
  | 0 => nI a
  | 1 => nI f
  | 2 => nI l
  | 3 => nI o
  | 4 => nI n
  | 5 => nI 0
  | 6 => nI d
  | 7 => nI (P.2.2.2.2.2.2 b 1)
  | 8 => nI (P.2.2.2.2.2.2 b 0)
  | 9 => nI P.1
  | _ => nI P.2.1
set_option maxRecDepth 100000 in
set_option maxHeartbeats 4000000 in
theorem k_would_f0 (Γ : pTG) (g : pGG) (mi : pMI) (ml : pML) (A : AS) (hA : okAS A) (hC : CI A g mi ml) (v : Int32) (hf : ¬ ∃ b, b < aG A ∧ v = nI b) (xa : Int32) (xf : Int32) (xl : Int32) (xo : Int32) (xn : Int32) (xd : Int32) : CT Γ 60 20 5000 mX11_would [.ref 0, .int v, .int xa, .int xf, .int xl, .int xo, .int xn, .int xd] g mi ml (CQ (rfA A 0) (.inr 0) mi ml) := by
  refine CT_of (by decide +kernel) (Nat.le_of_ble_eq_true rfl) ?_
  have hSh := CI_Sh hC
  have hcl := CI_cl hC
  have hP := hA.1
  have hG8 : aG A ≤ 8 := hP.2.1
  have hC8 : (aP A).1 ≤ 8 := hP.1
  refine X_aload_n dX11_would_0 rfl ?_
  refine X_iload_n dX11_would_1 rfl ?_
  exact X_need dX11_would_2 mkX11_147 (k_0 hSh) (c_needGuest Γ g mi ml hSh v) rfl rfl (by decide) (by decide) (by decide) (by decide) (fun _ => ⟨rfl, CI_rf (by decide) hC, frK_86, rfl⟩) (fun h => absurd ((gd_iff hG8).mp (by rw [← hcl.2.1]; exact h)) hf)
set_option maxRecDepth 100000 in
set_option maxHeartbeats 4000000 in
theorem r_would_f0 (Γ : pTG) (g : pGG) (mi : pMI) (ml : pML) (A : AS) (hA : okAS A) (hSh : Sh g) (hR : RI A mi) (v : Int32) (hf : ¬ ∃ b, b < aG A ∧ v = nI b) (xa : Int32) (xf : Int32) (xl : Int32) (xo : Int32) (xn : Int32) (xd : Int32) : CT Γ 60 0 0 mX12_would [.ref 87, .int v, .int xa, .int xf, .int xl, .int xo, .int xn, .int xd] g mi ml (RQ (rfA A 0) (.inr 0) cd2 g mi ml) := by
  refine CT_of (by decide +kernel) (Nat.le_of_ble_eq_true rfl) ?_
  have hP := hA.1
  have hG8 : aG A ≤ 8 := hP.2.1
  have hC8 : (aP A).1 ≤ 8 := hP.1
  refine X_aload_n dX12_would_0 rfl ?_
  refine X_iconst (v := nI 0) dX12_would_1 (by decide) ?_
  refine X_puti dX12_would_2 fkX12_158 rfl rfl (k_87 hSh) ?_
  refine X_aload_n dX12_would_5 rfl ?_
  refine X_aload_n dX12_would_6 rfl ?_
  refine X_iload_n dX12_would_7 rfl ?_
  refine X_callVI dX12_would_8 mkX12_285 (k_87 hSh) (c_isGuest Γ g (up2 mi 87 0 (nI 0)) ml hSh v) rfl rfl (by decide) (Nat.le_of_ble_eq_true rfl) ?_
  refine X_topi (show bI (decide (nI 0 ≤ v) && decide (v ≤ (up2 mi 87 0 (nI 0)) 91 1 - nI 1)) = nI 0 from congrArg bI (show (decide (nI 0 ≤ v) && decide (v ≤ (up2 mi 87 0 (nI 0)) 91 1 - nI 1)) = false from Bool.eq_false_iff.mpr (fun q => hf ((gd_ref hG8).mp (by rw [(show (up2 mi 87 0 (nI 0)) 91 1 = nI (aG A) from ((congrFun (up2_row (by omega)) _).trans hR.1.2.1))] at q; exact q))))) ?_
  refine X_if_neN (a := 0) 18 dX12_would_11 (by decide) (by omega) (fun h_1 => ?_) (fun h_1 => ?_)
  · exact absurd h_1 (by omega)
  · refine X_iconst (v := nI 1) dX12_would_14 (by decide) ?_
    refine X_goto 19 dX12_would_15 (by decide) ?_
    refine X_iconst (v := nI 1) dX12_would_19 (by decide) ?_
    refine X_iconst (v := nI 0) dX12_would_20 (by decide) ?_
    refine X_callVI dX12_would_21 mkX12_228 (k_87 hSh) (c_bad1 Γ g (up2 mi 87 0 (nI 0)) ml hSh 1 0 (by decide) (by decide) (by decide) up2_s) rfl rfl (by decide) (Nat.le_of_ble_eq_true rfl) ?_
    refine X_mi (show _ = mB mi 1 0 from rfl) ?_
    refine X_if_neN (a := 1) 93 dX12_would_24 (by decide) (by omega) (fun h_2 => ?_) (fun h_2 => ?_)
    · refine X_iconst (v := nI 0) dX12_would_93 (by decide) ?_
      exact X_iret dX12_would_94 rfl ⟨rfl, rfl, RI_rf hA (by decide) hR, fr2_B, _, rfl, mB_0⟩
    · exact absurd h_2 (by omega)
set_option maxRecDepth 100000 in
set_option maxHeartbeats 4000000 in
theorem k_would_f1 (Γ : pTG) (g : pGG) (mi : pMI) (ml : pML) (A : AS) (hA : okAS A) (hC : CI A g mi ml) (b : Nat) (hb : b < aG A) (xa : Int32) (hf : ¬ (nI 0 ≤ xa ∧ xa ≤ nI 23)) (xf : Int32) (xl : Int32) (xo : Int32) (xn : Int32) (xd : Int32) : CT Γ 60 20 5000 mX11_would [.ref 0, .int (nI b), .int xa, .int xf, .int xl, .int xo, .int xn, .int xd] g mi ml (CQ (rfA A 1) (.inr 1) mi ml) := by
  refine CT_of (by decide +kernel) (Nat.le_of_ble_eq_true rfl) ?_
  have hSh := CI_Sh hC
  have hcl := CI_cl hC
  have hP := hA.1
  have hG8 : aG A ≤ 8 := hP.2.1
  have hC8 : (aP A).1 ≤ 8 := hP.1
  refine X_aload_n dX11_would_0 rfl ?_
  refine X_iload_n dX11_would_1 rfl ?_
  refine X_need dX11_would_2 mkX11_147 (k_0 hSh) (c_needGuest Γ g mi ml hSh (nI b)) rfl rfl (by decide) (by decide) (by decide) (by decide) (fun h => absurd (by rw [hcl.2.1]; exact (gd_iff hG8).mpr ⟨b, hb, rfl⟩) h) (fun _ => ?_)
  refine X_aload_n dX11_would_5 rfl ?_
  refine X_iload_n dX11_would_6 rfl ?_
  refine X_iconst (v := nI 0) dX11_would_7 (by decide) ?_
  refine X_bipush (v := nI 23) dX11_would_8 (by decide) ?_
  exact X_need dX11_would_10 mkX11_116 (k_0 hSh) (c_needWithin Γ g mi ml hSh xa (nI 0) (nI 23)) rfl rfl (by decide) (by decide) (by decide) (by decide) (fun _ => ⟨rfl, CI_rf (by decide) hC, frK_86, rfl⟩) (fun h => absurd h hf)
set_option maxRecDepth 100000 in
set_option maxHeartbeats 4000000 in
theorem r_would_f1 (Γ : pTG) (g : pGG) (mi : pMI) (ml : pML) (A : AS) (hA : okAS A) (hSh : Sh g) (hR : RI A mi) (b : Nat) (hb : b < aG A) (xa : Int32) (hf : ¬ (nI 0 ≤ xa ∧ xa ≤ nI 23)) (xf : Int32) (xl : Int32) (xo : Int32) (xn : Int32) (xd : Int32) : CT Γ 60 0 0 mX12_would [.ref 87, .int (nI b), .int xa, .int xf, .int xl, .int xo, .int xn, .int xd] g mi ml (RQ (rfA A 1) (.inr 1) cd2 g mi ml) := by
  refine CT_of (by decide +kernel) (Nat.le_of_ble_eq_true rfl) ?_
  have hP := hA.1
  have hG8 : aG A ≤ 8 := hP.2.1
  have hC8 : (aP A).1 ≤ 8 := hP.1
  refine X_aload_n dX12_would_0 rfl ?_
  refine X_iconst (v := nI 0) dX12_would_1 (by decide) ?_
  refine X_puti dX12_would_2 fkX12_158 rfl rfl (k_87 hSh) ?_
  refine X_aload_n dX12_would_5 rfl ?_
  refine X_aload_n dX12_would_6 rfl ?_
  refine X_iload_n dX12_would_7 rfl ?_
  refine X_callVI dX12_would_8 mkX12_285 (k_87 hSh) (c_isGuest Γ g (up2 mi 87 0 (nI 0)) ml hSh (nI b)) rfl rfl (by decide) (Nat.le_of_ble_eq_true rfl) ?_
  refine X_topi (show bI (decide (nI 0 ≤ nI b) && decide (nI b ≤ (up2 mi 87 0 (nI 0)) 91 1 - nI 1)) = nI 1 from congrArg bI (show (decide (nI 0 ≤ nI b) && decide (nI b ≤ (up2 mi 87 0 (nI 0)) 91 1 - nI 1)) = true from by rw [(show (up2 mi 87 0 (nI 0)) 91 1 = nI (aG A) from ((congrFun (up2_row (by omega)) _).trans hR.1.2.1))]; exact (gd_ref hG8).mpr ⟨b, hb, rfl⟩)) ?_
  refine X_if_neN (a := 1) 18 dX12_would_11 (by decide) (by omega) (fun h_1 => ?_) (fun h_1 => ?_)
  · refine X_iconst (v := nI 0) dX12_would_18 (by decide) ?_
    refine X_iconst (v := nI 1) dX12_would_19 (by decide) ?_
    refine X_iconst (v := nI 0) dX12_would_20 (by decide) ?_
    refine X_callVI dX12_would_21 mkX12_228 (k_87 hSh) (c_bad0 Γ g (up2 mi 87 0 (nI 0)) ml hSh 1 0 up2_s) rfl rfl (by decide) (Nat.le_of_ble_eq_true rfl) ?_
    refine X_if_neN (a := 0) 93 dX12_would_24 (by decide) (by omega) (fun h_2 => ?_) (fun h_2 => ?_)
    · exact absurd h_2 (by omega)
    · refine X_aload_n dX12_would_27 rfl ?_
      refine X_iload_n dX12_would_28 rfl ?_
      refine X_callSI dX12_would_29 mkX12_298 (c_isHalf Γ g (up2 mi 87 0 (nI 0)) ml xa) rfl rfl (by decide) (Nat.le_of_ble_eq_true rfl) ?_
      refine X_topi (show bI (decide (nI 0 ≤ xa) && decide (xa ≤ nI 23)) = nI 0 from congrArg bI (show (decide (nI 0 ≤ xa) && decide (xa ≤ nI 23)) = false from Bool.eq_false_iff.mpr (fun q => hf (by rw [Bool.and_eq_true, decide_eq_true_eq, decide_eq_true_eq] at q; exact q)))) ?_
      refine X_if_eqN (a := 0) 80 dX12_would_32 (by decide) (by omega) (fun h_3 => ?_) (fun h_3 => ?_)
      · refine X_iconst (v := nI 1) dX12_would_80 (by decide) ?_
        refine X_goto 85 dX12_would_81 (by decide) ?_
        refine X_iconst (v := nI 2) dX12_would_85 (by decide) ?_
        refine X_iconst (v := nI 1) dX12_would_86 (by decide) ?_
        refine X_callVI dX12_would_87 mkX12_228 (k_87 hSh) (c_bad1 Γ g (up2 mi 87 0 (nI 0)) ml hSh 2 1 (by decide) (by decide) (by decide) up2_s) rfl rfl (by decide) (Nat.le_of_ble_eq_true rfl) ?_
        refine X_mi (show _ = mB mi 2 1 from rfl) ?_
        refine X_if_eqN (a := 1) 95 dX12_would_90 (by decide) (by omega) (fun h_4 => ?_) (fun h_4 => ?_)
        · exact absurd h_4 (by omega)
        · refine X_iconst (v := nI 0) dX12_would_93 (by decide) ?_
          exact X_iret dX12_would_94 rfl ⟨rfl, rfl, RI_rf hA (by decide) hR, fr2_B, _, rfl, mB_0⟩
      · exact absurd h_3 (by omega)
  · exact absurd h_1 (by omega)
set_option maxRecDepth 100000 in
set_option maxHeartbeats 4000000 in
theorem k_would_f2 (Γ : pTG) (g : pGG) (mi : pMI) (ml : pML) (A : AS) (hA : okAS A) (hC : CI A g mi ml) (b : Nat) (hb : b < aG A) (ka : Nat) (hkaa : 0 ≤ ka) (hka : ka ≤ 23) (xf : Int32) (hf : ¬ (nI 0 ≤ xf ∧ xf ≤ nI 23)) (xl : Int32) (xo : Int32) (xn : Int32) (xd : Int32) : CT Γ 60 20 5000 mX11_would [.ref 0, .int (nI b), .int (nI ka), .int xf, .int xl, .int xo, .int xn, .int xd] g mi ml (CQ (rfA A 1) (.inr 1) mi ml) := by
  refine CT_of (by decide +kernel) (Nat.le_of_ble_eq_true rfl) ?_
  have hSh := CI_Sh hC
  have hcl := CI_cl hC
  have hP := hA.1
  have hG8 : aG A ≤ 8 := hP.2.1
  have hC8 : (aP A).1 ≤ 8 := hP.1
  refine X_aload_n dX11_would_0 rfl ?_
  refine X_iload_n dX11_would_1 rfl ?_
  refine X_need dX11_would_2 mkX11_147 (k_0 hSh) (c_needGuest Γ g mi ml hSh (nI b)) rfl rfl (by decide) (by decide) (by decide) (by decide) (fun h => absurd (by rw [hcl.2.1]; exact (gd_iff hG8).mpr ⟨b, hb, rfl⟩) h) (fun _ => ?_)
  refine X_aload_n dX11_would_5 rfl ?_
  refine X_iload_n dX11_would_6 rfl ?_
  refine X_iconst (v := nI 0) dX11_would_7 (by decide) ?_
  refine X_bipush (v := nI 23) dX11_would_8 (by decide) ?_
  refine X_need dX11_would_10 mkX11_116 (k_0 hSh) (c_needWithin Γ g mi ml hSh (nI ka) (nI 0) (nI 23)) rfl rfl (by decide) (by decide) (by decide) (by decide) (fun h => absurd (⟨nI_le (by omega) (by omega), nI_le (by omega) (by omega)⟩) h) (fun _ => ?_)
  refine X_aload_n dX11_would_13 rfl ?_
  refine X_iload_n dX11_would_14 rfl ?_
  refine X_iconst (v := nI 0) dX11_would_15 (by decide) ?_
  refine X_bipush (v := nI 23) dX11_would_16 (by decide) ?_
  exact X_need dX11_would_18 mkX11_116 (k_0 hSh) (c_needWithin Γ g mi ml hSh xf (nI 0) (nI 23)) rfl rfl (by decide) (by decide) (by decide) (by decide) (fun _ => ⟨rfl, CI_rf (by decide) hC, frK_86, rfl⟩) (fun h => absurd h hf)
set_option maxRecDepth 100000 in
set_option maxHeartbeats 4000000 in
theorem r_would_f2 (Γ : pTG) (g : pGG) (mi : pMI) (ml : pML) (A : AS) (hA : okAS A) (hSh : Sh g) (hR : RI A mi) (b : Nat) (hb : b < aG A) (ka : Nat) (hkaa : 0 ≤ ka) (hka : ka ≤ 23) (xf : Int32) (hf : ¬ (nI 0 ≤ xf ∧ xf ≤ nI 23)) (xl : Int32) (xo : Int32) (xn : Int32) (xd : Int32) : CT Γ 60 0 0 mX12_would [.ref 87, .int (nI b), .int (nI ka), .int xf, .int xl, .int xo, .int xn, .int xd] g mi ml (RQ (rfA A 1) (.inr 1) cd2 g mi ml) := by
  refine CT_of (by decide +kernel) (Nat.le_of_ble_eq_true rfl) ?_
  have hP := hA.1
  have hG8 : aG A ≤ 8 := hP.2.1
  have hC8 : (aP A).1 ≤ 8 := hP.1
  refine X_aload_n dX12_would_0 rfl ?_
  refine X_iconst (v := nI 0) dX12_would_1 (by decide) ?_
  refine X_puti dX12_would_2 fkX12_158 rfl rfl (k_87 hSh) ?_
  refine X_aload_n dX12_would_5 rfl ?_
  refine X_aload_n dX12_would_6 rfl ?_
  refine X_iload_n dX12_would_7 rfl ?_
  refine X_callVI dX12_would_8 mkX12_285 (k_87 hSh) (c_isGuest Γ g (up2 mi 87 0 (nI 0)) ml hSh (nI b)) rfl rfl (by decide) (Nat.le_of_ble_eq_true rfl) ?_
  refine X_topi (show bI (decide (nI 0 ≤ nI b) && decide (nI b ≤ (up2 mi 87 0 (nI 0)) 91 1 - nI 1)) = nI 1 from congrArg bI (show (decide (nI 0 ≤ nI b) && decide (nI b ≤ (up2 mi 87 0 (nI 0)) 91 1 - nI 1)) = true from by rw [(show (up2 mi 87 0 (nI 0)) 91 1 = nI (aG A) from ((congrFun (up2_row (by omega)) _).trans hR.1.2.1))]; exact (gd_ref hG8).mpr ⟨b, hb, rfl⟩)) ?_
  refine X_if_neN (a := 1) 18 dX12_would_11 (by decide) (by omega) (fun h_1 => ?_) (fun h_1 => ?_)
  · refine X_iconst (v := nI 0) dX12_would_18 (by decide) ?_
    refine X_iconst (v := nI 1) dX12_would_19 (by decide) ?_
    refine X_iconst (v := nI 0) dX12_would_20 (by decide) ?_
    refine X_callVI dX12_would_21 mkX12_228 (k_87 hSh) (c_bad0 Γ g (up2 mi 87 0 (nI 0)) ml hSh 1 0 up2_s) rfl rfl (by decide) (Nat.le_of_ble_eq_true rfl) ?_
    refine X_if_neN (a := 0) 93 dX12_would_24 (by decide) (by omega) (fun h_2 => ?_) (fun h_2 => ?_)
    · exact absurd h_2 (by omega)
    · refine X_aload_n dX12_would_27 rfl ?_
      refine X_iload_n dX12_would_28 rfl ?_
      refine X_callSI dX12_would_29 mkX12_298 (c_isHalf Γ g (up2 mi 87 0 (nI 0)) ml (nI ka)) rfl rfl (by decide) (Nat.le_of_ble_eq_true rfl) ?_
      refine X_topi (show bI (decide (nI 0 ≤ nI ka) && decide (nI ka ≤ nI 23)) = nI 1 from congrArg bI (show (decide (nI 0 ≤ nI ka) && decide (nI ka ≤ nI 23)) = true from by rw [decide_eq_true (nI_le (by omega) (by omega)), decide_eq_true (nI_le (by omega) (by omega))]; rfl)) ?_
      refine X_if_eqN (a := 1) 80 dX12_would_32 (by decide) (by omega) (fun h_3 => ?_) (fun h_3 => ?_)
      · exact absurd h_3 (by omega)
      · refine X_iload_n dX12_would_35 rfl ?_
        refine X_callSI dX12_would_36 mkX12_298 (c_isHalf Γ g (up2 mi 87 0 (nI 0)) ml xf) rfl rfl (by decide) (Nat.le_of_ble_eq_true rfl) ?_
        refine X_topi (show bI (decide (nI 0 ≤ xf) && decide (xf ≤ nI 23)) = nI 0 from congrArg bI (show (decide (nI 0 ≤ xf) && decide (xf ≤ nI 23)) = false from Bool.eq_false_iff.mpr (fun q => hf (by rw [Bool.and_eq_true, decide_eq_true_eq, decide_eq_true_eq] at q; exact q)))) ?_
        refine X_if_eqN (a := 0) 80 dX12_would_39 (by decide) (by omega) (fun h_4 => ?_) (fun h_4 => ?_)
        · refine X_iconst (v := nI 1) dX12_would_80 (by decide) ?_
          refine X_goto 85 dX12_would_81 (by decide) ?_
          refine X_iconst (v := nI 2) dX12_would_85 (by decide) ?_
          refine X_iconst (v := nI 1) dX12_would_86 (by decide) ?_
          refine X_callVI dX12_would_87 mkX12_228 (k_87 hSh) (c_bad1 Γ g (up2 mi 87 0 (nI 0)) ml hSh 2 1 (by decide) (by decide) (by decide) up2_s) rfl rfl (by decide) (Nat.le_of_ble_eq_true rfl) ?_
          refine X_mi (show _ = mB mi 2 1 from rfl) ?_
          refine X_if_eqN (a := 1) 95 dX12_would_90 (by decide) (by omega) (fun h_5 => ?_) (fun h_5 => ?_)
          · exact absurd h_5 (by omega)
          · refine X_iconst (v := nI 0) dX12_would_93 (by decide) ?_
            exact X_iret dX12_would_94 rfl ⟨rfl, rfl, RI_rf hA (by decide) hR, fr2_B, _, rfl, mB_0⟩
        · exact absurd h_4 (by omega)
  · exact absurd h_1 (by omega)
set_option maxRecDepth 100000 in
set_option maxHeartbeats 4000000 in
theorem k_would_f3 (Γ : pTG) (g : pGG) (mi : pMI) (ml : pML) (A : AS) (hA : okAS A) (hC : CI A g mi ml) (b : Nat) (hb : b < aG A) (ka : Nat) (hkaa : 0 ≤ ka) (hka : ka ≤ 23) (kf : Nat) (hkfa : 0 ≤ kf) (hkf : kf ≤ 23) (xl : Int32) (hf : ¬ (nI 0 ≤ xl ∧ xl ≤ nI 23)) (xo : Int32) (xn : Int32) (xd : Int32) : CT Γ 60 20 5000 mX11_would [.ref 0, .int (nI b), .int (nI ka), .int (nI kf), .int xl, .int xo, .int xn, .int xd] g mi ml (CQ (rfA A 1) (.inr 1) mi ml) := by
  refine CT_of (by decide +kernel) (Nat.le_of_ble_eq_true rfl) ?_
  have hSh := CI_Sh hC
  have hcl := CI_cl hC
  have hP := hA.1
  have hG8 : aG A ≤ 8 := hP.2.1
  have hC8 : (aP A).1 ≤ 8 := hP.1
  refine X_aload_n dX11_would_0 rfl ?_
  refine X_iload_n dX11_would_1 rfl ?_
  refine X_need dX11_would_2 mkX11_147 (k_0 hSh) (c_needGuest Γ g mi ml hSh (nI b)) rfl rfl (by decide) (by decide) (by decide) (by decide) (fun h => absurd (by rw [hcl.2.1]; exact (gd_iff hG8).mpr ⟨b, hb, rfl⟩) h) (fun _ => ?_)
  refine X_aload_n dX11_would_5 rfl ?_
  refine X_iload_n dX11_would_6 rfl ?_
  refine X_iconst (v := nI 0) dX11_would_7 (by decide) ?_
  refine X_bipush (v := nI 23) dX11_would_8 (by decide) ?_
  refine X_need dX11_would_10 mkX11_116 (k_0 hSh) (c_needWithin Γ g mi ml hSh (nI ka) (nI 0) (nI 23)) rfl rfl (by decide) (by decide) (by decide) (by decide) (fun h => absurd (⟨nI_le (by omega) (by omega), nI_le (by omega) (by omega)⟩) h) (fun _ => ?_)
  refine X_aload_n dX11_would_13 rfl ?_
  refine X_iload_n dX11_would_14 rfl ?_
  refine X_iconst (v := nI 0) dX11_would_15 (by decide) ?_
  refine X_bipush (v := nI 23) dX11_would_16 (by decide) ?_
  refine X_need dX11_would_18 mkX11_116 (k_0 hSh) (c_needWithin Γ g mi ml hSh (nI kf) (nI 0) (nI 23)) rfl rfl (by decide) (by decide) (by decide) (by decide) (fun h => absurd (⟨nI_le (by omega) (by omega), nI_le (by omega) (by omega)⟩) h) (fun _ => ?_)
  refine X_aload_n dX11_would_21 rfl ?_
  refine X_iload dX11_would_22 rfl ?_
  refine X_iconst (v := nI 0) dX11_would_24 (by decide) ?_
  refine X_bipush (v := nI 23) dX11_would_25 (by decide) ?_
  exact X_need dX11_would_27 mkX11_116 (k_0 hSh) (c_needWithin Γ g mi ml hSh xl (nI 0) (nI 23)) rfl rfl (by decide) (by decide) (by decide) (by decide) (fun _ => ⟨rfl, CI_rf (by decide) hC, frK_86, rfl⟩) (fun h => absurd h hf)
set_option maxRecDepth 100000 in
set_option maxHeartbeats 4000000 in
theorem r_would_f3 (Γ : pTG) (g : pGG) (mi : pMI) (ml : pML) (A : AS) (hA : okAS A) (hSh : Sh g) (hR : RI A mi) (b : Nat) (hb : b < aG A) (ka : Nat) (hkaa : 0 ≤ ka) (hka : ka ≤ 23) (kf : Nat) (hkfa : 0 ≤ kf) (hkf : kf ≤ 23) (xl : Int32) (hf : ¬ (nI 0 ≤ xl ∧ xl ≤ nI 23)) (xo : Int32) (xn : Int32) (xd : Int32) : CT Γ 60 0 0 mX12_would [.ref 87, .int (nI b), .int (nI ka), .int (nI kf), .int xl, .int xo, .int xn, .int xd] g mi ml (RQ (rfA A 1) (.inr 1) cd2 g mi ml) := by
  refine CT_of (by decide +kernel) (Nat.le_of_ble_eq_true rfl) ?_
  have hP := hA.1
  have hG8 : aG A ≤ 8 := hP.2.1
  have hC8 : (aP A).1 ≤ 8 := hP.1
  refine X_aload_n dX12_would_0 rfl ?_
  refine X_iconst (v := nI 0) dX12_would_1 (by decide) ?_
  refine X_puti dX12_would_2 fkX12_158 rfl rfl (k_87 hSh) ?_
  refine X_aload_n dX12_would_5 rfl ?_
  refine X_aload_n dX12_would_6 rfl ?_
  refine X_iload_n dX12_would_7 rfl ?_
  refine X_callVI dX12_would_8 mkX12_285 (k_87 hSh) (c_isGuest Γ g (up2 mi 87 0 (nI 0)) ml hSh (nI b)) rfl rfl (by decide) (Nat.le_of_ble_eq_true rfl) ?_
  refine X_topi (show bI (decide (nI 0 ≤ nI b) && decide (nI b ≤ (up2 mi 87 0 (nI 0)) 91 1 - nI 1)) = nI 1 from congrArg bI (show (decide (nI 0 ≤ nI b) && decide (nI b ≤ (up2 mi 87 0 (nI 0)) 91 1 - nI 1)) = true from by rw [(show (up2 mi 87 0 (nI 0)) 91 1 = nI (aG A) from ((congrFun (up2_row (by omega)) _).trans hR.1.2.1))]; exact (gd_ref hG8).mpr ⟨b, hb, rfl⟩)) ?_
  refine X_if_neN (a := 1) 18 dX12_would_11 (by decide) (by omega) (fun h_1 => ?_) (fun h_1 => ?_)
  · refine X_iconst (v := nI 0) dX12_would_18 (by decide) ?_
    refine X_iconst (v := nI 1) dX12_would_19 (by decide) ?_
    refine X_iconst (v := nI 0) dX12_would_20 (by decide) ?_
    refine X_callVI dX12_would_21 mkX12_228 (k_87 hSh) (c_bad0 Γ g (up2 mi 87 0 (nI 0)) ml hSh 1 0 up2_s) rfl rfl (by decide) (Nat.le_of_ble_eq_true rfl) ?_
    refine X_if_neN (a := 0) 93 dX12_would_24 (by decide) (by omega) (fun h_2 => ?_) (fun h_2 => ?_)
    · exact absurd h_2 (by omega)
    · refine X_aload_n dX12_would_27 rfl ?_
      refine X_iload_n dX12_would_28 rfl ?_
      refine X_callSI dX12_would_29 mkX12_298 (c_isHalf Γ g (up2 mi 87 0 (nI 0)) ml (nI ka)) rfl rfl (by decide) (Nat.le_of_ble_eq_true rfl) ?_
      refine X_topi (show bI (decide (nI 0 ≤ nI ka) && decide (nI ka ≤ nI 23)) = nI 1 from congrArg bI (show (decide (nI 0 ≤ nI ka) && decide (nI ka ≤ nI 23)) = true from by rw [decide_eq_true (nI_le (by omega) (by omega)), decide_eq_true (nI_le (by omega) (by omega))]; rfl)) ?_
      refine X_if_eqN (a := 1) 80 dX12_would_32 (by decide) (by omega) (fun h_3 => ?_) (fun h_3 => ?_)
      · exact absurd h_3 (by omega)
      · refine X_iload_n dX12_would_35 rfl ?_
        refine X_callSI dX12_would_36 mkX12_298 (c_isHalf Γ g (up2 mi 87 0 (nI 0)) ml (nI kf)) rfl rfl (by decide) (Nat.le_of_ble_eq_true rfl) ?_
        refine X_topi (show bI (decide (nI 0 ≤ nI kf) && decide (nI kf ≤ nI 23)) = nI 1 from congrArg bI (show (decide (nI 0 ≤ nI kf) && decide (nI kf ≤ nI 23)) = true from by rw [decide_eq_true (nI_le (by omega) (by omega)), decide_eq_true (nI_le (by omega) (by omega))]; rfl)) ?_
        refine X_if_eqN (a := 1) 80 dX12_would_39 (by decide) (by omega) (fun h_4 => ?_) (fun h_4 => ?_)
        · exact absurd h_4 (by omega)
        · refine X_iload dX12_would_42 rfl ?_
          refine X_callSI dX12_would_44 mkX12_298 (c_isHalf Γ g (up2 mi 87 0 (nI 0)) ml xl) rfl rfl (by decide) (Nat.le_of_ble_eq_true rfl) ?_
          refine X_topi (show bI (decide (nI 0 ≤ xl) && decide (xl ≤ nI 23)) = nI 0 from congrArg bI (show (decide (nI 0 ≤ xl) && decide (xl ≤ nI 23)) = false from Bool.eq_false_iff.mpr (fun q => hf (by rw [Bool.and_eq_true, decide_eq_true_eq, decide_eq_true_eq] at q; exact q)))) ?_
          refine X_if_eqN (a := 0) 80 dX12_would_47 (by decide) (by omega) (fun h_5 => ?_) (fun h_5 => ?_)
          · refine X_iconst (v := nI 1) dX12_would_80 (by decide) ?_
            refine X_goto 85 dX12_would_81 (by decide) ?_
            refine X_iconst (v := nI 2) dX12_would_85 (by decide) ?_
            refine X_iconst (v := nI 1) dX12_would_86 (by decide) ?_
            refine X_callVI dX12_would_87 mkX12_228 (k_87 hSh) (c_bad1 Γ g (up2 mi 87 0 (nI 0)) ml hSh 2 1 (by decide) (by decide) (by decide) up2_s) rfl rfl (by decide) (Nat.le_of_ble_eq_true rfl) ?_
            refine X_mi (show _ = mB mi 2 1 from rfl) ?_
            refine X_if_eqN (a := 1) 95 dX12_would_90 (by decide) (by omega) (fun h_6 => ?_) (fun h_6 => ?_)
            · exact absurd h_6 (by omega)
            · refine X_iconst (v := nI 0) dX12_would_93 (by decide) ?_
              exact X_iret dX12_would_94 rfl ⟨rfl, rfl, RI_rf hA (by decide) hR, fr2_B, _, rfl, mB_0⟩
          · exact absurd h_5 (by omega)
  · exact absurd h_1 (by omega)
set_option maxRecDepth 100000 in
set_option maxHeartbeats 4000000 in
theorem k_would_f4 (Γ : pTG) (g : pGG) (mi : pMI) (ml : pML) (A : AS) (hA : okAS A) (hC : CI A g mi ml) (b : Nat) (hb : b < aG A) (ka : Nat) (hkaa : 0 ≤ ka) (hka : ka ≤ 23) (kf : Nat) (hkfa : 0 ≤ kf) (hkf : kf ≤ 23) (kl : Nat) (hkla : 0 ≤ kl) (hkl : kl ≤ 23) (xo : Int32) (hf : ¬ (nI 0 ≤ xo ∧ xo ≤ nI 1)) (xn : Int32) (xd : Int32) : CT Γ 60 20 5000 mX11_would [.ref 0, .int (nI b), .int (nI ka), .int (nI kf), .int (nI kl), .int xo, .int xn, .int xd] g mi ml (CQ (rfA A 1) (.inr 1) mi ml) := by
  refine CT_of (by decide +kernel) (Nat.le_of_ble_eq_true rfl) ?_
  have hSh := CI_Sh hC
  have hcl := CI_cl hC
  have hP := hA.1
  have hG8 : aG A ≤ 8 := hP.2.1
  have hC8 : (aP A).1 ≤ 8 := hP.1
  refine X_aload_n dX11_would_0 rfl ?_
  refine X_iload_n dX11_would_1 rfl ?_
  refine X_need dX11_would_2 mkX11_147 (k_0 hSh) (c_needGuest Γ g mi ml hSh (nI b)) rfl rfl (by decide) (by decide) (by decide) (by decide) (fun h => absurd (by rw [hcl.2.1]; exact (gd_iff hG8).mpr ⟨b, hb, rfl⟩) h) (fun _ => ?_)
  refine X_aload_n dX11_would_5 rfl ?_
  refine X_iload_n dX11_would_6 rfl ?_
  refine X_iconst (v := nI 0) dX11_would_7 (by decide) ?_
  refine X_bipush (v := nI 23) dX11_would_8 (by decide) ?_
  refine X_need dX11_would_10 mkX11_116 (k_0 hSh) (c_needWithin Γ g mi ml hSh (nI ka) (nI 0) (nI 23)) rfl rfl (by decide) (by decide) (by decide) (by decide) (fun h => absurd (⟨nI_le (by omega) (by omega), nI_le (by omega) (by omega)⟩) h) (fun _ => ?_)
  refine X_aload_n dX11_would_13 rfl ?_
  refine X_iload_n dX11_would_14 rfl ?_
  refine X_iconst (v := nI 0) dX11_would_15 (by decide) ?_
  refine X_bipush (v := nI 23) dX11_would_16 (by decide) ?_
  refine X_need dX11_would_18 mkX11_116 (k_0 hSh) (c_needWithin Γ g mi ml hSh (nI kf) (nI 0) (nI 23)) rfl rfl (by decide) (by decide) (by decide) (by decide) (fun h => absurd (⟨nI_le (by omega) (by omega), nI_le (by omega) (by omega)⟩) h) (fun _ => ?_)
  refine X_aload_n dX11_would_21 rfl ?_
  refine X_iload dX11_would_22 rfl ?_
  refine X_iconst (v := nI 0) dX11_would_24 (by decide) ?_
  refine X_bipush (v := nI 23) dX11_would_25 (by decide) ?_
  refine X_need dX11_would_27 mkX11_116 (k_0 hSh) (c_needWithin Γ g mi ml hSh (nI kl) (nI 0) (nI 23)) rfl rfl (by decide) (by decide) (by decide) (by decide) (fun h => absurd (⟨nI_le (by omega) (by omega), nI_le (by omega) (by omega)⟩) h) (fun _ => ?_)
  refine X_aload_n dX11_would_30 rfl ?_
  refine X_iload dX11_would_31 rfl ?_
  refine X_iconst (v := nI 0) dX11_would_33 (by decide) ?_
  refine X_iconst (v := nI 1) dX11_would_34 (by decide) ?_
  exact X_need dX11_would_35 mkX11_116 (k_0 hSh) (c_needWithin Γ g mi ml hSh xo (nI 0) (nI 1)) rfl rfl (by decide) (by decide) (by decide) (by decide) (fun _ => ⟨rfl, CI_rf (by decide) hC, frK_86, rfl⟩) (fun h => absurd h hf)
set_option maxRecDepth 100000 in
set_option maxHeartbeats 4000000 in
theorem r_would_f4 (Γ : pTG) (g : pGG) (mi : pMI) (ml : pML) (A : AS) (hA : okAS A) (hSh : Sh g) (hR : RI A mi) (b : Nat) (hb : b < aG A) (ka : Nat) (hkaa : 0 ≤ ka) (hka : ka ≤ 23) (kf : Nat) (hkfa : 0 ≤ kf) (hkf : kf ≤ 23) (kl : Nat) (hkla : 0 ≤ kl) (hkl : kl ≤ 23) (xo : Int32) (hf : ¬ (nI 0 ≤ xo ∧ xo ≤ nI 1)) (xn : Int32) (xd : Int32) : CT Γ 60 0 0 mX12_would [.ref 87, .int (nI b), .int (nI ka), .int (nI kf), .int (nI kl), .int xo, .int xn, .int xd] g mi ml (RQ (rfA A 1) (.inr 1) cd2 g mi ml) := by
  refine CT_of (by decide +kernel) (Nat.le_of_ble_eq_true rfl) ?_
  have hP := hA.1
  have hG8 : aG A ≤ 8 := hP.2.1
  have hC8 : (aP A).1 ≤ 8 := hP.1
  refine X_aload_n dX12_would_0 rfl ?_
  refine X_iconst (v := nI 0) dX12_would_1 (by decide) ?_
  refine X_puti dX12_would_2 fkX12_158 rfl rfl (k_87 hSh) ?_
  refine X_aload_n dX12_would_5 rfl ?_
  refine X_aload_n dX12_would_6 rfl ?_
  refine X_iload_n dX12_would_7 rfl ?_
  refine X_callVI dX12_would_8 mkX12_285 (k_87 hSh) (c_isGuest Γ g (up2 mi 87 0 (nI 0)) ml hSh (nI b)) rfl rfl (by decide) (Nat.le_of_ble_eq_true rfl) ?_
  refine X_topi (show bI (decide (nI 0 ≤ nI b) && decide (nI b ≤ (up2 mi 87 0 (nI 0)) 91 1 - nI 1)) = nI 1 from congrArg bI (show (decide (nI 0 ≤ nI b) && decide (nI b ≤ (up2 mi 87 0 (nI 0)) 91 1 - nI 1)) = true from by rw [(show (up2 mi 87 0 (nI 0)) 91 1 = nI (aG A) from ((congrFun (up2_row (by omega)) _).trans hR.1.2.1))]; exact (gd_ref hG8).mpr ⟨b, hb, rfl⟩)) ?_
  refine X_if_neN (a := 1) 18 dX12_would_11 (by decide) (by omega) (fun h_1 => ?_) (fun h_1 => ?_)
  · refine X_iconst (v := nI 0) dX12_would_18 (by decide) ?_
    refine X_iconst (v := nI 1) dX12_would_19 (by decide) ?_
    refine X_iconst (v := nI 0) dX12_would_20 (by decide) ?_
    refine X_callVI dX12_would_21 mkX12_228 (k_87 hSh) (c_bad0 Γ g (up2 mi 87 0 (nI 0)) ml hSh 1 0 up2_s) rfl rfl (by decide) (Nat.le_of_ble_eq_true rfl) ?_
    refine X_if_neN (a := 0) 93 dX12_would_24 (by decide) (by omega) (fun h_2 => ?_) (fun h_2 => ?_)
    · exact absurd h_2 (by omega)
    · refine X_aload_n dX12_would_27 rfl ?_
      refine X_iload_n dX12_would_28 rfl ?_
      refine X_callSI dX12_would_29 mkX12_298 (c_isHalf Γ g (up2 mi 87 0 (nI 0)) ml (nI ka)) rfl rfl (by decide) (Nat.le_of_ble_eq_true rfl) ?_
      refine X_topi (show bI (decide (nI 0 ≤ nI ka) && decide (nI ka ≤ nI 23)) = nI 1 from congrArg bI (show (decide (nI 0 ≤ nI ka) && decide (nI ka ≤ nI 23)) = true from by rw [decide_eq_true (nI_le (by omega) (by omega)), decide_eq_true (nI_le (by omega) (by omega))]; rfl)) ?_
      refine X_if_eqN (a := 1) 80 dX12_would_32 (by decide) (by omega) (fun h_3 => ?_) (fun h_3 => ?_)
      · exact absurd h_3 (by omega)
      · refine X_iload_n dX12_would_35 rfl ?_
        refine X_callSI dX12_would_36 mkX12_298 (c_isHalf Γ g (up2 mi 87 0 (nI 0)) ml (nI kf)) rfl rfl (by decide) (Nat.le_of_ble_eq_true rfl) ?_
        refine X_topi (show bI (decide (nI 0 ≤ nI kf) && decide (nI kf ≤ nI 23)) = nI 1 from congrArg bI (show (decide (nI 0 ≤ nI kf) && decide (nI kf ≤ nI 23)) = true from by rw [decide_eq_true (nI_le (by omega) (by omega)), decide_eq_true (nI_le (by omega) (by omega))]; rfl)) ?_
        refine X_if_eqN (a := 1) 80 dX12_would_39 (by decide) (by omega) (fun h_4 => ?_) (fun h_4 => ?_)
        · exact absurd h_4 (by omega)
        · refine X_iload dX12_would_42 rfl ?_
          refine X_callSI dX12_would_44 mkX12_298 (c_isHalf Γ g (up2 mi 87 0 (nI 0)) ml (nI kl)) rfl rfl (by decide) (Nat.le_of_ble_eq_true rfl) ?_
          refine X_topi (show bI (decide (nI 0 ≤ nI kl) && decide (nI kl ≤ nI 23)) = nI 1 from congrArg bI (show (decide (nI 0 ≤ nI kl) && decide (nI kl ≤ nI 23)) = true from by rw [decide_eq_true (nI_le (by omega) (by omega)), decide_eq_true (nI_le (by omega) (by omega))]; rfl)) ?_
          refine X_if_eqN (a := 1) 80 dX12_would_47 (by decide) (by omega) (fun h_5 => ?_) (fun h_5 => ?_)
          · exact absurd h_5 (by omega)
          · refine X_iload dX12_would_50 rfl ?_
            refine X_iconst (v := nI 0) dX12_would_52 (by decide) ?_
            refine X_iconst (v := nI 1) dX12_would_53 (by decide) ?_
            refine X_callSI dX12_would_54 mkX12_192 (c_in Γ g (up2 mi 87 0 (nI 0)) ml xo (nI 0) (nI 1)) rfl rfl (by decide) (Nat.le_of_ble_eq_true rfl) ?_
            refine X_topi (show bI (decide (nI 0 ≤ xo) && decide (xo ≤ nI 1)) = nI 0 from congrArg bI (show (decide (nI 0 ≤ xo) && decide (xo ≤ nI 1)) = false from Bool.eq_false_iff.mpr (fun q => hf (by rw [Bool.and_eq_true, decide_eq_true_eq, decide_eq_true_eq] at q; exact q)))) ?_
            refine X_if_eqN (a := 0) 80 dX12_would_57 (by decide) (by omega) (fun h_6 => ?_) (fun h_6 => ?_)
            · refine X_iconst (v := nI 1) dX12_would_80 (by decide) ?_
              refine X_goto 85 dX12_would_81 (by decide) ?_
              refine X_iconst (v := nI 2) dX12_would_85 (by decide) ?_
              refine X_iconst (v := nI 1) dX12_would_86 (by decide) ?_
              refine X_callVI dX12_would_87 mkX12_228 (k_87 hSh) (c_bad1 Γ g (up2 mi 87 0 (nI 0)) ml hSh 2 1 (by decide) (by decide) (by decide) up2_s) rfl rfl (by decide) (Nat.le_of_ble_eq_true rfl) ?_
              refine X_mi (show _ = mB mi 2 1 from rfl) ?_
              refine X_if_eqN (a := 1) 95 dX12_would_90 (by decide) (by omega) (fun h_7 => ?_) (fun h_7 => ?_)
              · exact absurd h_7 (by omega)
              · refine X_iconst (v := nI 0) dX12_would_93 (by decide) ?_
                exact X_iret dX12_would_94 rfl ⟨rfl, rfl, RI_rf hA (by decide) hR, fr2_B, _, rfl, mB_0⟩
            · exact absurd h_6 (by omega)
  · exact absurd h_1 (by omega)
set_option maxRecDepth 100000 in
set_option maxHeartbeats 4000000 in
theorem k_would_f5 (Γ : pTG) (g : pGG) (mi : pMI) (ml : pML) (A : AS) (hA : okAS A) (hC : CI A g mi ml) (b : Nat) (hb : b < aG A) (ka : Nat) (hkaa : 0 ≤ ka) (hka : ka ≤ 23) (kf : Nat) (hkfa : 0 ≤ kf) (hkf : kf ≤ 23) (kl : Nat) (hkla : 0 ≤ kl) (hkl : kl ≤ 23) (ko : Nat) (hkoa : 0 ≤ ko) (hko : ko ≤ 1) (xn : Int32) (hf : ¬ (nI 0 ≤ xn ∧ xn ≤ nI 23)) (xd : Int32) : CT Γ 60 20 5000 mX11_would [.ref 0, .int (nI b), .int (nI ka), .int (nI kf), .int (nI kl), .int (nI ko), .int xn, .int xd] g mi ml (CQ (rfA A 1) (.inr 1) mi ml) := by
  refine CT_of (by decide +kernel) (Nat.le_of_ble_eq_true rfl) ?_
  have hSh := CI_Sh hC
  have hcl := CI_cl hC
  have hP := hA.1
  have hG8 : aG A ≤ 8 := hP.2.1
  have hC8 : (aP A).1 ≤ 8 := hP.1
  refine X_aload_n dX11_would_0 rfl ?_
  refine X_iload_n dX11_would_1 rfl ?_
  refine X_need dX11_would_2 mkX11_147 (k_0 hSh) (c_needGuest Γ g mi ml hSh (nI b)) rfl rfl (by decide) (by decide) (by decide) (by decide) (fun h => absurd (by rw [hcl.2.1]; exact (gd_iff hG8).mpr ⟨b, hb, rfl⟩) h) (fun _ => ?_)
  refine X_aload_n dX11_would_5 rfl ?_
  refine X_iload_n dX11_would_6 rfl ?_
  refine X_iconst (v := nI 0) dX11_would_7 (by decide) ?_
  refine X_bipush (v := nI 23) dX11_would_8 (by decide) ?_
  refine X_need dX11_would_10 mkX11_116 (k_0 hSh) (c_needWithin Γ g mi ml hSh (nI ka) (nI 0) (nI 23)) rfl rfl (by decide) (by decide) (by decide) (by decide) (fun h => absurd (⟨nI_le (by omega) (by omega), nI_le (by omega) (by omega)⟩) h) (fun _ => ?_)
  refine X_aload_n dX11_would_13 rfl ?_
  refine X_iload_n dX11_would_14 rfl ?_
  refine X_iconst (v := nI 0) dX11_would_15 (by decide) ?_
  refine X_bipush (v := nI 23) dX11_would_16 (by decide) ?_
  refine X_need dX11_would_18 mkX11_116 (k_0 hSh) (c_needWithin Γ g mi ml hSh (nI kf) (nI 0) (nI 23)) rfl rfl (by decide) (by decide) (by decide) (by decide) (fun h => absurd (⟨nI_le (by omega) (by omega), nI_le (by omega) (by omega)⟩) h) (fun _ => ?_)
  refine X_aload_n dX11_would_21 rfl ?_
  refine X_iload dX11_would_22 rfl ?_
  refine X_iconst (v := nI 0) dX11_would_24 (by decide) ?_
  refine X_bipush (v := nI 23) dX11_would_25 (by decide) ?_
  refine X_need dX11_would_27 mkX11_116 (k_0 hSh) (c_needWithin Γ g mi ml hSh (nI kl) (nI 0) (nI 23)) rfl rfl (by decide) (by decide) (by decide) (by decide) (fun h => absurd (⟨nI_le (by omega) (by omega), nI_le (by omega) (by omega)⟩) h) (fun _ => ?_)
  refine X_aload_n dX11_would_30 rfl ?_
  refine X_iload dX11_would_31 rfl ?_
  refine X_iconst (v := nI 0) dX11_would_33 (by decide) ?_
  refine X_iconst (v := nI 1) dX11_would_34 (by decide) ?_
  refine X_need dX11_would_35 mkX11_116 (k_0 hSh) (c_needWithin Γ g mi ml hSh (nI ko) (nI 0) (nI 1)) rfl rfl (by decide) (by decide) (by decide) (by decide) (fun h => absurd (⟨nI_le (by omega) (by omega), nI_le (by omega) (by omega)⟩) h) (fun _ => ?_)
  refine X_aload_n dX11_would_38 rfl ?_
  refine X_iload dX11_would_39 rfl ?_
  refine X_iconst (v := nI 0) dX11_would_41 (by decide) ?_
  refine X_bipush (v := nI 23) dX11_would_42 (by decide) ?_
  exact X_need dX11_would_44 mkX11_116 (k_0 hSh) (c_needWithin Γ g mi ml hSh xn (nI 0) (nI 23)) rfl rfl (by decide) (by decide) (by decide) (by decide) (fun _ => ⟨rfl, CI_rf (by decide) hC, frK_86, rfl⟩) (fun h => absurd h hf)
set_option maxRecDepth 100000 in
set_option maxHeartbeats 4000000 in
theorem r_would_f5 (Γ : pTG) (g : pGG) (mi : pMI) (ml : pML) (A : AS) (hA : okAS A) (hSh : Sh g) (hR : RI A mi) (b : Nat) (hb : b < aG A) (ka : Nat) (hkaa : 0 ≤ ka) (hka : ka ≤ 23) (kf : Nat) (hkfa : 0 ≤ kf) (hkf : kf ≤ 23) (kl : Nat) (hkla : 0 ≤ kl) (hkl : kl ≤ 23) (ko : Nat) (hkoa : 0 ≤ ko) (hko : ko ≤ 1) (xn : Int32) (hf : ¬ (nI 0 ≤ xn ∧ xn ≤ nI 23)) (xd : Int32) : CT Γ 60 0 0 mX12_would [.ref 87, .int (nI b), .int (nI ka), .int (nI kf), .int (nI kl), .int (nI ko), .int xn, .int xd] g mi ml (RQ (rfA A 1) (.inr 1) cd2 g mi ml) := by
  refine CT_of (by decide +kernel) (Nat.le_of_ble_eq_true rfl) ?_
  have hP := hA.1
  have hG8 : aG A ≤ 8 := hP.2.1
  have hC8 : (aP A).1 ≤ 8 := hP.1
  refine X_aload_n dX12_would_0 rfl ?_
  refine X_iconst (v := nI 0) dX12_would_1 (by decide) ?_
  refine X_puti dX12_would_2 fkX12_158 rfl rfl (k_87 hSh) ?_
  refine X_aload_n dX12_would_5 rfl ?_
  refine X_aload_n dX12_would_6 rfl ?_
  refine X_iload_n dX12_would_7 rfl ?_
  refine X_callVI dX12_would_8 mkX12_285 (k_87 hSh) (c_isGuest Γ g (up2 mi 87 0 (nI 0)) ml hSh (nI b)) rfl rfl (by decide) (Nat.le_of_ble_eq_true rfl) ?_
  refine X_topi (show bI (decide (nI 0 ≤ nI b) && decide (nI b ≤ (up2 mi 87 0 (nI 0)) 91 1 - nI 1)) = nI 1 from congrArg bI (show (decide (nI 0 ≤ nI b) && decide (nI b ≤ (up2 mi 87 0 (nI 0)) 91 1 - nI 1)) = true from by rw [(show (up2 mi 87 0 (nI 0)) 91 1 = nI (aG A) from ((congrFun (up2_row (by omega)) _).trans hR.1.2.1))]; exact (gd_ref hG8).mpr ⟨b, hb, rfl⟩)) ?_
  refine X_if_neN (a := 1) 18 dX12_would_11 (by decide) (by omega) (fun h_1 => ?_) (fun h_1 => ?_)
  · refine X_iconst (v := nI 0) dX12_would_18 (by decide) ?_
    refine X_iconst (v := nI 1) dX12_would_19 (by decide) ?_
    refine X_iconst (v := nI 0) dX12_would_20 (by decide) ?_
    refine X_callVI dX12_would_21 mkX12_228 (k_87 hSh) (c_bad0 Γ g (up2 mi 87 0 (nI 0)) ml hSh 1 0 up2_s) rfl rfl (by decide) (Nat.le_of_ble_eq_true rfl) ?_
    refine X_if_neN (a := 0) 93 dX12_would_24 (by decide) (by omega) (fun h_2 => ?_) (fun h_2 => ?_)
    · exact absurd h_2 (by omega)
    · refine X_aload_n dX12_would_27 rfl ?_
      refine X_iload_n dX12_would_28 rfl ?_
      refine X_callSI dX12_would_29 mkX12_298 (c_isHalf Γ g (up2 mi 87 0 (nI 0)) ml (nI ka)) rfl rfl (by decide) (Nat.le_of_ble_eq_true rfl) ?_
      refine X_topi (show bI (decide (nI 0 ≤ nI ka) && decide (nI ka ≤ nI 23)) = nI 1 from congrArg bI (show (decide (nI 0 ≤ nI ka) && decide (nI ka ≤ nI 23)) = true from by rw [decide_eq_true (nI_le (by omega) (by omega)), decide_eq_true (nI_le (by omega) (by omega))]; rfl)) ?_
      refine X_if_eqN (a := 1) 80 dX12_would_32 (by decide) (by omega) (fun h_3 => ?_) (fun h_3 => ?_)
      · exact absurd h_3 (by omega)
      · refine X_iload_n dX12_would_35 rfl ?_
        refine X_callSI dX12_would_36 mkX12_298 (c_isHalf Γ g (up2 mi 87 0 (nI 0)) ml (nI kf)) rfl rfl (by decide) (Nat.le_of_ble_eq_true rfl) ?_
        refine X_topi (show bI (decide (nI 0 ≤ nI kf) && decide (nI kf ≤ nI 23)) = nI 1 from congrArg bI (show (decide (nI 0 ≤ nI kf) && decide (nI kf ≤ nI 23)) = true from by rw [decide_eq_true (nI_le (by omega) (by omega)), decide_eq_true (nI_le (by omega) (by omega))]; rfl)) ?_
        refine X_if_eqN (a := 1) 80 dX12_would_39 (by decide) (by omega) (fun h_4 => ?_) (fun h_4 => ?_)
        · exact absurd h_4 (by omega)
        · refine X_iload dX12_would_42 rfl ?_
          refine X_callSI dX12_would_44 mkX12_298 (c_isHalf Γ g (up2 mi 87 0 (nI 0)) ml (nI kl)) rfl rfl (by decide) (Nat.le_of_ble_eq_true rfl) ?_
          refine X_topi (show bI (decide (nI 0 ≤ nI kl) && decide (nI kl ≤ nI 23)) = nI 1 from congrArg bI (show (decide (nI 0 ≤ nI kl) && decide (nI kl ≤ nI 23)) = true from by rw [decide_eq_true (nI_le (by omega) (by omega)), decide_eq_true (nI_le (by omega) (by omega))]; rfl)) ?_
          refine X_if_eqN (a := 1) 80 dX12_would_47 (by decide) (by omega) (fun h_5 => ?_) (fun h_5 => ?_)
          · exact absurd h_5 (by omega)
          · refine X_iload dX12_would_50 rfl ?_
            refine X_iconst (v := nI 0) dX12_would_52 (by decide) ?_
            refine X_iconst (v := nI 1) dX12_would_53 (by decide) ?_
            refine X_callSI dX12_would_54 mkX12_192 (c_in Γ g (up2 mi 87 0 (nI 0)) ml (nI ko) (nI 0) (nI 1)) rfl rfl (by decide) (Nat.le_of_ble_eq_true rfl) ?_
            refine X_topi (show bI (decide (nI 0 ≤ nI ko) && decide (nI ko ≤ nI 1)) = nI 1 from congrArg bI (show (decide (nI 0 ≤ nI ko) && decide (nI ko ≤ nI 1)) = true from by rw [decide_eq_true (nI_le (by omega) (by omega)), decide_eq_true (nI_le (by omega) (by omega))]; rfl)) ?_
            refine X_if_eqN (a := 1) 80 dX12_would_57 (by decide) (by omega) (fun h_6 => ?_) (fun h_6 => ?_)
            · exact absurd h_6 (by omega)
            · refine X_iload dX12_would_60 rfl ?_
              refine X_callSI dX12_would_62 mkX12_298 (c_isHalf Γ g (up2 mi 87 0 (nI 0)) ml xn) rfl rfl (by decide) (Nat.le_of_ble_eq_true rfl) ?_
              refine X_topi (show bI (decide (nI 0 ≤ xn) && decide (xn ≤ nI 23)) = nI 0 from congrArg bI (show (decide (nI 0 ≤ xn) && decide (xn ≤ nI 23)) = false from Bool.eq_false_iff.mpr (fun q => hf (by rw [Bool.and_eq_true, decide_eq_true_eq, decide_eq_true_eq] at q; exact q)))) ?_
              refine X_if_eqN (a := 0) 80 dX12_would_65 (by decide) (by omega) (fun h_7 => ?_) (fun h_7 => ?_)
              · refine X_iconst (v := nI 1) dX12_would_80 (by decide) ?_
                refine X_goto 85 dX12_would_81 (by decide) ?_
                refine X_iconst (v := nI 2) dX12_would_85 (by decide) ?_
                refine X_iconst (v := nI 1) dX12_would_86 (by decide) ?_
                refine X_callVI dX12_would_87 mkX12_228 (k_87 hSh) (c_bad1 Γ g (up2 mi 87 0 (nI 0)) ml hSh 2 1 (by decide) (by decide) (by decide) up2_s) rfl rfl (by decide) (Nat.le_of_ble_eq_true rfl) ?_
                refine X_mi (show _ = mB mi 2 1 from rfl) ?_
                refine X_if_eqN (a := 1) 95 dX12_would_90 (by decide) (by omega) (fun h_8 => ?_) (fun h_8 => ?_)
                · exact absurd h_8 (by omega)
                · refine X_iconst (v := nI 0) dX12_would_93 (by decide) ?_
                  exact X_iret dX12_would_94 rfl ⟨rfl, rfl, RI_rf hA (by decide) hR, fr2_B, _, rfl, mB_0⟩
              · exact absurd h_7 (by omega)
  · exact absurd h_1 (by omega)
set_option maxRecDepth 100000 in
set_option maxHeartbeats 4000000 in
theorem k_would_f6 (Γ : pTG) (g : pGG) (mi : pMI) (ml : pML) (A : AS) (hA : okAS A) (hC : CI A g mi ml) (b : Nat) (hb : b < aG A) (ka : Nat) (hkaa : 0 ≤ ka) (hka : ka ≤ 23) (kf : Nat) (hkfa : 0 ≤ kf) (hkf : kf ≤ 23) (kl : Nat) (hkla : 0 ≤ kl) (hkl : kl ≤ 23) (ko : Nat) (hkoa : 0 ≤ ko) (hko : ko ≤ 1) (kn : Nat) (hkna : 0 ≤ kn) (hkn : kn ≤ 23) (xd : Int32) (hf : ¬ (nI 0 ≤ xd ∧ xd ≤ nI 999)) : CT Γ 60 20 5000 mX11_would [.ref 0, .int (nI b), .int (nI ka), .int (nI kf), .int (nI kl), .int (nI ko), .int (nI kn), .int xd] g mi ml (CQ (rfA A 1) (.inr 1) mi ml) := by
  refine CT_of (by decide +kernel) (Nat.le_of_ble_eq_true rfl) ?_
  have hSh := CI_Sh hC
  have hcl := CI_cl hC
  have hP := hA.1
  have hG8 : aG A ≤ 8 := hP.2.1
  have hC8 : (aP A).1 ≤ 8 := hP.1
  refine X_aload_n dX11_would_0 rfl ?_
  refine X_iload_n dX11_would_1 rfl ?_
  refine X_need dX11_would_2 mkX11_147 (k_0 hSh) (c_needGuest Γ g mi ml hSh (nI b)) rfl rfl (by decide) (by decide) (by decide) (by decide) (fun h => absurd (by rw [hcl.2.1]; exact (gd_iff hG8).mpr ⟨b, hb, rfl⟩) h) (fun _ => ?_)
  refine X_aload_n dX11_would_5 rfl ?_
  refine X_iload_n dX11_would_6 rfl ?_
  refine X_iconst (v := nI 0) dX11_would_7 (by decide) ?_
  refine X_bipush (v := nI 23) dX11_would_8 (by decide) ?_
  refine X_need dX11_would_10 mkX11_116 (k_0 hSh) (c_needWithin Γ g mi ml hSh (nI ka) (nI 0) (nI 23)) rfl rfl (by decide) (by decide) (by decide) (by decide) (fun h => absurd (⟨nI_le (by omega) (by omega), nI_le (by omega) (by omega)⟩) h) (fun _ => ?_)
  refine X_aload_n dX11_would_13 rfl ?_
  refine X_iload_n dX11_would_14 rfl ?_
  refine X_iconst (v := nI 0) dX11_would_15 (by decide) ?_
  refine X_bipush (v := nI 23) dX11_would_16 (by decide) ?_
  refine X_need dX11_would_18 mkX11_116 (k_0 hSh) (c_needWithin Γ g mi ml hSh (nI kf) (nI 0) (nI 23)) rfl rfl (by decide) (by decide) (by decide) (by decide) (fun h => absurd (⟨nI_le (by omega) (by omega), nI_le (by omega) (by omega)⟩) h) (fun _ => ?_)
  refine X_aload_n dX11_would_21 rfl ?_
  refine X_iload dX11_would_22 rfl ?_
  refine X_iconst (v := nI 0) dX11_would_24 (by decide) ?_
  refine X_bipush (v := nI 23) dX11_would_25 (by decide) ?_
  refine X_need dX11_would_27 mkX11_116 (k_0 hSh) (c_needWithin Γ g mi ml hSh (nI kl) (nI 0) (nI 23)) rfl rfl (by decide) (by decide) (by decide) (by decide) (fun h => absurd (⟨nI_le (by omega) (by omega), nI_le (by omega) (by omega)⟩) h) (fun _ => ?_)
  refine X_aload_n dX11_would_30 rfl ?_
  refine X_iload dX11_would_31 rfl ?_
  refine X_iconst (v := nI 0) dX11_would_33 (by decide) ?_
  refine X_iconst (v := nI 1) dX11_would_34 (by decide) ?_
  refine X_need dX11_would_35 mkX11_116 (k_0 hSh) (c_needWithin Γ g mi ml hSh (nI ko) (nI 0) (nI 1)) rfl rfl (by decide) (by decide) (by decide) (by decide) (fun h => absurd (⟨nI_le (by omega) (by omega), nI_le (by omega) (by omega)⟩) h) (fun _ => ?_)
  refine X_aload_n dX11_would_38 rfl ?_
  refine X_iload dX11_would_39 rfl ?_
  refine X_iconst (v := nI 0) dX11_would_41 (by decide) ?_
  refine X_bipush (v := nI 23) dX11_would_42 (by decide) ?_
  refine X_need dX11_would_44 mkX11_116 (k_0 hSh) (c_needWithin Γ g mi ml hSh (nI kn) (nI 0) (nI 23)) rfl rfl (by decide) (by decide) (by decide) (by decide) (fun h => absurd (⟨nI_le (by omega) (by omega), nI_le (by omega) (by omega)⟩) h) (fun _ => ?_)
  refine X_aload_n dX11_would_47 rfl ?_
  refine X_iload dX11_would_48 rfl ?_
  refine X_iconst (v := nI 0) dX11_would_50 (by decide) ?_
  refine X_sipush (v := nI 999) dX11_would_51 (by decide) ?_
  exact X_need dX11_would_54 mkX11_116 (k_0 hSh) (c_needWithin Γ g mi ml hSh xd (nI 0) (nI 999)) rfl rfl (by decide) (by decide) (by decide) (by decide) (fun _ => ⟨rfl, CI_rf (by decide) hC, frK_86, rfl⟩) (fun h => absurd h hf)
set_option maxRecDepth 100000 in
set_option maxHeartbeats 4000000 in
theorem r_would_f6 (Γ : pTG) (g : pGG) (mi : pMI) (ml : pML) (A : AS) (hA : okAS A) (hSh : Sh g) (hR : RI A mi) (b : Nat) (hb : b < aG A) (ka : Nat) (hkaa : 0 ≤ ka) (hka : ka ≤ 23) (kf : Nat) (hkfa : 0 ≤ kf) (hkf : kf ≤ 23) (kl : Nat) (hkla : 0 ≤ kl) (hkl : kl ≤ 23) (ko : Nat) (hkoa : 0 ≤ ko) (hko : ko ≤ 1) (kn : Nat) (hkna : 0 ≤ kn) (hkn : kn ≤ 23) (xd : Int32) (hf : ¬ (nI 0 ≤ xd ∧ xd ≤ nI 999)) : CT Γ 60 0 0 mX12_would [.ref 87, .int (nI b), .int (nI ka), .int (nI kf), .int (nI kl), .int (nI ko), .int (nI kn), .int xd] g mi ml (RQ (rfA A 1) (.inr 1) cd2 g mi ml) := by
  refine CT_of (by decide +kernel) (Nat.le_of_ble_eq_true rfl) ?_
  have hP := hA.1
  have hG8 : aG A ≤ 8 := hP.2.1
  have hC8 : (aP A).1 ≤ 8 := hP.1
  refine X_aload_n dX12_would_0 rfl ?_
  refine X_iconst (v := nI 0) dX12_would_1 (by decide) ?_
  refine X_puti dX12_would_2 fkX12_158 rfl rfl (k_87 hSh) ?_
  refine X_aload_n dX12_would_5 rfl ?_
  refine X_aload_n dX12_would_6 rfl ?_
  refine X_iload_n dX12_would_7 rfl ?_
  refine X_callVI dX12_would_8 mkX12_285 (k_87 hSh) (c_isGuest Γ g (up2 mi 87 0 (nI 0)) ml hSh (nI b)) rfl rfl (by decide) (Nat.le_of_ble_eq_true rfl) ?_
  refine X_topi (show bI (decide (nI 0 ≤ nI b) && decide (nI b ≤ (up2 mi 87 0 (nI 0)) 91 1 - nI 1)) = nI 1 from congrArg bI (show (decide (nI 0 ≤ nI b) && decide (nI b ≤ (up2 mi 87 0 (nI 0)) 91 1 - nI 1)) = true from by rw [(show (up2 mi 87 0 (nI 0)) 91 1 = nI (aG A) from ((congrFun (up2_row (by omega)) _).trans hR.1.2.1))]; exact (gd_ref hG8).mpr ⟨b, hb, rfl⟩)) ?_
  refine X_if_neN (a := 1) 18 dX12_would_11 (by decide) (by omega) (fun h_1 => ?_) (fun h_1 => ?_)
  · refine X_iconst (v := nI 0) dX12_would_18 (by decide) ?_
    refine X_iconst (v := nI 1) dX12_would_19 (by decide) ?_
    refine X_iconst (v := nI 0) dX12_would_20 (by decide) ?_
    refine X_callVI dX12_would_21 mkX12_228 (k_87 hSh) (c_bad0 Γ g (up2 mi 87 0 (nI 0)) ml hSh 1 0 up2_s) rfl rfl (by decide) (Nat.le_of_ble_eq_true rfl) ?_
    refine X_if_neN (a := 0) 93 dX12_would_24 (by decide) (by omega) (fun h_2 => ?_) (fun h_2 => ?_)
    · exact absurd h_2 (by omega)
    · refine X_aload_n dX12_would_27 rfl ?_
      refine X_iload_n dX12_would_28 rfl ?_
      refine X_callSI dX12_would_29 mkX12_298 (c_isHalf Γ g (up2 mi 87 0 (nI 0)) ml (nI ka)) rfl rfl (by decide) (Nat.le_of_ble_eq_true rfl) ?_
      refine X_topi (show bI (decide (nI 0 ≤ nI ka) && decide (nI ka ≤ nI 23)) = nI 1 from congrArg bI (show (decide (nI 0 ≤ nI ka) && decide (nI ka ≤ nI 23)) = true from by rw [decide_eq_true (nI_le (by omega) (by omega)), decide_eq_true (nI_le (by omega) (by omega))]; rfl)) ?_
      refine X_if_eqN (a := 1) 80 dX12_would_32 (by decide) (by omega) (fun h_3 => ?_) (fun h_3 => ?_)
      · exact absurd h_3 (by omega)
      · refine X_iload_n dX12_would_35 rfl ?_
        refine X_callSI dX12_would_36 mkX12_298 (c_isHalf Γ g (up2 mi 87 0 (nI 0)) ml (nI kf)) rfl rfl (by decide) (Nat.le_of_ble_eq_true rfl) ?_
        refine X_topi (show bI (decide (nI 0 ≤ nI kf) && decide (nI kf ≤ nI 23)) = nI 1 from congrArg bI (show (decide (nI 0 ≤ nI kf) && decide (nI kf ≤ nI 23)) = true from by rw [decide_eq_true (nI_le (by omega) (by omega)), decide_eq_true (nI_le (by omega) (by omega))]; rfl)) ?_
        refine X_if_eqN (a := 1) 80 dX12_would_39 (by decide) (by omega) (fun h_4 => ?_) (fun h_4 => ?_)
        · exact absurd h_4 (by omega)
        · refine X_iload dX12_would_42 rfl ?_
          refine X_callSI dX12_would_44 mkX12_298 (c_isHalf Γ g (up2 mi 87 0 (nI 0)) ml (nI kl)) rfl rfl (by decide) (Nat.le_of_ble_eq_true rfl) ?_
          refine X_topi (show bI (decide (nI 0 ≤ nI kl) && decide (nI kl ≤ nI 23)) = nI 1 from congrArg bI (show (decide (nI 0 ≤ nI kl) && decide (nI kl ≤ nI 23)) = true from by rw [decide_eq_true (nI_le (by omega) (by omega)), decide_eq_true (nI_le (by omega) (by omega))]; rfl)) ?_
          refine X_if_eqN (a := 1) 80 dX12_would_47 (by decide) (by omega) (fun h_5 => ?_) (fun h_5 => ?_)
          · exact absurd h_5 (by omega)
          · refine X_iload dX12_would_50 rfl ?_
            refine X_iconst (v := nI 0) dX12_would_52 (by decide) ?_
            refine X_iconst (v := nI 1) dX12_would_53 (by decide) ?_
            refine X_callSI dX12_would_54 mkX12_192 (c_in Γ g (up2 mi 87 0 (nI 0)) ml (nI ko) (nI 0) (nI 1)) rfl rfl (by decide) (Nat.le_of_ble_eq_true rfl) ?_
            refine X_topi (show bI (decide (nI 0 ≤ nI ko) && decide (nI ko ≤ nI 1)) = nI 1 from congrArg bI (show (decide (nI 0 ≤ nI ko) && decide (nI ko ≤ nI 1)) = true from by rw [decide_eq_true (nI_le (by omega) (by omega)), decide_eq_true (nI_le (by omega) (by omega))]; rfl)) ?_
            refine X_if_eqN (a := 1) 80 dX12_would_57 (by decide) (by omega) (fun h_6 => ?_) (fun h_6 => ?_)
            · exact absurd h_6 (by omega)
            · refine X_iload dX12_would_60 rfl ?_
              refine X_callSI dX12_would_62 mkX12_298 (c_isHalf Γ g (up2 mi 87 0 (nI 0)) ml (nI kn)) rfl rfl (by decide) (Nat.le_of_ble_eq_true rfl) ?_
              refine X_topi (show bI (decide (nI 0 ≤ nI kn) && decide (nI kn ≤ nI 23)) = nI 1 from congrArg bI (show (decide (nI 0 ≤ nI kn) && decide (nI kn ≤ nI 23)) = true from by rw [decide_eq_true (nI_le (by omega) (by omega)), decide_eq_true (nI_le (by omega) (by omega))]; rfl)) ?_
              refine X_if_eqN (a := 1) 80 dX12_would_65 (by decide) (by omega) (fun h_7 => ?_) (fun h_7 => ?_)
              · exact absurd h_7 (by omega)
              · refine X_iload dX12_would_68 rfl ?_
                refine X_iconst (v := nI 0) dX12_would_70 (by decide) ?_
                refine X_sipush (v := nI 999) dX12_would_71 (by decide) ?_
                refine X_callSI dX12_would_74 mkX12_192 (c_in Γ g (up2 mi 87 0 (nI 0)) ml xd (nI 0) (nI 999)) rfl rfl (by decide) (Nat.le_of_ble_eq_true rfl) ?_
                refine X_topi (show bI (decide (nI 0 ≤ xd) && decide (xd ≤ nI 999)) = nI 0 from congrArg bI (show (decide (nI 0 ≤ xd) && decide (xd ≤ nI 999)) = false from Bool.eq_false_iff.mpr (fun q => hf (by rw [Bool.and_eq_true, decide_eq_true_eq, decide_eq_true_eq] at q; exact q)))) ?_
                refine X_if_neN (a := 0) 84 dX12_would_77 (by decide) (by omega) (fun h_8 => ?_) (fun h_8 => ?_)
                · exact absurd h_8 (by omega)
                · refine X_iconst (v := nI 1) dX12_would_80 (by decide) ?_
                  refine X_goto 85 dX12_would_81 (by decide) ?_
                  refine X_iconst (v := nI 2) dX12_would_85 (by decide) ?_
                  refine X_iconst (v := nI 1) dX12_would_86 (by decide) ?_
                  refine X_callVI dX12_would_87 mkX12_228 (k_87 hSh) (c_bad1 Γ g (up2 mi 87 0 (nI 0)) ml hSh 2 1 (by decide) (by decide) (by decide) up2_s) rfl rfl (by decide) (Nat.le_of_ble_eq_true rfl) ?_
                  refine X_mi (show _ = mB mi 2 1 from rfl) ?_
                  refine X_if_eqN (a := 1) 95 dX12_would_90 (by decide) (by omega) (fun h_9 => ?_) (fun h_9 => ?_)
                  · exact absurd h_9 (by omega)
                  · refine X_iconst (v := nI 0) dX12_would_93 (by decide) ?_
                    exact X_iret dX12_would_94 rfl ⟨rfl, rfl, RI_rf hA (by decide) hR, fr2_B, _, rfl, mB_0⟩
  · exact absurd h_1 (by omega)
theorem CI_hb {A : AS} {g : pGG} {m : pMI} {l : pML} (h : CI A g m l) : clHb m (aH A) := by obtain ⟨_, _, _, _, _, _, h, _⟩ := h; exact h.2.1
set_option maxRecDepth 100000 in
set_option maxHeartbeats 4000000 in
theorem k_would (Γ : pTG) (g : pGG) (mi : pMI) (ml : pML) (A : AS) (hA : okAS A) (hC : CI A g mi ml) (b : Nat) (hb : b < aG A) (ka : Nat) (hkaa : 0 ≤ ka) (hka : ka ≤ 23) (kf : Nat) (hkfa : 0 ≤ kf) (hkf : kf ≤ 23) (kl : Nat) (hkla : 0 ≤ kl) (hkl : kl ≤ 23) (ko : Nat) (hkoa : 0 ≤ ko) (hko : ko ≤ 1) (kn : Nat) (hkna : 0 ≤ kn) (hkn : kn ≤ 23) (kd : Nat) (hkda : 0 ≤ kd) (hkd : kd ≤ 999) : CT Γ 60 20 5000 mX11_would [.ref 0, .int (nI b), .int (nI ka), .int (nI kf), .int (nI kl), .int (nI ko), .int (nI kn), .int (nI kd)] g mi ml (CQ A (.inl (clH ((aH A b).2 (kwV (aP A) b ka kf kl ko kn kd)))) mi ml) := by
  refine CT_of (by decide +kernel) (Nat.le_of_ble_eq_true rfl) ?_
  have hSh := CI_Sh hC
  have hcl := CI_cl hC
  have hP := hA.1
  have hG8 : aG A ≤ 8 := hP.2.1
  have hC8 : (aP A).1 ≤ 8 := hP.1
  refine X_aload_n dX11_would_0 rfl ?_
  refine X_iload_n dX11_would_1 rfl ?_
  refine X_need dX11_would_2 mkX11_147 (k_0 hSh) (c_needGuest Γ g mi ml hSh (nI b)) rfl rfl (by decide) (by decide) (by decide) (by decide) (fun h => absurd (by rw [hcl.2.1]; exact (gd_iff hG8).mpr ⟨b, hb, rfl⟩) h) (fun _ => ?_)
  refine X_aload_n dX11_would_5 rfl ?_
  refine X_iload_n dX11_would_6 rfl ?_
  refine X_iconst (v := nI 0) dX11_would_7 (by decide) ?_
  refine X_bipush (v := nI 23) dX11_would_8 (by decide) ?_
  refine X_need dX11_would_10 mkX11_116 (k_0 hSh) (c_needWithin Γ g mi ml hSh (nI ka) (nI 0) (nI 23)) rfl rfl (by decide) (by decide) (by decide) (by decide) (fun h => absurd (⟨nI_le (by omega) (by omega), nI_le (by omega) (by omega)⟩) h) (fun _ => ?_)
  refine X_aload_n dX11_would_13 rfl ?_
  refine X_iload_n dX11_would_14 rfl ?_
  refine X_iconst (v := nI 0) dX11_would_15 (by decide) ?_
  refine X_bipush (v := nI 23) dX11_would_16 (by decide) ?_
  refine X_need dX11_would_18 mkX11_116 (k_0 hSh) (c_needWithin Γ g mi ml hSh (nI kf) (nI 0) (nI 23)) rfl rfl (by decide) (by decide) (by decide) (by decide) (fun h => absurd (⟨nI_le (by omega) (by omega), nI_le (by omega) (by omega)⟩) h) (fun _ => ?_)
  refine X_aload_n dX11_would_21 rfl ?_
  refine X_iload dX11_would_22 rfl ?_
  refine X_iconst (v := nI 0) dX11_would_24 (by decide) ?_
  refine X_bipush (v := nI 23) dX11_would_25 (by decide) ?_
  refine X_need dX11_would_27 mkX11_116 (k_0 hSh) (c_needWithin Γ g mi ml hSh (nI kl) (nI 0) (nI 23)) rfl rfl (by decide) (by decide) (by decide) (by decide) (fun h => absurd (⟨nI_le (by omega) (by omega), nI_le (by omega) (by omega)⟩) h) (fun _ => ?_)
  refine X_aload_n dX11_would_30 rfl ?_
  refine X_iload dX11_would_31 rfl ?_
  refine X_iconst (v := nI 0) dX11_would_33 (by decide) ?_
  refine X_iconst (v := nI 1) dX11_would_34 (by decide) ?_
  refine X_need dX11_would_35 mkX11_116 (k_0 hSh) (c_needWithin Γ g mi ml hSh (nI ko) (nI 0) (nI 1)) rfl rfl (by decide) (by decide) (by decide) (by decide) (fun h => absurd (⟨nI_le (by omega) (by omega), nI_le (by omega) (by omega)⟩) h) (fun _ => ?_)
  refine X_aload_n dX11_would_38 rfl ?_
  refine X_iload dX11_would_39 rfl ?_
  refine X_iconst (v := nI 0) dX11_would_41 (by decide) ?_
  refine X_bipush (v := nI 23) dX11_would_42 (by decide) ?_
  refine X_need dX11_would_44 mkX11_116 (k_0 hSh) (c_needWithin Γ g mi ml hSh (nI kn) (nI 0) (nI 23)) rfl rfl (by decide) (by decide) (by decide) (by decide) (fun h => absurd (⟨nI_le (by omega) (by omega), nI_le (by omega) (by omega)⟩) h) (fun _ => ?_)
  refine X_aload_n dX11_would_47 rfl ?_
  refine X_iload dX11_would_48 rfl ?_
  refine X_iconst (v := nI 0) dX11_would_50 (by decide) ?_
  refine X_sipush (v := nI 999) dX11_would_51 (by decide) ?_
  refine X_need dX11_would_54 mkX11_116 (k_0 hSh) (c_needWithin Γ g mi ml hSh (nI kd) (nI 0) (nI 999)) rfl rfl (by decide) (by decide) (by decide) (by decide) (fun h => absurd (⟨nI_le (by omega) (by omega), nI_le (by omega) (by omega)⟩) h) (fun _ => ?_)
  refine X_aload_n dX11_would_57 rfl ?_
  refine X_getr (a := 17) dX11_would_58 fkX11_35 rfl (k_0 hSh) (r_0_4 hSh) ?_
  refine X_aload_n dX11_would_61 rfl ?_
  refine X_getr (a := 3) dX11_would_62 fkX11_25 rfl (k_0 hSh) (r_0_2 hSh) ?_
  refine X_iload_n dX11_would_65 rfl ?_
  refine X_iload dX11_would_66 rfl ?_
  refine X_iload dX11_would_68 rfl ?_
  refine X_callVV dX11_would_70 mkX11_247 (k_17 hSh) (c_setCommon Γ g mi ml hSh (nI kf) (nI kl) (nI kd)) rfl rfl (by decide) (Nat.le_of_ble_eq_true rfl) ?_
  refine X_aload_n dX11_would_73 rfl ?_
  refine X_getr (a := 17) dX11_would_74 fkX11_35 rfl (k_0 hSh) (r_0_4 hSh) ?_
  refine X_iload_n dX11_would_77 rfl ?_
  refine X_iload dX11_would_78 rfl ?_
  refine X_iload dX11_would_80 rfl ?_
  refine X_iconst (v := nI 0) dX11_would_82 (by decide) ?_
  refine X_callVV dX11_would_83 mkX11_251 (k_17 hSh) (c_setOwn Γ g (stC mi (nI kf) (nI kl) (nI kd)) ml hSh (nI ka) (nI ko) (nI kn) (nI 0)) rfl rfl (by decide) (Nat.le_of_ble_eq_true rfl) ?_
  refine X_aload_n dX11_would_86 rfl ?_
  refine X_getr (a := 17) dX11_would_87 fkX11_35 rfl (k_0 hSh) (r_0_4 hSh) ?_
  refine X_aload_n dX11_would_90 rfl ?_
  refine X_getr (a := 3) dX11_would_91 fkX11_25 rfl (k_0 hSh) (r_0_2 hSh) ?_
  refine X_iload_n dX11_would_94 rfl ?_
  refine X_callVV dX11_would_95 mkX11_255 (k_17 hSh) (c_setGuest Γ g (stO (stC mi (nI kf) (nI kl) (nI kd)) (nI ka) (nI ko) (nI kn) (nI 0)) ml hSh b (by omega)) rfl rfl (by decide) (Nat.le_of_ble_eq_true rfl) ?_
  refine X_aload_n dX11_would_98 rfl ?_
  refine X_getr (a := 17) dX11_would_99 fkX11_35 rfl (k_0 hSh) (r_0_4 hSh) ?_
  refine X_iload_n dX11_would_102 rfl ?_
  obtain ⟨hl15, n9, d9, hV9, hd9⟩ := hA.2.1 b (by omega)
  have hx9 : ∀ i, i ≠ 20 → (stG (stO (stC mi (nI kf) (nI kl) (nI kd)) (nI ka) (nI ko) (nI kn) (nI 0)) b) i = mi i := fun i hi => by rw [stG_row hi, stO_row hi, stC_row hi]
  have hHb := clHb_row (hx9 18 (by omega)) (hx9 19 (by omega)) (CI_hb hC)
  have hkk : ∀ k, k < 11 → (stG (stO (stC mi (nI kf) (nI kl) (nI kd)) (nI ka) (nI ko) (nI kn) (nI 0)) b) 20 k = kwV (aP A) b ka kf kl ko kn kd k := kn11 ⟨by simp [stG, stO, stC, up2, kwV], by simp [stG, stO, stC, up2, kwV], by simp [stG, stO, stC, up2, kwV], by simp [stG, stO, stC, up2, kwV], by simp [stG, stO, stC, up2, kwV], by simp [stG, stO, stC, up2, kwV], by simp [stG, stO, stC, up2, kwV], by simp [stG, stO, stC, up2, kwV]; exact (hcl.2.2.2.2.2.2 b hb).2.1, by simp [stG, stO, stC, up2, kwV]; exact (hcl.2.2.2.2.2.2 b hb).1, by simp [stG, stO, stC, up2, kwV]; exact hcl.1, by simp [stG, stO, stC, up2, kwV]; exact hcl.2.1⟩
  have hvv := Vx_congr hkk n9 _ _ d9 hV9
  refine X_callVI dX11_would_103 mkX11_259 (k_17 hSh) (c_comes Γ g (stG (stO (stC mi (nI kf) (nI kl) (nI kd)) (nI ka) (nI ko) (nI kn) (nI 0)) b) ml hSh b (by omega) (aH A b).1 n9 d9 (aH A b).2 hV9 hd9 hl15 (hHb b (by omega)).1 (hHb b (by omega)).2) rfl rfl (by decide) (Nat.le_of_ble_eq_true rfl) ?_
  exact X_iret dX11_would_106 rfl ⟨congrArg (fun z => Sum.inl (some (Value.int z))) (congrArg clH hvv), CI_fr hC ⟨fun i h1 h2 h3 h4 h5 h6 => by rw [up2_row h3, run_row (by rintro rfl; exact h2 (by unfold scR; omega))]; exact hx9 i (by rintro rfl; exact h2 (by unfold scR; omega)), fun j hj => by rw [up2_n hj, run_row (by omega)]; exact congrFun (hx9 17 (by omega)) j, by rw [up2_row (by omega), run_row (by omega)]; exact congrFun (hx9 2 (by omega)) 4, by rw [up2_row (by omega), run_row (by omega)]; exact congrFun (hx9 47 (by omega)) 10, by rw [up2_row (by omega), run_row (by omega)]; exact congrFun (hx9 67 (by omega)) 10⟩ rfl, fun i h1 h2 => by rw [up2_row (by omega), run_row (by omega)]; exact hx9 i (by omega), rfl⟩
set_option maxRecDepth 100000 in
set_option maxHeartbeats 4000000 in
theorem r_would (Γ : pTG) (g : pGG) (mi : pMI) (ml : pML) (A : AS) (hA : okAS A) (hSh : Sh g) (hR : RI A mi) (b : Nat) (hb : b < aG A) (ka : Nat) (hkaa : 0 ≤ ka) (hka : ka ≤ 23) (kf : Nat) (hkfa : 0 ≤ kf) (hkf : kf ≤ 23) (kl : Nat) (hkla : 0 ≤ kl) (hkl : kl ≤ 23) (ko : Nat) (hkoa : 0 ≤ ko) (hko : ko ≤ 1) (kn : Nat) (hkna : 0 ≤ kn) (hkn : kn ≤ 23) (kd : Nat) (hkda : 0 ≤ kd) (hkd : kd ≤ 999) : CT Γ 60 0 0 mX12_would [.ref 87, .int (nI b), .int (nI ka), .int (nI kf), .int (nI kl), .int (nI ko), .int (nI kn), .int (nI kd)] g mi ml (RQ A (.inl (clH ((aH A b).2 (kwV (aP A) b ka kf kl ko kn kd)))) cd2 g mi ml) := by
  refine CT_of (by decide +kernel) (Nat.le_of_ble_eq_true rfl) ?_
  have hP := hA.1
  have hG8 : aG A ≤ 8 := hP.2.1
  have hC8 : (aP A).1 ≤ 8 := hP.1
  refine X_aload_n dX12_would_0 rfl ?_
  refine X_iconst (v := nI 0) dX12_would_1 (by decide) ?_
  refine X_puti dX12_would_2 fkX12_158 rfl rfl (k_87 hSh) ?_
  refine X_aload_n dX12_would_5 rfl ?_
  refine X_aload_n dX12_would_6 rfl ?_
  refine X_iload_n dX12_would_7 rfl ?_
  refine X_callVI dX12_would_8 mkX12_285 (k_87 hSh) (c_isGuest Γ g (up2 mi 87 0 (nI 0)) ml hSh (nI b)) rfl rfl (by decide) (Nat.le_of_ble_eq_true rfl) ?_
  refine X_topi (show bI (decide (nI 0 ≤ nI b) && decide (nI b ≤ (up2 mi 87 0 (nI 0)) 91 1 - nI 1)) = nI 1 from congrArg bI (show (decide (nI 0 ≤ nI b) && decide (nI b ≤ (up2 mi 87 0 (nI 0)) 91 1 - nI 1)) = true from by rw [(show (up2 mi 87 0 (nI 0)) 91 1 = nI (aG A) from ((congrFun (up2_row (by omega)) _).trans hR.1.2.1))]; exact (gd_ref hG8).mpr ⟨b, hb, rfl⟩)) ?_
  refine X_if_neN (a := 1) 18 dX12_would_11 (by decide) (by omega) (fun h_1 => ?_) (fun h_1 => ?_)
  · refine X_iconst (v := nI 0) dX12_would_18 (by decide) ?_
    refine X_iconst (v := nI 1) dX12_would_19 (by decide) ?_
    refine X_iconst (v := nI 0) dX12_would_20 (by decide) ?_
    refine X_callVI dX12_would_21 mkX12_228 (k_87 hSh) (c_bad0 Γ g (up2 mi 87 0 (nI 0)) ml hSh 1 0 up2_s) rfl rfl (by decide) (Nat.le_of_ble_eq_true rfl) ?_
    refine X_if_neN (a := 0) 93 dX12_would_24 (by decide) (by omega) (fun h_2 => ?_) (fun h_2 => ?_)
    · exact absurd h_2 (by omega)
    · refine X_aload_n dX12_would_27 rfl ?_
      refine X_iload_n dX12_would_28 rfl ?_
      refine X_callSI dX12_would_29 mkX12_298 (c_isHalf Γ g (up2 mi 87 0 (nI 0)) ml (nI ka)) rfl rfl (by decide) (Nat.le_of_ble_eq_true rfl) ?_
      refine X_topi (show bI (decide (nI 0 ≤ nI ka) && decide (nI ka ≤ nI 23)) = nI 1 from congrArg bI (show (decide (nI 0 ≤ nI ka) && decide (nI ka ≤ nI 23)) = true from by rw [decide_eq_true (nI_le (by omega) (by omega)), decide_eq_true (nI_le (by omega) (by omega))]; rfl)) ?_
      refine X_if_eqN (a := 1) 80 dX12_would_32 (by decide) (by omega) (fun h_3 => ?_) (fun h_3 => ?_)
      · exact absurd h_3 (by omega)
      · refine X_iload_n dX12_would_35 rfl ?_
        refine X_callSI dX12_would_36 mkX12_298 (c_isHalf Γ g (up2 mi 87 0 (nI 0)) ml (nI kf)) rfl rfl (by decide) (Nat.le_of_ble_eq_true rfl) ?_
        refine X_topi (show bI (decide (nI 0 ≤ nI kf) && decide (nI kf ≤ nI 23)) = nI 1 from congrArg bI (show (decide (nI 0 ≤ nI kf) && decide (nI kf ≤ nI 23)) = true from by rw [decide_eq_true (nI_le (by omega) (by omega)), decide_eq_true (nI_le (by omega) (by omega))]; rfl)) ?_
        refine X_if_eqN (a := 1) 80 dX12_would_39 (by decide) (by omega) (fun h_4 => ?_) (fun h_4 => ?_)
        · exact absurd h_4 (by omega)
        · refine X_iload dX12_would_42 rfl ?_
          refine X_callSI dX12_would_44 mkX12_298 (c_isHalf Γ g (up2 mi 87 0 (nI 0)) ml (nI kl)) rfl rfl (by decide) (Nat.le_of_ble_eq_true rfl) ?_
          refine X_topi (show bI (decide (nI 0 ≤ nI kl) && decide (nI kl ≤ nI 23)) = nI 1 from congrArg bI (show (decide (nI 0 ≤ nI kl) && decide (nI kl ≤ nI 23)) = true from by rw [decide_eq_true (nI_le (by omega) (by omega)), decide_eq_true (nI_le (by omega) (by omega))]; rfl)) ?_
          refine X_if_eqN (a := 1) 80 dX12_would_47 (by decide) (by omega) (fun h_5 => ?_) (fun h_5 => ?_)
          · exact absurd h_5 (by omega)
          · refine X_iload dX12_would_50 rfl ?_
            refine X_iconst (v := nI 0) dX12_would_52 (by decide) ?_
            refine X_iconst (v := nI 1) dX12_would_53 (by decide) ?_
            refine X_callSI dX12_would_54 mkX12_192 (c_in Γ g (up2 mi 87 0 (nI 0)) ml (nI ko) (nI 0) (nI 1)) rfl rfl (by decide) (Nat.le_of_ble_eq_true rfl) ?_
            refine X_topi (show bI (decide (nI 0 ≤ nI ko) && decide (nI ko ≤ nI 1)) = nI 1 from congrArg bI (show (decide (nI 0 ≤ nI ko) && decide (nI ko ≤ nI 1)) = true from by rw [decide_eq_true (nI_le (by omega) (by omega)), decide_eq_true (nI_le (by omega) (by omega))]; rfl)) ?_
            refine X_if_eqN (a := 1) 80 dX12_would_57 (by decide) (by omega) (fun h_6 => ?_) (fun h_6 => ?_)
            · exact absurd h_6 (by omega)
            · refine X_iload dX12_would_60 rfl ?_
              refine X_callSI dX12_would_62 mkX12_298 (c_isHalf Γ g (up2 mi 87 0 (nI 0)) ml (nI kn)) rfl rfl (by decide) (Nat.le_of_ble_eq_true rfl) ?_
              refine X_topi (show bI (decide (nI 0 ≤ nI kn) && decide (nI kn ≤ nI 23)) = nI 1 from congrArg bI (show (decide (nI 0 ≤ nI kn) && decide (nI kn ≤ nI 23)) = true from by rw [decide_eq_true (nI_le (by omega) (by omega)), decide_eq_true (nI_le (by omega) (by omega))]; rfl)) ?_
              refine X_if_eqN (a := 1) 80 dX12_would_65 (by decide) (by omega) (fun h_7 => ?_) (fun h_7 => ?_)
              · exact absurd h_7 (by omega)
              · refine X_iload dX12_would_68 rfl ?_
                refine X_iconst (v := nI 0) dX12_would_70 (by decide) ?_
                refine X_sipush (v := nI 999) dX12_would_71 (by decide) ?_
                refine X_callSI dX12_would_74 mkX12_192 (c_in Γ g (up2 mi 87 0 (nI 0)) ml (nI kd) (nI 0) (nI 999)) rfl rfl (by decide) (Nat.le_of_ble_eq_true rfl) ?_
                refine X_topi (show bI (decide (nI 0 ≤ nI kd) && decide (nI kd ≤ nI 999)) = nI 1 from congrArg bI (show (decide (nI 0 ≤ nI kd) && decide (nI kd ≤ nI 999)) = true from by rw [decide_eq_true (nI_le (by omega) (by omega)), decide_eq_true (nI_le (by omega) (by omega))]; rfl)) ?_
                refine X_if_neN (a := 1) 84 dX12_would_77 (by decide) (by omega) (fun h_8 => ?_) (fun h_8 => ?_)
                · refine X_iconst (v := nI 0) dX12_would_84 (by decide) ?_
                  refine X_iconst (v := nI 2) dX12_would_85 (by decide) ?_
                  refine X_iconst (v := nI 1) dX12_would_86 (by decide) ?_
                  refine X_callVI dX12_would_87 mkX12_228 (k_87 hSh) (c_bad0 Γ g (up2 mi 87 0 (nI 0)) ml hSh 2 1 up2_s) rfl rfl (by decide) (Nat.le_of_ble_eq_true rfl) ?_
                  refine X_if_eqN (a := 0) 95 dX12_would_90 (by decide) (by omega) (fun h_9 => ?_) (fun h_9 => ?_)
                  · refine X_aload_n dX12_would_95 rfl ?_
                    refine X_getr (a := 131) dX12_would_96 fkX12_46 rfl (k_87 hSh) (r_87_19 hSh) ?_
                    refine X_iconst (v := nI 0) dX12_would_99 (by decide) ?_
                    refine X_iload_n dX12_would_100 rfl ?_
                    refine X_iast 0 dX12_would_101 (k_131 hSh) rfl (by omega) ?_
                    refine X_aload_n dX12_would_102 rfl ?_
                    refine X_getr (a := 131) dX12_would_103 fkX12_46 rfl (k_87 hSh) (r_87_19 hSh) ?_
                    refine X_iconst (v := nI 1) dX12_would_106 (by decide) ?_
                    refine X_iload_n dX12_would_107 rfl ?_
                    refine X_iast 1 dX12_would_108 (k_131 hSh) rfl (by omega) ?_
                    refine X_aload_n dX12_would_109 rfl ?_
                    refine X_getr (a := 131) dX12_would_110 fkX12_46 rfl (k_87 hSh) (r_87_19 hSh) ?_
                    refine X_iconst (v := nI 2) dX12_would_113 (by decide) ?_
                    refine X_iload dX12_would_114 rfl ?_
                    refine X_iast 2 dX12_would_116 (k_131 hSh) rfl (by omega) ?_
                    refine X_aload_n dX12_would_117 rfl ?_
                    refine X_getr (a := 131) dX12_would_118 fkX12_46 rfl (k_87 hSh) (r_87_19 hSh) ?_
                    refine X_iconst (v := nI 3) dX12_would_121 (by decide) ?_
                    refine X_iload dX12_would_122 rfl ?_
                    refine X_iast 3 dX12_would_124 (k_131 hSh) rfl (by omega) ?_
                    refine X_aload_n dX12_would_125 rfl ?_
                    refine X_getr (a := 131) dX12_would_126 fkX12_46 rfl (k_87 hSh) (r_87_19 hSh) ?_
                    refine X_iconst (v := nI 4) dX12_would_129 (by decide) ?_
                    refine X_iload dX12_would_130 rfl ?_
                    refine X_iast 4 dX12_would_132 (k_131 hSh) rfl (by omega) ?_
                    refine X_aload_n dX12_would_133 rfl ?_
                    refine X_getr (a := 131) dX12_would_134 fkX12_46 rfl (k_87 hSh) (r_87_19 hSh) ?_
                    refine X_iconst (v := nI 5) dX12_would_137 (by decide) ?_
                    refine X_iconst (v := nI 0) dX12_would_138 (by decide) ?_
                    refine X_iast 5 dX12_would_139 (k_131 hSh) rfl (by omega) ?_
                    refine X_aload_n dX12_would_140 rfl ?_
                    refine X_getr (a := 131) dX12_would_141 fkX12_46 rfl (k_87 hSh) (r_87_19 hSh) ?_
                    refine X_bipush (v := nI 6) dX12_would_144 (by decide) ?_
                    refine X_iload dX12_would_146 rfl ?_
                    refine X_iast 6 dX12_would_148 (k_131 hSh) rfl (by omega) ?_
                    refine X_aload_n dX12_would_149 rfl ?_
                    refine X_iload_n dX12_would_150 rfl ?_
                    have hq9 : ∀ i, i ≠ 87 → i ≠ 131 → (up2 (up2 (up2 (up2 (up2 (up2 (up2 (up2 mi 87 0 (nI 0)) 131 0 (nI ka)) 131 1 (nI kf)) 131 2 (nI kl)) 131 3 (nI ko)) 131 4 (nI kn)) 131 5 (nI 0)) 131 6 (nI kd)) i = mi i := fun i h1 h2 => by rw [up2_row h2, up2_row h2, up2_row h2, up2_row h2, up2_row h2, up2_row h2, up2_row h2, up2_row h1]
                    refine X_callVV dX12_would_151 mkX12_301 (k_87 hSh) (c_knowsSelf Γ g (up2 (up2 (up2 (up2 (up2 (up2 (up2 (up2 mi 87 0 (nI 0)) 131 0 (nI ka)) 131 1 (nI kf)) 131 2 (nI kl)) 131 3 (nI ko)) 131 4 (nI kn)) 131 5 (nI 0)) 131 6 (nI kd)) ml hSh b (by omega)) rfl rfl (by decide) (Nat.le_of_ble_eq_true rfl) ?_
                    refine X_aload_n dX12_would_154 rfl ?_
                    refine X_iload_n dX12_would_155 rfl ?_
                    have hx9 : ∀ i, i ≠ 87 → i ≠ 131 → (kwS (up2 (up2 (up2 (up2 (up2 (up2 (up2 (up2 mi 87 0 (nI 0)) 131 0 (nI ka)) 131 1 (nI kf)) 131 2 (nI kl)) 131 3 (nI ko)) 131 4 (nI kn)) 131 5 (nI 0)) 131 6 (nI kd)) b) i = mi i := fun i h1 h2 => by rw [kwS_row h2]; exact hq9 i h1 h2
                    have hHb := rfHb_w hR.2.1 (fun i hi => hx9 i (by omega) (by omega))
                    have hkk : ∀ k, k < 11 → (kwS (up2 (up2 (up2 (up2 (up2 (up2 (up2 (up2 mi 87 0 (nI 0)) 131 0 (nI ka)) 131 1 (nI kf)) 131 2 (nI kl)) 131 3 (nI ko)) 131 4 (nI kn)) 131 5 (nI 0)) 131 6 (nI kd)) b) 131 k = kwV (aP A) b ka kf kl ko kn kd k := kn11 ⟨by simp [kwS, up2, kwV], by simp [kwS, up2, kwV], by simp [kwS, up2, kwV], by simp [kwS, up2, kwV], by simp [kwS, up2, kwV], by simp [kwS, up2, kwV], by simp [kwS, up2, kwV], by unfold kwS; rw [up2_n (by omega), up2_n (by omega), up2_n (by omega), up2_s, hq9 (121 + b) (by omega) (by omega)]; exact (hR.1.2.2.2.2.2.2 b hb).2.1, by unfold kwS; rw [up2_n (by omega), up2_n (by omega), up2_s, hq9 (121 + b) (by omega) (by omega)]; exact (hR.1.2.2.2.2.2.2 b hb).1, by unfold kwS; rw [up2_n (by omega), up2_s, hq9 91 (by omega) (by omega)]; exact hR.1.1, by unfold kwS; rw [up2_s, hq9 91 (by omega) (by omega)]; exact hR.1.2.1⟩
                    obtain ⟨hl15, n9, d9, hV9, hd9⟩ := hA.2.1 b (by omega)
                    have hvv := Vx_congr hkk n9 _ _ d9 hV9
                    refine X_callVI dX12_would_156 mkX12_304 (k_87 hSh) (c_comesByH Γ g (kwS (up2 (up2 (up2 (up2 (up2 (up2 (up2 (up2 mi 87 0 (nI 0)) 131 0 (nI ka)) 131 1 (nI kf)) 131 2 (nI kl)) 131 3 (nI ko)) 131 4 (nI kn)) 131 5 (nI 0)) 131 6 (nI kd)) b) ml hSh (aH A) hA.2.1 hHb b (by omega) ⟨_, (hP.2.2.2.2.2.2.2 b hb).1, hkk 8 (by decide)⟩) rfl rfl (by decide) (Nat.le_of_ble_eq_true rfl) ?_
                    exact X_iret dX12_would_159 rfl ⟨rfl, rfl, RI_fr hA hR ⟨fun i h1 h2 h3 => by rw [cbW_row (by rintro rfl; exact h3 (by unfold rsR; omega))]; exact hx9 i (by omega) (by rintro rfl; exact h3 (by unfold rsR; omega)), fun j hj => by rw [cbW_row (by omega), kwS_row (by omega), up2_row (by omega), up2_row (by omega), up2_row (by omega), up2_row (by omega), up2_row (by omega), up2_row (by omega), up2_row (by omega), up2_n (by rintro rfl; exact hj (by unfold rsF; omega))]⟩, fun i hi => by rw [cbW_row (by omega)]; exact hx9 i (by omega) (by omega), _, rfl, congrArg clH hvv, by rw [cbW_row (by omega), kwS_row (by omega), up2_row (by omega), up2_row (by omega), up2_row (by omega), up2_row (by omega), up2_row (by omega), up2_row (by omega), up2_row (by omega), up2_s]⟩
                  · exact absurd h_9 (by omega)
                · exact absurd h_8 (by omega)
  · exact absurd h_1 (by omega)
theorem m_would (A : AS) (hA : okAS A) (v : Int32) (xa : Int32) (xf : Int32) (xl : Int32) (xo : Int32) (xn : Int32) (xd : Int32) : MOK mX11_would mX12_would cd2 [.int v, .int xa, .int xf, .int xl, .int xo, .int xn, .int xd] A := by
  by_cases hg0 : ∃ b, b < aG A ∧ v = nI b
  · obtain ⟨b, hb, rfl⟩ := hg0
    by_cases hg1 : nI 0 ≤ xa ∧ xa ≤ nI 23
    · obtain ⟨ka, hkaa, hka, rfl⟩ := (wi_iff (by decide) (by decide)).mp hg1
      by_cases hg2 : nI 0 ≤ xf ∧ xf ≤ nI 23
      · obtain ⟨kf, hkfa, hkf, rfl⟩ := (wi_iff (by decide) (by decide)).mp hg2
        by_cases hg3 : nI 0 ≤ xl ∧ xl ≤ nI 23
        · obtain ⟨kl, hkla, hkl, rfl⟩ := (wi_iff (by decide) (by decide)).mp hg3
          by_cases hg4 : nI 0 ≤ xo ∧ xo ≤ nI 1
          · obtain ⟨ko, hkoa, hko, rfl⟩ := (wi_iff (by decide) (by decide)).mp hg4
            by_cases hg5 : nI 0 ≤ xn ∧ xn ≤ nI 23
            · obtain ⟨kn, hkna, hkn, rfl⟩ := (wi_iff (by decide) (by decide)).mp hg5
              by_cases hg6 : nI 0 ≤ xd ∧ xd ≤ nI 999
              · obtain ⟨kd, hkda, hkd, rfl⟩ := (wi_iff (by decide) (by decide)).mp hg6
                exact ⟨.inl (clH ((aH A b).2 (kwV (aP A) b ka kf kl ko kn kd))), A, hA, fun j h => (by cases h), fun Γ g m l hC => k_would Γ g m l A hA hC b hb ka hkaa hka kf hkfa hkf kl hkla hkl ko hkoa hko kn hkna hkn kd hkda hkd, fun Γ g m l hSh hR => r_would Γ g m l A hA hSh hR b hb ka hkaa hka kf hkfa hkf kl hkla hkl ko hkoa hko kn hkna hkn kd hkda hkd⟩
              · exact ⟨.inr 1, rfA A 1, ok_rf hA, fun j h => by cases h; decide, fun Γ g m l hC => k_would_f6 Γ g m l A hA hC b hb ka hkaa hka kf hkfa hkf kl hkla hkl ko hkoa hko kn hkna hkn xd hg6, fun Γ g m l hSh hR => r_would_f6 Γ g m l A hA hSh hR b hb ka hkaa hka kf hkfa hkf kl hkla hkl ko hkoa hko kn hkna hkn xd hg6⟩
            · exact ⟨.inr 1, rfA A 1, ok_rf hA, fun j h => by cases h; decide, fun Γ g m l hC => k_would_f5 Γ g m l A hA hC b hb ka hkaa hka kf hkfa hkf kl hkla hkl ko hkoa hko xn hg5 xd, fun Γ g m l hSh hR => r_would_f5 Γ g m l A hA hSh hR b hb ka hkaa hka kf hkfa hkf kl hkla hkl ko hkoa hko xn hg5 xd⟩
          · exact ⟨.inr 1, rfA A 1, ok_rf hA, fun j h => by cases h; decide, fun Γ g m l hC => k_would_f4 Γ g m l A hA hC b hb ka hkaa hka kf hkfa hkf kl hkla hkl xo hg4 xn xd, fun Γ g m l hSh hR => r_would_f4 Γ g m l A hA hSh hR b hb ka hkaa hka kf hkfa hkf kl hkla hkl xo hg4 xn xd⟩
        · exact ⟨.inr 1, rfA A 1, ok_rf hA, fun j h => by cases h; decide, fun Γ g m l hC => k_would_f3 Γ g m l A hA hC b hb ka hkaa hka kf hkfa hkf xl hg3 xo xn xd, fun Γ g m l hSh hR => r_would_f3 Γ g m l A hA hSh hR b hb ka hkaa hka kf hkfa hkf xl hg3 xo xn xd⟩
      · exact ⟨.inr 1, rfA A 1, ok_rf hA, fun j h => by cases h; decide, fun Γ g m l hC => k_would_f2 Γ g m l A hA hC b hb ka hkaa hka xf hg2 xl xo xn xd, fun Γ g m l hSh hR => r_would_f2 Γ g m l A hA hSh hR b hb ka hkaa hka xf hg2 xl xo xn xd⟩
    · exact ⟨.inr 1, rfA A 1, ok_rf hA, fun j h => by cases h; decide, fun Γ g m l hC => k_would_f1 Γ g m l A hA hC b hb xa hg1 xf xl xo xn xd, fun Γ g m l hSh hR => r_would_f1 Γ g m l A hA hSh hR b hb xa hg1 xf xl xo xn xd⟩
  · exact ⟨.inr 0, rfA A 0, ok_rf hA, fun j h => by cases h; decide, fun Γ g m l hC => k_would_f0 Γ g m l A hA hC v hg0 xa xf xl xo xn xd, fun Γ g m l hSh hR => r_would_f0 Γ g m l A hA hSh hR v hg0 xa xf xl xo xn xd⟩

/-! ===== calls that look at the state alone ===== -/
theorem frW_u {m x : pMI} {a j : Nat} {v : Int32} (h : frW m x) (ha : (a = 87 ∧ rsF j) ∨ (a ≠ 87 ∧ (rsR a ∨ a < 87 ∨ 450 ≤ a))) : frW m (up2 x a j v) :=
  ⟨fun i h1 h2 h3 => by rw [up2_row (by rintro rfl; rcases ha with ⟨rfl, _⟩ | ⟨_, q | q | q⟩; omega; exact h3 q; omega; omega)]; exact h.1 i h1 h2 h3, fun k hk => by rw [up2_nn (by rintro ⟨rfl, rfl⟩; rcases ha with ⟨_, q⟩ | ⟨q, _⟩; exact hk q; omega)]; exact h.2 k hk⟩
theorem frM2_r {m : pMI} : frM2 m m := fun _ _ => rfl
theorem frM2_u {m x : pMI} {a j : Nat} {v : Int32} (h : frM2 m x) (ha : 87 ≤ a ∧ a < 450) : frM2 m (up2 x a j v) := fun i hi => by rw [up2_row (by omega)]; exact h i hi
theorem frM2_t {a b c : pMI} (h1 : frM2 a b) (h2 : frM2 b c) : frM2 a c := fun i hi => (h2 i hi).trans (h1 i hi)
theorem frK_r {m : pMI} : frK m m := fun _ _ _ => rfl
theorem frK_u {m x : pMI} {a j : Nat} {v : Int32} (h : frK m x) (ha : a < 87 ∨ 451 ≤ a) : frK m (up2 x a j v) := fun i h1 h2 => by rw [up2_row (by omega)]; exact h i h1 h2
theorem frK_t {a b c : pMI} (h1 : frK a b) (h2 : frK b c) : frK a c := fun i p q => (h2 i p q).trans (h1 i p q)
theorem frS_u {m x : pMI} {a j : Nat} {v : Int32} (h : frS m x) (ha : scR a ∨ (a = 17 ∧ j = 4) ∨ (a = 2 ∧ j ≠ 4) ∨ (a = 47 ∧ j ≠ 10) ∨ (a = 67 ∧ j ≠ 10) ∨ (87 ≤ a ∧ a < 451)) : frS m (up2 x a j v) := by
  obtain ⟨h1, h2, h3, h4, h5⟩ := h
  have hs : scR a → a ≠ 17 ∧ a ≠ 2 ∧ a ≠ 47 ∧ a ≠ 67 := fun q => by unfold scR at q; omega
  refine ⟨fun i p1 p2 p3 p4 p5 p6 => ?_, fun k hk => ?_, ?_, ?_, ?_⟩
  · rw [up2_row (by rintro rfl; rcases ha with q | ⟨q, _⟩ | ⟨q, _⟩ | ⟨q, _⟩ | ⟨q, _⟩ | q; exact p2 q; omega; omega; omega; omega; omega)]; exact h1 i p1 p2 p3 p4 p5 p6
  · rw [up2_nn (by rintro ⟨rfl, rfl⟩; rcases ha with q | ⟨_, q⟩ | ⟨q, _⟩ | ⟨q, _⟩ | ⟨q, _⟩ | q; (have := hs q; omega); omega; omega; omega; omega; omega)]; exact h2 k hk
  · rw [up2_nn (by rintro ⟨rfl, rfl⟩; rcases ha with q | ⟨q, _⟩ | ⟨_, q⟩ | ⟨q, _⟩ | ⟨q, _⟩ | q; (have := hs q; omega); omega; omega; omega; omega; omega)]; exact h3
  · rw [up2_nn (by rintro ⟨rfl, rfl⟩; rcases ha with q | ⟨q, _⟩ | ⟨q, _⟩ | ⟨_, q⟩ | ⟨q, _⟩ | q; (have := hs q; omega); omega; omega; omega; omega; omega)]; exact h4
  · rw [up2_nn (by rintro ⟨rfl, rfl⟩; rcases ha with q | ⟨q, _⟩ | ⟨q, _⟩ | ⟨q, _⟩ | ⟨_, q⟩ | q; (have := hs q; omega); omega; omega; omega; omega; omega)]; exact h5
theorem CI_k {A : AS} {g : pGG} {m : pMI} {l : pML} (h : CI A g m l) : (m 24 2 = nI (aBn A) ∧ ∀ k, k < aBn A → ∀ q, q < 3 → m 25 (k * 3 + q) = nI (aB A k q)) ∧ m 0 18 = nI (aD A) ∧ m 81 2 = nI (aCn A) ∧ m 81 3 = nI (aIn A) ∧ (m 0 17 = nI (aTn A) ∧ ∀ k, k < aTn A → m 1 k = aT A k) ∧ (m 2 4 = aL A ∧ ∀ j, j < 3 → m 86 j = aR A j) := by
  obtain ⟨_, _, _, _, _, c1, c2, c3, c4, c5, c6, c7, c8, _⟩ := h
  exact ⟨c3, c4, c5.1, c6.1, c7, c8⟩
set_option maxRecDepth 100000 in
set_option maxHeartbeats 4000000 in
theorem k_fault (Γ : pTG) (g : pGG) (mi : pMI) (ml : pML) (A : AS) (hA : okAS A) (hC : CI A g mi ml)  : CT Γ 60 20 5000 mX11_fault [.ref 0] g mi ml (CQ A (.inl (aL A)) mi ml) := by
  refine CT_of (by decide +kernel) (Nat.le_of_ble_eq_true rfl) ?_
  have hSh := CI_Sh hC
  have hcl := CI_cl hC
  have hP := hA.1
  have hG8 : aG A ≤ 8 := hP.2.1
  have hC8 : (aP A).1 ≤ 8 := hP.1
  refine X_aload_n dX11_fault_0 rfl ?_
  refine X_getr (a := 2) dX11_fault_1 fkX11_18 rfl (k_0 hSh) (r_0_1 hSh) ?_
  refine X_geti dX11_fault_4 fkX11_169 rfl (k_2 hSh) ?_
  exact X_iret dX11_fault_7 rfl ⟨congrArg (fun z => Sum.inl (some (Value.int z))) ((CI_k hC).2.2.2.2.2.1), hC, frK_r, rfl⟩
set_option maxRecDepth 100000 in
set_option maxHeartbeats 4000000 in
theorem r_fault (Γ : pTG) (g : pGG) (mi : pMI) (ml : pML) (A : AS) (hA : okAS A) (hSh : Sh g) (hR : RI A mi)  : CT Γ 60 0 0 mX12_fault [.ref 87] g mi ml (RQ A (.inl (aL A)) cdN g mi ml) := by
  refine CT_of (by decide +kernel) (Nat.le_of_ble_eq_true rfl) ?_
  have hP := hA.1
  have hG8 : aG A ≤ 8 := hP.2.1
  have hC8 : (aP A).1 ≤ 8 := hP.1
  refine X_aload_n dX12_fault_0 rfl ?_
  refine X_iconst (v := nI 0) dX12_fault_1 (by decide) ?_
  refine X_puti dX12_fault_2 fkX12_158 rfl rfl (k_87 hSh) ?_
  refine X_aload_n dX12_fault_5 rfl ?_
  refine X_geti dX12_fault_6 fkX12_9 rfl (k_87 hSh) ?_
  refine X_topi (show (up2 mi 87 0 (nI 0)) 87 3 = mi 87 3 by rw [up2_n (by omega)]) ?_
  exact X_iret dX12_fault_9 rfl ⟨rfl, rfl, RI_fr hA hR (frW_u frW_r (by unfold rsF rsR; omega)), (frM2_u frM2_r (by omega)), _, rfl, by first | exact hR.2.2.2.2.2.2.2.2.1 | exact (congrFun (up2_row (by omega)) _).trans (hR.2.2.2.2.2.2.2.2.1) | exact (up2_n (by omega)).trans (hR.2.2.2.2.2.2.2.2.1), (show (up2 mi 87 0 (nI 0)) 87 0 = nI 0 by rw [up2_s])⟩
theorem m_fault (A : AS) (hA : okAS A)  : MOK mX11_fault mX12_fault cdN [] A := by
  exact ⟨.inl (aL A), A, hA, fun j h => (by cases h), fun Γ g m l hC => k_fault Γ g m l A hA hC , fun Γ g m l hSh hR => r_fault Γ g m l A hA hSh hR ⟩
set_option maxRecDepth 100000 in
set_option maxHeartbeats 4000000 in
theorem k_told_f0 (Γ : pTG) (g : pGG) (mi : pMI) (ml : pML) (A : AS) (hA : okAS A) (hC : CI A g mi ml) (w : Int32) (hf : ¬ (nI 0 ≤ w ∧ w ≤ nI 6)) : CT Γ 60 20 5000 mX11_told [.ref 0, .int w] g mi ml (CQ (rfA A 1) (.inr 1) mi ml) := by
  refine CT_of (by decide +kernel) (Nat.le_of_ble_eq_true rfl) ?_
  have hSh := CI_Sh hC
  have hcl := CI_cl hC
  have hP := hA.1
  have hG8 : aG A ≤ 8 := hP.2.1
  have hC8 : (aP A).1 ≤ 8 := hP.1
  refine X_aload_n dX11_told_0 rfl ?_
  refine X_iload_n dX11_told_1 rfl ?_
  refine X_iconst (v := nI 0) dX11_told_2 (by decide) ?_
  refine X_bipush (v := nI 6) dX11_told_3 (by decide) ?_
  exact X_need dX11_told_5 mkX11_116 (k_0 hSh) (c_needWithin Γ g mi ml hSh w (nI 0) (nI 6)) rfl rfl (by decide) (by decide) (by decide) (by decide) (fun _ => ⟨rfl, CI_rf (by decide) hC, frK_86, rfl⟩) (fun h => absurd h hf)
set_option maxRecDepth 100000 in
set_option maxHeartbeats 4000000 in
theorem r_told_f0 (Γ : pTG) (g : pGG) (mi : pMI) (ml : pML) (A : AS) (hA : okAS A) (hSh : Sh g) (hR : RI A mi) (w : Int32) (hf : ¬ (nI 0 ≤ w ∧ w ≤ nI 6)) : CT Γ 60 0 0 mX12_told [.ref 87, .int w] g mi ml (RQ (rfA A 1) (.inr 1) cd1 g mi ml) := by
  refine CT_of (by decide +kernel) (Nat.le_of_ble_eq_true rfl) ?_
  have hP := hA.1
  have hG8 : aG A ≤ 8 := hP.2.1
  have hC8 : (aP A).1 ≤ 8 := hP.1
  refine X_aload_n dX12_told_0 rfl ?_
  refine X_iconst (v := nI 0) dX12_told_1 (by decide) ?_
  refine X_puti dX12_told_2 fkX12_158 rfl rfl (k_87 hSh) ?_
  refine X_aload_n dX12_told_5 rfl ?_
  refine X_iload_n dX12_told_6 rfl ?_
  refine X_iconst (v := nI 0) dX12_told_7 (by decide) ?_
  refine X_bipush (v := nI 6) dX12_told_8 (by decide) ?_
  refine X_callSI dX12_told_10 mkX12_192 (c_in Γ g (up2 mi 87 0 (nI 0)) ml w (nI 0) (nI 6)) rfl rfl (by decide) (Nat.le_of_ble_eq_true rfl) ?_
  refine X_topi (show bI (decide (nI 0 ≤ w) && decide (w ≤ nI 6)) = nI 0 from congrArg bI (show (decide (nI 0 ≤ w) && decide (w ≤ nI 6)) = false from Bool.eq_false_iff.mpr (fun q => hf (by rw [Bool.and_eq_true, decide_eq_true_eq, decide_eq_true_eq] at q; exact q)))) ?_
  refine X_if_neN (a := 0) 20 dX12_told_13 (by decide) (by omega) (fun h_1 => ?_) (fun h_1 => ?_)
  · exact absurd h_1 (by omega)
  · refine X_iconst (v := nI 1) dX12_told_16 (by decide) ?_
    refine X_goto 21 dX12_told_17 (by decide) ?_
    refine X_iconst (v := nI 1) dX12_told_21 (by decide) ?_
    refine X_iconst (v := nI 1) dX12_told_22 (by decide) ?_
    refine X_callVI dX12_told_23 mkX12_228 (k_87 hSh) (c_bad1 Γ g (up2 mi 87 0 (nI 0)) ml hSh 1 1 (by decide) (by decide) (by decide) up2_s) rfl rfl (by decide) (Nat.le_of_ble_eq_true rfl) ?_
    refine X_mi (show _ = mB mi 1 1 from rfl) ?_
    refine X_if_eqN (a := 1) 31 dX12_told_26 (by decide) (by omega) (fun h_2 => ?_) (fun h_2 => ?_)
    · exact absurd h_2 (by omega)
    · refine X_iconst (v := nI 0) dX12_told_29 (by decide) ?_
      exact X_iret dX12_told_30 rfl ⟨rfl, rfl, RI_rf hA (by decide) hR, fr2_B, _, rfl, mB_0⟩
set_option maxRecDepth 100000 in
set_option maxHeartbeats 4000000 in
theorem k_told_0 (Γ : pTG) (g : pGG) (mi : pMI) (ml : pML) (A : AS) (hA : okAS A) (hC : CI A g mi ml)  : CT Γ 60 20 5000 mX11_told [.ref 0, .int (nI 0)] g mi ml (CQ A (.inl (nI (aP A).1)) mi ml) := by
  refine CT_of (by decide +kernel) (Nat.le_of_ble_eq_true rfl) ?_
  have hSh := CI_Sh hC
  have hcl := CI_cl hC
  have hP := hA.1
  have hG8 : aG A ≤ 8 := hP.2.1
  have hC8 : (aP A).1 ≤ 8 := hP.1
  refine X_aload_n dX11_told_0 rfl ?_
  refine X_iload_n dX11_told_1 rfl ?_
  refine X_iconst (v := nI 0) dX11_told_2 (by decide) ?_
  refine X_bipush (v := nI 6) dX11_told_3 (by decide) ?_
  refine X_need dX11_told_5 mkX11_116 (k_0 hSh) (c_needWithin Γ g mi ml hSh (nI 0) (nI 0) (nI 6)) rfl rfl (by decide) (by decide) (by decide) (by decide) (fun h => absurd (by decide) h) (fun _ => ?_)
  refine X_iload_n dX11_told_8 rfl ?_
  refine X_tableIn 48 dX11_told_9 (by decide) (by decide) rfl (by decide) ?_
  refine X_aload_n dX11_told_48 rfl ?_
  refine X_getr (a := 3) dX11_told_49 fkX11_25 rfl (k_0 hSh) (r_0_2 hSh) ?_
  refine X_geti dX11_told_52 fkX11_172 rfl (k_3 hSh) ?_
  exact X_iret dX11_told_55 rfl ⟨congrArg (fun z => Sum.inl (some (Value.int z))) (hcl.1), hC, frK_r, rfl⟩
set_option maxRecDepth 100000 in
set_option maxHeartbeats 4000000 in
theorem r_told_0 (Γ : pTG) (g : pGG) (mi : pMI) (ml : pML) (A : AS) (hA : okAS A) (hSh : Sh g) (hR : RI A mi)  : CT Γ 60 0 0 mX12_told [.ref 87, .int (nI 0)] g mi ml (RQ A (.inl (nI (aP A).1)) cd1 g mi ml) := by
  refine CT_of (by decide +kernel) (Nat.le_of_ble_eq_true rfl) ?_
  have hP := hA.1
  have hG8 : aG A ≤ 8 := hP.2.1
  have hC8 : (aP A).1 ≤ 8 := hP.1
  refine X_aload_n dX12_told_0 rfl ?_
  refine X_iconst (v := nI 0) dX12_told_1 (by decide) ?_
  refine X_puti dX12_told_2 fkX12_158 rfl rfl (k_87 hSh) ?_
  refine X_aload_n dX12_told_5 rfl ?_
  refine X_iload_n dX12_told_6 rfl ?_
  refine X_iconst (v := nI 0) dX12_told_7 (by decide) ?_
  refine X_bipush (v := nI 6) dX12_told_8 (by decide) ?_
  refine X_callSI dX12_told_10 mkX12_192 (c_in Γ g (up2 mi 87 0 (nI 0)) ml (nI 0) (nI 0) (nI 6)) rfl rfl (by decide) (Nat.le_of_ble_eq_true rfl) ?_
  refine X_topi (show bI (decide (nI 0 ≤ nI 0) && decide (nI 0 ≤ nI 6)) = nI 1 from congrArg bI (show (decide (nI 0 ≤ nI 0) && decide (nI 0 ≤ nI 6)) = true from by decide)) ?_
  refine X_if_neN (a := 1) 20 dX12_told_13 (by decide) (by omega) (fun h_1 => ?_) (fun h_1 => ?_)
  · refine X_iconst (v := nI 0) dX12_told_20 (by decide) ?_
    refine X_iconst (v := nI 1) dX12_told_21 (by decide) ?_
    refine X_iconst (v := nI 1) dX12_told_22 (by decide) ?_
    refine X_callVI dX12_told_23 mkX12_228 (k_87 hSh) (c_bad0 Γ g (up2 mi 87 0 (nI 0)) ml hSh 1 1 up2_s) rfl rfl (by decide) (Nat.le_of_ble_eq_true rfl) ?_
    refine X_if_eqN (a := 0) 31 dX12_told_26 (by decide) (by omega) (fun h_2 => ?_) (fun h_2 => ?_)
    · refine X_iload_n dX12_told_31 rfl ?_
      refine X_iconst (v := nI 5) dX12_told_32 (by decide) ?_
      refine X_icmp_geN (a := 0) (b := 5) 45 dX12_told_33 (by decide) (by omega) (by omega) (fun h_3 => ?_) (fun h_3 => ?_)
      · exact absurd h_3 (by omega)
      · refine X_aload_n dX12_told_36 rfl ?_
        refine X_getr (a := 91) dX12_told_37 fkX12_23 rfl (k_87 hSh) (r_87_12 hSh) ?_
        refine X_iload_n dX12_told_40 rfl ?_
        refine X_iald 0 dX12_told_41 (k_91 hSh) rfl (by omega) ?_
        refine X_topi (show (up2 mi 87 0 (nI 0)) 91 0 = mi 91 0 by rw [up2_row (by omega)]) ?_
        refine X_goto 61 dX12_told_42 (by decide) ?_
        exact X_iret dX12_told_61 rfl ⟨rfl, rfl, RI_fr hA hR (frW_u frW_r (by unfold rsF rsR; omega)), (frM2_u frM2_r (by omega)), _, rfl, by first | rfl | exact hR.1.1, (show (up2 mi 87 0 (nI 0)) 87 0 = nI 0 by rw [up2_s])⟩
    · exact absurd h_2 (by omega)
  · exact absurd h_1 (by omega)
set_option maxRecDepth 100000 in
set_option maxHeartbeats 4000000 in
theorem k_told_1 (Γ : pTG) (g : pGG) (mi : pMI) (ml : pML) (A : AS) (hA : okAS A) (hC : CI A g mi ml)  : CT Γ 60 20 5000 mX11_told [.ref 0, .int (nI 1)] g mi ml (CQ A (.inl (nI (aG A))) mi ml) := by
  refine CT_of (by decide +kernel) (Nat.le_of_ble_eq_true rfl) ?_
  have hSh := CI_Sh hC
  have hcl := CI_cl hC
  have hP := hA.1
  have hG8 : aG A ≤ 8 := hP.2.1
  have hC8 : (aP A).1 ≤ 8 := hP.1
  refine X_aload_n dX11_told_0 rfl ?_
  refine X_iload_n dX11_told_1 rfl ?_
  refine X_iconst (v := nI 0) dX11_told_2 (by decide) ?_
  refine X_bipush (v := nI 6) dX11_told_3 (by decide) ?_
  refine X_need dX11_told_5 mkX11_116 (k_0 hSh) (c_needWithin Γ g mi ml hSh (nI 1) (nI 0) (nI 6)) rfl rfl (by decide) (by decide) (by decide) (by decide) (fun h => absurd (by decide) h) (fun _ => ?_)
  refine X_iload_n dX11_told_8 rfl ?_
  refine X_tableIn 56 dX11_told_9 (by decide) (by decide) rfl (by decide) ?_
  refine X_aload_n dX11_told_56 rfl ?_
  refine X_getr (a := 3) dX11_told_57 fkX11_25 rfl (k_0 hSh) (r_0_2 hSh) ?_
  refine X_geti dX11_told_60 fkX11_144 rfl (k_3 hSh) ?_
  exact X_iret dX11_told_63 rfl ⟨congrArg (fun z => Sum.inl (some (Value.int z))) (hcl.2.1), hC, frK_r, rfl⟩
set_option maxRecDepth 100000 in
set_option maxHeartbeats 4000000 in
theorem r_told_1 (Γ : pTG) (g : pGG) (mi : pMI) (ml : pML) (A : AS) (hA : okAS A) (hSh : Sh g) (hR : RI A mi)  : CT Γ 60 0 0 mX12_told [.ref 87, .int (nI 1)] g mi ml (RQ A (.inl (nI (aG A))) cd1 g mi ml) := by
  refine CT_of (by decide +kernel) (Nat.le_of_ble_eq_true rfl) ?_
  have hP := hA.1
  have hG8 : aG A ≤ 8 := hP.2.1
  have hC8 : (aP A).1 ≤ 8 := hP.1
  refine X_aload_n dX12_told_0 rfl ?_
  refine X_iconst (v := nI 0) dX12_told_1 (by decide) ?_
  refine X_puti dX12_told_2 fkX12_158 rfl rfl (k_87 hSh) ?_
  refine X_aload_n dX12_told_5 rfl ?_
  refine X_iload_n dX12_told_6 rfl ?_
  refine X_iconst (v := nI 0) dX12_told_7 (by decide) ?_
  refine X_bipush (v := nI 6) dX12_told_8 (by decide) ?_
  refine X_callSI dX12_told_10 mkX12_192 (c_in Γ g (up2 mi 87 0 (nI 0)) ml (nI 1) (nI 0) (nI 6)) rfl rfl (by decide) (Nat.le_of_ble_eq_true rfl) ?_
  refine X_topi (show bI (decide (nI 0 ≤ nI 1) && decide (nI 1 ≤ nI 6)) = nI 1 from congrArg bI (show (decide (nI 0 ≤ nI 1) && decide (nI 1 ≤ nI 6)) = true from by decide)) ?_
  refine X_if_neN (a := 1) 20 dX12_told_13 (by decide) (by omega) (fun h_1 => ?_) (fun h_1 => ?_)
  · refine X_iconst (v := nI 0) dX12_told_20 (by decide) ?_
    refine X_iconst (v := nI 1) dX12_told_21 (by decide) ?_
    refine X_iconst (v := nI 1) dX12_told_22 (by decide) ?_
    refine X_callVI dX12_told_23 mkX12_228 (k_87 hSh) (c_bad0 Γ g (up2 mi 87 0 (nI 0)) ml hSh 1 1 up2_s) rfl rfl (by decide) (Nat.le_of_ble_eq_true rfl) ?_
    refine X_if_eqN (a := 0) 31 dX12_told_26 (by decide) (by omega) (fun h_2 => ?_) (fun h_2 => ?_)
    · refine X_iload_n dX12_told_31 rfl ?_
      refine X_iconst (v := nI 5) dX12_told_32 (by decide) ?_
      refine X_icmp_geN (a := 1) (b := 5) 45 dX12_told_33 (by decide) (by omega) (by omega) (fun h_3 => ?_) (fun h_3 => ?_)
      · exact absurd h_3 (by omega)
      · refine X_aload_n dX12_told_36 rfl ?_
        refine X_getr (a := 91) dX12_told_37 fkX12_23 rfl (k_87 hSh) (r_87_12 hSh) ?_
        refine X_iload_n dX12_told_40 rfl ?_
        refine X_iald 1 dX12_told_41 (k_91 hSh) rfl (by omega) ?_
        refine X_topi (show (up2 mi 87 0 (nI 0)) 91 1 = mi 91 1 by rw [up2_row (by omega)]) ?_
        refine X_goto 61 dX12_told_42 (by decide) ?_
        exact X_iret dX12_told_61 rfl ⟨rfl, rfl, RI_fr hA hR (frW_u frW_r (by unfold rsF rsR; omega)), (frM2_u frM2_r (by omega)), _, rfl, by first | rfl | exact hR.1.2.1, (show (up2 mi 87 0 (nI 0)) 87 0 = nI 0 by rw [up2_s])⟩
    · exact absurd h_2 (by omega)
  · exact absurd h_1 (by omega)
set_option maxRecDepth 100000 in
set_option maxHeartbeats 4000000 in
theorem k_told_2 (Γ : pTG) (g : pGG) (mi : pMI) (ml : pML) (A : AS) (hA : okAS A) (hC : CI A g mi ml)  : CT Γ 60 20 5000 mX11_told [.ref 0, .int (nI 2)] g mi ml (CQ A (.inl (nI (aP A).2.2.1)) mi ml) := by
  refine CT_of (by decide +kernel) (Nat.le_of_ble_eq_true rfl) ?_
  have hSh := CI_Sh hC
  have hcl := CI_cl hC
  have hP := hA.1
  have hG8 : aG A ≤ 8 := hP.2.1
  have hC8 : (aP A).1 ≤ 8 := hP.1
  refine X_aload_n dX11_told_0 rfl ?_
  refine X_iload_n dX11_told_1 rfl ?_
  refine X_iconst (v := nI 0) dX11_told_2 (by decide) ?_
  refine X_bipush (v := nI 6) dX11_told_3 (by decide) ?_
  refine X_need dX11_told_5 mkX11_116 (k_0 hSh) (c_needWithin Γ g mi ml hSh (nI 2) (nI 0) (nI 6)) rfl rfl (by decide) (by decide) (by decide) (by decide) (fun h => absurd (by decide) h) (fun _ => ?_)
  refine X_iload_n dX11_told_8 rfl ?_
  refine X_tableIn 64 dX11_told_9 (by decide) (by decide) rfl (by decide) ?_
  refine X_aload_n dX11_told_64 rfl ?_
  refine X_getr (a := 3) dX11_told_65 fkX11_25 rfl (k_0 hSh) (r_0_2 hSh) ?_
  refine X_geti dX11_told_68 fkX11_175 rfl (k_3 hSh) ?_
  exact X_iret dX11_told_71 rfl ⟨congrArg (fun z => Sum.inl (some (Value.int z))) (hcl.2.2.1), hC, frK_r, rfl⟩
set_option maxRecDepth 100000 in
set_option maxHeartbeats 4000000 in
theorem r_told_2 (Γ : pTG) (g : pGG) (mi : pMI) (ml : pML) (A : AS) (hA : okAS A) (hSh : Sh g) (hR : RI A mi)  : CT Γ 60 0 0 mX12_told [.ref 87, .int (nI 2)] g mi ml (RQ A (.inl (nI (aP A).2.2.1)) cd1 g mi ml) := by
  refine CT_of (by decide +kernel) (Nat.le_of_ble_eq_true rfl) ?_
  have hP := hA.1
  have hG8 : aG A ≤ 8 := hP.2.1
  have hC8 : (aP A).1 ≤ 8 := hP.1
  refine X_aload_n dX12_told_0 rfl ?_
  refine X_iconst (v := nI 0) dX12_told_1 (by decide) ?_
  refine X_puti dX12_told_2 fkX12_158 rfl rfl (k_87 hSh) ?_
  refine X_aload_n dX12_told_5 rfl ?_
  refine X_iload_n dX12_told_6 rfl ?_
  refine X_iconst (v := nI 0) dX12_told_7 (by decide) ?_
  refine X_bipush (v := nI 6) dX12_told_8 (by decide) ?_
  refine X_callSI dX12_told_10 mkX12_192 (c_in Γ g (up2 mi 87 0 (nI 0)) ml (nI 2) (nI 0) (nI 6)) rfl rfl (by decide) (Nat.le_of_ble_eq_true rfl) ?_
  refine X_topi (show bI (decide (nI 0 ≤ nI 2) && decide (nI 2 ≤ nI 6)) = nI 1 from congrArg bI (show (decide (nI 0 ≤ nI 2) && decide (nI 2 ≤ nI 6)) = true from by decide)) ?_
  refine X_if_neN (a := 1) 20 dX12_told_13 (by decide) (by omega) (fun h_1 => ?_) (fun h_1 => ?_)
  · refine X_iconst (v := nI 0) dX12_told_20 (by decide) ?_
    refine X_iconst (v := nI 1) dX12_told_21 (by decide) ?_
    refine X_iconst (v := nI 1) dX12_told_22 (by decide) ?_
    refine X_callVI dX12_told_23 mkX12_228 (k_87 hSh) (c_bad0 Γ g (up2 mi 87 0 (nI 0)) ml hSh 1 1 up2_s) rfl rfl (by decide) (Nat.le_of_ble_eq_true rfl) ?_
    refine X_if_eqN (a := 0) 31 dX12_told_26 (by decide) (by omega) (fun h_2 => ?_) (fun h_2 => ?_)
    · refine X_iload_n dX12_told_31 rfl ?_
      refine X_iconst (v := nI 5) dX12_told_32 (by decide) ?_
      refine X_icmp_geN (a := 2) (b := 5) 45 dX12_told_33 (by decide) (by omega) (by omega) (fun h_3 => ?_) (fun h_3 => ?_)
      · exact absurd h_3 (by omega)
      · refine X_aload_n dX12_told_36 rfl ?_
        refine X_getr (a := 91) dX12_told_37 fkX12_23 rfl (k_87 hSh) (r_87_12 hSh) ?_
        refine X_iload_n dX12_told_40 rfl ?_
        refine X_iald 2 dX12_told_41 (k_91 hSh) rfl (by omega) ?_
        refine X_topi (show (up2 mi 87 0 (nI 0)) 91 2 = mi 91 2 by rw [up2_row (by omega)]) ?_
        refine X_goto 61 dX12_told_42 (by decide) ?_
        exact X_iret dX12_told_61 rfl ⟨rfl, rfl, RI_fr hA hR (frW_u frW_r (by unfold rsF rsR; omega)), (frM2_u frM2_r (by omega)), _, rfl, by first | rfl | exact hR.1.2.2.1, (show (up2 mi 87 0 (nI 0)) 87 0 = nI 0 by rw [up2_s])⟩
    · exact absurd h_2 (by omega)
  · exact absurd h_1 (by omega)
set_option maxRecDepth 100000 in
set_option maxHeartbeats 4000000 in
theorem k_told_3 (Γ : pTG) (g : pGG) (mi : pMI) (ml : pML) (A : AS) (hA : okAS A) (hC : CI A g mi ml)  : CT Γ 60 20 5000 mX11_told [.ref 0, .int (nI 3)] g mi ml (CQ A (.inl (nI (aP A).2.2.2.1)) mi ml) := by
  refine CT_of (by decide +kernel) (Nat.le_of_ble_eq_true rfl) ?_
  have hSh := CI_Sh hC
  have hcl := CI_cl hC
  have hP := hA.1
  have hG8 : aG A ≤ 8 := hP.2.1
  have hC8 : (aP A).1 ≤ 8 := hP.1
  refine X_aload_n dX11_told_0 rfl ?_
  refine X_iload_n dX11_told_1 rfl ?_
  refine X_iconst (v := nI 0) dX11_told_2 (by decide) ?_
  refine X_bipush (v := nI 6) dX11_told_3 (by decide) ?_
  refine X_need dX11_told_5 mkX11_116 (k_0 hSh) (c_needWithin Γ g mi ml hSh (nI 3) (nI 0) (nI 6)) rfl rfl (by decide) (by decide) (by decide) (by decide) (fun h => absurd (by decide) h) (fun _ => ?_)
  refine X_iload_n dX11_told_8 rfl ?_
  refine X_tableIn 72 dX11_told_9 (by decide) (by decide) rfl (by decide) ?_
  refine X_aload_n dX11_told_72 rfl ?_
  refine X_getr (a := 3) dX11_told_73 fkX11_25 rfl (k_0 hSh) (r_0_2 hSh) ?_
  refine X_geti dX11_told_76 fkX11_178 rfl (k_3 hSh) ?_
  exact X_iret dX11_told_79 rfl ⟨congrArg (fun z => Sum.inl (some (Value.int z))) (hcl.2.2.2.1), hC, frK_r, rfl⟩
set_option maxRecDepth 100000 in
set_option maxHeartbeats 4000000 in
theorem r_told_3 (Γ : pTG) (g : pGG) (mi : pMI) (ml : pML) (A : AS) (hA : okAS A) (hSh : Sh g) (hR : RI A mi)  : CT Γ 60 0 0 mX12_told [.ref 87, .int (nI 3)] g mi ml (RQ A (.inl (nI (aP A).2.2.2.1)) cd1 g mi ml) := by
  refine CT_of (by decide +kernel) (Nat.le_of_ble_eq_true rfl) ?_
  have hP := hA.1
  have hG8 : aG A ≤ 8 := hP.2.1
  have hC8 : (aP A).1 ≤ 8 := hP.1
  refine X_aload_n dX12_told_0 rfl ?_
  refine X_iconst (v := nI 0) dX12_told_1 (by decide) ?_
  refine X_puti dX12_told_2 fkX12_158 rfl rfl (k_87 hSh) ?_
  refine X_aload_n dX12_told_5 rfl ?_
  refine X_iload_n dX12_told_6 rfl ?_
  refine X_iconst (v := nI 0) dX12_told_7 (by decide) ?_
  refine X_bipush (v := nI 6) dX12_told_8 (by decide) ?_
  refine X_callSI dX12_told_10 mkX12_192 (c_in Γ g (up2 mi 87 0 (nI 0)) ml (nI 3) (nI 0) (nI 6)) rfl rfl (by decide) (Nat.le_of_ble_eq_true rfl) ?_
  refine X_topi (show bI (decide (nI 0 ≤ nI 3) && decide (nI 3 ≤ nI 6)) = nI 1 from congrArg bI (show (decide (nI 0 ≤ nI 3) && decide (nI 3 ≤ nI 6)) = true from by decide)) ?_
  refine X_if_neN (a := 1) 20 dX12_told_13 (by decide) (by omega) (fun h_1 => ?_) (fun h_1 => ?_)
  · refine X_iconst (v := nI 0) dX12_told_20 (by decide) ?_
    refine X_iconst (v := nI 1) dX12_told_21 (by decide) ?_
    refine X_iconst (v := nI 1) dX12_told_22 (by decide) ?_
    refine X_callVI dX12_told_23 mkX12_228 (k_87 hSh) (c_bad0 Γ g (up2 mi 87 0 (nI 0)) ml hSh 1 1 up2_s) rfl rfl (by decide) (Nat.le_of_ble_eq_true rfl) ?_
    refine X_if_eqN (a := 0) 31 dX12_told_26 (by decide) (by omega) (fun h_2 => ?_) (fun h_2 => ?_)
    · refine X_iload_n dX12_told_31 rfl ?_
      refine X_iconst (v := nI 5) dX12_told_32 (by decide) ?_
      refine X_icmp_geN (a := 3) (b := 5) 45 dX12_told_33 (by decide) (by omega) (by omega) (fun h_3 => ?_) (fun h_3 => ?_)
      · exact absurd h_3 (by omega)
      · refine X_aload_n dX12_told_36 rfl ?_
        refine X_getr (a := 91) dX12_told_37 fkX12_23 rfl (k_87 hSh) (r_87_12 hSh) ?_
        refine X_iload_n dX12_told_40 rfl ?_
        refine X_iald 3 dX12_told_41 (k_91 hSh) rfl (by omega) ?_
        refine X_topi (show (up2 mi 87 0 (nI 0)) 91 3 = mi 91 3 by rw [up2_row (by omega)]) ?_
        refine X_goto 61 dX12_told_42 (by decide) ?_
        exact X_iret dX12_told_61 rfl ⟨rfl, rfl, RI_fr hA hR (frW_u frW_r (by unfold rsF rsR; omega)), (frM2_u frM2_r (by omega)), _, rfl, by first | rfl | exact hR.1.2.2.2.1, (show (up2 mi 87 0 (nI 0)) 87 0 = nI 0 by rw [up2_s])⟩
    · exact absurd h_2 (by omega)
  · exact absurd h_1 (by omega)
set_option maxRecDepth 100000 in
set_option maxHeartbeats 4000000 in
theorem k_told_4 (Γ : pTG) (g : pGG) (mi : pMI) (ml : pML) (A : AS) (hA : okAS A) (hC : CI A g mi ml)  : CT Γ 60 20 5000 mX11_told [.ref 0, .int (nI 4)] g mi ml (CQ A (.inl (nI (aP A).2.2.2.2.1)) mi ml) := by
  refine CT_of (by decide +kernel) (Nat.le_of_ble_eq_true rfl) ?_
  have hSh := CI_Sh hC
  have hcl := CI_cl hC
  have hP := hA.1
  have hG8 : aG A ≤ 8 := hP.2.1
  have hC8 : (aP A).1 ≤ 8 := hP.1
  refine X_aload_n dX11_told_0 rfl ?_
  refine X_iload_n dX11_told_1 rfl ?_
  refine X_iconst (v := nI 0) dX11_told_2 (by decide) ?_
  refine X_bipush (v := nI 6) dX11_told_3 (by decide) ?_
  refine X_need dX11_told_5 mkX11_116 (k_0 hSh) (c_needWithin Γ g mi ml hSh (nI 4) (nI 0) (nI 6)) rfl rfl (by decide) (by decide) (by decide) (by decide) (fun h => absurd (by decide) h) (fun _ => ?_)
  refine X_iload_n dX11_told_8 rfl ?_
  refine X_tableIn 80 dX11_told_9 (by decide) (by decide) rfl (by decide) ?_
  refine X_aload_n dX11_told_80 rfl ?_
  refine X_getr (a := 3) dX11_told_81 fkX11_25 rfl (k_0 hSh) (r_0_2 hSh) ?_
  refine X_geti dX11_told_84 fkX11_181 rfl (k_3 hSh) ?_
  exact X_iret dX11_told_87 rfl ⟨congrArg (fun z => Sum.inl (some (Value.int z))) (hcl.2.2.2.2.1), hC, frK_r, rfl⟩
set_option maxRecDepth 100000 in
set_option maxHeartbeats 4000000 in
theorem r_told_4 (Γ : pTG) (g : pGG) (mi : pMI) (ml : pML) (A : AS) (hA : okAS A) (hSh : Sh g) (hR : RI A mi)  : CT Γ 60 0 0 mX12_told [.ref 87, .int (nI 4)] g mi ml (RQ A (.inl (nI (aP A).2.2.2.2.1)) cd1 g mi ml) := by
  refine CT_of (by decide +kernel) (Nat.le_of_ble_eq_true rfl) ?_
  have hP := hA.1
  have hG8 : aG A ≤ 8 := hP.2.1
  have hC8 : (aP A).1 ≤ 8 := hP.1
  refine X_aload_n dX12_told_0 rfl ?_
  refine X_iconst (v := nI 0) dX12_told_1 (by decide) ?_
  refine X_puti dX12_told_2 fkX12_158 rfl rfl (k_87 hSh) ?_
  refine X_aload_n dX12_told_5 rfl ?_
  refine X_iload_n dX12_told_6 rfl ?_
  refine X_iconst (v := nI 0) dX12_told_7 (by decide) ?_
  refine X_bipush (v := nI 6) dX12_told_8 (by decide) ?_
  refine X_callSI dX12_told_10 mkX12_192 (c_in Γ g (up2 mi 87 0 (nI 0)) ml (nI 4) (nI 0) (nI 6)) rfl rfl (by decide) (Nat.le_of_ble_eq_true rfl) ?_
  refine X_topi (show bI (decide (nI 0 ≤ nI 4) && decide (nI 4 ≤ nI 6)) = nI 1 from congrArg bI (show (decide (nI 0 ≤ nI 4) && decide (nI 4 ≤ nI 6)) = true from by decide)) ?_
  refine X_if_neN (a := 1) 20 dX12_told_13 (by decide) (by omega) (fun h_1 => ?_) (fun h_1 => ?_)
  · refine X_iconst (v := nI 0) dX12_told_20 (by decide) ?_
    refine X_iconst (v := nI 1) dX12_told_21 (by decide) ?_
    refine X_iconst (v := nI 1) dX12_told_22 (by decide) ?_
    refine X_callVI dX12_told_23 mkX12_228 (k_87 hSh) (c_bad0 Γ g (up2 mi 87 0 (nI 0)) ml hSh 1 1 up2_s) rfl rfl (by decide) (Nat.le_of_ble_eq_true rfl) ?_
    refine X_if_eqN (a := 0) 31 dX12_told_26 (by decide) (by omega) (fun h_2 => ?_) (fun h_2 => ?_)
    · refine X_iload_n dX12_told_31 rfl ?_
      refine X_iconst (v := nI 5) dX12_told_32 (by decide) ?_
      refine X_icmp_geN (a := 4) (b := 5) 45 dX12_told_33 (by decide) (by omega) (by omega) (fun h_3 => ?_) (fun h_3 => ?_)
      · exact absurd h_3 (by omega)
      · refine X_aload_n dX12_told_36 rfl ?_
        refine X_getr (a := 91) dX12_told_37 fkX12_23 rfl (k_87 hSh) (r_87_12 hSh) ?_
        refine X_iload_n dX12_told_40 rfl ?_
        refine X_iald 4 dX12_told_41 (k_91 hSh) rfl (by omega) ?_
        refine X_topi (show (up2 mi 87 0 (nI 0)) 91 4 = mi 91 4 by rw [up2_row (by omega)]) ?_
        refine X_goto 61 dX12_told_42 (by decide) ?_
        exact X_iret dX12_told_61 rfl ⟨rfl, rfl, RI_fr hA hR (frW_u frW_r (by unfold rsF rsR; omega)), (frM2_u frM2_r (by omega)), _, rfl, by first | rfl | exact hR.1.2.2.2.2.1, (show (up2 mi 87 0 (nI 0)) 87 0 = nI 0 by rw [up2_s])⟩
    · exact absurd h_2 (by omega)
  · exact absurd h_1 (by omega)
set_option maxRecDepth 100000 in
set_option maxHeartbeats 4000000 in
theorem k_told_5 (Γ : pTG) (g : pGG) (mi : pMI) (ml : pML) (A : AS) (hA : okAS A) (hC : CI A g mi ml)  : CT Γ 60 20 5000 mX11_told [.ref 0, .int (nI 5)] g mi ml (CQ A (.inl (nI (aD A))) mi ml) := by
  refine CT_of (by decide +kernel) (Nat.le_of_ble_eq_true rfl) ?_
  have hSh := CI_Sh hC
  have hcl := CI_cl hC
  have hP := hA.1
  have hG8 : aG A ≤ 8 := hP.2.1
  have hC8 : (aP A).1 ≤ 8 := hP.1
  refine X_aload_n dX11_told_0 rfl ?_
  refine X_iload_n dX11_told_1 rfl ?_
  refine X_iconst (v := nI 0) dX11_told_2 (by decide) ?_
  refine X_bipush (v := nI 6) dX11_told_3 (by decide) ?_
  refine X_need dX11_told_5 mkX11_116 (k_0 hSh) (c_needWithin Γ g mi ml hSh (nI 5) (nI 0) (nI 6)) rfl rfl (by decide) (by decide) (by decide) (by decide) (fun h => absurd (by decide) h) (fun _ => ?_)
  refine X_iload_n dX11_told_8 rfl ?_
  refine X_tableIn 88 dX11_told_9 (by decide) (by decide) rfl (by decide) ?_
  refine X_aload_n dX11_told_88 rfl ?_
  refine X_geti dX11_told_89 fkX11_138 rfl (k_0 hSh) ?_
  exact X_iret dX11_told_92 rfl ⟨congrArg (fun z => Sum.inl (some (Value.int z))) ((CI_k hC).2.1), hC, frK_r, rfl⟩
set_option maxRecDepth 100000 in
set_option maxHeartbeats 4000000 in
theorem r_told_5 (Γ : pTG) (g : pGG) (mi : pMI) (ml : pML) (A : AS) (hA : okAS A) (hSh : Sh g) (hR : RI A mi)  : CT Γ 60 0 0 mX12_told [.ref 87, .int (nI 5)] g mi ml (RQ A (.inl (nI (aD A))) cd1 g mi ml) := by
  refine CT_of (by decide +kernel) (Nat.le_of_ble_eq_true rfl) ?_
  have hP := hA.1
  have hG8 : aG A ≤ 8 := hP.2.1
  have hC8 : (aP A).1 ≤ 8 := hP.1
  refine X_aload_n dX12_told_0 rfl ?_
  refine X_iconst (v := nI 0) dX12_told_1 (by decide) ?_
  refine X_puti dX12_told_2 fkX12_158 rfl rfl (k_87 hSh) ?_
  refine X_aload_n dX12_told_5 rfl ?_
  refine X_iload_n dX12_told_6 rfl ?_
  refine X_iconst (v := nI 0) dX12_told_7 (by decide) ?_
  refine X_bipush (v := nI 6) dX12_told_8 (by decide) ?_
  refine X_callSI dX12_told_10 mkX12_192 (c_in Γ g (up2 mi 87 0 (nI 0)) ml (nI 5) (nI 0) (nI 6)) rfl rfl (by decide) (Nat.le_of_ble_eq_true rfl) ?_
  refine X_topi (show bI (decide (nI 0 ≤ nI 5) && decide (nI 5 ≤ nI 6)) = nI 1 from congrArg bI (show (decide (nI 0 ≤ nI 5) && decide (nI 5 ≤ nI 6)) = true from by decide)) ?_
  refine X_if_neN (a := 1) 20 dX12_told_13 (by decide) (by omega) (fun h_1 => ?_) (fun h_1 => ?_)
  · refine X_iconst (v := nI 0) dX12_told_20 (by decide) ?_
    refine X_iconst (v := nI 1) dX12_told_21 (by decide) ?_
    refine X_iconst (v := nI 1) dX12_told_22 (by decide) ?_
    refine X_callVI dX12_told_23 mkX12_228 (k_87 hSh) (c_bad0 Γ g (up2 mi 87 0 (nI 0)) ml hSh 1 1 up2_s) rfl rfl (by decide) (Nat.le_of_ble_eq_true rfl) ?_
    refine X_if_eqN (a := 0) 31 dX12_told_26 (by decide) (by omega) (fun h_2 => ?_) (fun h_2 => ?_)
    · refine X_iload_n dX12_told_31 rfl ?_
      refine X_iconst (v := nI 5) dX12_told_32 (by decide) ?_
      refine X_icmp_geN (a := 5) (b := 5) 45 dX12_told_33 (by decide) (by omega) (by omega) (fun h_3 => ?_) (fun h_3 => ?_)
      · refine X_iload_n dX12_told_45 rfl ?_
        refine X_iconst (v := nI 5) dX12_told_46 (by decide) ?_
        refine X_icmp_neN (a := 5) (b := 5) 57 dX12_told_47 (by decide) (by omega) (by omega) (fun h_4 => ?_) (fun h_4 => ?_)
        · exact absurd h_4 (by omega)
        · refine X_aload_n dX12_told_50 rfl ?_
          refine X_geti dX12_told_51 fkX12_244 rfl (k_87 hSh) ?_
          refine X_topi (show (up2 mi 87 0 (nI 0)) 87 29 = mi 87 29 by rw [up2_n (by omega)]) ?_
          refine X_goto 61 dX12_told_54 (by decide) ?_
          exact X_iret dX12_told_61 rfl ⟨rfl, rfl, RI_fr hA hR (frW_u frW_r (by unfold rsF rsR; omega)), (frM2_u frM2_r (by omega)), _, rfl, by first | rfl | exact hR.2.2.2.2.1, (show (up2 mi 87 0 (nI 0)) 87 0 = nI 0 by rw [up2_s])⟩
      · exact absurd h_3 (by omega)
    · exact absurd h_2 (by omega)
  · exact absurd h_1 (by omega)
set_option maxRecDepth 100000 in
set_option maxHeartbeats 4000000 in
theorem k_told_6 (Γ : pTG) (g : pGG) (mi : pMI) (ml : pML) (A : AS) (hA : okAS A) (hC : CI A g mi ml)  : CT Γ 60 20 5000 mX11_told [.ref 0, .int (nI 6)] g mi ml (CQ A (.inl (nI (aBn A))) mi ml) := by
  refine CT_of (by decide +kernel) (Nat.le_of_ble_eq_true rfl) ?_
  have hSh := CI_Sh hC
  have hcl := CI_cl hC
  have hP := hA.1
  have hG8 : aG A ≤ 8 := hP.2.1
  have hC8 : (aP A).1 ≤ 8 := hP.1
  refine X_aload_n dX11_told_0 rfl ?_
  refine X_iload_n dX11_told_1 rfl ?_
  refine X_iconst (v := nI 0) dX11_told_2 (by decide) ?_
  refine X_bipush (v := nI 6) dX11_told_3 (by decide) ?_
  refine X_need dX11_told_5 mkX11_116 (k_0 hSh) (c_needWithin Γ g mi ml hSh (nI 6) (nI 0) (nI 6)) rfl rfl (by decide) (by decide) (by decide) (by decide) (fun h => absurd (by decide) h) (fun _ => ?_)
  refine X_iload_n dX11_told_8 rfl ?_
  refine X_tableOut 93 dX11_told_9 (by decide) (by decide) ?_
  refine X_aload_n dX11_told_93 rfl ?_
  refine X_getr (a := 24) dX11_told_94 fkX11_51 rfl (k_0 hSh) (r_0_6 hSh) ?_
  refine X_geti dX11_told_97 fkX11_166 rfl (k_24 hSh) ?_
  exact X_iret dX11_told_100 rfl ⟨congrArg (fun z => Sum.inl (some (Value.int z))) ((CI_k hC).1.1), hC, frK_r, rfl⟩
set_option maxRecDepth 100000 in
set_option maxHeartbeats 4000000 in
theorem r_told_6 (Γ : pTG) (g : pGG) (mi : pMI) (ml : pML) (A : AS) (hA : okAS A) (hSh : Sh g) (hR : RI A mi)  : CT Γ 60 0 0 mX12_told [.ref 87, .int (nI 6)] g mi ml (RQ A (.inl (nI (aBn A))) cd1 g mi ml) := by
  refine CT_of (by decide +kernel) (Nat.le_of_ble_eq_true rfl) ?_
  have hP := hA.1
  have hG8 : aG A ≤ 8 := hP.2.1
  have hC8 : (aP A).1 ≤ 8 := hP.1
  refine X_aload_n dX12_told_0 rfl ?_
  refine X_iconst (v := nI 0) dX12_told_1 (by decide) ?_
  refine X_puti dX12_told_2 fkX12_158 rfl rfl (k_87 hSh) ?_
  refine X_aload_n dX12_told_5 rfl ?_
  refine X_iload_n dX12_told_6 rfl ?_
  refine X_iconst (v := nI 0) dX12_told_7 (by decide) ?_
  refine X_bipush (v := nI 6) dX12_told_8 (by decide) ?_
  refine X_callSI dX12_told_10 mkX12_192 (c_in Γ g (up2 mi 87 0 (nI 0)) ml (nI 6) (nI 0) (nI 6)) rfl rfl (by decide) (Nat.le_of_ble_eq_true rfl) ?_
  refine X_topi (show bI (decide (nI 0 ≤ nI 6) && decide (nI 6 ≤ nI 6)) = nI 1 from congrArg bI (show (decide (nI 0 ≤ nI 6) && decide (nI 6 ≤ nI 6)) = true from by decide)) ?_
  refine X_if_neN (a := 1) 20 dX12_told_13 (by decide) (by omega) (fun h_1 => ?_) (fun h_1 => ?_)
  · refine X_iconst (v := nI 0) dX12_told_20 (by decide) ?_
    refine X_iconst (v := nI 1) dX12_told_21 (by decide) ?_
    refine X_iconst (v := nI 1) dX12_told_22 (by decide) ?_
    refine X_callVI dX12_told_23 mkX12_228 (k_87 hSh) (c_bad0 Γ g (up2 mi 87 0 (nI 0)) ml hSh 1 1 up2_s) rfl rfl (by decide) (Nat.le_of_ble_eq_true rfl) ?_
    refine X_if_eqN (a := 0) 31 dX12_told_26 (by decide) (by omega) (fun h_2 => ?_) (fun h_2 => ?_)
    · refine X_iload_n dX12_told_31 rfl ?_
      refine X_iconst (v := nI 5) dX12_told_32 (by decide) ?_
      refine X_icmp_geN (a := 6) (b := 5) 45 dX12_told_33 (by decide) (by omega) (by omega) (fun h_3 => ?_) (fun h_3 => ?_)
      · refine X_iload_n dX12_told_45 rfl ?_
        refine X_iconst (v := nI 5) dX12_told_46 (by decide) ?_
        refine X_icmp_neN (a := 6) (b := 5) 57 dX12_told_47 (by decide) (by omega) (by omega) (fun h_4 => ?_) (fun h_4 => ?_)
        · refine X_aload_n dX12_told_57 rfl ?_
          refine X_geti dX12_told_58 fkX12_241 rfl (k_87 hSh) ?_
          refine X_topi (show (up2 mi 87 0 (nI 0)) 87 28 = mi 87 28 by rw [up2_n (by omega)]) ?_
          exact X_iret dX12_told_61 rfl ⟨rfl, rfl, RI_fr hA hR (frW_u frW_r (by unfold rsF rsR; omega)), (frM2_u frM2_r (by omega)), _, rfl, by first | rfl | exact hR.2.2.2.1.1, (show (up2 mi 87 0 (nI 0)) 87 0 = nI 0 by rw [up2_s])⟩
        · exact absurd h_4 (by omega)
      · exact absurd h_3 (by omega)
    · exact absurd h_2 (by omega)
  · exact absurd h_1 (by omega)
theorem m_told (A : AS) (hA : okAS A) (w : Int32) : MOK mX11_told mX12_told cd1 [.int w] A := by
  by_cases hg0 : nI 0 ≤ w ∧ w ≤ nI 6
  · obtain ⟨k, hka, hk, rfl⟩ := (wi_iff (by decide) (by decide)).mp hg0
    have hkk : k < 7 := by omega
    match k, hkk with
    | 0, _ => exact ⟨.inl (nI (aP A).1), A, hA, fun j h => (by cases h), fun Γ g m l hC => k_told_0 Γ g m l A hA hC, fun Γ g m l hSh hR => r_told_0 Γ g m l A hA hSh hR⟩
    | 1, _ => exact ⟨.inl (nI (aG A)), A, hA, fun j h => (by cases h), fun Γ g m l hC => k_told_1 Γ g m l A hA hC, fun Γ g m l hSh hR => r_told_1 Γ g m l A hA hSh hR⟩
    | 2, _ => exact ⟨.inl (nI (aP A).2.2.1), A, hA, fun j h => (by cases h), fun Γ g m l hC => k_told_2 Γ g m l A hA hC, fun Γ g m l hSh hR => r_told_2 Γ g m l A hA hSh hR⟩
    | 3, _ => exact ⟨.inl (nI (aP A).2.2.2.1), A, hA, fun j h => (by cases h), fun Γ g m l hC => k_told_3 Γ g m l A hA hC, fun Γ g m l hSh hR => r_told_3 Γ g m l A hA hSh hR⟩
    | 4, _ => exact ⟨.inl (nI (aP A).2.2.2.2.1), A, hA, fun j h => (by cases h), fun Γ g m l hC => k_told_4 Γ g m l A hA hC, fun Γ g m l hSh hR => r_told_4 Γ g m l A hA hSh hR⟩
    | 5, _ => exact ⟨.inl (nI (aD A)), A, hA, fun j h => (by cases h), fun Γ g m l hC => k_told_5 Γ g m l A hA hC, fun Γ g m l hSh hR => r_told_5 Γ g m l A hA hSh hR⟩
    | 6, _ => exact ⟨.inl (nI (aBn A)), A, hA, fun j h => (by cases h), fun Γ g m l hC => k_told_6 Γ g m l A hA hC, fun Γ g m l hSh hR => r_told_6 Γ g m l A hA hSh hR⟩
  · exact ⟨.inr 1, rfA A 1, ok_rf hA, fun j h => by cases h; decide, fun Γ g m l hC => k_told_f0 Γ g m l A hA hC w hg0, fun Γ g m l hSh hR => r_told_f0 Γ g m l A hA hSh hR w hg0⟩
set_option maxRecDepth 100000 in
set_option maxHeartbeats 4000000 in
theorem k_guest_f0 (Γ : pTG) (g : pGG) (mi : pMI) (ml : pML) (A : AS) (hA : okAS A) (hC : CI A g mi ml) (v : Int32) (hf : ¬ ∃ b, b < aG A ∧ v = nI b) (w : Int32) : CT Γ 60 20 5000 mX11_guest [.ref 0, .int v, .int w] g mi ml (CQ (rfA A 0) (.inr 0) mi ml) := by
  refine CT_of (by decide +kernel) (Nat.le_of_ble_eq_true rfl) ?_
  have hSh := CI_Sh hC
  have hcl := CI_cl hC
  have hP := hA.1
  have hG8 : aG A ≤ 8 := hP.2.1
  have hC8 : (aP A).1 ≤ 8 := hP.1
  refine X_aload_n dX11_guest_0 rfl ?_
  refine X_iload_n dX11_guest_1 rfl ?_
  exact X_need dX11_guest_2 mkX11_147 (k_0 hSh) (c_needGuest Γ g mi ml hSh v) rfl rfl (by decide) (by decide) (by decide) (by decide) (fun _ => ⟨rfl, CI_rf (by decide) hC, frK_86, rfl⟩) (fun h => absurd ((gd_iff hG8).mp (by rw [← hcl.2.1]; exact h)) hf)
set_option maxRecDepth 100000 in
set_option maxHeartbeats 4000000 in
theorem r_guest_f0 (Γ : pTG) (g : pGG) (mi : pMI) (ml : pML) (A : AS) (hA : okAS A) (hSh : Sh g) (hR : RI A mi) (v : Int32) (hf : ¬ ∃ b, b < aG A ∧ v = nI b) (w : Int32) : CT Γ 60 0 0 mX12_guest [.ref 87, .int v, .int w] g mi ml (RQ (rfA A 0) (.inr 0) cd2 g mi ml) := by
  refine CT_of (by decide +kernel) (Nat.le_of_ble_eq_true rfl) ?_
  have hP := hA.1
  have hG8 : aG A ≤ 8 := hP.2.1
  have hC8 : (aP A).1 ≤ 8 := hP.1
  refine X_aload_n dX12_guest_0 rfl ?_
  refine X_iconst (v := nI 0) dX12_guest_1 (by decide) ?_
  refine X_puti dX12_guest_2 fkX12_158 rfl rfl (k_87 hSh) ?_
  refine X_aload_n dX12_guest_5 rfl ?_
  refine X_aload_n dX12_guest_6 rfl ?_
  refine X_iload_n dX12_guest_7 rfl ?_
  refine X_callVI dX12_guest_8 mkX12_285 (k_87 hSh) (c_isGuest Γ g (up2 mi 87 0 (nI 0)) ml hSh v) rfl rfl (by decide) (Nat.le_of_ble_eq_true rfl) ?_
  refine X_topi (show bI (decide (nI 0 ≤ v) && decide (v ≤ (up2 mi 87 0 (nI 0)) 91 1 - nI 1)) = nI 0 from congrArg bI (show (decide (nI 0 ≤ v) && decide (v ≤ (up2 mi 87 0 (nI 0)) 91 1 - nI 1)) = false from Bool.eq_false_iff.mpr (fun q => hf ((gd_ref hG8).mp (by rw [(show (up2 mi 87 0 (nI 0)) 91 1 = nI (aG A) from ((congrFun (up2_row (by omega)) _).trans hR.1.2.1))] at q; exact q))))) ?_
  refine X_if_neN (a := 0) 18 dX12_guest_11 (by decide) (by omega) (fun h_1 => ?_) (fun h_1 => ?_)
  · exact absurd h_1 (by omega)
  · refine X_iconst (v := nI 1) dX12_guest_14 (by decide) ?_
    refine X_goto 19 dX12_guest_15 (by decide) ?_
    refine X_iconst (v := nI 1) dX12_guest_19 (by decide) ?_
    refine X_iconst (v := nI 0) dX12_guest_20 (by decide) ?_
    refine X_callVI dX12_guest_21 mkX12_228 (k_87 hSh) (c_bad1 Γ g (up2 mi 87 0 (nI 0)) ml hSh 1 0 (by decide) (by decide) (by decide) up2_s) rfl rfl (by decide) (Nat.le_of_ble_eq_true rfl) ?_
    refine X_mi (show _ = mB mi 1 0 from rfl) ?_
    refine X_if_neN (a := 1) 50 dX12_guest_24 (by decide) (by omega) (fun h_2 => ?_) (fun h_2 => ?_)
    · refine X_iconst (v := nI 0) dX12_guest_50 (by decide) ?_
      exact X_iret dX12_guest_51 rfl ⟨rfl, rfl, RI_rf hA (by decide) hR, fr2_B, _, rfl, mB_0⟩
    · exact absurd h_2 (by omega)
set_option maxRecDepth 100000 in
set_option maxHeartbeats 4000000 in
theorem k_guest_f1 (Γ : pTG) (g : pGG) (mi : pMI) (ml : pML) (A : AS) (hA : okAS A) (hC : CI A g mi ml) (b : Nat) (hb : b < aG A) (w : Int32) (hf : ¬ (nI 0 ≤ w ∧ w ≤ nI 3)) : CT Γ 60 20 5000 mX11_guest [.ref 0, .int (nI b), .int w] g mi ml (CQ (rfA A 1) (.inr 1) mi ml) := by
  refine CT_of (by decide +kernel) (Nat.le_of_ble_eq_true rfl) ?_
  have hSh := CI_Sh hC
  have hcl := CI_cl hC
  have hP := hA.1
  have hG8 : aG A ≤ 8 := hP.2.1
  have hC8 : (aP A).1 ≤ 8 := hP.1
  refine X_aload_n dX11_guest_0 rfl ?_
  refine X_iload_n dX11_guest_1 rfl ?_
  refine X_need dX11_guest_2 mkX11_147 (k_0 hSh) (c_needGuest Γ g mi ml hSh (nI b)) rfl rfl (by decide) (by decide) (by decide) (by decide) (fun h => absurd (by rw [hcl.2.1]; exact (gd_iff hG8).mpr ⟨b, hb, rfl⟩) h) (fun _ => ?_)
  refine X_aload_n dX11_guest_5 rfl ?_
  refine X_iload_n dX11_guest_6 rfl ?_
  refine X_iconst (v := nI 0) dX11_guest_7 (by decide) ?_
  refine X_iconst (v := nI 3) dX11_guest_8 (by decide) ?_
  exact X_need dX11_guest_9 mkX11_116 (k_0 hSh) (c_needWithin Γ g mi ml hSh w (nI 0) (nI 3)) rfl rfl (by decide) (by decide) (by decide) (by decide) (fun _ => ⟨rfl, CI_rf (by decide) hC, frK_86, rfl⟩) (fun h => absurd h hf)
set_option maxRecDepth 100000 in
set_option maxHeartbeats 4000000 in
theorem r_guest_f1 (Γ : pTG) (g : pGG) (mi : pMI) (ml : pML) (A : AS) (hA : okAS A) (hSh : Sh g) (hR : RI A mi) (b : Nat) (hb : b < aG A) (w : Int32) (hf : ¬ (nI 0 ≤ w ∧ w ≤ nI 3)) : CT Γ 60 0 0 mX12_guest [.ref 87, .int (nI b), .int w] g mi ml (RQ (rfA A 1) (.inr 1) cd2 g mi ml) := by
  refine CT_of (by decide +kernel) (Nat.le_of_ble_eq_true rfl) ?_
  have hP := hA.1
  have hG8 : aG A ≤ 8 := hP.2.1
  have hC8 : (aP A).1 ≤ 8 := hP.1
  refine X_aload_n dX12_guest_0 rfl ?_
  refine X_iconst (v := nI 0) dX12_guest_1 (by decide) ?_
  refine X_puti dX12_guest_2 fkX12_158 rfl rfl (k_87 hSh) ?_
  refine X_aload_n dX12_guest_5 rfl ?_
  refine X_aload_n dX12_guest_6 rfl ?_
  refine X_iload_n dX12_guest_7 rfl ?_
  refine X_callVI dX12_guest_8 mkX12_285 (k_87 hSh) (c_isGuest Γ g (up2 mi 87 0 (nI 0)) ml hSh (nI b)) rfl rfl (by decide) (Nat.le_of_ble_eq_true rfl) ?_
  refine X_topi (show bI (decide (nI 0 ≤ nI b) && decide (nI b ≤ (up2 mi 87 0 (nI 0)) 91 1 - nI 1)) = nI 1 from congrArg bI (show (decide (nI 0 ≤ nI b) && decide (nI b ≤ (up2 mi 87 0 (nI 0)) 91 1 - nI 1)) = true from by rw [(show (up2 mi 87 0 (nI 0)) 91 1 = nI (aG A) from ((congrFun (up2_row (by omega)) _).trans hR.1.2.1))]; exact (gd_ref hG8).mpr ⟨b, hb, rfl⟩)) ?_
  refine X_if_neN (a := 1) 18 dX12_guest_11 (by decide) (by omega) (fun h_1 => ?_) (fun h_1 => ?_)
  · refine X_iconst (v := nI 0) dX12_guest_18 (by decide) ?_
    refine X_iconst (v := nI 1) dX12_guest_19 (by decide) ?_
    refine X_iconst (v := nI 0) dX12_guest_20 (by decide) ?_
    refine X_callVI dX12_guest_21 mkX12_228 (k_87 hSh) (c_bad0 Γ g (up2 mi 87 0 (nI 0)) ml hSh 1 0 up2_s) rfl rfl (by decide) (Nat.le_of_ble_eq_true rfl) ?_
    refine X_if_neN (a := 0) 50 dX12_guest_24 (by decide) (by omega) (fun h_2 => ?_) (fun h_2 => ?_)
    · exact absurd h_2 (by omega)
    · refine X_aload_n dX12_guest_27 rfl ?_
      refine X_iload_n dX12_guest_28 rfl ?_
      refine X_iconst (v := nI 0) dX12_guest_29 (by decide) ?_
      refine X_iconst (v := nI 3) dX12_guest_30 (by decide) ?_
      refine X_callSI dX12_guest_31 mkX12_192 (c_in Γ g (up2 mi 87 0 (nI 0)) ml w (nI 0) (nI 3)) rfl rfl (by decide) (Nat.le_of_ble_eq_true rfl) ?_
      refine X_topi (show bI (decide (nI 0 ≤ w) && decide (w ≤ nI 3)) = nI 0 from congrArg bI (show (decide (nI 0 ≤ w) && decide (w ≤ nI 3)) = false from Bool.eq_false_iff.mpr (fun q => hf (by rw [Bool.and_eq_true, decide_eq_true_eq, decide_eq_true_eq] at q; exact q)))) ?_
      refine X_if_neN (a := 0) 41 dX12_guest_34 (by decide) (by omega) (fun h_3 => ?_) (fun h_3 => ?_)
      · exact absurd h_3 (by omega)
      · refine X_iconst (v := nI 1) dX12_guest_37 (by decide) ?_
        refine X_goto 42 dX12_guest_38 (by decide) ?_
        refine X_iconst (v := nI 2) dX12_guest_42 (by decide) ?_
        refine X_iconst (v := nI 1) dX12_guest_43 (by decide) ?_
        refine X_callVI dX12_guest_44 mkX12_228 (k_87 hSh) (c_bad1 Γ g (up2 mi 87 0 (nI 0)) ml hSh 2 1 (by decide) (by decide) (by decide) up2_s) rfl rfl (by decide) (Nat.le_of_ble_eq_true rfl) ?_
        refine X_mi (show _ = mB mi 2 1 from rfl) ?_
        refine X_if_eqN (a := 1) 52 dX12_guest_47 (by decide) (by omega) (fun h_4 => ?_) (fun h_4 => ?_)
        · exact absurd h_4 (by omega)
        · refine X_iconst (v := nI 0) dX12_guest_50 (by decide) ?_
          exact X_iret dX12_guest_51 rfl ⟨rfl, rfl, RI_rf hA (by decide) hR, fr2_B, _, rfl, mB_0⟩
  · exact absurd h_1 (by omega)
set_option maxRecDepth 100000 in
set_option maxHeartbeats 4000000 in
theorem k_guest_0 (Γ : pTG) (g : pGG) (mi : pMI) (ml : pML) (A : AS) (hA : okAS A) (hC : CI A g mi ml) (b : Nat) (hb : b < aG A)  : CT Γ 60 20 5000 mX11_guest [.ref 0, .int (nI b), .int (nI 0)] g mi ml (CQ A (.inl (nI ((aP A).2.2.2.2.2.2 b 0))) mi ml) := by
  refine CT_of (by decide +kernel) (Nat.le_of_ble_eq_true rfl) ?_
  have hSh := CI_Sh hC
  have hcl := CI_cl hC
  have hP := hA.1
  have hG8 : aG A ≤ 8 := hP.2.1
  have hC8 : (aP A).1 ≤ 8 := hP.1
  refine X_aload_n dX11_guest_0 rfl ?_
  refine X_iload_n dX11_guest_1 rfl ?_
  refine X_need dX11_guest_2 mkX11_147 (k_0 hSh) (c_needGuest Γ g mi ml hSh (nI b)) rfl rfl (by decide) (by decide) (by decide) (by decide) (fun h => absurd (by rw [hcl.2.1]; exact (gd_iff hG8).mpr ⟨b, hb, rfl⟩) h) (fun _ => ?_)
  refine X_aload_n dX11_guest_5 rfl ?_
  refine X_iload_n dX11_guest_6 rfl ?_
  refine X_iconst (v := nI 0) dX11_guest_7 (by decide) ?_
  refine X_iconst (v := nI 3) dX11_guest_8 (by decide) ?_
  refine X_need dX11_guest_9 mkX11_116 (k_0 hSh) (c_needWithin Γ g mi ml hSh (nI 0) (nI 0) (nI 3)) rfl rfl (by decide) (by decide) (by decide) (by decide) (fun h => absurd (by decide) h) (fun _ => ?_)
  refine X_iload_n dX11_guest_12 rfl ?_
  refine X_tableIn 40 dX11_guest_13 (by decide) (by decide) rfl (by decide) ?_
  refine X_aload_n dX11_guest_40 rfl ?_
  refine X_getr (a := 3) dX11_guest_41 fkX11_25 rfl (k_0 hSh) (r_0_2 hSh) ?_
  refine X_getr (a := 6) dX11_guest_44 fkX11_199 rfl (k_3 hSh) (r_3_2 hSh) ?_
  refine X_iload_n dX11_guest_47 rfl ?_
  refine X_iald b dX11_guest_48 (k_6 hSh) rfl (by omega) ?_
  exact X_iret dX11_guest_49 rfl ⟨congrArg (fun z => Sum.inl (some (Value.int z))) ((hcl.2.2.2.2.2.2 b hb).1), hC, frK_r, rfl⟩
set_option maxRecDepth 100000 in
set_option maxHeartbeats 4000000 in
theorem r_guest_0 (Γ : pTG) (g : pGG) (mi : pMI) (ml : pML) (A : AS) (hA : okAS A) (hSh : Sh g) (hR : RI A mi) (b : Nat) (hb : b < aG A)  : CT Γ 60 0 0 mX12_guest [.ref 87, .int (nI b), .int (nI 0)] g mi ml (RQ A (.inl (nI ((aP A).2.2.2.2.2.2 b 0))) cd2 g mi ml) := by
  refine CT_of (by decide +kernel) (Nat.le_of_ble_eq_true rfl) ?_
  have hP := hA.1
  have hG8 : aG A ≤ 8 := hP.2.1
  have hC8 : (aP A).1 ≤ 8 := hP.1
  refine X_aload_n dX12_guest_0 rfl ?_
  refine X_iconst (v := nI 0) dX12_guest_1 (by decide) ?_
  refine X_puti dX12_guest_2 fkX12_158 rfl rfl (k_87 hSh) ?_
  refine X_aload_n dX12_guest_5 rfl ?_
  refine X_aload_n dX12_guest_6 rfl ?_
  refine X_iload_n dX12_guest_7 rfl ?_
  refine X_callVI dX12_guest_8 mkX12_285 (k_87 hSh) (c_isGuest Γ g (up2 mi 87 0 (nI 0)) ml hSh (nI b)) rfl rfl (by decide) (Nat.le_of_ble_eq_true rfl) ?_
  refine X_topi (show bI (decide (nI 0 ≤ nI b) && decide (nI b ≤ (up2 mi 87 0 (nI 0)) 91 1 - nI 1)) = nI 1 from congrArg bI (show (decide (nI 0 ≤ nI b) && decide (nI b ≤ (up2 mi 87 0 (nI 0)) 91 1 - nI 1)) = true from by rw [(show (up2 mi 87 0 (nI 0)) 91 1 = nI (aG A) from ((congrFun (up2_row (by omega)) _).trans hR.1.2.1))]; exact (gd_ref hG8).mpr ⟨b, hb, rfl⟩)) ?_
  refine X_if_neN (a := 1) 18 dX12_guest_11 (by decide) (by omega) (fun h_1 => ?_) (fun h_1 => ?_)
  · refine X_iconst (v := nI 0) dX12_guest_18 (by decide) ?_
    refine X_iconst (v := nI 1) dX12_guest_19 (by decide) ?_
    refine X_iconst (v := nI 0) dX12_guest_20 (by decide) ?_
    refine X_callVI dX12_guest_21 mkX12_228 (k_87 hSh) (c_bad0 Γ g (up2 mi 87 0 (nI 0)) ml hSh 1 0 up2_s) rfl rfl (by decide) (Nat.le_of_ble_eq_true rfl) ?_
    refine X_if_neN (a := 0) 50 dX12_guest_24 (by decide) (by omega) (fun h_2 => ?_) (fun h_2 => ?_)
    · exact absurd h_2 (by omega)
    · refine X_aload_n dX12_guest_27 rfl ?_
      refine X_iload_n dX12_guest_28 rfl ?_
      refine X_iconst (v := nI 0) dX12_guest_29 (by decide) ?_
      refine X_iconst (v := nI 3) dX12_guest_30 (by decide) ?_
      refine X_callSI dX12_guest_31 mkX12_192 (c_in Γ g (up2 mi 87 0 (nI 0)) ml (nI 0) (nI 0) (nI 3)) rfl rfl (by decide) (Nat.le_of_ble_eq_true rfl) ?_
      refine X_topi (show bI (decide (nI 0 ≤ nI 0) && decide (nI 0 ≤ nI 3)) = nI 1 from congrArg bI (show (decide (nI 0 ≤ nI 0) && decide (nI 0 ≤ nI 3)) = true from by decide)) ?_
      refine X_if_neN (a := 1) 41 dX12_guest_34 (by decide) (by omega) (fun h_3 => ?_) (fun h_3 => ?_)
      · refine X_iconst (v := nI 0) dX12_guest_41 (by decide) ?_
        refine X_iconst (v := nI 2) dX12_guest_42 (by decide) ?_
        refine X_iconst (v := nI 1) dX12_guest_43 (by decide) ?_
        refine X_callVI dX12_guest_44 mkX12_228 (k_87 hSh) (c_bad0 Γ g (up2 mi 87 0 (nI 0)) ml hSh 2 1 up2_s) rfl rfl (by decide) (Nat.le_of_ble_eq_true rfl) ?_
        refine X_if_eqN (a := 0) 52 dX12_guest_47 (by decide) (by omega) (fun h_4 => ?_) (fun h_4 => ?_)
        · refine X_aload_n dX12_guest_52 rfl ?_
          refine X_getr (a := 120) dX12_guest_53 fkX12_37 rfl (k_87 hSh) (r_87_16 hSh) ?_
          refine X_iload_n dX12_guest_56 rfl ?_
          refine X_aaldr (b := 121 + b) b dX12_guest_57 (k_120 hSh) rfl (by omega) (o_120 hSh b (by omega)) ?_
          refine X_iload_n dX12_guest_58 rfl ?_
          refine X_iald 0 dX12_guest_59 (kr_120 hSh b (by omega)) rfl (by omega) ?_
          refine X_topi (show (up2 mi 87 0 (nI 0)) (121 + b) 0 = mi (121 + b) 0 by rw [up2_row (by omega)]) ?_
          exact X_iret dX12_guest_60 rfl ⟨rfl, rfl, RI_fr hA hR (frW_u frW_r (by unfold rsF rsR; omega)), (frM2_u frM2_r (by omega)), _, rfl, by first | exact (hR.1.2.2.2.2.2.2 b hb).1 | exact (congrFun (up2_row (by omega)) _).trans (hR.1.2.2.2.2.2.2 b hb).1, (show (up2 mi 87 0 (nI 0)) 87 0 = nI 0 by rw [up2_s])⟩
        · exact absurd h_4 (by omega)
      · exact absurd h_3 (by omega)
  · exact absurd h_1 (by omega)
set_option maxRecDepth 100000 in
set_option maxHeartbeats 4000000 in
theorem k_guest_1 (Γ : pTG) (g : pGG) (mi : pMI) (ml : pML) (A : AS) (hA : okAS A) (hC : CI A g mi ml) (b : Nat) (hb : b < aG A)  : CT Γ 60 20 5000 mX11_guest [.ref 0, .int (nI b), .int (nI 1)] g mi ml (CQ A (.inl (nI ((aP A).2.2.2.2.2.2 b 1))) mi ml) := by
  refine CT_of (by decide +kernel) (Nat.le_of_ble_eq_true rfl) ?_
  have hSh := CI_Sh hC
  have hcl := CI_cl hC
  have hP := hA.1
  have hG8 : aG A ≤ 8 := hP.2.1
  have hC8 : (aP A).1 ≤ 8 := hP.1
  refine X_aload_n dX11_guest_0 rfl ?_
  refine X_iload_n dX11_guest_1 rfl ?_
  refine X_need dX11_guest_2 mkX11_147 (k_0 hSh) (c_needGuest Γ g mi ml hSh (nI b)) rfl rfl (by decide) (by decide) (by decide) (by decide) (fun h => absurd (by rw [hcl.2.1]; exact (gd_iff hG8).mpr ⟨b, hb, rfl⟩) h) (fun _ => ?_)
  refine X_aload_n dX11_guest_5 rfl ?_
  refine X_iload_n dX11_guest_6 rfl ?_
  refine X_iconst (v := nI 0) dX11_guest_7 (by decide) ?_
  refine X_iconst (v := nI 3) dX11_guest_8 (by decide) ?_
  refine X_need dX11_guest_9 mkX11_116 (k_0 hSh) (c_needWithin Γ g mi ml hSh (nI 1) (nI 0) (nI 3)) rfl rfl (by decide) (by decide) (by decide) (by decide) (fun h => absurd (by decide) h) (fun _ => ?_)
  refine X_iload_n dX11_guest_12 rfl ?_
  refine X_tableIn 50 dX11_guest_13 (by decide) (by decide) rfl (by decide) ?_
  refine X_aload_n dX11_guest_50 rfl ?_
  refine X_getr (a := 3) dX11_guest_51 fkX11_25 rfl (k_0 hSh) (r_0_2 hSh) ?_
  refine X_getr (a := 7) dX11_guest_54 fkX11_202 rfl (k_3 hSh) (r_3_3 hSh) ?_
  refine X_iload_n dX11_guest_57 rfl ?_
  refine X_iald b dX11_guest_58 (k_7 hSh) rfl (by omega) ?_
  exact X_iret dX11_guest_59 rfl ⟨congrArg (fun z => Sum.inl (some (Value.int z))) ((hcl.2.2.2.2.2.2 b hb).2.1), hC, frK_r, rfl⟩
set_option maxRecDepth 100000 in
set_option maxHeartbeats 4000000 in
theorem r_guest_1 (Γ : pTG) (g : pGG) (mi : pMI) (ml : pML) (A : AS) (hA : okAS A) (hSh : Sh g) (hR : RI A mi) (b : Nat) (hb : b < aG A)  : CT Γ 60 0 0 mX12_guest [.ref 87, .int (nI b), .int (nI 1)] g mi ml (RQ A (.inl (nI ((aP A).2.2.2.2.2.2 b 1))) cd2 g mi ml) := by
  refine CT_of (by decide +kernel) (Nat.le_of_ble_eq_true rfl) ?_
  have hP := hA.1
  have hG8 : aG A ≤ 8 := hP.2.1
  have hC8 : (aP A).1 ≤ 8 := hP.1
  refine X_aload_n dX12_guest_0 rfl ?_
  refine X_iconst (v := nI 0) dX12_guest_1 (by decide) ?_
  refine X_puti dX12_guest_2 fkX12_158 rfl rfl (k_87 hSh) ?_
  refine X_aload_n dX12_guest_5 rfl ?_
  refine X_aload_n dX12_guest_6 rfl ?_
  refine X_iload_n dX12_guest_7 rfl ?_
  refine X_callVI dX12_guest_8 mkX12_285 (k_87 hSh) (c_isGuest Γ g (up2 mi 87 0 (nI 0)) ml hSh (nI b)) rfl rfl (by decide) (Nat.le_of_ble_eq_true rfl) ?_
  refine X_topi (show bI (decide (nI 0 ≤ nI b) && decide (nI b ≤ (up2 mi 87 0 (nI 0)) 91 1 - nI 1)) = nI 1 from congrArg bI (show (decide (nI 0 ≤ nI b) && decide (nI b ≤ (up2 mi 87 0 (nI 0)) 91 1 - nI 1)) = true from by rw [(show (up2 mi 87 0 (nI 0)) 91 1 = nI (aG A) from ((congrFun (up2_row (by omega)) _).trans hR.1.2.1))]; exact (gd_ref hG8).mpr ⟨b, hb, rfl⟩)) ?_
  refine X_if_neN (a := 1) 18 dX12_guest_11 (by decide) (by omega) (fun h_1 => ?_) (fun h_1 => ?_)
  · refine X_iconst (v := nI 0) dX12_guest_18 (by decide) ?_
    refine X_iconst (v := nI 1) dX12_guest_19 (by decide) ?_
    refine X_iconst (v := nI 0) dX12_guest_20 (by decide) ?_
    refine X_callVI dX12_guest_21 mkX12_228 (k_87 hSh) (c_bad0 Γ g (up2 mi 87 0 (nI 0)) ml hSh 1 0 up2_s) rfl rfl (by decide) (Nat.le_of_ble_eq_true rfl) ?_
    refine X_if_neN (a := 0) 50 dX12_guest_24 (by decide) (by omega) (fun h_2 => ?_) (fun h_2 => ?_)
    · exact absurd h_2 (by omega)
    · refine X_aload_n dX12_guest_27 rfl ?_
      refine X_iload_n dX12_guest_28 rfl ?_
      refine X_iconst (v := nI 0) dX12_guest_29 (by decide) ?_
      refine X_iconst (v := nI 3) dX12_guest_30 (by decide) ?_
      refine X_callSI dX12_guest_31 mkX12_192 (c_in Γ g (up2 mi 87 0 (nI 0)) ml (nI 1) (nI 0) (nI 3)) rfl rfl (by decide) (Nat.le_of_ble_eq_true rfl) ?_
      refine X_topi (show bI (decide (nI 0 ≤ nI 1) && decide (nI 1 ≤ nI 3)) = nI 1 from congrArg bI (show (decide (nI 0 ≤ nI 1) && decide (nI 1 ≤ nI 3)) = true from by decide)) ?_
      refine X_if_neN (a := 1) 41 dX12_guest_34 (by decide) (by omega) (fun h_3 => ?_) (fun h_3 => ?_)
      · refine X_iconst (v := nI 0) dX12_guest_41 (by decide) ?_
        refine X_iconst (v := nI 2) dX12_guest_42 (by decide) ?_
        refine X_iconst (v := nI 1) dX12_guest_43 (by decide) ?_
        refine X_callVI dX12_guest_44 mkX12_228 (k_87 hSh) (c_bad0 Γ g (up2 mi 87 0 (nI 0)) ml hSh 2 1 up2_s) rfl rfl (by decide) (Nat.le_of_ble_eq_true rfl) ?_
        refine X_if_eqN (a := 0) 52 dX12_guest_47 (by decide) (by omega) (fun h_4 => ?_) (fun h_4 => ?_)
        · refine X_aload_n dX12_guest_52 rfl ?_
          refine X_getr (a := 120) dX12_guest_53 fkX12_37 rfl (k_87 hSh) (r_87_16 hSh) ?_
          refine X_iload_n dX12_guest_56 rfl ?_
          refine X_aaldr (b := 121 + b) b dX12_guest_57 (k_120 hSh) rfl (by omega) (o_120 hSh b (by omega)) ?_
          refine X_iload_n dX12_guest_58 rfl ?_
          refine X_iald 1 dX12_guest_59 (kr_120 hSh b (by omega)) rfl (by omega) ?_
          refine X_topi (show (up2 mi 87 0 (nI 0)) (121 + b) 1 = mi (121 + b) 1 by rw [up2_row (by omega)]) ?_
          exact X_iret dX12_guest_60 rfl ⟨rfl, rfl, RI_fr hA hR (frW_u frW_r (by unfold rsF rsR; omega)), (frM2_u frM2_r (by omega)), _, rfl, by first | exact (hR.1.2.2.2.2.2.2 b hb).2.1 | exact (congrFun (up2_row (by omega)) _).trans (hR.1.2.2.2.2.2.2 b hb).2.1, (show (up2 mi 87 0 (nI 0)) 87 0 = nI 0 by rw [up2_s])⟩
        · exact absurd h_4 (by omega)
      · exact absurd h_3 (by omega)
  · exact absurd h_1 (by omega)
set_option maxRecDepth 100000 in
set_option maxHeartbeats 4000000 in
theorem k_guest_2 (Γ : pTG) (g : pGG) (mi : pMI) (ml : pML) (A : AS) (hA : okAS A) (hC : CI A g mi ml) (b : Nat) (hb : b < aG A)  : CT Γ 60 20 5000 mX11_guest [.ref 0, .int (nI b), .int (nI 2)] g mi ml (CQ A (.inl (nI ((aP A).2.2.2.2.2.2 b 2))) mi ml) := by
  refine CT_of (by decide +kernel) (Nat.le_of_ble_eq_true rfl) ?_
  have hSh := CI_Sh hC
  have hcl := CI_cl hC
  have hP := hA.1
  have hG8 : aG A ≤ 8 := hP.2.1
  have hC8 : (aP A).1 ≤ 8 := hP.1
  refine X_aload_n dX11_guest_0 rfl ?_
  refine X_iload_n dX11_guest_1 rfl ?_
  refine X_need dX11_guest_2 mkX11_147 (k_0 hSh) (c_needGuest Γ g mi ml hSh (nI b)) rfl rfl (by decide) (by decide) (by decide) (by decide) (fun h => absurd (by rw [hcl.2.1]; exact (gd_iff hG8).mpr ⟨b, hb, rfl⟩) h) (fun _ => ?_)
  refine X_aload_n dX11_guest_5 rfl ?_
  refine X_iload_n dX11_guest_6 rfl ?_
  refine X_iconst (v := nI 0) dX11_guest_7 (by decide) ?_
  refine X_iconst (v := nI 3) dX11_guest_8 (by decide) ?_
  refine X_need dX11_guest_9 mkX11_116 (k_0 hSh) (c_needWithin Γ g mi ml hSh (nI 2) (nI 0) (nI 3)) rfl rfl (by decide) (by decide) (by decide) (by decide) (fun h => absurd (by decide) h) (fun _ => ?_)
  refine X_iload_n dX11_guest_12 rfl ?_
  refine X_tableIn 60 dX11_guest_13 (by decide) (by decide) rfl (by decide) ?_
  refine X_aload_n dX11_guest_60 rfl ?_
  refine X_getr (a := 3) dX11_guest_61 fkX11_25 rfl (k_0 hSh) (r_0_2 hSh) ?_
  refine X_getr (a := 8) dX11_guest_64 fkX11_205 rfl (k_3 hSh) (r_3_4 hSh) ?_
  refine X_iload_n dX11_guest_67 rfl ?_
  refine X_iald b dX11_guest_68 (k_8 hSh) rfl (by omega) ?_
  exact X_iret dX11_guest_69 rfl ⟨congrArg (fun z => Sum.inl (some (Value.int z))) ((hcl.2.2.2.2.2.2 b hb).2.2.1), hC, frK_r, rfl⟩
set_option maxRecDepth 100000 in
set_option maxHeartbeats 4000000 in
theorem r_guest_2 (Γ : pTG) (g : pGG) (mi : pMI) (ml : pML) (A : AS) (hA : okAS A) (hSh : Sh g) (hR : RI A mi) (b : Nat) (hb : b < aG A)  : CT Γ 60 0 0 mX12_guest [.ref 87, .int (nI b), .int (nI 2)] g mi ml (RQ A (.inl (nI ((aP A).2.2.2.2.2.2 b 2))) cd2 g mi ml) := by
  refine CT_of (by decide +kernel) (Nat.le_of_ble_eq_true rfl) ?_
  have hP := hA.1
  have hG8 : aG A ≤ 8 := hP.2.1
  have hC8 : (aP A).1 ≤ 8 := hP.1
  refine X_aload_n dX12_guest_0 rfl ?_
  refine X_iconst (v := nI 0) dX12_guest_1 (by decide) ?_
  refine X_puti dX12_guest_2 fkX12_158 rfl rfl (k_87 hSh) ?_
  refine X_aload_n dX12_guest_5 rfl ?_
  refine X_aload_n dX12_guest_6 rfl ?_
  refine X_iload_n dX12_guest_7 rfl ?_
  refine X_callVI dX12_guest_8 mkX12_285 (k_87 hSh) (c_isGuest Γ g (up2 mi 87 0 (nI 0)) ml hSh (nI b)) rfl rfl (by decide) (Nat.le_of_ble_eq_true rfl) ?_
  refine X_topi (show bI (decide (nI 0 ≤ nI b) && decide (nI b ≤ (up2 mi 87 0 (nI 0)) 91 1 - nI 1)) = nI 1 from congrArg bI (show (decide (nI 0 ≤ nI b) && decide (nI b ≤ (up2 mi 87 0 (nI 0)) 91 1 - nI 1)) = true from by rw [(show (up2 mi 87 0 (nI 0)) 91 1 = nI (aG A) from ((congrFun (up2_row (by omega)) _).trans hR.1.2.1))]; exact (gd_ref hG8).mpr ⟨b, hb, rfl⟩)) ?_
  refine X_if_neN (a := 1) 18 dX12_guest_11 (by decide) (by omega) (fun h_1 => ?_) (fun h_1 => ?_)
  · refine X_iconst (v := nI 0) dX12_guest_18 (by decide) ?_
    refine X_iconst (v := nI 1) dX12_guest_19 (by decide) ?_
    refine X_iconst (v := nI 0) dX12_guest_20 (by decide) ?_
    refine X_callVI dX12_guest_21 mkX12_228 (k_87 hSh) (c_bad0 Γ g (up2 mi 87 0 (nI 0)) ml hSh 1 0 up2_s) rfl rfl (by decide) (Nat.le_of_ble_eq_true rfl) ?_
    refine X_if_neN (a := 0) 50 dX12_guest_24 (by decide) (by omega) (fun h_2 => ?_) (fun h_2 => ?_)
    · exact absurd h_2 (by omega)
    · refine X_aload_n dX12_guest_27 rfl ?_
      refine X_iload_n dX12_guest_28 rfl ?_
      refine X_iconst (v := nI 0) dX12_guest_29 (by decide) ?_
      refine X_iconst (v := nI 3) dX12_guest_30 (by decide) ?_
      refine X_callSI dX12_guest_31 mkX12_192 (c_in Γ g (up2 mi 87 0 (nI 0)) ml (nI 2) (nI 0) (nI 3)) rfl rfl (by decide) (Nat.le_of_ble_eq_true rfl) ?_
      refine X_topi (show bI (decide (nI 0 ≤ nI 2) && decide (nI 2 ≤ nI 3)) = nI 1 from congrArg bI (show (decide (nI 0 ≤ nI 2) && decide (nI 2 ≤ nI 3)) = true from by decide)) ?_
      refine X_if_neN (a := 1) 41 dX12_guest_34 (by decide) (by omega) (fun h_3 => ?_) (fun h_3 => ?_)
      · refine X_iconst (v := nI 0) dX12_guest_41 (by decide) ?_
        refine X_iconst (v := nI 2) dX12_guest_42 (by decide) ?_
        refine X_iconst (v := nI 1) dX12_guest_43 (by decide) ?_
        refine X_callVI dX12_guest_44 mkX12_228 (k_87 hSh) (c_bad0 Γ g (up2 mi 87 0 (nI 0)) ml hSh 2 1 up2_s) rfl rfl (by decide) (Nat.le_of_ble_eq_true rfl) ?_
        refine X_if_eqN (a := 0) 52 dX12_guest_47 (by decide) (by omega) (fun h_4 => ?_) (fun h_4 => ?_)
        · refine X_aload_n dX12_guest_52 rfl ?_
          refine X_getr (a := 120) dX12_guest_53 fkX12_37 rfl (k_87 hSh) (r_87_16 hSh) ?_
          refine X_iload_n dX12_guest_56 rfl ?_
          refine X_aaldr (b := 121 + b) b dX12_guest_57 (k_120 hSh) rfl (by omega) (o_120 hSh b (by omega)) ?_
          refine X_iload_n dX12_guest_58 rfl ?_
          refine X_iald 2 dX12_guest_59 (kr_120 hSh b (by omega)) rfl (by omega) ?_
          refine X_topi (show (up2 mi 87 0 (nI 0)) (121 + b) 2 = mi (121 + b) 2 by rw [up2_row (by omega)]) ?_
          exact X_iret dX12_guest_60 rfl ⟨rfl, rfl, RI_fr hA hR (frW_u frW_r (by unfold rsF rsR; omega)), (frM2_u frM2_r (by omega)), _, rfl, by first | exact (hR.1.2.2.2.2.2.2 b hb).2.2.1 | exact (congrFun (up2_row (by omega)) _).trans (hR.1.2.2.2.2.2.2 b hb).2.2.1, (show (up2 mi 87 0 (nI 0)) 87 0 = nI 0 by rw [up2_s])⟩
        · exact absurd h_4 (by omega)
      · exact absurd h_3 (by omega)
  · exact absurd h_1 (by omega)
set_option maxRecDepth 100000 in
set_option maxHeartbeats 4000000 in
theorem k_guest_3 (Γ : pTG) (g : pGG) (mi : pMI) (ml : pML) (A : AS) (hA : okAS A) (hC : CI A g mi ml) (b : Nat) (hb : b < aG A)  : CT Γ 60 20 5000 mX11_guest [.ref 0, .int (nI b), .int (nI 3)] g mi ml (CQ A (.inl (nI ((aP A).2.2.2.2.2.2 b 3))) mi ml) := by
  refine CT_of (by decide +kernel) (Nat.le_of_ble_eq_true rfl) ?_
  have hSh := CI_Sh hC
  have hcl := CI_cl hC
  have hP := hA.1
  have hG8 : aG A ≤ 8 := hP.2.1
  have hC8 : (aP A).1 ≤ 8 := hP.1
  refine X_aload_n dX11_guest_0 rfl ?_
  refine X_iload_n dX11_guest_1 rfl ?_
  refine X_need dX11_guest_2 mkX11_147 (k_0 hSh) (c_needGuest Γ g mi ml hSh (nI b)) rfl rfl (by decide) (by decide) (by decide) (by decide) (fun h => absurd (by rw [hcl.2.1]; exact (gd_iff hG8).mpr ⟨b, hb, rfl⟩) h) (fun _ => ?_)
  refine X_aload_n dX11_guest_5 rfl ?_
  refine X_iload_n dX11_guest_6 rfl ?_
  refine X_iconst (v := nI 0) dX11_guest_7 (by decide) ?_
  refine X_iconst (v := nI 3) dX11_guest_8 (by decide) ?_
  refine X_need dX11_guest_9 mkX11_116 (k_0 hSh) (c_needWithin Γ g mi ml hSh (nI 3) (nI 0) (nI 3)) rfl rfl (by decide) (by decide) (by decide) (by decide) (fun h => absurd (by decide) h) (fun _ => ?_)
  refine X_iload_n dX11_guest_12 rfl ?_
  refine X_tableOut 70 dX11_guest_13 (by decide) (by decide) ?_
  refine X_aload_n dX11_guest_70 rfl ?_
  refine X_getr (a := 3) dX11_guest_71 fkX11_25 rfl (k_0 hSh) (r_0_2 hSh) ?_
  refine X_getr (a := 9) dX11_guest_74 fkX11_208 rfl (k_3 hSh) (r_3_5 hSh) ?_
  refine X_iload_n dX11_guest_77 rfl ?_
  refine X_iald b dX11_guest_78 (k_9 hSh) rfl (by omega) ?_
  exact X_iret dX11_guest_79 rfl ⟨congrArg (fun z => Sum.inl (some (Value.int z))) ((hcl.2.2.2.2.2.2 b hb).2.2.2), hC, frK_r, rfl⟩
set_option maxRecDepth 100000 in
set_option maxHeartbeats 4000000 in
theorem r_guest_3 (Γ : pTG) (g : pGG) (mi : pMI) (ml : pML) (A : AS) (hA : okAS A) (hSh : Sh g) (hR : RI A mi) (b : Nat) (hb : b < aG A)  : CT Γ 60 0 0 mX12_guest [.ref 87, .int (nI b), .int (nI 3)] g mi ml (RQ A (.inl (nI ((aP A).2.2.2.2.2.2 b 3))) cd2 g mi ml) := by
  refine CT_of (by decide +kernel) (Nat.le_of_ble_eq_true rfl) ?_
  have hP := hA.1
  have hG8 : aG A ≤ 8 := hP.2.1
  have hC8 : (aP A).1 ≤ 8 := hP.1
  refine X_aload_n dX12_guest_0 rfl ?_
  refine X_iconst (v := nI 0) dX12_guest_1 (by decide) ?_
  refine X_puti dX12_guest_2 fkX12_158 rfl rfl (k_87 hSh) ?_
  refine X_aload_n dX12_guest_5 rfl ?_
  refine X_aload_n dX12_guest_6 rfl ?_
  refine X_iload_n dX12_guest_7 rfl ?_
  refine X_callVI dX12_guest_8 mkX12_285 (k_87 hSh) (c_isGuest Γ g (up2 mi 87 0 (nI 0)) ml hSh (nI b)) rfl rfl (by decide) (Nat.le_of_ble_eq_true rfl) ?_
  refine X_topi (show bI (decide (nI 0 ≤ nI b) && decide (nI b ≤ (up2 mi 87 0 (nI 0)) 91 1 - nI 1)) = nI 1 from congrArg bI (show (decide (nI 0 ≤ nI b) && decide (nI b ≤ (up2 mi 87 0 (nI 0)) 91 1 - nI 1)) = true from by rw [(show (up2 mi 87 0 (nI 0)) 91 1 = nI (aG A) from ((congrFun (up2_row (by omega)) _).trans hR.1.2.1))]; exact (gd_ref hG8).mpr ⟨b, hb, rfl⟩)) ?_
  refine X_if_neN (a := 1) 18 dX12_guest_11 (by decide) (by omega) (fun h_1 => ?_) (fun h_1 => ?_)
  · refine X_iconst (v := nI 0) dX12_guest_18 (by decide) ?_
    refine X_iconst (v := nI 1) dX12_guest_19 (by decide) ?_
    refine X_iconst (v := nI 0) dX12_guest_20 (by decide) ?_
    refine X_callVI dX12_guest_21 mkX12_228 (k_87 hSh) (c_bad0 Γ g (up2 mi 87 0 (nI 0)) ml hSh 1 0 up2_s) rfl rfl (by decide) (Nat.le_of_ble_eq_true rfl) ?_
    refine X_if_neN (a := 0) 50 dX12_guest_24 (by decide) (by omega) (fun h_2 => ?_) (fun h_2 => ?_)
    · exact absurd h_2 (by omega)
    · refine X_aload_n dX12_guest_27 rfl ?_
      refine X_iload_n dX12_guest_28 rfl ?_
      refine X_iconst (v := nI 0) dX12_guest_29 (by decide) ?_
      refine X_iconst (v := nI 3) dX12_guest_30 (by decide) ?_
      refine X_callSI dX12_guest_31 mkX12_192 (c_in Γ g (up2 mi 87 0 (nI 0)) ml (nI 3) (nI 0) (nI 3)) rfl rfl (by decide) (Nat.le_of_ble_eq_true rfl) ?_
      refine X_topi (show bI (decide (nI 0 ≤ nI 3) && decide (nI 3 ≤ nI 3)) = nI 1 from congrArg bI (show (decide (nI 0 ≤ nI 3) && decide (nI 3 ≤ nI 3)) = true from by decide)) ?_
      refine X_if_neN (a := 1) 41 dX12_guest_34 (by decide) (by omega) (fun h_3 => ?_) (fun h_3 => ?_)
      · refine X_iconst (v := nI 0) dX12_guest_41 (by decide) ?_
        refine X_iconst (v := nI 2) dX12_guest_42 (by decide) ?_
        refine X_iconst (v := nI 1) dX12_guest_43 (by decide) ?_
        refine X_callVI dX12_guest_44 mkX12_228 (k_87 hSh) (c_bad0 Γ g (up2 mi 87 0 (nI 0)) ml hSh 2 1 up2_s) rfl rfl (by decide) (Nat.le_of_ble_eq_true rfl) ?_
        refine X_if_eqN (a := 0) 52 dX12_guest_47 (by decide) (by omega) (fun h_4 => ?_) (fun h_4 => ?_)
        · refine X_aload_n dX12_guest_52 rfl ?_
          refine X_getr (a := 120) dX12_guest_53 fkX12_37 rfl (k_87 hSh) (r_87_16 hSh) ?_
          refine X_iload_n dX12_guest_56 rfl ?_
          refine X_aaldr (b := 121 + b) b dX12_guest_57 (k_120 hSh) rfl (by omega) (o_120 hSh b (by omega)) ?_
          refine X_iload_n dX12_guest_58 rfl ?_
          refine X_iald 3 dX12_guest_59 (kr_120 hSh b (by omega)) rfl (by omega) ?_
          refine X_topi (show (up2 mi 87 0 (nI 0)) (121 + b) 3 = mi (121 + b) 3 by rw [up2_row (by omega)]) ?_
          exact X_iret dX12_guest_60 rfl ⟨rfl, rfl, RI_fr hA hR (frW_u frW_r (by unfold rsF rsR; omega)), (frM2_u frM2_r (by omega)), _, rfl, by first | exact (hR.1.2.2.2.2.2.2 b hb).2.2.2 | exact (congrFun (up2_row (by omega)) _).trans (hR.1.2.2.2.2.2.2 b hb).2.2.2, (show (up2 mi 87 0 (nI 0)) 87 0 = nI 0 by rw [up2_s])⟩
        · exact absurd h_4 (by omega)
      · exact absurd h_3 (by omega)
  · exact absurd h_1 (by omega)
theorem m_guest (A : AS) (hA : okAS A) (v : Int32) (w : Int32) : MOK mX11_guest mX12_guest cd2 [.int v, .int w] A := by
  by_cases hg0 : ∃ b, b < aG A ∧ v = nI b
  · obtain ⟨b, hb, rfl⟩ := hg0
    by_cases hg1 : nI 0 ≤ w ∧ w ≤ nI 3
    · obtain ⟨k, hka, hk, rfl⟩ := (wi_iff (by decide) (by decide)).mp hg1
      have hkk : k < 4 := by omega
      match k, hkk with
      | 0, _ => exact ⟨.inl (nI ((aP A).2.2.2.2.2.2 b 0)), A, hA, fun j h => (by cases h), fun Γ g m l hC => k_guest_0 Γ g m l A hA hC b hb, fun Γ g m l hSh hR => r_guest_0 Γ g m l A hA hSh hR b hb⟩
      | 1, _ => exact ⟨.inl (nI ((aP A).2.2.2.2.2.2 b 1)), A, hA, fun j h => (by cases h), fun Γ g m l hC => k_guest_1 Γ g m l A hA hC b hb, fun Γ g m l hSh hR => r_guest_1 Γ g m l A hA hSh hR b hb⟩
      | 2, _ => exact ⟨.inl (nI ((aP A).2.2.2.2.2.2 b 2)), A, hA, fun j h => (by cases h), fun Γ g m l hC => k_guest_2 Γ g m l A hA hC b hb, fun Γ g m l hSh hR => r_guest_2 Γ g m l A hA hSh hR b hb⟩
      | 3, _ => exact ⟨.inl (nI ((aP A).2.2.2.2.2.2 b 3)), A, hA, fun j h => (by cases h), fun Γ g m l hC => k_guest_3 Γ g m l A hA hC b hb, fun Γ g m l hSh hR => r_guest_3 Γ g m l A hA hSh hR b hb⟩
    · exact ⟨.inr 1, rfA A 1, ok_rf hA, fun j h => by cases h; decide, fun Γ g m l hC => k_guest_f1 Γ g m l A hA hC b hb w hg1, fun Γ g m l hSh hR => r_guest_f1 Γ g m l A hA hSh hR b hb w hg1⟩
  · exact ⟨.inr 0, rfA A 0, ok_rf hA, fun j h => by cases h; decide, fun Γ g m l hC => k_guest_f0 Γ g m l A hA hC v hg0 w, fun Γ g m l hSh hR => r_guest_f0 Γ g m l A hA hSh hR v hg0 w⟩
set_option maxRecDepth 100000 in
set_option maxHeartbeats 4000000 in
theorem k_worth_f0 (Γ : pTG) (g : pGG) (mi : pMI) (ml : pML) (A : AS) (hA : okAS A) (hC : CI A g mi ml) (v : Int32) (hf : ¬ ∃ b, b < aG A ∧ v = nI b) (c : Int32) (h : Int32) : CT Γ 60 20 5000 mX11_worth [.ref 0, .int v, .int c, .int h] g mi ml (CQ (rfA A 0) (.inr 0) mi ml) := by
  refine CT_of (by decide +kernel) (Nat.le_of_ble_eq_true rfl) ?_
  have hSh := CI_Sh hC
  have hcl := CI_cl hC
  have hP := hA.1
  have hG8 : aG A ≤ 8 := hP.2.1
  have hC8 : (aP A).1 ≤ 8 := hP.1
  refine X_aload_n dX11_worth_0 rfl ?_
  refine X_iload_n dX11_worth_1 rfl ?_
  exact X_need dX11_worth_2 mkX11_147 (k_0 hSh) (c_needGuest Γ g mi ml hSh v) rfl rfl (by decide) (by decide) (by decide) (by decide) (fun _ => ⟨rfl, CI_rf (by decide) hC, frK_86, rfl⟩) (fun h => absurd ((gd_iff hG8).mp (by rw [← hcl.2.1]; exact h)) hf)
set_option maxRecDepth 100000 in
set_option maxHeartbeats 4000000 in
theorem r_worth_f0 (Γ : pTG) (g : pGG) (mi : pMI) (ml : pML) (A : AS) (hA : okAS A) (hSh : Sh g) (hR : RI A mi) (v : Int32) (hf : ¬ ∃ b, b < aG A ∧ v = nI b) (c : Int32) (h : Int32) : CT Γ 60 0 0 mX12_worth [.ref 87, .int v, .int c, .int h] g mi ml (RQ (rfA A 0) (.inr 0) cd2 g mi ml) := by
  refine CT_of (by decide +kernel) (Nat.le_of_ble_eq_true rfl) ?_
  have hP := hA.1
  have hG8 : aG A ≤ 8 := hP.2.1
  have hC8 : (aP A).1 ≤ 8 := hP.1
  refine X_aload_n dX12_worth_0 rfl ?_
  refine X_iconst (v := nI 0) dX12_worth_1 (by decide) ?_
  refine X_puti dX12_worth_2 fkX12_158 rfl rfl (k_87 hSh) ?_
  refine X_aload_n dX12_worth_5 rfl ?_
  refine X_aload_n dX12_worth_6 rfl ?_
  refine X_iload_n dX12_worth_7 rfl ?_
  refine X_callVI dX12_worth_8 mkX12_285 (k_87 hSh) (c_isGuest Γ g (up2 mi 87 0 (nI 0)) ml hSh v) rfl rfl (by decide) (Nat.le_of_ble_eq_true rfl) ?_
  refine X_topi (show bI (decide (nI 0 ≤ v) && decide (v ≤ (up2 mi 87 0 (nI 0)) 91 1 - nI 1)) = nI 0 from congrArg bI (show (decide (nI 0 ≤ v) && decide (v ≤ (up2 mi 87 0 (nI 0)) 91 1 - nI 1)) = false from Bool.eq_false_iff.mpr (fun q => hf ((gd_ref hG8).mp (by rw [(show (up2 mi 87 0 (nI 0)) 91 1 = nI (aG A) from ((congrFun (up2_row (by omega)) _).trans hR.1.2.1))] at q; exact q))))) ?_
  refine X_if_eqN (a := 0) 22 dX12_worth_11 (by decide) (by omega) (fun h_1 => ?_) (fun h_1 => ?_)
  · refine X_iconst (v := nI 1) dX12_worth_22 (by decide) ?_
    refine X_goto 27 dX12_worth_23 (by decide) ?_
    refine X_iconst (v := nI 1) dX12_worth_27 (by decide) ?_
    refine X_iconst (v := nI 0) dX12_worth_28 (by decide) ?_
    refine X_callVI dX12_worth_29 mkX12_228 (k_87 hSh) (c_bad1 Γ g (up2 mi 87 0 (nI 0)) ml hSh 1 0 (by decide) (by decide) (by decide) up2_s) rfl rfl (by decide) (Nat.le_of_ble_eq_true rfl) ?_
    refine X_mi (show _ = mB mi 1 0 from rfl) ?_
    refine X_if_neN (a := 1) 56 dX12_worth_32 (by decide) (by omega) (fun h_2 => ?_) (fun h_2 => ?_)
    · refine X_iconst (v := nI 0) dX12_worth_56 (by decide) ?_
      exact X_iret dX12_worth_57 rfl ⟨rfl, rfl, RI_rf hA (by decide) hR, fr2_B, _, rfl, mB_0⟩
    · exact absurd h_2 (by omega)
  · exact absurd h_1 (by omega)
set_option maxRecDepth 100000 in
set_option maxHeartbeats 4000000 in
theorem k_worth_f1 (Γ : pTG) (g : pGG) (mi : pMI) (ml : pML) (A : AS) (hA : okAS A) (hC : CI A g mi ml) (b : Nat) (hb : b < aG A) (c : Int32) (hf : ¬ ∃ b, b < (aP A).1 ∧ c = nI b) (h : Int32) : CT Γ 60 20 5000 mX11_worth [.ref 0, .int (nI b), .int c, .int h] g mi ml (CQ (rfA A 0) (.inr 0) mi ml) := by
  refine CT_of (by decide +kernel) (Nat.le_of_ble_eq_true rfl) ?_
  have hSh := CI_Sh hC
  have hcl := CI_cl hC
  have hP := hA.1
  have hG8 : aG A ≤ 8 := hP.2.1
  have hC8 : (aP A).1 ≤ 8 := hP.1
  refine X_aload_n dX11_worth_0 rfl ?_
  refine X_iload_n dX11_worth_1 rfl ?_
  refine X_need dX11_worth_2 mkX11_147 (k_0 hSh) (c_needGuest Γ g mi ml hSh (nI b)) rfl rfl (by decide) (by decide) (by decide) (by decide) (fun h => absurd (by rw [hcl.2.1]; exact (gd_iff hG8).mpr ⟨b, hb, rfl⟩) h) (fun _ => ?_)
  refine X_aload_n dX11_worth_5 rfl ?_
  refine X_iload_n dX11_worth_6 rfl ?_
  exact X_need dX11_worth_7 mkX11_184 (k_0 hSh) (c_needChair Γ g mi ml hSh c) rfl rfl (by decide) (by decide) (by decide) (by decide) (fun _ => ⟨rfl, CI_rf (by decide) hC, frK_86, rfl⟩) (fun h => absurd ((gd_iff hC8).mp (by rw [← hcl.1]; exact h)) hf)
set_option maxRecDepth 100000 in
set_option maxHeartbeats 4000000 in
theorem r_worth_f1 (Γ : pTG) (g : pGG) (mi : pMI) (ml : pML) (A : AS) (hA : okAS A) (hSh : Sh g) (hR : RI A mi) (b : Nat) (hb : b < aG A) (c : Int32) (hf : ¬ ∃ b, b < (aP A).1 ∧ c = nI b) (h : Int32) : CT Γ 60 0 0 mX12_worth [.ref 87, .int (nI b), .int c, .int h] g mi ml (RQ (rfA A 0) (.inr 0) cd2 g mi ml) := by
  refine CT_of (by decide +kernel) (Nat.le_of_ble_eq_true rfl) ?_
  have hP := hA.1
  have hG8 : aG A ≤ 8 := hP.2.1
  have hC8 : (aP A).1 ≤ 8 := hP.1
  refine X_aload_n dX12_worth_0 rfl ?_
  refine X_iconst (v := nI 0) dX12_worth_1 (by decide) ?_
  refine X_puti dX12_worth_2 fkX12_158 rfl rfl (k_87 hSh) ?_
  refine X_aload_n dX12_worth_5 rfl ?_
  refine X_aload_n dX12_worth_6 rfl ?_
  refine X_iload_n dX12_worth_7 rfl ?_
  refine X_callVI dX12_worth_8 mkX12_285 (k_87 hSh) (c_isGuest Γ g (up2 mi 87 0 (nI 0)) ml hSh (nI b)) rfl rfl (by decide) (Nat.le_of_ble_eq_true rfl) ?_
  refine X_topi (show bI (decide (nI 0 ≤ nI b) && decide (nI b ≤ (up2 mi 87 0 (nI 0)) 91 1 - nI 1)) = nI 1 from congrArg bI (show (decide (nI 0 ≤ nI b) && decide (nI b ≤ (up2 mi 87 0 (nI 0)) 91 1 - nI 1)) = true from by rw [(show (up2 mi 87 0 (nI 0)) 91 1 = nI (aG A) from ((congrFun (up2_row (by omega)) _).trans hR.1.2.1))]; exact (gd_ref hG8).mpr ⟨b, hb, rfl⟩)) ?_
  refine X_if_eqN (a := 1) 22 dX12_worth_11 (by decide) (by omega) (fun h_1 => ?_) (fun h_1 => ?_)
  · exact absurd h_1 (by omega)
  · refine X_aload_n dX12_worth_14 rfl ?_
    refine X_iload_n dX12_worth_15 rfl ?_
    refine X_callVI dX12_worth_16 mkX12_307 (k_87 hSh) (c_isChair Γ g (up2 mi 87 0 (nI 0)) ml hSh c) rfl rfl (by decide) (Nat.le_of_ble_eq_true rfl) ?_
    refine X_topi (show bI (decide (nI 0 ≤ c) && decide (c ≤ (up2 mi 87 0 (nI 0)) 91 0 - nI 1)) = nI 0 from congrArg bI (show (decide (nI 0 ≤ c) && decide (c ≤ (up2 mi 87 0 (nI 0)) 91 0 - nI 1)) = false from Bool.eq_false_iff.mpr (fun q => hf ((gd_ref hC8).mp (by rw [(show (up2 mi 87 0 (nI 0)) 91 0 = nI (aP A).1 from ((congrFun (up2_row (by omega)) _).trans hR.1.1))] at q; exact q))))) ?_
    refine X_if_neN (a := 0) 26 dX12_worth_19 (by decide) (by omega) (fun h_2 => ?_) (fun h_2 => ?_)
    · exact absurd h_2 (by omega)
    · refine X_iconst (v := nI 1) dX12_worth_22 (by decide) ?_
      refine X_goto 27 dX12_worth_23 (by decide) ?_
      refine X_iconst (v := nI 1) dX12_worth_27 (by decide) ?_
      refine X_iconst (v := nI 0) dX12_worth_28 (by decide) ?_
      refine X_callVI dX12_worth_29 mkX12_228 (k_87 hSh) (c_bad1 Γ g (up2 mi 87 0 (nI 0)) ml hSh 1 0 (by decide) (by decide) (by decide) up2_s) rfl rfl (by decide) (Nat.le_of_ble_eq_true rfl) ?_
      refine X_mi (show _ = mB mi 1 0 from rfl) ?_
      refine X_if_neN (a := 1) 56 dX12_worth_32 (by decide) (by omega) (fun h_3 => ?_) (fun h_3 => ?_)
      · refine X_iconst (v := nI 0) dX12_worth_56 (by decide) ?_
        exact X_iret dX12_worth_57 rfl ⟨rfl, rfl, RI_rf hA (by decide) hR, fr2_B, _, rfl, mB_0⟩
      · exact absurd h_3 (by omega)
set_option maxRecDepth 100000 in
set_option maxHeartbeats 4000000 in
theorem k_worth_f2 (Γ : pTG) (g : pGG) (mi : pMI) (ml : pML) (A : AS) (hA : okAS A) (hC : CI A g mi ml) (b : Nat) (hb : b < aG A) (q : Nat) (hq : q < (aP A).1) (h : Int32) (hf : ¬ (nI 0 ≤ h ∧ h ≤ nI 23)) : CT Γ 60 20 5000 mX11_worth [.ref 0, .int (nI b), .int (nI q), .int h] g mi ml (CQ (rfA A 1) (.inr 1) mi ml) := by
  refine CT_of (by decide +kernel) (Nat.le_of_ble_eq_true rfl) ?_
  have hSh := CI_Sh hC
  have hcl := CI_cl hC
  have hP := hA.1
  have hG8 : aG A ≤ 8 := hP.2.1
  have hC8 : (aP A).1 ≤ 8 := hP.1
  refine X_aload_n dX11_worth_0 rfl ?_
  refine X_iload_n dX11_worth_1 rfl ?_
  refine X_need dX11_worth_2 mkX11_147 (k_0 hSh) (c_needGuest Γ g mi ml hSh (nI b)) rfl rfl (by decide) (by decide) (by decide) (by decide) (fun h => absurd (by rw [hcl.2.1]; exact (gd_iff hG8).mpr ⟨b, hb, rfl⟩) h) (fun _ => ?_)
  refine X_aload_n dX11_worth_5 rfl ?_
  refine X_iload_n dX11_worth_6 rfl ?_
  refine X_need dX11_worth_7 mkX11_184 (k_0 hSh) (c_needChair Γ g mi ml hSh (nI q)) rfl rfl (by decide) (by decide) (by decide) (by decide) (fun h => absurd (by rw [hcl.1]; exact (gd_iff hC8).mpr ⟨q, hq, rfl⟩) h) (fun _ => ?_)
  refine X_aload_n dX11_worth_10 rfl ?_
  refine X_iload_n dX11_worth_11 rfl ?_
  refine X_iconst (v := nI 0) dX11_worth_12 (by decide) ?_
  refine X_bipush (v := nI 23) dX11_worth_13 (by decide) ?_
  exact X_need dX11_worth_15 mkX11_116 (k_0 hSh) (c_needWithin Γ g mi ml hSh h (nI 0) (nI 23)) rfl rfl (by decide) (by decide) (by decide) (by decide) (fun _ => ⟨rfl, CI_rf (by decide) hC, frK_86, rfl⟩) (fun h => absurd h hf)
set_option maxRecDepth 100000 in
set_option maxHeartbeats 4000000 in
theorem r_worth_f2 (Γ : pTG) (g : pGG) (mi : pMI) (ml : pML) (A : AS) (hA : okAS A) (hSh : Sh g) (hR : RI A mi) (b : Nat) (hb : b < aG A) (q : Nat) (hq : q < (aP A).1) (h : Int32) (hf : ¬ (nI 0 ≤ h ∧ h ≤ nI 23)) : CT Γ 60 0 0 mX12_worth [.ref 87, .int (nI b), .int (nI q), .int h] g mi ml (RQ (rfA A 1) (.inr 1) cd2 g mi ml) := by
  refine CT_of (by decide +kernel) (Nat.le_of_ble_eq_true rfl) ?_
  have hP := hA.1
  have hG8 : aG A ≤ 8 := hP.2.1
  have hC8 : (aP A).1 ≤ 8 := hP.1
  refine X_aload_n dX12_worth_0 rfl ?_
  refine X_iconst (v := nI 0) dX12_worth_1 (by decide) ?_
  refine X_puti dX12_worth_2 fkX12_158 rfl rfl (k_87 hSh) ?_
  refine X_aload_n dX12_worth_5 rfl ?_
  refine X_aload_n dX12_worth_6 rfl ?_
  refine X_iload_n dX12_worth_7 rfl ?_
  refine X_callVI dX12_worth_8 mkX12_285 (k_87 hSh) (c_isGuest Γ g (up2 mi 87 0 (nI 0)) ml hSh (nI b)) rfl rfl (by decide) (Nat.le_of_ble_eq_true rfl) ?_
  refine X_topi (show bI (decide (nI 0 ≤ nI b) && decide (nI b ≤ (up2 mi 87 0 (nI 0)) 91 1 - nI 1)) = nI 1 from congrArg bI (show (decide (nI 0 ≤ nI b) && decide (nI b ≤ (up2 mi 87 0 (nI 0)) 91 1 - nI 1)) = true from by rw [(show (up2 mi 87 0 (nI 0)) 91 1 = nI (aG A) from ((congrFun (up2_row (by omega)) _).trans hR.1.2.1))]; exact (gd_ref hG8).mpr ⟨b, hb, rfl⟩)) ?_
  refine X_if_eqN (a := 1) 22 dX12_worth_11 (by decide) (by omega) (fun h_1 => ?_) (fun h_1 => ?_)
  · exact absurd h_1 (by omega)
  · refine X_aload_n dX12_worth_14 rfl ?_
    refine X_iload_n dX12_worth_15 rfl ?_
    refine X_callVI dX12_worth_16 mkX12_307 (k_87 hSh) (c_isChair Γ g (up2 mi 87 0 (nI 0)) ml hSh (nI q)) rfl rfl (by decide) (Nat.le_of_ble_eq_true rfl) ?_
    refine X_topi (show bI (decide (nI 0 ≤ nI q) && decide (nI q ≤ (up2 mi 87 0 (nI 0)) 91 0 - nI 1)) = nI 1 from congrArg bI (show (decide (nI 0 ≤ nI q) && decide (nI q ≤ (up2 mi 87 0 (nI 0)) 91 0 - nI 1)) = true from by rw [(show (up2 mi 87 0 (nI 0)) 91 0 = nI (aP A).1 from ((congrFun (up2_row (by omega)) _).trans hR.1.1))]; exact (gd_ref hC8).mpr ⟨q, hq, rfl⟩)) ?_
    refine X_if_neN (a := 1) 26 dX12_worth_19 (by decide) (by omega) (fun h_2 => ?_) (fun h_2 => ?_)
    · refine X_iconst (v := nI 0) dX12_worth_26 (by decide) ?_
      refine X_iconst (v := nI 1) dX12_worth_27 (by decide) ?_
      refine X_iconst (v := nI 0) dX12_worth_28 (by decide) ?_
      refine X_callVI dX12_worth_29 mkX12_228 (k_87 hSh) (c_bad0 Γ g (up2 mi 87 0 (nI 0)) ml hSh 1 0 up2_s) rfl rfl (by decide) (Nat.le_of_ble_eq_true rfl) ?_
      refine X_if_neN (a := 0) 56 dX12_worth_32 (by decide) (by omega) (fun h_3 => ?_) (fun h_3 => ?_)
      · exact absurd h_3 (by omega)
      · refine X_aload_n dX12_worth_35 rfl ?_
        refine X_iload_n dX12_worth_36 rfl ?_
        refine X_callSI dX12_worth_37 mkX12_298 (c_isHalf Γ g (up2 mi 87 0 (nI 0)) ml h) rfl rfl (by decide) (Nat.le_of_ble_eq_true rfl) ?_
        refine X_topi (show bI (decide (nI 0 ≤ h) && decide (h ≤ nI 23)) = nI 0 from congrArg bI (show (decide (nI 0 ≤ h) && decide (h ≤ nI 23)) = false from Bool.eq_false_iff.mpr (fun q => hf (by rw [Bool.and_eq_true, decide_eq_true_eq, decide_eq_true_eq] at q; exact q)))) ?_
        refine X_if_neN (a := 0) 47 dX12_worth_40 (by decide) (by omega) (fun h_4 => ?_) (fun h_4 => ?_)
        · exact absurd h_4 (by omega)
        · refine X_iconst (v := nI 1) dX12_worth_43 (by decide) ?_
          refine X_goto 48 dX12_worth_44 (by decide) ?_
          refine X_iconst (v := nI 2) dX12_worth_48 (by decide) ?_
          refine X_iconst (v := nI 1) dX12_worth_49 (by decide) ?_
          refine X_callVI dX12_worth_50 mkX12_228 (k_87 hSh) (c_bad1 Γ g (up2 mi 87 0 (nI 0)) ml hSh 2 1 (by decide) (by decide) (by decide) up2_s) rfl rfl (by decide) (Nat.le_of_ble_eq_true rfl) ?_
          refine X_mi (show _ = mB mi 2 1 from rfl) ?_
          refine X_if_eqN (a := 1) 58 dX12_worth_53 (by decide) (by omega) (fun h_5 => ?_) (fun h_5 => ?_)
          · exact absurd h_5 (by omega)
          · refine X_iconst (v := nI 0) dX12_worth_56 (by decide) ?_
            exact X_iret dX12_worth_57 rfl ⟨rfl, rfl, RI_rf hA (by decide) hR, fr2_B, _, rfl, mB_0⟩
    · exact absurd h_2 (by omega)
set_option maxRecDepth 100000 in
set_option maxHeartbeats 4000000 in
theorem k_worth (Γ : pTG) (g : pGG) (mi : pMI) (ml : pML) (A : AS) (hA : okAS A) (hC : CI A g mi ml) (b : Nat) (hb : b < aG A) (q : Nat) (hq : q < (aP A).1) (k : Nat) (hka : 0 ≤ k) (hk : k ≤ 23) : CT Γ 60 20 5000 mX11_worth [.ref 0, .int (nI b), .int (nI q), .int (nI k)] g mi ml (CQ A (.inl (sW (nI ((aP A).2.2.2.2.2.1 q 0)) (nI ((aP A).2.2.2.2.2.1 q 1)) (max k ((aP A).2.2.2.2.2.2 b 1)) ((aP A).2.2.2.2.2.2 b 2))) mi ml) := by
  refine CT_of (by decide +kernel) (Nat.le_of_ble_eq_true rfl) ?_
  have hSh := CI_Sh hC
  have hcl := CI_cl hC
  have hP := hA.1
  have hG8 : aG A ≤ 8 := hP.2.1
  have hC8 : (aP A).1 ≤ 8 := hP.1
  refine X_aload_n dX11_worth_0 rfl ?_
  refine X_iload_n dX11_worth_1 rfl ?_
  refine X_need dX11_worth_2 mkX11_147 (k_0 hSh) (c_needGuest Γ g mi ml hSh (nI b)) rfl rfl (by decide) (by decide) (by decide) (by decide) (fun h => absurd (by rw [hcl.2.1]; exact (gd_iff hG8).mpr ⟨b, hb, rfl⟩) h) (fun _ => ?_)
  refine X_aload_n dX11_worth_5 rfl ?_
  refine X_iload_n dX11_worth_6 rfl ?_
  refine X_need dX11_worth_7 mkX11_184 (k_0 hSh) (c_needChair Γ g mi ml hSh (nI q)) rfl rfl (by decide) (by decide) (by decide) (by decide) (fun h => absurd (by rw [hcl.1]; exact (gd_iff hC8).mpr ⟨q, hq, rfl⟩) h) (fun _ => ?_)
  refine X_aload_n dX11_worth_10 rfl ?_
  refine X_iload_n dX11_worth_11 rfl ?_
  refine X_iconst (v := nI 0) dX11_worth_12 (by decide) ?_
  refine X_bipush (v := nI 23) dX11_worth_13 (by decide) ?_
  refine X_need dX11_worth_15 mkX11_116 (k_0 hSh) (c_needWithin Γ g mi ml hSh (nI k) (nI 0) (nI 23)) rfl rfl (by decide) (by decide) (by decide) (by decide) (fun h => absurd (⟨nI_le (by omega) (by omega), nI_le (by omega) (by omega)⟩) h) (fun _ => ?_)
  refine X_aload_n dX11_worth_18 rfl ?_
  refine X_getr (a := 3) dX11_worth_19 fkX11_25 rfl (k_0 hSh) (r_0_2 hSh) ?_
  refine X_iload_n dX11_worth_22 rfl ?_
  refine X_iload_n dX11_worth_23 rfl ?_
  refine X_iload_n dX11_worth_24 rfl ?_
  refine X_callVI dX11_worth_25 mkX11_243 (k_3 hSh) (c_value Γ g mi ml hSh b q k ((aP A).2.2.2.2.2.2 b 1) ((aP A).2.2.2.2.2.2 b 2) (by omega) (by omega) (by omega) (hcl.2.2.2.2.2.2 b hb).2.1 (hcl.2.2.2.2.2.2 b hb).2.2.1 (by have := hP.2.2.2.2.2.2.2 b hb; omega) (by have := hP.2.2.2.2.2.2.2 b hb; omega)) rfl rfl (by decide) (Nat.le_of_ble_eq_true rfl) ?_
  exact X_iret dX11_worth_28 rfl ⟨by rw [(hcl.2.2.2.2.2.1 q hq).1, (hcl.2.2.2.2.2.1 q hq).2]; rfl, hC, frK_r, rfl⟩
set_option maxRecDepth 100000 in
set_option maxHeartbeats 4000000 in
theorem r_worth (Γ : pTG) (g : pGG) (mi : pMI) (ml : pML) (A : AS) (hA : okAS A) (hSh : Sh g) (hR : RI A mi) (b : Nat) (hb : b < aG A) (q : Nat) (hq : q < (aP A).1) (k : Nat) (hka : 0 ≤ k) (hk : k ≤ 23) : CT Γ 60 0 0 mX12_worth [.ref 87, .int (nI b), .int (nI q), .int (nI k)] g mi ml (RQ A (.inl (sW (nI ((aP A).2.2.2.2.2.1 q 0)) (nI ((aP A).2.2.2.2.2.1 q 1)) (max k ((aP A).2.2.2.2.2.2 b 1)) ((aP A).2.2.2.2.2.2 b 2))) cd2 g mi ml) := by
  refine CT_of (by decide +kernel) (Nat.le_of_ble_eq_true rfl) ?_
  have hP := hA.1
  have hG8 : aG A ≤ 8 := hP.2.1
  have hC8 : (aP A).1 ≤ 8 := hP.1
  refine X_aload_n dX12_worth_0 rfl ?_
  refine X_iconst (v := nI 0) dX12_worth_1 (by decide) ?_
  refine X_puti dX12_worth_2 fkX12_158 rfl rfl (k_87 hSh) ?_
  refine X_aload_n dX12_worth_5 rfl ?_
  refine X_aload_n dX12_worth_6 rfl ?_
  refine X_iload_n dX12_worth_7 rfl ?_
  refine X_callVI dX12_worth_8 mkX12_285 (k_87 hSh) (c_isGuest Γ g (up2 mi 87 0 (nI 0)) ml hSh (nI b)) rfl rfl (by decide) (Nat.le_of_ble_eq_true rfl) ?_
  refine X_topi (show bI (decide (nI 0 ≤ nI b) && decide (nI b ≤ (up2 mi 87 0 (nI 0)) 91 1 - nI 1)) = nI 1 from congrArg bI (show (decide (nI 0 ≤ nI b) && decide (nI b ≤ (up2 mi 87 0 (nI 0)) 91 1 - nI 1)) = true from by rw [(show (up2 mi 87 0 (nI 0)) 91 1 = nI (aG A) from ((congrFun (up2_row (by omega)) _).trans hR.1.2.1))]; exact (gd_ref hG8).mpr ⟨b, hb, rfl⟩)) ?_
  refine X_if_eqN (a := 1) 22 dX12_worth_11 (by decide) (by omega) (fun h_1 => ?_) (fun h_1 => ?_)
  · exact absurd h_1 (by omega)
  · refine X_aload_n dX12_worth_14 rfl ?_
    refine X_iload_n dX12_worth_15 rfl ?_
    refine X_callVI dX12_worth_16 mkX12_307 (k_87 hSh) (c_isChair Γ g (up2 mi 87 0 (nI 0)) ml hSh (nI q)) rfl rfl (by decide) (Nat.le_of_ble_eq_true rfl) ?_
    refine X_topi (show bI (decide (nI 0 ≤ nI q) && decide (nI q ≤ (up2 mi 87 0 (nI 0)) 91 0 - nI 1)) = nI 1 from congrArg bI (show (decide (nI 0 ≤ nI q) && decide (nI q ≤ (up2 mi 87 0 (nI 0)) 91 0 - nI 1)) = true from by rw [(show (up2 mi 87 0 (nI 0)) 91 0 = nI (aP A).1 from ((congrFun (up2_row (by omega)) _).trans hR.1.1))]; exact (gd_ref hC8).mpr ⟨q, hq, rfl⟩)) ?_
    refine X_if_neN (a := 1) 26 dX12_worth_19 (by decide) (by omega) (fun h_2 => ?_) (fun h_2 => ?_)
    · refine X_iconst (v := nI 0) dX12_worth_26 (by decide) ?_
      refine X_iconst (v := nI 1) dX12_worth_27 (by decide) ?_
      refine X_iconst (v := nI 0) dX12_worth_28 (by decide) ?_
      refine X_callVI dX12_worth_29 mkX12_228 (k_87 hSh) (c_bad0 Γ g (up2 mi 87 0 (nI 0)) ml hSh 1 0 up2_s) rfl rfl (by decide) (Nat.le_of_ble_eq_true rfl) ?_
      refine X_if_neN (a := 0) 56 dX12_worth_32 (by decide) (by omega) (fun h_3 => ?_) (fun h_3 => ?_)
      · exact absurd h_3 (by omega)
      · refine X_aload_n dX12_worth_35 rfl ?_
        refine X_iload_n dX12_worth_36 rfl ?_
        refine X_callSI dX12_worth_37 mkX12_298 (c_isHalf Γ g (up2 mi 87 0 (nI 0)) ml (nI k)) rfl rfl (by decide) (Nat.le_of_ble_eq_true rfl) ?_
        refine X_topi (show bI (decide (nI 0 ≤ nI k) && decide (nI k ≤ nI 23)) = nI 1 from congrArg bI (show (decide (nI 0 ≤ nI k) && decide (nI k ≤ nI 23)) = true from by rw [decide_eq_true (nI_le (by omega) (by omega)), decide_eq_true (nI_le (by omega) (by omega))]; rfl)) ?_
        refine X_if_neN (a := 1) 47 dX12_worth_40 (by decide) (by omega) (fun h_4 => ?_) (fun h_4 => ?_)
        · refine X_iconst (v := nI 0) dX12_worth_47 (by decide) ?_
          refine X_iconst (v := nI 2) dX12_worth_48 (by decide) ?_
          refine X_iconst (v := nI 1) dX12_worth_49 (by decide) ?_
          refine X_callVI dX12_worth_50 mkX12_228 (k_87 hSh) (c_bad0 Γ g (up2 mi 87 0 (nI 0)) ml hSh 2 1 up2_s) rfl rfl (by decide) (Nat.le_of_ble_eq_true rfl) ?_
          refine X_if_eqN (a := 0) 58 dX12_worth_53 (by decide) (by omega) (fun h_5 => ?_) (fun h_5 => ?_)
          · refine X_aload_n dX12_worth_58 rfl ?_
            refine X_iload_n dX12_worth_59 rfl ?_
            refine X_iload_n dX12_worth_60 rfl ?_
            refine X_iload_n dX12_worth_61 rfl ?_
            refine X_callVI dX12_worth_62 mkX12_310 (k_87 hSh) (c_worthOf Γ g (up2 mi 87 0 (nI 0)) ml hSh b q k ((aP A).2.2.2.2.2.2 b 1) ((aP A).2.2.2.2.2.2 b 2) (by omega) (by omega) (by omega) ((congrFun (up2_row (by omega)) _).trans (hR.1.2.2.2.2.2.2 b hb).2.1) ((congrFun (up2_row (by omega)) _).trans (hR.1.2.2.2.2.2.2 b hb).2.2.1) (by have := hP.2.2.2.2.2.2.2 b hb; omega) (by have := hP.2.2.2.2.2.2.2 b hb; omega)) rfl rfl (by decide) (Nat.le_of_ble_eq_true rfl) ?_
            exact X_iret dX12_worth_65 rfl ⟨rfl, rfl, RI_fr hA hR (frW_u frW_r (by unfold rsF rsR; omega)), (frM2_u frM2_r (by omega)), _, rfl, by rw [up2_row (by omega), (hR.1.2.2.2.2.2.1 q hq).1, (hR.1.2.2.2.2.2.1 q hq).2], (show (up2 mi 87 0 (nI 0)) 87 0 = nI 0 by rw [up2_s])⟩
          · exact absurd h_5 (by omega)
        · exact absurd h_4 (by omega)
    · exact absurd h_2 (by omega)
theorem m_worth (A : AS) (hA : okAS A) (v : Int32) (c : Int32) (h : Int32) : MOK mX11_worth mX12_worth cd2 [.int v, .int c, .int h] A := by
  by_cases hg0 : ∃ b, b < aG A ∧ v = nI b
  · obtain ⟨b, hb, rfl⟩ := hg0
    by_cases hg1 : ∃ b, b < (aP A).1 ∧ c = nI b
    · obtain ⟨q, hq, rfl⟩ := hg1
      by_cases hg2 : nI 0 ≤ h ∧ h ≤ nI 23
      · obtain ⟨k, hka, hk, rfl⟩ := (wi_iff (by decide) (by decide)).mp hg2
        exact ⟨.inl (sW (nI ((aP A).2.2.2.2.2.1 q 0)) (nI ((aP A).2.2.2.2.2.1 q 1)) (max k ((aP A).2.2.2.2.2.2 b 1)) ((aP A).2.2.2.2.2.2 b 2)), A, hA, fun j h => (by cases h), fun Γ g m l hC => k_worth Γ g m l A hA hC b hb q hq k hka hk, fun Γ g m l hSh hR => r_worth Γ g m l A hA hSh hR b hb q hq k hka hk⟩
      · exact ⟨.inr 1, rfA A 1, ok_rf hA, fun j h => by cases h; decide, fun Γ g m l hC => k_worth_f2 Γ g m l A hA hC b hb q hq h hg2, fun Γ g m l hSh hR => r_worth_f2 Γ g m l A hA hSh hR b hb q hq h hg2⟩
    · exact ⟨.inr 0, rfA A 0, ok_rf hA, fun j h => by cases h; decide, fun Γ g m l hC => k_worth_f1 Γ g m l A hA hC b hb c hg1 h, fun Γ g m l hSh hR => r_worth_f1 Γ g m l A hA hSh hR b hb c hg1 h⟩
  · exact ⟨.inr 0, rfA A 0, ok_rf hA, fun j h => by cases h; decide, fun Γ g m l hC => k_worth_f0 Γ g m l A hA hC v hg0 c h, fun Γ g m l hSh hR => r_worth_f0 Γ g m l A hA hSh hR v hg0 c h⟩

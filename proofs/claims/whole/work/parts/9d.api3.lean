set_option maxRecDepth 100000 in
set_option maxHeartbeats 4000000 in
theorem k_chair_f0 (Γ : pTG) (g : pGG) (mi : pMI) (ml : pML) (A : AS) (hA : okAS A) (hC : CI A g mi ml) (c : Int32) (hf : ¬ ∃ b, b < (aP A).1 ∧ c = nI b) (w : Int32) : CT Γ 60 20 5000 mX11_chair [.ref 0, .int c, .int w] g mi ml (CQ (rfA A 0) (.inr 0) mi ml) := by
  refine CT_of (by decide +kernel) (Nat.le_of_ble_eq_true rfl) ?_
  have hSh := CI_Sh hC
  have hcl := CI_cl hC
  have hP := hA.1
  have hG8 : aG A ≤ 8 := hP.2.1
  have hC8 : (aP A).1 ≤ 8 := hP.1
  refine X_aload_n dX11_chair_0 rfl ?_
  refine X_iload_n dX11_chair_1 rfl ?_
  exact X_need dX11_chair_2 mkX11_184 (k_0 hSh) (c_needChair Γ g mi ml hSh c) rfl rfl (by decide) (by decide) (by decide) (by decide) (fun _ => ⟨rfl, CI_rf (by decide) hC, frK_86, rfl⟩) (fun h => absurd ((gd_iff hC8).mp (by rw [← hcl.1]; exact h)) hf)
set_option maxRecDepth 100000 in
set_option maxHeartbeats 4000000 in
theorem r_chair_f0 (Γ : pTG) (g : pGG) (mi : pMI) (ml : pML) (A : AS) (hA : okAS A) (hSh : Sh g) (hR : RI A mi) (c : Int32) (hf : ¬ ∃ b, b < (aP A).1 ∧ c = nI b) (w : Int32) : CT Γ 60 0 0 mX12_chair [.ref 87, .int c, .int w] g mi ml (RQ (rfA A 0) (.inr 0) cd2 g mi ml) := by
  refine CT_of (by decide +kernel) (Nat.le_of_ble_eq_true rfl) ?_
  have hP := hA.1
  have hG8 : aG A ≤ 8 := hP.2.1
  have hC8 : (aP A).1 ≤ 8 := hP.1
  refine X_aload_n dX12_chair_0 rfl ?_
  refine X_iconst (v := nI 0) dX12_chair_1 (by decide) ?_
  refine X_puti dX12_chair_2 fkX12_158 rfl rfl (k_87 hSh) ?_
  refine X_aload_n dX12_chair_5 rfl ?_
  refine X_aload_n dX12_chair_6 rfl ?_
  refine X_iload_n dX12_chair_7 rfl ?_
  refine X_callVI dX12_chair_8 mkX12_307 (k_87 hSh) (c_isChair Γ g (up2 mi 87 0 (nI 0)) ml hSh c) rfl rfl (by decide) (Nat.le_of_ble_eq_true rfl) ?_
  refine X_topi (show bI (decide (nI 0 ≤ c) && decide (c ≤ (up2 mi 87 0 (nI 0)) 91 0 - nI 1)) = nI 0 from congrArg bI (show (decide (nI 0 ≤ c) && decide (c ≤ (up2 mi 87 0 (nI 0)) 91 0 - nI 1)) = false from Bool.eq_false_iff.mpr (fun q => hf ((gd_ref hC8).mp (by rw [(show (up2 mi 87 0 (nI 0)) 91 0 = nI (aP A).1 from ((congrFun (up2_row (by omega)) _).trans hR.1.1))] at q; exact q))))) ?_
  refine X_if_neN (a := 0) 18 dX12_chair_11 (by decide) (by omega) (fun h_1 => ?_) (fun h_1 => ?_)
  · exact absurd h_1 (by omega)
  · refine X_iconst (v := nI 1) dX12_chair_14 (by decide) ?_
    refine X_goto 19 dX12_chair_15 (by decide) ?_
    refine X_iconst (v := nI 1) dX12_chair_19 (by decide) ?_
    refine X_iconst (v := nI 0) dX12_chair_20 (by decide) ?_
    refine X_callVI dX12_chair_21 mkX12_228 (k_87 hSh) (c_bad1 Γ g (up2 mi 87 0 (nI 0)) ml hSh 1 0 (by decide) (by decide) (by decide) up2_s) rfl rfl (by decide) (Nat.le_of_ble_eq_true rfl) ?_
    refine X_mi (show _ = mB mi 1 0 from rfl) ?_
    refine X_if_neN (a := 1) 50 dX12_chair_24 (by decide) (by omega) (fun h_2 => ?_) (fun h_2 => ?_)
    · refine X_iconst (v := nI 0) dX12_chair_50 (by decide) ?_
      exact X_iret dX12_chair_51 rfl ⟨rfl, rfl, RI_rf hA (by decide) hR, fr2_B, _, rfl, mB_0⟩
    · exact absurd h_2 (by omega)
set_option maxRecDepth 100000 in
set_option maxHeartbeats 4000000 in
theorem k_chair_f1 (Γ : pTG) (g : pGG) (mi : pMI) (ml : pML) (A : AS) (hA : okAS A) (hC : CI A g mi ml) (q : Nat) (hq : q < (aP A).1) (w : Int32) (hf : ¬ (nI 0 ≤ w ∧ w ≤ nI 4)) : CT Γ 60 20 5000 mX11_chair [.ref 0, .int (nI q), .int w] g mi ml (CQ (rfA A 1) (.inr 1) mi ml) := by
  refine CT_of (by decide +kernel) (Nat.le_of_ble_eq_true rfl) ?_
  have hSh := CI_Sh hC
  have hcl := CI_cl hC
  have hP := hA.1
  have hG8 : aG A ≤ 8 := hP.2.1
  have hC8 : (aP A).1 ≤ 8 := hP.1
  refine X_aload_n dX11_chair_0 rfl ?_
  refine X_iload_n dX11_chair_1 rfl ?_
  refine X_need dX11_chair_2 mkX11_184 (k_0 hSh) (c_needChair Γ g mi ml hSh (nI q)) rfl rfl (by decide) (by decide) (by decide) (by decide) (fun h => absurd (by rw [hcl.1]; exact (gd_iff hC8).mpr ⟨q, hq, rfl⟩) h) (fun _ => ?_)
  refine X_aload_n dX11_chair_5 rfl ?_
  refine X_iload_n dX11_chair_6 rfl ?_
  refine X_iconst (v := nI 0) dX11_chair_7 (by decide) ?_
  refine X_iconst (v := nI 4) dX11_chair_8 (by decide) ?_
  exact X_need dX11_chair_9 mkX11_116 (k_0 hSh) (c_needWithin Γ g mi ml hSh w (nI 0) (nI 4)) rfl rfl (by decide) (by decide) (by decide) (by decide) (fun _ => ⟨rfl, CI_rf (by decide) hC, frK_86, rfl⟩) (fun h => absurd h hf)
set_option maxRecDepth 100000 in
set_option maxHeartbeats 4000000 in
theorem r_chair_f1 (Γ : pTG) (g : pGG) (mi : pMI) (ml : pML) (A : AS) (hA : okAS A) (hSh : Sh g) (hR : RI A mi) (q : Nat) (hq : q < (aP A).1) (w : Int32) (hf : ¬ (nI 0 ≤ w ∧ w ≤ nI 4)) : CT Γ 60 0 0 mX12_chair [.ref 87, .int (nI q), .int w] g mi ml (RQ (rfA A 1) (.inr 1) cd2 g mi ml) := by
  refine CT_of (by decide +kernel) (Nat.le_of_ble_eq_true rfl) ?_
  have hP := hA.1
  have hG8 : aG A ≤ 8 := hP.2.1
  have hC8 : (aP A).1 ≤ 8 := hP.1
  refine X_aload_n dX12_chair_0 rfl ?_
  refine X_iconst (v := nI 0) dX12_chair_1 (by decide) ?_
  refine X_puti dX12_chair_2 fkX12_158 rfl rfl (k_87 hSh) ?_
  refine X_aload_n dX12_chair_5 rfl ?_
  refine X_aload_n dX12_chair_6 rfl ?_
  refine X_iload_n dX12_chair_7 rfl ?_
  refine X_callVI dX12_chair_8 mkX12_307 (k_87 hSh) (c_isChair Γ g (up2 mi 87 0 (nI 0)) ml hSh (nI q)) rfl rfl (by decide) (Nat.le_of_ble_eq_true rfl) ?_
  refine X_topi (show bI (decide (nI 0 ≤ nI q) && decide (nI q ≤ (up2 mi 87 0 (nI 0)) 91 0 - nI 1)) = nI 1 from congrArg bI (show (decide (nI 0 ≤ nI q) && decide (nI q ≤ (up2 mi 87 0 (nI 0)) 91 0 - nI 1)) = true from by rw [(show (up2 mi 87 0 (nI 0)) 91 0 = nI (aP A).1 from ((congrFun (up2_row (by omega)) _).trans hR.1.1))]; exact (gd_ref hC8).mpr ⟨q, hq, rfl⟩)) ?_
  refine X_if_neN (a := 1) 18 dX12_chair_11 (by decide) (by omega) (fun h_1 => ?_) (fun h_1 => ?_)
  · refine X_iconst (v := nI 0) dX12_chair_18 (by decide) ?_
    refine X_iconst (v := nI 1) dX12_chair_19 (by decide) ?_
    refine X_iconst (v := nI 0) dX12_chair_20 (by decide) ?_
    refine X_callVI dX12_chair_21 mkX12_228 (k_87 hSh) (c_bad0 Γ g (up2 mi 87 0 (nI 0)) ml hSh 1 0 up2_s) rfl rfl (by decide) (Nat.le_of_ble_eq_true rfl) ?_
    refine X_if_neN (a := 0) 50 dX12_chair_24 (by decide) (by omega) (fun h_2 => ?_) (fun h_2 => ?_)
    · exact absurd h_2 (by omega)
    · refine X_aload_n dX12_chair_27 rfl ?_
      refine X_iload_n dX12_chair_28 rfl ?_
      refine X_iconst (v := nI 0) dX12_chair_29 (by decide) ?_
      refine X_iconst (v := nI 4) dX12_chair_30 (by decide) ?_
      refine X_callSI dX12_chair_31 mkX12_192 (c_in Γ g (up2 mi 87 0 (nI 0)) ml w (nI 0) (nI 4)) rfl rfl (by decide) (Nat.le_of_ble_eq_true rfl) ?_
      refine X_topi (show bI (decide (nI 0 ≤ w) && decide (w ≤ nI 4)) = nI 0 from congrArg bI (show (decide (nI 0 ≤ w) && decide (w ≤ nI 4)) = false from Bool.eq_false_iff.mpr (fun q => hf (by rw [Bool.and_eq_true, decide_eq_true_eq, decide_eq_true_eq] at q; exact q)))) ?_
      refine X_if_neN (a := 0) 41 dX12_chair_34 (by decide) (by omega) (fun h_3 => ?_) (fun h_3 => ?_)
      · exact absurd h_3 (by omega)
      · refine X_iconst (v := nI 1) dX12_chair_37 (by decide) ?_
        refine X_goto 42 dX12_chair_38 (by decide) ?_
        refine X_iconst (v := nI 2) dX12_chair_42 (by decide) ?_
        refine X_iconst (v := nI 1) dX12_chair_43 (by decide) ?_
        refine X_callVI dX12_chair_44 mkX12_228 (k_87 hSh) (c_bad1 Γ g (up2 mi 87 0 (nI 0)) ml hSh 2 1 (by decide) (by decide) (by decide) up2_s) rfl rfl (by decide) (Nat.le_of_ble_eq_true rfl) ?_
        refine X_mi (show _ = mB mi 2 1 from rfl) ?_
        refine X_if_eqN (a := 1) 52 dX12_chair_47 (by decide) (by omega) (fun h_4 => ?_) (fun h_4 => ?_)
        · exact absurd h_4 (by omega)
        · refine X_iconst (v := nI 0) dX12_chair_50 (by decide) ?_
          exact X_iret dX12_chair_51 rfl ⟨rfl, rfl, RI_rf hA (by decide) hR, fr2_B, _, rfl, mB_0⟩
  · exact absurd h_1 (by omega)
set_option maxRecDepth 100000 in
set_option maxHeartbeats 4000000 in
theorem k_chair_0 (Γ : pTG) (g : pGG) (mi : pMI) (ml : pML) (A : AS) (hA : okAS A) (hC : CI A g mi ml) (q : Nat) (hq : q < (aP A).1)  : CT Γ 60 20 5000 mX11_chair [.ref 0, .int (nI q), .int (nI 0)] g mi ml (CQ A (.inl (nI ((aP A).2.2.2.2.2.1 q 0))) mi ml) := by
  refine CT_of (by decide +kernel) (Nat.le_of_ble_eq_true rfl) ?_
  have hSh := CI_Sh hC
  have hcl := CI_cl hC
  have hP := hA.1
  have hG8 : aG A ≤ 8 := hP.2.1
  have hC8 : (aP A).1 ≤ 8 := hP.1
  refine X_aload_n dX11_chair_0 rfl ?_
  refine X_iload_n dX11_chair_1 rfl ?_
  refine X_need dX11_chair_2 mkX11_184 (k_0 hSh) (c_needChair Γ g mi ml hSh (nI q)) rfl rfl (by decide) (by decide) (by decide) (by decide) (fun h => absurd (by rw [hcl.1]; exact (gd_iff hC8).mpr ⟨q, hq, rfl⟩) h) (fun _ => ?_)
  refine X_aload_n dX11_chair_5 rfl ?_
  refine X_iload_n dX11_chair_6 rfl ?_
  refine X_iconst (v := nI 0) dX11_chair_7 (by decide) ?_
  refine X_iconst (v := nI 4) dX11_chair_8 (by decide) ?_
  refine X_need dX11_chair_9 mkX11_116 (k_0 hSh) (c_needWithin Γ g mi ml hSh (nI 0) (nI 0) (nI 4)) rfl rfl (by decide) (by decide) (by decide) (by decide) (fun h => absurd (by decide) h) (fun _ => ?_)
  refine X_iload_n dX11_chair_12 rfl ?_
  refine X_if_neN (a := 0) 26 dX11_chair_13 (by decide) (by omega) (fun h_1 => ?_) (fun h_1 => ?_)
  · exact absurd h_1 (by omega)
  · refine X_aload_n dX11_chair_16 rfl ?_
    refine X_getr (a := 3) dX11_chair_17 fkX11_25 rfl (k_0 hSh) (r_0_2 hSh) ?_
    refine X_getr (a := 4) dX11_chair_20 fkX11_187 rfl (k_3 hSh) (r_3_0 hSh) ?_
    refine X_iload_n dX11_chair_23 rfl ?_
    refine X_iald q dX11_chair_24 (k_4 hSh) rfl (by omega) ?_
    exact X_iret dX11_chair_25 rfl ⟨congrArg (fun z => Sum.inl (some (Value.int z))) ((hcl.2.2.2.2.2.1 q hq).1), hC, frK_r, rfl⟩
set_option maxRecDepth 100000 in
set_option maxHeartbeats 4000000 in
theorem r_chair_0 (Γ : pTG) (g : pGG) (mi : pMI) (ml : pML) (A : AS) (hA : okAS A) (hSh : Sh g) (hR : RI A mi) (q : Nat) (hq : q < (aP A).1)  : CT Γ 60 0 0 mX12_chair [.ref 87, .int (nI q), .int (nI 0)] g mi ml (RQ A (.inl (nI ((aP A).2.2.2.2.2.1 q 0))) cd2 g mi ml) := by
  refine CT_of (by decide +kernel) (Nat.le_of_ble_eq_true rfl) ?_
  have hP := hA.1
  have hG8 : aG A ≤ 8 := hP.2.1
  have hC8 : (aP A).1 ≤ 8 := hP.1
  refine X_aload_n dX12_chair_0 rfl ?_
  refine X_iconst (v := nI 0) dX12_chair_1 (by decide) ?_
  refine X_puti dX12_chair_2 fkX12_158 rfl rfl (k_87 hSh) ?_
  refine X_aload_n dX12_chair_5 rfl ?_
  refine X_aload_n dX12_chair_6 rfl ?_
  refine X_iload_n dX12_chair_7 rfl ?_
  refine X_callVI dX12_chair_8 mkX12_307 (k_87 hSh) (c_isChair Γ g (up2 mi 87 0 (nI 0)) ml hSh (nI q)) rfl rfl (by decide) (Nat.le_of_ble_eq_true rfl) ?_
  refine X_topi (show bI (decide (nI 0 ≤ nI q) && decide (nI q ≤ (up2 mi 87 0 (nI 0)) 91 0 - nI 1)) = nI 1 from congrArg bI (show (decide (nI 0 ≤ nI q) && decide (nI q ≤ (up2 mi 87 0 (nI 0)) 91 0 - nI 1)) = true from by rw [(show (up2 mi 87 0 (nI 0)) 91 0 = nI (aP A).1 from ((congrFun (up2_row (by omega)) _).trans hR.1.1))]; exact (gd_ref hC8).mpr ⟨q, hq, rfl⟩)) ?_
  refine X_if_neN (a := 1) 18 dX12_chair_11 (by decide) (by omega) (fun h_1 => ?_) (fun h_1 => ?_)
  · refine X_iconst (v := nI 0) dX12_chair_18 (by decide) ?_
    refine X_iconst (v := nI 1) dX12_chair_19 (by decide) ?_
    refine X_iconst (v := nI 0) dX12_chair_20 (by decide) ?_
    refine X_callVI dX12_chair_21 mkX12_228 (k_87 hSh) (c_bad0 Γ g (up2 mi 87 0 (nI 0)) ml hSh 1 0 up2_s) rfl rfl (by decide) (Nat.le_of_ble_eq_true rfl) ?_
    refine X_if_neN (a := 0) 50 dX12_chair_24 (by decide) (by omega) (fun h_2 => ?_) (fun h_2 => ?_)
    · exact absurd h_2 (by omega)
    · refine X_aload_n dX12_chair_27 rfl ?_
      refine X_iload_n dX12_chair_28 rfl ?_
      refine X_iconst (v := nI 0) dX12_chair_29 (by decide) ?_
      refine X_iconst (v := nI 4) dX12_chair_30 (by decide) ?_
      refine X_callSI dX12_chair_31 mkX12_192 (c_in Γ g (up2 mi 87 0 (nI 0)) ml (nI 0) (nI 0) (nI 4)) rfl rfl (by decide) (Nat.le_of_ble_eq_true rfl) ?_
      refine X_topi (show bI (decide (nI 0 ≤ nI 0) && decide (nI 0 ≤ nI 4)) = nI 1 from congrArg bI (show (decide (nI 0 ≤ nI 0) && decide (nI 0 ≤ nI 4)) = true from by decide)) ?_
      refine X_if_neN (a := 1) 41 dX12_chair_34 (by decide) (by omega) (fun h_3 => ?_) (fun h_3 => ?_)
      · refine X_iconst (v := nI 0) dX12_chair_41 (by decide) ?_
        refine X_iconst (v := nI 2) dX12_chair_42 (by decide) ?_
        refine X_iconst (v := nI 1) dX12_chair_43 (by decide) ?_
        refine X_callVI dX12_chair_44 mkX12_228 (k_87 hSh) (c_bad0 Γ g (up2 mi 87 0 (nI 0)) ml hSh 2 1 up2_s) rfl rfl (by decide) (Nat.le_of_ble_eq_true rfl) ?_
        refine X_if_eqN (a := 0) 52 dX12_chair_47 (by decide) (by omega) (fun h_4 => ?_) (fun h_4 => ?_)
        · refine X_iload_n dX12_chair_52 rfl ?_
          refine X_iconst (v := nI 2) dX12_chair_53 (by decide) ?_
          refine X_icmp_geN (a := 0) (b := 2) 66 dX12_chair_54 (by decide) (by omega) (by omega) (fun h_5 => ?_) (fun h_5 => ?_)
          · exact absurd h_5 (by omega)
          · refine X_aload_n dX12_chair_57 rfl ?_
            refine X_getr (a := 101) dX12_chair_58 fkX12_31 rfl (k_87 hSh) (r_87_14 hSh) ?_
            refine X_iload_n dX12_chair_61 rfl ?_
            refine X_aaldr (b := 102 + q) q dX12_chair_62 (k_101 hSh) rfl (by omega) (o_101 hSh q (by omega)) ?_
            refine X_iload_n dX12_chair_63 rfl ?_
            refine X_iald 0 dX12_chair_64 (kr_101 hSh q (by omega)) rfl (by omega) ?_
            refine X_topi (show (up2 mi 87 0 (nI 0)) (102 + q) 0 = mi (102 + q) 0 by rw [up2_row (by omega)]) ?_
            exact X_iret dX12_chair_65 rfl ⟨rfl, rfl, RI_fr hA hR (frW_u frW_r (by unfold rsF rsR; omega)), (frM2_u frM2_r (by omega)), _, rfl, by first | exact (hR.1.2.2.2.2.2.1 q hq).1 | exact (congrFun (up2_row (by omega)) _).trans ((hR.1.2.2.2.2.2.1 q hq).1) | exact (up2_n (by omega)).trans ((hR.1.2.2.2.2.2.1 q hq).1), (show (up2 mi 87 0 (nI 0)) 87 0 = nI 0 by rw [up2_s])⟩
        · exact absurd h_4 (by omega)
      · exact absurd h_3 (by omega)
  · exact absurd h_1 (by omega)
set_option maxRecDepth 100000 in
set_option maxHeartbeats 4000000 in
theorem k_chair_1 (Γ : pTG) (g : pGG) (mi : pMI) (ml : pML) (A : AS) (hA : okAS A) (hC : CI A g mi ml) (q : Nat) (hq : q < (aP A).1)  : CT Γ 60 20 5000 mX11_chair [.ref 0, .int (nI q), .int (nI 1)] g mi ml (CQ A (.inl (nI ((aP A).2.2.2.2.2.1 q 1))) mi ml) := by
  refine CT_of (by decide +kernel) (Nat.le_of_ble_eq_true rfl) ?_
  have hSh := CI_Sh hC
  have hcl := CI_cl hC
  have hP := hA.1
  have hG8 : aG A ≤ 8 := hP.2.1
  have hC8 : (aP A).1 ≤ 8 := hP.1
  refine X_aload_n dX11_chair_0 rfl ?_
  refine X_iload_n dX11_chair_1 rfl ?_
  refine X_need dX11_chair_2 mkX11_184 (k_0 hSh) (c_needChair Γ g mi ml hSh (nI q)) rfl rfl (by decide) (by decide) (by decide) (by decide) (fun h => absurd (by rw [hcl.1]; exact (gd_iff hC8).mpr ⟨q, hq, rfl⟩) h) (fun _ => ?_)
  refine X_aload_n dX11_chair_5 rfl ?_
  refine X_iload_n dX11_chair_6 rfl ?_
  refine X_iconst (v := nI 0) dX11_chair_7 (by decide) ?_
  refine X_iconst (v := nI 4) dX11_chair_8 (by decide) ?_
  refine X_need dX11_chair_9 mkX11_116 (k_0 hSh) (c_needWithin Γ g mi ml hSh (nI 1) (nI 0) (nI 4)) rfl rfl (by decide) (by decide) (by decide) (by decide) (fun h => absurd (by decide) h) (fun _ => ?_)
  refine X_iload_n dX11_chair_12 rfl ?_
  refine X_if_neN (a := 1) 26 dX11_chair_13 (by decide) (by omega) (fun h_1 => ?_) (fun h_1 => ?_)
  · refine X_iload_n dX11_chair_26 rfl ?_
    refine X_iconst (v := nI 1) dX11_chair_27 (by decide) ?_
    refine X_icmp_neN (a := 1) (b := 1) 41 dX11_chair_28 (by decide) (by omega) (by omega) (fun h_2 => ?_) (fun h_2 => ?_)
    · exact absurd h_2 (by omega)
    · refine X_aload_n dX11_chair_31 rfl ?_
      refine X_getr (a := 3) dX11_chair_32 fkX11_25 rfl (k_0 hSh) (r_0_2 hSh) ?_
      refine X_getr (a := 5) dX11_chair_35 fkX11_190 rfl (k_3 hSh) (r_3_1 hSh) ?_
      refine X_iload_n dX11_chair_38 rfl ?_
      refine X_iald q dX11_chair_39 (k_5 hSh) rfl (by omega) ?_
      exact X_iret dX11_chair_40 rfl ⟨congrArg (fun z => Sum.inl (some (Value.int z))) ((hcl.2.2.2.2.2.1 q hq).2), hC, frK_r, rfl⟩
  · exact absurd h_1 (by omega)
set_option maxRecDepth 100000 in
set_option maxHeartbeats 4000000 in
theorem r_chair_1 (Γ : pTG) (g : pGG) (mi : pMI) (ml : pML) (A : AS) (hA : okAS A) (hSh : Sh g) (hR : RI A mi) (q : Nat) (hq : q < (aP A).1)  : CT Γ 60 0 0 mX12_chair [.ref 87, .int (nI q), .int (nI 1)] g mi ml (RQ A (.inl (nI ((aP A).2.2.2.2.2.1 q 1))) cd2 g mi ml) := by
  refine CT_of (by decide +kernel) (Nat.le_of_ble_eq_true rfl) ?_
  have hP := hA.1
  have hG8 : aG A ≤ 8 := hP.2.1
  have hC8 : (aP A).1 ≤ 8 := hP.1
  refine X_aload_n dX12_chair_0 rfl ?_
  refine X_iconst (v := nI 0) dX12_chair_1 (by decide) ?_
  refine X_puti dX12_chair_2 fkX12_158 rfl rfl (k_87 hSh) ?_
  refine X_aload_n dX12_chair_5 rfl ?_
  refine X_aload_n dX12_chair_6 rfl ?_
  refine X_iload_n dX12_chair_7 rfl ?_
  refine X_callVI dX12_chair_8 mkX12_307 (k_87 hSh) (c_isChair Γ g (up2 mi 87 0 (nI 0)) ml hSh (nI q)) rfl rfl (by decide) (Nat.le_of_ble_eq_true rfl) ?_
  refine X_topi (show bI (decide (nI 0 ≤ nI q) && decide (nI q ≤ (up2 mi 87 0 (nI 0)) 91 0 - nI 1)) = nI 1 from congrArg bI (show (decide (nI 0 ≤ nI q) && decide (nI q ≤ (up2 mi 87 0 (nI 0)) 91 0 - nI 1)) = true from by rw [(show (up2 mi 87 0 (nI 0)) 91 0 = nI (aP A).1 from ((congrFun (up2_row (by omega)) _).trans hR.1.1))]; exact (gd_ref hC8).mpr ⟨q, hq, rfl⟩)) ?_
  refine X_if_neN (a := 1) 18 dX12_chair_11 (by decide) (by omega) (fun h_1 => ?_) (fun h_1 => ?_)
  · refine X_iconst (v := nI 0) dX12_chair_18 (by decide) ?_
    refine X_iconst (v := nI 1) dX12_chair_19 (by decide) ?_
    refine X_iconst (v := nI 0) dX12_chair_20 (by decide) ?_
    refine X_callVI dX12_chair_21 mkX12_228 (k_87 hSh) (c_bad0 Γ g (up2 mi 87 0 (nI 0)) ml hSh 1 0 up2_s) rfl rfl (by decide) (Nat.le_of_ble_eq_true rfl) ?_
    refine X_if_neN (a := 0) 50 dX12_chair_24 (by decide) (by omega) (fun h_2 => ?_) (fun h_2 => ?_)
    · exact absurd h_2 (by omega)
    · refine X_aload_n dX12_chair_27 rfl ?_
      refine X_iload_n dX12_chair_28 rfl ?_
      refine X_iconst (v := nI 0) dX12_chair_29 (by decide) ?_
      refine X_iconst (v := nI 4) dX12_chair_30 (by decide) ?_
      refine X_callSI dX12_chair_31 mkX12_192 (c_in Γ g (up2 mi 87 0 (nI 0)) ml (nI 1) (nI 0) (nI 4)) rfl rfl (by decide) (Nat.le_of_ble_eq_true rfl) ?_
      refine X_topi (show bI (decide (nI 0 ≤ nI 1) && decide (nI 1 ≤ nI 4)) = nI 1 from congrArg bI (show (decide (nI 0 ≤ nI 1) && decide (nI 1 ≤ nI 4)) = true from by decide)) ?_
      refine X_if_neN (a := 1) 41 dX12_chair_34 (by decide) (by omega) (fun h_3 => ?_) (fun h_3 => ?_)
      · refine X_iconst (v := nI 0) dX12_chair_41 (by decide) ?_
        refine X_iconst (v := nI 2) dX12_chair_42 (by decide) ?_
        refine X_iconst (v := nI 1) dX12_chair_43 (by decide) ?_
        refine X_callVI dX12_chair_44 mkX12_228 (k_87 hSh) (c_bad0 Γ g (up2 mi 87 0 (nI 0)) ml hSh 2 1 up2_s) rfl rfl (by decide) (Nat.le_of_ble_eq_true rfl) ?_
        refine X_if_eqN (a := 0) 52 dX12_chair_47 (by decide) (by omega) (fun h_4 => ?_) (fun h_4 => ?_)
        · refine X_iload_n dX12_chair_52 rfl ?_
          refine X_iconst (v := nI 2) dX12_chair_53 (by decide) ?_
          refine X_icmp_geN (a := 1) (b := 2) 66 dX12_chair_54 (by decide) (by omega) (by omega) (fun h_5 => ?_) (fun h_5 => ?_)
          · exact absurd h_5 (by omega)
          · refine X_aload_n dX12_chair_57 rfl ?_
            refine X_getr (a := 101) dX12_chair_58 fkX12_31 rfl (k_87 hSh) (r_87_14 hSh) ?_
            refine X_iload_n dX12_chair_61 rfl ?_
            refine X_aaldr (b := 102 + q) q dX12_chair_62 (k_101 hSh) rfl (by omega) (o_101 hSh q (by omega)) ?_
            refine X_iload_n dX12_chair_63 rfl ?_
            refine X_iald 1 dX12_chair_64 (kr_101 hSh q (by omega)) rfl (by omega) ?_
            refine X_topi (show (up2 mi 87 0 (nI 0)) (102 + q) 1 = mi (102 + q) 1 by rw [up2_row (by omega)]) ?_
            exact X_iret dX12_chair_65 rfl ⟨rfl, rfl, RI_fr hA hR (frW_u frW_r (by unfold rsF rsR; omega)), (frM2_u frM2_r (by omega)), _, rfl, by first | exact (hR.1.2.2.2.2.2.1 q hq).2 | exact (congrFun (up2_row (by omega)) _).trans ((hR.1.2.2.2.2.2.1 q hq).2) | exact (up2_n (by omega)).trans ((hR.1.2.2.2.2.2.1 q hq).2), (show (up2 mi 87 0 (nI 0)) 87 0 = nI 0 by rw [up2_s])⟩
        · exact absurd h_4 (by omega)
      · exact absurd h_3 (by omega)
  · exact absurd h_1 (by omega)
set_option maxRecDepth 100000 in
set_option maxHeartbeats 4000000 in
theorem k_chair_2 (Γ : pTG) (g : pGG) (mi : pMI) (ml : pML) (A : AS) (hA : okAS A) (hC : CI A g mi ml) (q : Nat) (hq : q < (aP A).1)  : CT Γ 60 20 5000 mX11_chair [.ref 0, .int (nI q), .int (nI 2)] g mi ml (CQ A (.inl ((DYd A).1 206 q)) mi ml) := by
  refine CT_of (by decide +kernel) (Nat.le_of_ble_eq_true rfl) ?_
  have hSh := CI_Sh hC
  have hcl := CI_cl hC
  have hP := hA.1
  have hG8 : aG A ≤ 8 := hP.2.1
  have hC8 : (aP A).1 ≤ 8 := hP.1
  refine X_aload_n dX11_chair_0 rfl ?_
  refine X_iload_n dX11_chair_1 rfl ?_
  refine X_need dX11_chair_2 mkX11_184 (k_0 hSh) (c_needChair Γ g mi ml hSh (nI q)) rfl rfl (by decide) (by decide) (by decide) (by decide) (fun h => absurd (by rw [hcl.1]; exact (gd_iff hC8).mpr ⟨q, hq, rfl⟩) h) (fun _ => ?_)
  refine X_aload_n dX11_chair_5 rfl ?_
  refine X_iload_n dX11_chair_6 rfl ?_
  refine X_iconst (v := nI 0) dX11_chair_7 (by decide) ?_
  refine X_iconst (v := nI 4) dX11_chair_8 (by decide) ?_
  refine X_need dX11_chair_9 mkX11_116 (k_0 hSh) (c_needWithin Γ g mi ml hSh (nI 2) (nI 0) (nI 4)) rfl rfl (by decide) (by decide) (by decide) (by decide) (fun h => absurd (by decide) h) (fun _ => ?_)
  refine X_iload_n dX11_chair_12 rfl ?_
  refine X_if_neN (a := 2) 26 dX11_chair_13 (by decide) (by omega) (fun h_1 => ?_) (fun h_1 => ?_)
  · refine X_iload_n dX11_chair_26 rfl ?_
    refine X_iconst (v := nI 1) dX11_chair_27 (by decide) ?_
    refine X_icmp_neN (a := 2) (b := 1) 41 dX11_chair_28 (by decide) (by omega) (by omega) (fun h_2 => ?_) (fun h_2 => ?_)
    · refine X_aload_n dX11_chair_41 rfl ?_
      refine X_callVrV dX11_chair_42 mkX11_193 (k_0 hSh) (c_look Γ g mi ml A hA hC) rfl rfl (by decide) (Nat.le_of_ble_eq_true rfl) (fun m1 l1 hm1 => ?_)
      obtain ⟨⟨hC1, hcd⟩, hk1, hl1⟩ := hm1
      have hcl1 := CI_cl hC1
      refine X_aload_n dX11_chair_45 rfl ?_
      refine X_getr (a := 57) dX11_chair_46 fkX11_72 rfl (k_0 hSh) (r_0_9 hSh) ?_
      refine X_getr (a := 59) dX11_chair_49 fkX11_196 rfl (k_57 hSh) (r_57_2 hSh) ?_
      refine X_iload_n dX11_chair_52 rfl ?_
      refine X_iconst (v := nI 3) dX11_chair_53 (by decide) ?_
      refine X_imul dX11_chair_54 ?_
      refine X_topi (pk_mul q 3) ?_
      refine X_iload_n dX11_chair_55 rfl ?_
      refine X_iadd dX11_chair_56 ?_
      refine X_topi (nI_add (q * 3) 2) ?_
      refine X_iconst (v := nI 2) dX11_chair_57 (by decide) ?_
      refine X_isub dX11_chair_58 ?_
      refine X_topi (pk_sub (a := (q * 3) + 2) (b := 2) (by omega)) ?_
      refine X_topi (show nI (((q * 3) + 2) - 2) = nI (q * 3 + 0) from congrArg nI (by omega)) ?_
      refine X_iald (q * 3 + 0) dX11_chair_59 (k_59 hSh) rfl (by omega) ?_
      exact X_iret dX11_chair_60 rfl ⟨by first | exact congrArg (fun z => Sum.inl (some (Value.int z))) ((hcd.2.1 q hq).1) | rfl, hC1, hk1, hl1⟩
    · exact absurd h_2 (by omega)
  · exact absurd h_1 (by omega)
set_option maxRecDepth 100000 in
set_option maxHeartbeats 4000000 in
theorem r_chair_2 (Γ : pTG) (g : pGG) (mi : pMI) (ml : pML) (A : AS) (hA : okAS A) (hSh : Sh g) (hR : RI A mi) (q : Nat) (hq : q < (aP A).1)  : CT Γ 60 0 0 mX12_chair [.ref 87, .int (nI q), .int (nI 2)] g mi ml (RQ A (.inl ((DYd A).1 206 q)) cd2 g mi ml) := by
  refine CT_of (by decide +kernel) (Nat.le_of_ble_eq_true rfl) ?_
  have hP := hA.1
  have hG8 : aG A ≤ 8 := hP.2.1
  have hC8 : (aP A).1 ≤ 8 := hP.1
  refine X_aload_n dX12_chair_0 rfl ?_
  refine X_iconst (v := nI 0) dX12_chair_1 (by decide) ?_
  refine X_puti dX12_chair_2 fkX12_158 rfl rfl (k_87 hSh) ?_
  refine X_aload_n dX12_chair_5 rfl ?_
  refine X_aload_n dX12_chair_6 rfl ?_
  refine X_iload_n dX12_chair_7 rfl ?_
  refine X_callVI dX12_chair_8 mkX12_307 (k_87 hSh) (c_isChair Γ g (up2 mi 87 0 (nI 0)) ml hSh (nI q)) rfl rfl (by decide) (Nat.le_of_ble_eq_true rfl) ?_
  refine X_topi (show bI (decide (nI 0 ≤ nI q) && decide (nI q ≤ (up2 mi 87 0 (nI 0)) 91 0 - nI 1)) = nI 1 from congrArg bI (show (decide (nI 0 ≤ nI q) && decide (nI q ≤ (up2 mi 87 0 (nI 0)) 91 0 - nI 1)) = true from by rw [(show (up2 mi 87 0 (nI 0)) 91 0 = nI (aP A).1 from ((congrFun (up2_row (by omega)) _).trans hR.1.1))]; exact (gd_ref hC8).mpr ⟨q, hq, rfl⟩)) ?_
  refine X_if_neN (a := 1) 18 dX12_chair_11 (by decide) (by omega) (fun h_1 => ?_) (fun h_1 => ?_)
  · refine X_iconst (v := nI 0) dX12_chair_18 (by decide) ?_
    refine X_iconst (v := nI 1) dX12_chair_19 (by decide) ?_
    refine X_iconst (v := nI 0) dX12_chair_20 (by decide) ?_
    refine X_callVI dX12_chair_21 mkX12_228 (k_87 hSh) (c_bad0 Γ g (up2 mi 87 0 (nI 0)) ml hSh 1 0 up2_s) rfl rfl (by decide) (Nat.le_of_ble_eq_true rfl) ?_
    refine X_if_neN (a := 0) 50 dX12_chair_24 (by decide) (by omega) (fun h_2 => ?_) (fun h_2 => ?_)
    · exact absurd h_2 (by omega)
    · refine X_aload_n dX12_chair_27 rfl ?_
      refine X_iload_n dX12_chair_28 rfl ?_
      refine X_iconst (v := nI 0) dX12_chair_29 (by decide) ?_
      refine X_iconst (v := nI 4) dX12_chair_30 (by decide) ?_
      refine X_callSI dX12_chair_31 mkX12_192 (c_in Γ g (up2 mi 87 0 (nI 0)) ml (nI 2) (nI 0) (nI 4)) rfl rfl (by decide) (Nat.le_of_ble_eq_true rfl) ?_
      refine X_topi (show bI (decide (nI 0 ≤ nI 2) && decide (nI 2 ≤ nI 4)) = nI 1 from congrArg bI (show (decide (nI 0 ≤ nI 2) && decide (nI 2 ≤ nI 4)) = true from by decide)) ?_
      refine X_if_neN (a := 1) 41 dX12_chair_34 (by decide) (by omega) (fun h_3 => ?_) (fun h_3 => ?_)
      · refine X_iconst (v := nI 0) dX12_chair_41 (by decide) ?_
        refine X_iconst (v := nI 2) dX12_chair_42 (by decide) ?_
        refine X_iconst (v := nI 1) dX12_chair_43 (by decide) ?_
        refine X_callVI dX12_chair_44 mkX12_228 (k_87 hSh) (c_bad0 Γ g (up2 mi 87 0 (nI 0)) ml hSh 2 1 up2_s) rfl rfl (by decide) (Nat.le_of_ble_eq_true rfl) ?_
        refine X_if_eqN (a := 0) 52 dX12_chair_47 (by decide) (by omega) (fun h_4 => ?_) (fun h_4 => ?_)
        · refine X_iload_n dX12_chair_52 rfl ?_
          refine X_iconst (v := nI 2) dX12_chair_53 (by decide) ?_
          refine X_icmp_geN (a := 2) (b := 2) 66 dX12_chair_54 (by decide) (by omega) (by omega) (fun h_5 => ?_) (fun h_5 => ?_)
          · refine X_aload_n dX12_chair_66 rfl ?_
            have hw0 : frW mi (up2 mi 87 0 (nI 0)) := frW_u frW_r (by unfold rsF rsR; omega)
            refine X_callVrV dX12_chair_67 mkX12_353 (k_87 hSh) (r_dayK Γ g (up2 mi 87 0 (nI 0)) ml A hA hSh mi hR hw0) rfl rfl (by decide) (Nat.le_of_ble_eq_true rfl) (fun m1 l1 hm1 => ?_)
            obtain ⟨hrd, hfw, hf2, ht0, hrs, hl1⟩ := hm1
            rw [hl1]
            have hR1 := RI_fr hA hR hfw
            refine X_iload_n dX12_chair_70 rfl ?_
            refine X_iconst (v := nI 2) dX12_chair_71 (by decide) ?_
            refine X_icmp_neN (a := 2) (b := 2) 84 dX12_chair_72 (by decide) (by omega) (by omega) (fun h_6 => ?_) (fun h_6 => ?_)
            · exact absurd h_6 (by omega)
            · refine X_aload_n dX12_chair_75 rfl ?_
              refine X_getr (a := 206) dX12_chair_76 fkX12_107 rfl (k_87 hSh) (r_87_46 hSh) ?_
              refine X_iload_n dX12_chair_79 rfl ?_
              refine X_iald q dX12_chair_80 (k_206 hSh) rfl (by omega) ?_
              refine X_goto 104 dX12_chair_81 (by decide) ?_
              exact X_iret dX12_chair_104 rfl ⟨rfl, rfl, hR1, frM2_t (frM2_u frM2_r (by omega)) hf2, _, rfl, (hrd.2.1 q hq).1, ht0.trans up2_s⟩
          · exact absurd h_5 (by omega)
        · exact absurd h_4 (by omega)
      · exact absurd h_3 (by omega)
  · exact absurd h_1 (by omega)
set_option maxRecDepth 100000 in
set_option maxHeartbeats 4000000 in
theorem k_chair_3 (Γ : pTG) (g : pGG) (mi : pMI) (ml : pML) (A : AS) (hA : okAS A) (hC : CI A g mi ml) (q : Nat) (hq : q < (aP A).1)  : CT Γ 60 20 5000 mX11_chair [.ref 0, .int (nI q), .int (nI 3)] g mi ml (CQ A (.inl ((DYd A).1 207 q)) mi ml) := by
  refine CT_of (by decide +kernel) (Nat.le_of_ble_eq_true rfl) ?_
  have hSh := CI_Sh hC
  have hcl := CI_cl hC
  have hP := hA.1
  have hG8 : aG A ≤ 8 := hP.2.1
  have hC8 : (aP A).1 ≤ 8 := hP.1
  refine X_aload_n dX11_chair_0 rfl ?_
  refine X_iload_n dX11_chair_1 rfl ?_
  refine X_need dX11_chair_2 mkX11_184 (k_0 hSh) (c_needChair Γ g mi ml hSh (nI q)) rfl rfl (by decide) (by decide) (by decide) (by decide) (fun h => absurd (by rw [hcl.1]; exact (gd_iff hC8).mpr ⟨q, hq, rfl⟩) h) (fun _ => ?_)
  refine X_aload_n dX11_chair_5 rfl ?_
  refine X_iload_n dX11_chair_6 rfl ?_
  refine X_iconst (v := nI 0) dX11_chair_7 (by decide) ?_
  refine X_iconst (v := nI 4) dX11_chair_8 (by decide) ?_
  refine X_need dX11_chair_9 mkX11_116 (k_0 hSh) (c_needWithin Γ g mi ml hSh (nI 3) (nI 0) (nI 4)) rfl rfl (by decide) (by decide) (by decide) (by decide) (fun h => absurd (by decide) h) (fun _ => ?_)
  refine X_iload_n dX11_chair_12 rfl ?_
  refine X_if_neN (a := 3) 26 dX11_chair_13 (by decide) (by omega) (fun h_1 => ?_) (fun h_1 => ?_)
  · refine X_iload_n dX11_chair_26 rfl ?_
    refine X_iconst (v := nI 1) dX11_chair_27 (by decide) ?_
    refine X_icmp_neN (a := 3) (b := 1) 41 dX11_chair_28 (by decide) (by omega) (by omega) (fun h_2 => ?_) (fun h_2 => ?_)
    · refine X_aload_n dX11_chair_41 rfl ?_
      refine X_callVrV dX11_chair_42 mkX11_193 (k_0 hSh) (c_look Γ g mi ml A hA hC) rfl rfl (by decide) (Nat.le_of_ble_eq_true rfl) (fun m1 l1 hm1 => ?_)
      obtain ⟨⟨hC1, hcd⟩, hk1, hl1⟩ := hm1
      have hcl1 := CI_cl hC1
      refine X_aload_n dX11_chair_45 rfl ?_
      refine X_getr (a := 57) dX11_chair_46 fkX11_72 rfl (k_0 hSh) (r_0_9 hSh) ?_
      refine X_getr (a := 59) dX11_chair_49 fkX11_196 rfl (k_57 hSh) (r_57_2 hSh) ?_
      refine X_iload_n dX11_chair_52 rfl ?_
      refine X_iconst (v := nI 3) dX11_chair_53 (by decide) ?_
      refine X_imul dX11_chair_54 ?_
      refine X_topi (pk_mul q 3) ?_
      refine X_iload_n dX11_chair_55 rfl ?_
      refine X_iadd dX11_chair_56 ?_
      refine X_topi (nI_add (q * 3) 3) ?_
      refine X_iconst (v := nI 2) dX11_chair_57 (by decide) ?_
      refine X_isub dX11_chair_58 ?_
      refine X_topi (pk_sub (a := (q * 3) + 3) (b := 2) (by omega)) ?_
      refine X_topi (show nI (((q * 3) + 3) - 2) = nI (q * 3 + 1) from congrArg nI (by omega)) ?_
      refine X_iald (q * 3 + 1) dX11_chair_59 (k_59 hSh) rfl (by omega) ?_
      exact X_iret dX11_chair_60 rfl ⟨by first | exact congrArg (fun z => Sum.inl (some (Value.int z))) ((hcd.2.1 q hq).2.1) | rfl, hC1, hk1, hl1⟩
    · exact absurd h_2 (by omega)
  · exact absurd h_1 (by omega)
set_option maxRecDepth 100000 in
set_option maxHeartbeats 4000000 in
theorem r_chair_3 (Γ : pTG) (g : pGG) (mi : pMI) (ml : pML) (A : AS) (hA : okAS A) (hSh : Sh g) (hR : RI A mi) (q : Nat) (hq : q < (aP A).1)  : CT Γ 60 0 0 mX12_chair [.ref 87, .int (nI q), .int (nI 3)] g mi ml (RQ A (.inl ((DYd A).1 207 q)) cd2 g mi ml) := by
  refine CT_of (by decide +kernel) (Nat.le_of_ble_eq_true rfl) ?_
  have hP := hA.1
  have hG8 : aG A ≤ 8 := hP.2.1
  have hC8 : (aP A).1 ≤ 8 := hP.1
  refine X_aload_n dX12_chair_0 rfl ?_
  refine X_iconst (v := nI 0) dX12_chair_1 (by decide) ?_
  refine X_puti dX12_chair_2 fkX12_158 rfl rfl (k_87 hSh) ?_
  refine X_aload_n dX12_chair_5 rfl ?_
  refine X_aload_n dX12_chair_6 rfl ?_
  refine X_iload_n dX12_chair_7 rfl ?_
  refine X_callVI dX12_chair_8 mkX12_307 (k_87 hSh) (c_isChair Γ g (up2 mi 87 0 (nI 0)) ml hSh (nI q)) rfl rfl (by decide) (Nat.le_of_ble_eq_true rfl) ?_
  refine X_topi (show bI (decide (nI 0 ≤ nI q) && decide (nI q ≤ (up2 mi 87 0 (nI 0)) 91 0 - nI 1)) = nI 1 from congrArg bI (show (decide (nI 0 ≤ nI q) && decide (nI q ≤ (up2 mi 87 0 (nI 0)) 91 0 - nI 1)) = true from by rw [(show (up2 mi 87 0 (nI 0)) 91 0 = nI (aP A).1 from ((congrFun (up2_row (by omega)) _).trans hR.1.1))]; exact (gd_ref hC8).mpr ⟨q, hq, rfl⟩)) ?_
  refine X_if_neN (a := 1) 18 dX12_chair_11 (by decide) (by omega) (fun h_1 => ?_) (fun h_1 => ?_)
  · refine X_iconst (v := nI 0) dX12_chair_18 (by decide) ?_
    refine X_iconst (v := nI 1) dX12_chair_19 (by decide) ?_
    refine X_iconst (v := nI 0) dX12_chair_20 (by decide) ?_
    refine X_callVI dX12_chair_21 mkX12_228 (k_87 hSh) (c_bad0 Γ g (up2 mi 87 0 (nI 0)) ml hSh 1 0 up2_s) rfl rfl (by decide) (Nat.le_of_ble_eq_true rfl) ?_
    refine X_if_neN (a := 0) 50 dX12_chair_24 (by decide) (by omega) (fun h_2 => ?_) (fun h_2 => ?_)
    · exact absurd h_2 (by omega)
    · refine X_aload_n dX12_chair_27 rfl ?_
      refine X_iload_n dX12_chair_28 rfl ?_
      refine X_iconst (v := nI 0) dX12_chair_29 (by decide) ?_
      refine X_iconst (v := nI 4) dX12_chair_30 (by decide) ?_
      refine X_callSI dX12_chair_31 mkX12_192 (c_in Γ g (up2 mi 87 0 (nI 0)) ml (nI 3) (nI 0) (nI 4)) rfl rfl (by decide) (Nat.le_of_ble_eq_true rfl) ?_
      refine X_topi (show bI (decide (nI 0 ≤ nI 3) && decide (nI 3 ≤ nI 4)) = nI 1 from congrArg bI (show (decide (nI 0 ≤ nI 3) && decide (nI 3 ≤ nI 4)) = true from by decide)) ?_
      refine X_if_neN (a := 1) 41 dX12_chair_34 (by decide) (by omega) (fun h_3 => ?_) (fun h_3 => ?_)
      · refine X_iconst (v := nI 0) dX12_chair_41 (by decide) ?_
        refine X_iconst (v := nI 2) dX12_chair_42 (by decide) ?_
        refine X_iconst (v := nI 1) dX12_chair_43 (by decide) ?_
        refine X_callVI dX12_chair_44 mkX12_228 (k_87 hSh) (c_bad0 Γ g (up2 mi 87 0 (nI 0)) ml hSh 2 1 up2_s) rfl rfl (by decide) (Nat.le_of_ble_eq_true rfl) ?_
        refine X_if_eqN (a := 0) 52 dX12_chair_47 (by decide) (by omega) (fun h_4 => ?_) (fun h_4 => ?_)
        · refine X_iload_n dX12_chair_52 rfl ?_
          refine X_iconst (v := nI 2) dX12_chair_53 (by decide) ?_
          refine X_icmp_geN (a := 3) (b := 2) 66 dX12_chair_54 (by decide) (by omega) (by omega) (fun h_5 => ?_) (fun h_5 => ?_)
          · refine X_aload_n dX12_chair_66 rfl ?_
            have hw0 : frW mi (up2 mi 87 0 (nI 0)) := frW_u frW_r (by unfold rsF rsR; omega)
            refine X_callVrV dX12_chair_67 mkX12_353 (k_87 hSh) (r_dayK Γ g (up2 mi 87 0 (nI 0)) ml A hA hSh mi hR hw0) rfl rfl (by decide) (Nat.le_of_ble_eq_true rfl) (fun m1 l1 hm1 => ?_)
            obtain ⟨hrd, hfw, hf2, ht0, hrs, hl1⟩ := hm1
            rw [hl1]
            have hR1 := RI_fr hA hR hfw
            refine X_iload_n dX12_chair_70 rfl ?_
            refine X_iconst (v := nI 2) dX12_chair_71 (by decide) ?_
            refine X_icmp_neN (a := 3) (b := 2) 84 dX12_chair_72 (by decide) (by omega) (by omega) (fun h_6 => ?_) (fun h_6 => ?_)
            · refine X_iload_n dX12_chair_84 rfl ?_
              refine X_iconst (v := nI 3) dX12_chair_85 (by decide) ?_
              refine X_icmp_neN (a := 3) (b := 3) 98 dX12_chair_86 (by decide) (by omega) (by omega) (fun h_7 => ?_) (fun h_7 => ?_)
              · exact absurd h_7 (by omega)
              · refine X_aload_n dX12_chair_89 rfl ?_
                refine X_getr (a := 207) dX12_chair_90 fkX12_110 rfl (k_87 hSh) (r_87_47 hSh) ?_
                refine X_iload_n dX12_chair_93 rfl ?_
                refine X_iald q dX12_chair_94 (k_207 hSh) rfl (by omega) ?_
                refine X_goto 104 dX12_chair_95 (by decide) ?_
                exact X_iret dX12_chair_104 rfl ⟨rfl, rfl, hR1, frM2_t (frM2_u frM2_r (by omega)) hf2, _, rfl, (hrd.2.1 q hq).2.1, ht0.trans up2_s⟩
            · exact absurd h_6 (by omega)
          · exact absurd h_5 (by omega)
        · exact absurd h_4 (by omega)
      · exact absurd h_3 (by omega)
  · exact absurd h_1 (by omega)
set_option maxRecDepth 100000 in
set_option maxHeartbeats 4000000 in
theorem k_chair_4 (Γ : pTG) (g : pGG) (mi : pMI) (ml : pML) (A : AS) (hA : okAS A) (hC : CI A g mi ml) (q : Nat) (hq : q < (aP A).1)  : CT Γ 60 20 5000 mX11_chair [.ref 0, .int (nI q), .int (nI 4)] g mi ml (CQ A (.inl ((DYd A).1 208 q)) mi ml) := by
  refine CT_of (by decide +kernel) (Nat.le_of_ble_eq_true rfl) ?_
  have hSh := CI_Sh hC
  have hcl := CI_cl hC
  have hP := hA.1
  have hG8 : aG A ≤ 8 := hP.2.1
  have hC8 : (aP A).1 ≤ 8 := hP.1
  refine X_aload_n dX11_chair_0 rfl ?_
  refine X_iload_n dX11_chair_1 rfl ?_
  refine X_need dX11_chair_2 mkX11_184 (k_0 hSh) (c_needChair Γ g mi ml hSh (nI q)) rfl rfl (by decide) (by decide) (by decide) (by decide) (fun h => absurd (by rw [hcl.1]; exact (gd_iff hC8).mpr ⟨q, hq, rfl⟩) h) (fun _ => ?_)
  refine X_aload_n dX11_chair_5 rfl ?_
  refine X_iload_n dX11_chair_6 rfl ?_
  refine X_iconst (v := nI 0) dX11_chair_7 (by decide) ?_
  refine X_iconst (v := nI 4) dX11_chair_8 (by decide) ?_
  refine X_need dX11_chair_9 mkX11_116 (k_0 hSh) (c_needWithin Γ g mi ml hSh (nI 4) (nI 0) (nI 4)) rfl rfl (by decide) (by decide) (by decide) (by decide) (fun h => absurd (by decide) h) (fun _ => ?_)
  refine X_iload_n dX11_chair_12 rfl ?_
  refine X_if_neN (a := 4) 26 dX11_chair_13 (by decide) (by omega) (fun h_1 => ?_) (fun h_1 => ?_)
  · refine X_iload_n dX11_chair_26 rfl ?_
    refine X_iconst (v := nI 1) dX11_chair_27 (by decide) ?_
    refine X_icmp_neN (a := 4) (b := 1) 41 dX11_chair_28 (by decide) (by omega) (by omega) (fun h_2 => ?_) (fun h_2 => ?_)
    · refine X_aload_n dX11_chair_41 rfl ?_
      refine X_callVrV dX11_chair_42 mkX11_193 (k_0 hSh) (c_look Γ g mi ml A hA hC) rfl rfl (by decide) (Nat.le_of_ble_eq_true rfl) (fun m1 l1 hm1 => ?_)
      obtain ⟨⟨hC1, hcd⟩, hk1, hl1⟩ := hm1
      have hcl1 := CI_cl hC1
      refine X_aload_n dX11_chair_45 rfl ?_
      refine X_getr (a := 57) dX11_chair_46 fkX11_72 rfl (k_0 hSh) (r_0_9 hSh) ?_
      refine X_getr (a := 59) dX11_chair_49 fkX11_196 rfl (k_57 hSh) (r_57_2 hSh) ?_
      refine X_iload_n dX11_chair_52 rfl ?_
      refine X_iconst (v := nI 3) dX11_chair_53 (by decide) ?_
      refine X_imul dX11_chair_54 ?_
      refine X_topi (pk_mul q 3) ?_
      refine X_iload_n dX11_chair_55 rfl ?_
      refine X_iadd dX11_chair_56 ?_
      refine X_topi (nI_add (q * 3) 4) ?_
      refine X_iconst (v := nI 2) dX11_chair_57 (by decide) ?_
      refine X_isub dX11_chair_58 ?_
      refine X_topi (pk_sub (a := (q * 3) + 4) (b := 2) (by omega)) ?_
      refine X_topi (show nI (((q * 3) + 4) - 2) = nI (q * 3 + 2) from congrArg nI (by omega)) ?_
      refine X_iald (q * 3 + 2) dX11_chair_59 (k_59 hSh) rfl (by omega) ?_
      exact X_iret dX11_chair_60 rfl ⟨by first | exact congrArg (fun z => Sum.inl (some (Value.int z))) ((hcd.2.1 q hq).2.2) | rfl, hC1, hk1, hl1⟩
    · exact absurd h_2 (by omega)
  · exact absurd h_1 (by omega)
set_option maxRecDepth 100000 in
set_option maxHeartbeats 4000000 in
theorem r_chair_4 (Γ : pTG) (g : pGG) (mi : pMI) (ml : pML) (A : AS) (hA : okAS A) (hSh : Sh g) (hR : RI A mi) (q : Nat) (hq : q < (aP A).1)  : CT Γ 60 0 0 mX12_chair [.ref 87, .int (nI q), .int (nI 4)] g mi ml (RQ A (.inl ((DYd A).1 208 q)) cd2 g mi ml) := by
  refine CT_of (by decide +kernel) (Nat.le_of_ble_eq_true rfl) ?_
  have hP := hA.1
  have hG8 : aG A ≤ 8 := hP.2.1
  have hC8 : (aP A).1 ≤ 8 := hP.1
  refine X_aload_n dX12_chair_0 rfl ?_
  refine X_iconst (v := nI 0) dX12_chair_1 (by decide) ?_
  refine X_puti dX12_chair_2 fkX12_158 rfl rfl (k_87 hSh) ?_
  refine X_aload_n dX12_chair_5 rfl ?_
  refine X_aload_n dX12_chair_6 rfl ?_
  refine X_iload_n dX12_chair_7 rfl ?_
  refine X_callVI dX12_chair_8 mkX12_307 (k_87 hSh) (c_isChair Γ g (up2 mi 87 0 (nI 0)) ml hSh (nI q)) rfl rfl (by decide) (Nat.le_of_ble_eq_true rfl) ?_
  refine X_topi (show bI (decide (nI 0 ≤ nI q) && decide (nI q ≤ (up2 mi 87 0 (nI 0)) 91 0 - nI 1)) = nI 1 from congrArg bI (show (decide (nI 0 ≤ nI q) && decide (nI q ≤ (up2 mi 87 0 (nI 0)) 91 0 - nI 1)) = true from by rw [(show (up2 mi 87 0 (nI 0)) 91 0 = nI (aP A).1 from ((congrFun (up2_row (by omega)) _).trans hR.1.1))]; exact (gd_ref hC8).mpr ⟨q, hq, rfl⟩)) ?_
  refine X_if_neN (a := 1) 18 dX12_chair_11 (by decide) (by omega) (fun h_1 => ?_) (fun h_1 => ?_)
  · refine X_iconst (v := nI 0) dX12_chair_18 (by decide) ?_
    refine X_iconst (v := nI 1) dX12_chair_19 (by decide) ?_
    refine X_iconst (v := nI 0) dX12_chair_20 (by decide) ?_
    refine X_callVI dX12_chair_21 mkX12_228 (k_87 hSh) (c_bad0 Γ g (up2 mi 87 0 (nI 0)) ml hSh 1 0 up2_s) rfl rfl (by decide) (Nat.le_of_ble_eq_true rfl) ?_
    refine X_if_neN (a := 0) 50 dX12_chair_24 (by decide) (by omega) (fun h_2 => ?_) (fun h_2 => ?_)
    · exact absurd h_2 (by omega)
    · refine X_aload_n dX12_chair_27 rfl ?_
      refine X_iload_n dX12_chair_28 rfl ?_
      refine X_iconst (v := nI 0) dX12_chair_29 (by decide) ?_
      refine X_iconst (v := nI 4) dX12_chair_30 (by decide) ?_
      refine X_callSI dX12_chair_31 mkX12_192 (c_in Γ g (up2 mi 87 0 (nI 0)) ml (nI 4) (nI 0) (nI 4)) rfl rfl (by decide) (Nat.le_of_ble_eq_true rfl) ?_
      refine X_topi (show bI (decide (nI 0 ≤ nI 4) && decide (nI 4 ≤ nI 4)) = nI 1 from congrArg bI (show (decide (nI 0 ≤ nI 4) && decide (nI 4 ≤ nI 4)) = true from by decide)) ?_
      refine X_if_neN (a := 1) 41 dX12_chair_34 (by decide) (by omega) (fun h_3 => ?_) (fun h_3 => ?_)
      · refine X_iconst (v := nI 0) dX12_chair_41 (by decide) ?_
        refine X_iconst (v := nI 2) dX12_chair_42 (by decide) ?_
        refine X_iconst (v := nI 1) dX12_chair_43 (by decide) ?_
        refine X_callVI dX12_chair_44 mkX12_228 (k_87 hSh) (c_bad0 Γ g (up2 mi 87 0 (nI 0)) ml hSh 2 1 up2_s) rfl rfl (by decide) (Nat.le_of_ble_eq_true rfl) ?_
        refine X_if_eqN (a := 0) 52 dX12_chair_47 (by decide) (by omega) (fun h_4 => ?_) (fun h_4 => ?_)
        · refine X_iload_n dX12_chair_52 rfl ?_
          refine X_iconst (v := nI 2) dX12_chair_53 (by decide) ?_
          refine X_icmp_geN (a := 4) (b := 2) 66 dX12_chair_54 (by decide) (by omega) (by omega) (fun h_5 => ?_) (fun h_5 => ?_)
          · refine X_aload_n dX12_chair_66 rfl ?_
            have hw0 : frW mi (up2 mi 87 0 (nI 0)) := frW_u frW_r (by unfold rsF rsR; omega)
            refine X_callVrV dX12_chair_67 mkX12_353 (k_87 hSh) (r_dayK Γ g (up2 mi 87 0 (nI 0)) ml A hA hSh mi hR hw0) rfl rfl (by decide) (Nat.le_of_ble_eq_true rfl) (fun m1 l1 hm1 => ?_)
            obtain ⟨hrd, hfw, hf2, ht0, hrs, hl1⟩ := hm1
            rw [hl1]
            have hR1 := RI_fr hA hR hfw
            refine X_iload_n dX12_chair_70 rfl ?_
            refine X_iconst (v := nI 2) dX12_chair_71 (by decide) ?_
            refine X_icmp_neN (a := 4) (b := 2) 84 dX12_chair_72 (by decide) (by omega) (by omega) (fun h_6 => ?_) (fun h_6 => ?_)
            · refine X_iload_n dX12_chair_84 rfl ?_
              refine X_iconst (v := nI 3) dX12_chair_85 (by decide) ?_
              refine X_icmp_neN (a := 4) (b := 3) 98 dX12_chair_86 (by decide) (by omega) (by omega) (fun h_7 => ?_) (fun h_7 => ?_)
              · refine X_aload_n dX12_chair_98 rfl ?_
                refine X_getr (a := 208) dX12_chair_99 fkX12_113 rfl (k_87 hSh) (r_87_48 hSh) ?_
                refine X_iload_n dX12_chair_102 rfl ?_
                refine X_iald q dX12_chair_103 (k_208 hSh) rfl (by omega) ?_
                exact X_iret dX12_chair_104 rfl ⟨rfl, rfl, hR1, frM2_t (frM2_u frM2_r (by omega)) hf2, _, rfl, (hrd.2.1 q hq).2.2.1, ht0.trans up2_s⟩
              · exact absurd h_7 (by omega)
            · exact absurd h_6 (by omega)
          · exact absurd h_5 (by omega)
        · exact absurd h_4 (by omega)
      · exact absurd h_3 (by omega)
  · exact absurd h_1 (by omega)
theorem m_chair (A : AS) (hA : okAS A) (c : Int32) (w : Int32) : MOK mX11_chair mX12_chair cd2 [.int c, .int w] A := by
  by_cases hg0 : ∃ b, b < (aP A).1 ∧ c = nI b
  · obtain ⟨q, hq, rfl⟩ := hg0
    by_cases hg1 : nI 0 ≤ w ∧ w ≤ nI 4
    · obtain ⟨k, hka, hk, rfl⟩ := (wi_iff (by decide) (by decide)).mp hg1
      have hkk : k < 5 := by omega
      match k, hkk with
      | 0, _ => exact ⟨.inl (nI ((aP A).2.2.2.2.2.1 q 0)), A, hA, fun j h => (by cases h), fun Γ g m l hC => k_chair_0 Γ g m l A hA hC q hq , fun Γ g m l hSh hR => r_chair_0 Γ g m l A hA hSh hR q hq ⟩
      | 1, _ => exact ⟨.inl (nI ((aP A).2.2.2.2.2.1 q 1)), A, hA, fun j h => (by cases h), fun Γ g m l hC => k_chair_1 Γ g m l A hA hC q hq , fun Γ g m l hSh hR => r_chair_1 Γ g m l A hA hSh hR q hq ⟩
      | 2, _ => exact ⟨.inl ((DYd A).1 206 q), A, hA, fun j h => (by cases h), fun Γ g m l hC => k_chair_2 Γ g m l A hA hC q hq , fun Γ g m l hSh hR => r_chair_2 Γ g m l A hA hSh hR q hq ⟩
      | 3, _ => exact ⟨.inl ((DYd A).1 207 q), A, hA, fun j h => (by cases h), fun Γ g m l hC => k_chair_3 Γ g m l A hA hC q hq , fun Γ g m l hSh hR => r_chair_3 Γ g m l A hA hSh hR q hq ⟩
      | 4, _ => exact ⟨.inl ((DYd A).1 208 q), A, hA, fun j h => (by cases h), fun Γ g m l hC => k_chair_4 Γ g m l A hA hC q hq , fun Γ g m l hSh hR => r_chair_4 Γ g m l A hA hSh hR q hq ⟩
    · exact ⟨.inr 1, rfA A 1, ok_rf hA, fun j h => by cases h; decide, fun Γ g m l hC => k_chair_f1 Γ g m l A hA hC q hq w hg1, fun Γ g m l hSh hR => r_chair_f1 Γ g m l A hA hSh hR q hq w hg1⟩
  · exact ⟨.inr 0, rfA A 0, ok_rf hA, fun j h => by cases h; decide, fun Γ g m l hC => k_chair_f0 Γ g m l A hA hC c hg0 w, fun Γ g m l hSh hR => r_chair_f0 Γ g m l A hA hSh hR c hg0 w⟩
set_option maxRecDepth 100000 in
set_option maxHeartbeats 4000000 in
theorem k_did_f0 (Γ : pTG) (g : pGG) (mi : pMI) (ml : pML) (A : AS) (hA : okAS A) (hC : CI A g mi ml) (v : Int32) (hf : ¬ ∃ b, b < aG A ∧ v = nI b) (w : Int32) : CT Γ 60 20 5000 mX11_did [.ref 0, .int v, .int w] g mi ml (CQ (rfA A 0) (.inr 0) mi ml) := by
  refine CT_of (by decide +kernel) (Nat.le_of_ble_eq_true rfl) ?_
  have hSh := CI_Sh hC
  have hcl := CI_cl hC
  have hP := hA.1
  have hG8 : aG A ≤ 8 := hP.2.1
  have hC8 : (aP A).1 ≤ 8 := hP.1
  refine X_aload_n dX11_did_0 rfl ?_
  refine X_iload_n dX11_did_1 rfl ?_
  exact X_need dX11_did_2 mkX11_147 (k_0 hSh) (c_needGuest Γ g mi ml hSh v) rfl rfl (by decide) (by decide) (by decide) (by decide) (fun _ => ⟨rfl, CI_rf (by decide) hC, frK_86, rfl⟩) (fun h => absurd ((gd_iff hG8).mp (by rw [← hcl.2.1]; exact h)) hf)
set_option maxRecDepth 100000 in
set_option maxHeartbeats 4000000 in
theorem r_did_f0 (Γ : pTG) (g : pGG) (mi : pMI) (ml : pML) (A : AS) (hA : okAS A) (hSh : Sh g) (hR : RI A mi) (v : Int32) (hf : ¬ ∃ b, b < aG A ∧ v = nI b) (w : Int32) : CT Γ 60 0 0 mX12_did [.ref 87, .int v, .int w] g mi ml (RQ (rfA A 0) (.inr 0) cd2 g mi ml) := by
  refine CT_of (by decide +kernel) (Nat.le_of_ble_eq_true rfl) ?_
  have hP := hA.1
  have hG8 : aG A ≤ 8 := hP.2.1
  have hC8 : (aP A).1 ≤ 8 := hP.1
  refine X_aload_n dX12_did_0 rfl ?_
  refine X_iconst (v := nI 0) dX12_did_1 (by decide) ?_
  refine X_puti dX12_did_2 fkX12_158 rfl rfl (k_87 hSh) ?_
  refine X_aload_n dX12_did_5 rfl ?_
  refine X_aload_n dX12_did_6 rfl ?_
  refine X_iload_n dX12_did_7 rfl ?_
  refine X_callVI dX12_did_8 mkX12_285 (k_87 hSh) (c_isGuest Γ g (up2 mi 87 0 (nI 0)) ml hSh v) rfl rfl (by decide) (Nat.le_of_ble_eq_true rfl) ?_
  refine X_topi (show bI (decide (nI 0 ≤ v) && decide (v ≤ (up2 mi 87 0 (nI 0)) 91 1 - nI 1)) = nI 0 from congrArg bI (show (decide (nI 0 ≤ v) && decide (v ≤ (up2 mi 87 0 (nI 0)) 91 1 - nI 1)) = false from Bool.eq_false_iff.mpr (fun q => hf ((gd_ref hG8).mp (by rw [(show (up2 mi 87 0 (nI 0)) 91 1 = nI (aG A) from ((congrFun (up2_row (by omega)) _).trans hR.1.2.1))] at q; exact q))))) ?_
  refine X_if_neN (a := 0) 18 dX12_did_11 (by decide) (by omega) (fun h_1 => ?_) (fun h_1 => ?_)
  · exact absurd h_1 (by omega)
  · refine X_iconst (v := nI 1) dX12_did_14 (by decide) ?_
    refine X_goto 19 dX12_did_15 (by decide) ?_
    refine X_iconst (v := nI 1) dX12_did_19 (by decide) ?_
    refine X_iconst (v := nI 0) dX12_did_20 (by decide) ?_
    refine X_callVI dX12_did_21 mkX12_228 (k_87 hSh) (c_bad1 Γ g (up2 mi 87 0 (nI 0)) ml hSh 1 0 (by decide) (by decide) (by decide) up2_s) rfl rfl (by decide) (Nat.le_of_ble_eq_true rfl) ?_
    refine X_mi (show _ = mB mi 1 0 from rfl) ?_
    refine X_if_neN (a := 1) 51 dX12_did_24 (by decide) (by omega) (fun h_2 => ?_) (fun h_2 => ?_)
    · refine X_iconst (v := nI 0) dX12_did_51 (by decide) ?_
      exact X_iret dX12_did_52 rfl ⟨rfl, rfl, RI_rf hA (by decide) hR, fr2_B, _, rfl, mB_0⟩
    · exact absurd h_2 (by omega)
set_option maxRecDepth 100000 in
set_option maxHeartbeats 4000000 in
theorem k_did_f1 (Γ : pTG) (g : pGG) (mi : pMI) (ml : pML) (A : AS) (hA : okAS A) (hC : CI A g mi ml) (b : Nat) (hb : b < aG A) (w : Int32) (hf : ¬ (nI 0 ≤ w ∧ w ≤ nI 7)) : CT Γ 60 20 5000 mX11_did [.ref 0, .int (nI b), .int w] g mi ml (CQ (rfA A 1) (.inr 1) mi ml) := by
  refine CT_of (by decide +kernel) (Nat.le_of_ble_eq_true rfl) ?_
  have hSh := CI_Sh hC
  have hcl := CI_cl hC
  have hP := hA.1
  have hG8 : aG A ≤ 8 := hP.2.1
  have hC8 : (aP A).1 ≤ 8 := hP.1
  refine X_aload_n dX11_did_0 rfl ?_
  refine X_iload_n dX11_did_1 rfl ?_
  refine X_need dX11_did_2 mkX11_147 (k_0 hSh) (c_needGuest Γ g mi ml hSh (nI b)) rfl rfl (by decide) (by decide) (by decide) (by decide) (fun h => absurd (by rw [hcl.2.1]; exact (gd_iff hG8).mpr ⟨b, hb, rfl⟩) h) (fun _ => ?_)
  refine X_aload_n dX11_did_5 rfl ?_
  refine X_iload_n dX11_did_6 rfl ?_
  refine X_iconst (v := nI 0) dX11_did_7 (by decide) ?_
  refine X_bipush (v := nI 7) dX11_did_8 (by decide) ?_
  exact X_need dX11_did_10 mkX11_116 (k_0 hSh) (c_needWithin Γ g mi ml hSh w (nI 0) (nI 7)) rfl rfl (by decide) (by decide) (by decide) (by decide) (fun _ => ⟨rfl, CI_rf (by decide) hC, frK_86, rfl⟩) (fun h => absurd h hf)
set_option maxRecDepth 100000 in
set_option maxHeartbeats 4000000 in
theorem r_did_f1 (Γ : pTG) (g : pGG) (mi : pMI) (ml : pML) (A : AS) (hA : okAS A) (hSh : Sh g) (hR : RI A mi) (b : Nat) (hb : b < aG A) (w : Int32) (hf : ¬ (nI 0 ≤ w ∧ w ≤ nI 7)) : CT Γ 60 0 0 mX12_did [.ref 87, .int (nI b), .int w] g mi ml (RQ (rfA A 1) (.inr 1) cd2 g mi ml) := by
  refine CT_of (by decide +kernel) (Nat.le_of_ble_eq_true rfl) ?_
  have hP := hA.1
  have hG8 : aG A ≤ 8 := hP.2.1
  have hC8 : (aP A).1 ≤ 8 := hP.1
  refine X_aload_n dX12_did_0 rfl ?_
  refine X_iconst (v := nI 0) dX12_did_1 (by decide) ?_
  refine X_puti dX12_did_2 fkX12_158 rfl rfl (k_87 hSh) ?_
  refine X_aload_n dX12_did_5 rfl ?_
  refine X_aload_n dX12_did_6 rfl ?_
  refine X_iload_n dX12_did_7 rfl ?_
  refine X_callVI dX12_did_8 mkX12_285 (k_87 hSh) (c_isGuest Γ g (up2 mi 87 0 (nI 0)) ml hSh (nI b)) rfl rfl (by decide) (Nat.le_of_ble_eq_true rfl) ?_
  refine X_topi (show bI (decide (nI 0 ≤ nI b) && decide (nI b ≤ (up2 mi 87 0 (nI 0)) 91 1 - nI 1)) = nI 1 from congrArg bI (show (decide (nI 0 ≤ nI b) && decide (nI b ≤ (up2 mi 87 0 (nI 0)) 91 1 - nI 1)) = true from by rw [(show (up2 mi 87 0 (nI 0)) 91 1 = nI (aG A) from ((congrFun (up2_row (by omega)) _).trans hR.1.2.1))]; exact (gd_ref hG8).mpr ⟨b, hb, rfl⟩)) ?_
  refine X_if_neN (a := 1) 18 dX12_did_11 (by decide) (by omega) (fun h_1 => ?_) (fun h_1 => ?_)
  · refine X_iconst (v := nI 0) dX12_did_18 (by decide) ?_
    refine X_iconst (v := nI 1) dX12_did_19 (by decide) ?_
    refine X_iconst (v := nI 0) dX12_did_20 (by decide) ?_
    refine X_callVI dX12_did_21 mkX12_228 (k_87 hSh) (c_bad0 Γ g (up2 mi 87 0 (nI 0)) ml hSh 1 0 up2_s) rfl rfl (by decide) (Nat.le_of_ble_eq_true rfl) ?_
    refine X_if_neN (a := 0) 51 dX12_did_24 (by decide) (by omega) (fun h_2 => ?_) (fun h_2 => ?_)
    · exact absurd h_2 (by omega)
    · refine X_aload_n dX12_did_27 rfl ?_
      refine X_iload_n dX12_did_28 rfl ?_
      refine X_iconst (v := nI 0) dX12_did_29 (by decide) ?_
      refine X_bipush (v := nI 7) dX12_did_30 (by decide) ?_
      refine X_callSI dX12_did_32 mkX12_192 (c_in Γ g (up2 mi 87 0 (nI 0)) ml w (nI 0) (nI 7)) rfl rfl (by decide) (Nat.le_of_ble_eq_true rfl) ?_
      refine X_topi (show bI (decide (nI 0 ≤ w) && decide (w ≤ nI 7)) = nI 0 from congrArg bI (show (decide (nI 0 ≤ w) && decide (w ≤ nI 7)) = false from Bool.eq_false_iff.mpr (fun q => hf (by rw [Bool.and_eq_true, decide_eq_true_eq, decide_eq_true_eq] at q; exact q)))) ?_
      refine X_if_neN (a := 0) 42 dX12_did_35 (by decide) (by omega) (fun h_3 => ?_) (fun h_3 => ?_)
      · exact absurd h_3 (by omega)
      · refine X_iconst (v := nI 1) dX12_did_38 (by decide) ?_
        refine X_goto 43 dX12_did_39 (by decide) ?_
        refine X_iconst (v := nI 2) dX12_did_43 (by decide) ?_
        refine X_iconst (v := nI 1) dX12_did_44 (by decide) ?_
        refine X_callVI dX12_did_45 mkX12_228 (k_87 hSh) (c_bad1 Γ g (up2 mi 87 0 (nI 0)) ml hSh 2 1 (by decide) (by decide) (by decide) up2_s) rfl rfl (by decide) (Nat.le_of_ble_eq_true rfl) ?_
        refine X_mi (show _ = mB mi 2 1 from rfl) ?_
        refine X_if_eqN (a := 1) 53 dX12_did_48 (by decide) (by omega) (fun h_4 => ?_) (fun h_4 => ?_)
        · exact absurd h_4 (by omega)
        · refine X_iconst (v := nI 0) dX12_did_51 (by decide) ?_
          exact X_iret dX12_did_52 rfl ⟨rfl, rfl, RI_rf hA (by decide) hR, fr2_B, _, rfl, mB_0⟩
  · exact absurd h_1 (by omega)
set_option maxRecDepth 100000 in
set_option maxHeartbeats 4000000 in
theorem k_did_0 (Γ : pTG) (g : pGG) (mi : pMI) (ml : pML) (A : AS) (hA : okAS A) (hC : CI A g mi ml) (b : Nat) (hb : b < aG A)  : CT Γ 60 20 5000 mX11_did [.ref 0, .int (nI b), .int (nI 0)] g mi ml (CQ A (.inl (nI (mrn (aP A) (aH A) (aD A) b))) mi ml) := by
  refine CT_of (by decide +kernel) (Nat.le_of_ble_eq_true rfl) ?_
  have hSh := CI_Sh hC
  have hcl := CI_cl hC
  have hP := hA.1
  have hG8 : aG A ≤ 8 := hP.2.1
  have hC8 : (aP A).1 ≤ 8 := hP.1
  refine X_aload_n dX11_did_0 rfl ?_
  refine X_iload_n dX11_did_1 rfl ?_
  refine X_need dX11_did_2 mkX11_147 (k_0 hSh) (c_needGuest Γ g mi ml hSh (nI b)) rfl rfl (by decide) (by decide) (by decide) (by decide) (fun h => absurd (by rw [hcl.2.1]; exact (gd_iff hG8).mpr ⟨b, hb, rfl⟩) h) (fun _ => ?_)
  refine X_aload_n dX11_did_5 rfl ?_
  refine X_iload_n dX11_did_6 rfl ?_
  refine X_iconst (v := nI 0) dX11_did_7 (by decide) ?_
  refine X_bipush (v := nI 7) dX11_did_8 (by decide) ?_
  refine X_need dX11_did_10 mkX11_116 (k_0 hSh) (c_needWithin Γ g mi ml hSh (nI 0) (nI 0) (nI 7)) rfl rfl (by decide) (by decide) (by decide) (by decide) (fun h => absurd (by decide) h) (fun _ => ?_)
  refine X_aload_n dX11_did_13 rfl ?_
  refine X_callVrV dX11_did_14 mkX11_193 (k_0 hSh) (c_look Γ g mi ml A hA hC) rfl rfl (by decide) (Nat.le_of_ble_eq_true rfl) (fun m1 l1 hm1 => ?_)
  obtain ⟨⟨hC1, hcd⟩, hk1, hl1⟩ := hm1
  have hcl1 := CI_cl hC1
  refine X_aload_n dX11_did_17 rfl ?_
  refine X_getr (a := 57) dX11_did_18 fkX11_72 rfl (k_0 hSh) (r_0_9 hSh) ?_
  refine X_getr (a := 58) dX11_did_21 fkX11_215 rfl (k_57 hSh) (r_57_1 hSh) ?_
  refine X_iload_n dX11_did_24 rfl ?_
  refine X_bipush (v := nI 8) dX11_did_25 (by decide) ?_
  refine X_imul dX11_did_27 ?_
  refine X_topi (pk_mul b 8) ?_
  refine X_iload_n dX11_did_28 rfl ?_
  refine X_iadd dX11_did_29 ?_
  refine X_topi (nI_add (b * 8) 0) ?_
  refine X_iald ((b * 8) + 0) dX11_did_30 (k_58 hSh) rfl (by omega) ?_
  exact X_iret dX11_did_31 rfl ⟨congrArg (fun z => Sum.inl (some (Value.int z))) ((hcd.1 b hb).1), hC1, hk1, hl1⟩
set_option maxRecDepth 100000 in
set_option maxHeartbeats 4000000 in
theorem r_did_0 (Γ : pTG) (g : pGG) (mi : pMI) (ml : pML) (A : AS) (hA : okAS A) (hSh : Sh g) (hR : RI A mi) (b : Nat) (hb : b < aG A)  : CT Γ 60 0 0 mX12_did [.ref 87, .int (nI b), .int (nI 0)] g mi ml (RQ A (.inl (nI (mrn (aP A) (aH A) (aD A) b))) cd2 g mi ml) := by
  refine CT_of (by decide +kernel) (Nat.le_of_ble_eq_true rfl) ?_
  have hP := hA.1
  have hG8 : aG A ≤ 8 := hP.2.1
  have hC8 : (aP A).1 ≤ 8 := hP.1
  refine X_aload_n dX12_did_0 rfl ?_
  refine X_iconst (v := nI 0) dX12_did_1 (by decide) ?_
  refine X_puti dX12_did_2 fkX12_158 rfl rfl (k_87 hSh) ?_
  refine X_aload_n dX12_did_5 rfl ?_
  refine X_aload_n dX12_did_6 rfl ?_
  refine X_iload_n dX12_did_7 rfl ?_
  refine X_callVI dX12_did_8 mkX12_285 (k_87 hSh) (c_isGuest Γ g (up2 mi 87 0 (nI 0)) ml hSh (nI b)) rfl rfl (by decide) (Nat.le_of_ble_eq_true rfl) ?_
  refine X_topi (show bI (decide (nI 0 ≤ nI b) && decide (nI b ≤ (up2 mi 87 0 (nI 0)) 91 1 - nI 1)) = nI 1 from congrArg bI (show (decide (nI 0 ≤ nI b) && decide (nI b ≤ (up2 mi 87 0 (nI 0)) 91 1 - nI 1)) = true from by rw [(show (up2 mi 87 0 (nI 0)) 91 1 = nI (aG A) from ((congrFun (up2_row (by omega)) _).trans hR.1.2.1))]; exact (gd_ref hG8).mpr ⟨b, hb, rfl⟩)) ?_
  refine X_if_neN (a := 1) 18 dX12_did_11 (by decide) (by omega) (fun h_1 => ?_) (fun h_1 => ?_)
  · refine X_iconst (v := nI 0) dX12_did_18 (by decide) ?_
    refine X_iconst (v := nI 1) dX12_did_19 (by decide) ?_
    refine X_iconst (v := nI 0) dX12_did_20 (by decide) ?_
    refine X_callVI dX12_did_21 mkX12_228 (k_87 hSh) (c_bad0 Γ g (up2 mi 87 0 (nI 0)) ml hSh 1 0 up2_s) rfl rfl (by decide) (Nat.le_of_ble_eq_true rfl) ?_
    refine X_if_neN (a := 0) 51 dX12_did_24 (by decide) (by omega) (fun h_2 => ?_) (fun h_2 => ?_)
    · exact absurd h_2 (by omega)
    · refine X_aload_n dX12_did_27 rfl ?_
      refine X_iload_n dX12_did_28 rfl ?_
      refine X_iconst (v := nI 0) dX12_did_29 (by decide) ?_
      refine X_bipush (v := nI 7) dX12_did_30 (by decide) ?_
      refine X_callSI dX12_did_32 mkX12_192 (c_in Γ g (up2 mi 87 0 (nI 0)) ml (nI 0) (nI 0) (nI 7)) rfl rfl (by decide) (Nat.le_of_ble_eq_true rfl) ?_
      refine X_topi (show bI (decide (nI 0 ≤ nI 0) && decide (nI 0 ≤ nI 7)) = nI 1 from congrArg bI (show (decide (nI 0 ≤ nI 0) && decide (nI 0 ≤ nI 7)) = true from by decide)) ?_
      refine X_if_neN (a := 1) 42 dX12_did_35 (by decide) (by omega) (fun h_3 => ?_) (fun h_3 => ?_)
      · refine X_iconst (v := nI 0) dX12_did_42 (by decide) ?_
        refine X_iconst (v := nI 2) dX12_did_43 (by decide) ?_
        refine X_iconst (v := nI 1) dX12_did_44 (by decide) ?_
        refine X_callVI dX12_did_45 mkX12_228 (k_87 hSh) (c_bad0 Γ g (up2 mi 87 0 (nI 0)) ml hSh 2 1 up2_s) rfl rfl (by decide) (Nat.le_of_ble_eq_true rfl) ?_
        refine X_if_eqN (a := 0) 53 dX12_did_48 (by decide) (by omega) (fun h_4 => ?_) (fun h_4 => ?_)
        · refine X_aload_n dX12_did_53 rfl ?_
          have hw0 : frW mi (up2 mi 87 0 (nI 0)) := frW_u frW_r (by unfold rsF rsR; omega)
          refine X_callVrV dX12_did_54 mkX12_353 (k_87 hSh) (r_dayK Γ g (up2 mi 87 0 (nI 0)) ml A hA hSh mi hR hw0) rfl rfl (by decide) (Nat.le_of_ble_eq_true rfl) (fun m1 l1 hm1 => ?_)
          obtain ⟨hrd, hfw, hf2, ht0, hrs, hl1⟩ := hm1
          rw [hl1]
          have hR1 := RI_fr hA hR hfw
          refine X_iload_n dX12_did_57 rfl ?_
          refine X_tableIn 100 dX12_did_58 (by decide) (by decide) rfl (by decide) ?_
          refine X_aload_n dX12_did_100 rfl ?_
          refine X_getr (a := 194) dX12_did_101 fkX12_71 rfl (k_87 hSh) (r_87_34 hSh) ?_
          refine X_iload_n dX12_did_104 rfl ?_
          refine X_iald b dX12_did_105 (k_194 hSh) rfl (by omega) ?_
          exact X_iret dX12_did_106 rfl ⟨rfl, rfl, hR1, frM2_t (frM2_u frM2_r (by omega)) hf2, _, rfl, (hrd.1 b hb).1, ht0.trans up2_s⟩
        · exact absurd h_4 (by omega)
      · exact absurd h_3 (by omega)
  · exact absurd h_1 (by omega)
set_option maxRecDepth 100000 in
set_option maxHeartbeats 4000000 in
theorem k_did_1 (Γ : pTG) (g : pGG) (mi : pMI) (ml : pML) (A : AS) (hA : okAS A) (hC : CI A g mi ml) (b : Nat) (hb : b < aG A)  : CT Γ 60 20 5000 mX11_did [.ref 0, .int (nI b), .int (nI 1)] g mi ml (CQ A (.inl (oI ((DYd A).2.1 198 b))) mi ml) := by
  refine CT_of (by decide +kernel) (Nat.le_of_ble_eq_true rfl) ?_
  have hSh := CI_Sh hC
  have hcl := CI_cl hC
  have hP := hA.1
  have hG8 : aG A ≤ 8 := hP.2.1
  have hC8 : (aP A).1 ≤ 8 := hP.1
  refine X_aload_n dX11_did_0 rfl ?_
  refine X_iload_n dX11_did_1 rfl ?_
  refine X_need dX11_did_2 mkX11_147 (k_0 hSh) (c_needGuest Γ g mi ml hSh (nI b)) rfl rfl (by decide) (by decide) (by decide) (by decide) (fun h => absurd (by rw [hcl.2.1]; exact (gd_iff hG8).mpr ⟨b, hb, rfl⟩) h) (fun _ => ?_)
  refine X_aload_n dX11_did_5 rfl ?_
  refine X_iload_n dX11_did_6 rfl ?_
  refine X_iconst (v := nI 0) dX11_did_7 (by decide) ?_
  refine X_bipush (v := nI 7) dX11_did_8 (by decide) ?_
  refine X_need dX11_did_10 mkX11_116 (k_0 hSh) (c_needWithin Γ g mi ml hSh (nI 1) (nI 0) (nI 7)) rfl rfl (by decide) (by decide) (by decide) (by decide) (fun h => absurd (by decide) h) (fun _ => ?_)
  refine X_aload_n dX11_did_13 rfl ?_
  refine X_callVrV dX11_did_14 mkX11_193 (k_0 hSh) (c_look Γ g mi ml A hA hC) rfl rfl (by decide) (Nat.le_of_ble_eq_true rfl) (fun m1 l1 hm1 => ?_)
  obtain ⟨⟨hC1, hcd⟩, hk1, hl1⟩ := hm1
  have hcl1 := CI_cl hC1
  refine X_aload_n dX11_did_17 rfl ?_
  refine X_getr (a := 57) dX11_did_18 fkX11_72 rfl (k_0 hSh) (r_0_9 hSh) ?_
  refine X_getr (a := 58) dX11_did_21 fkX11_215 rfl (k_57 hSh) (r_57_1 hSh) ?_
  refine X_iload_n dX11_did_24 rfl ?_
  refine X_bipush (v := nI 8) dX11_did_25 (by decide) ?_
  refine X_imul dX11_did_27 ?_
  refine X_topi (pk_mul b 8) ?_
  refine X_iload_n dX11_did_28 rfl ?_
  refine X_iadd dX11_did_29 ?_
  refine X_topi (nI_add (b * 8) 1) ?_
  refine X_iald ((b * 8) + 1) dX11_did_30 (k_58 hSh) rfl (by omega) ?_
  exact X_iret dX11_did_31 rfl ⟨congrArg (fun z => Sum.inl (some (Value.int z))) ((hcd.1 b hb).2.1), hC1, hk1, hl1⟩
set_option maxRecDepth 100000 in
set_option maxHeartbeats 4000000 in
theorem r_did_1 (Γ : pTG) (g : pGG) (mi : pMI) (ml : pML) (A : AS) (hA : okAS A) (hSh : Sh g) (hR : RI A mi) (b : Nat) (hb : b < aG A)  : CT Γ 60 0 0 mX12_did [.ref 87, .int (nI b), .int (nI 1)] g mi ml (RQ A (.inl (oI ((DYd A).2.1 198 b))) cd2 g mi ml) := by
  refine CT_of (by decide +kernel) (Nat.le_of_ble_eq_true rfl) ?_
  have hP := hA.1
  have hG8 : aG A ≤ 8 := hP.2.1
  have hC8 : (aP A).1 ≤ 8 := hP.1
  refine X_aload_n dX12_did_0 rfl ?_
  refine X_iconst (v := nI 0) dX12_did_1 (by decide) ?_
  refine X_puti dX12_did_2 fkX12_158 rfl rfl (k_87 hSh) ?_
  refine X_aload_n dX12_did_5 rfl ?_
  refine X_aload_n dX12_did_6 rfl ?_
  refine X_iload_n dX12_did_7 rfl ?_
  refine X_callVI dX12_did_8 mkX12_285 (k_87 hSh) (c_isGuest Γ g (up2 mi 87 0 (nI 0)) ml hSh (nI b)) rfl rfl (by decide) (Nat.le_of_ble_eq_true rfl) ?_
  refine X_topi (show bI (decide (nI 0 ≤ nI b) && decide (nI b ≤ (up2 mi 87 0 (nI 0)) 91 1 - nI 1)) = nI 1 from congrArg bI (show (decide (nI 0 ≤ nI b) && decide (nI b ≤ (up2 mi 87 0 (nI 0)) 91 1 - nI 1)) = true from by rw [(show (up2 mi 87 0 (nI 0)) 91 1 = nI (aG A) from ((congrFun (up2_row (by omega)) _).trans hR.1.2.1))]; exact (gd_ref hG8).mpr ⟨b, hb, rfl⟩)) ?_
  refine X_if_neN (a := 1) 18 dX12_did_11 (by decide) (by omega) (fun h_1 => ?_) (fun h_1 => ?_)
  · refine X_iconst (v := nI 0) dX12_did_18 (by decide) ?_
    refine X_iconst (v := nI 1) dX12_did_19 (by decide) ?_
    refine X_iconst (v := nI 0) dX12_did_20 (by decide) ?_
    refine X_callVI dX12_did_21 mkX12_228 (k_87 hSh) (c_bad0 Γ g (up2 mi 87 0 (nI 0)) ml hSh 1 0 up2_s) rfl rfl (by decide) (Nat.le_of_ble_eq_true rfl) ?_
    refine X_if_neN (a := 0) 51 dX12_did_24 (by decide) (by omega) (fun h_2 => ?_) (fun h_2 => ?_)
    · exact absurd h_2 (by omega)
    · refine X_aload_n dX12_did_27 rfl ?_
      refine X_iload_n dX12_did_28 rfl ?_
      refine X_iconst (v := nI 0) dX12_did_29 (by decide) ?_
      refine X_bipush (v := nI 7) dX12_did_30 (by decide) ?_
      refine X_callSI dX12_did_32 mkX12_192 (c_in Γ g (up2 mi 87 0 (nI 0)) ml (nI 1) (nI 0) (nI 7)) rfl rfl (by decide) (Nat.le_of_ble_eq_true rfl) ?_
      refine X_topi (show bI (decide (nI 0 ≤ nI 1) && decide (nI 1 ≤ nI 7)) = nI 1 from congrArg bI (show (decide (nI 0 ≤ nI 1) && decide (nI 1 ≤ nI 7)) = true from by decide)) ?_
      refine X_if_neN (a := 1) 42 dX12_did_35 (by decide) (by omega) (fun h_3 => ?_) (fun h_3 => ?_)
      · refine X_iconst (v := nI 0) dX12_did_42 (by decide) ?_
        refine X_iconst (v := nI 2) dX12_did_43 (by decide) ?_
        refine X_iconst (v := nI 1) dX12_did_44 (by decide) ?_
        refine X_callVI dX12_did_45 mkX12_228 (k_87 hSh) (c_bad0 Γ g (up2 mi 87 0 (nI 0)) ml hSh 2 1 up2_s) rfl rfl (by decide) (Nat.le_of_ble_eq_true rfl) ?_
        refine X_if_eqN (a := 0) 53 dX12_did_48 (by decide) (by omega) (fun h_4 => ?_) (fun h_4 => ?_)
        · refine X_aload_n dX12_did_53 rfl ?_
          have hw0 : frW mi (up2 mi 87 0 (nI 0)) := frW_u frW_r (by unfold rsF rsR; omega)
          refine X_callVrV dX12_did_54 mkX12_353 (k_87 hSh) (r_dayK Γ g (up2 mi 87 0 (nI 0)) ml A hA hSh mi hR hw0) rfl rfl (by decide) (Nat.le_of_ble_eq_true rfl) (fun m1 l1 hm1 => ?_)
          obtain ⟨hrd, hfw, hf2, ht0, hrs, hl1⟩ := hm1
          rw [hl1]
          have hR1 := RI_fr hA hR hfw
          refine X_iload_n dX12_did_57 rfl ?_
          refine X_tableIn 107 dX12_did_58 (by decide) (by decide) rfl (by decide) ?_
          refine X_aload_n dX12_did_107 rfl ?_
          refine X_getr (a := 198) dX12_did_108 fkX12_83 rfl (k_87 hSh) (r_87_38 hSh) ?_
          refine X_iload_n dX12_did_111 rfl ?_
          refine X_iald b dX12_did_112 (k_198 hSh) rfl (by omega) ?_
          exact X_iret dX12_did_113 rfl ⟨rfl, rfl, hR1, frM2_t (frM2_u frM2_r (by omega)) hf2, _, rfl, (hrd.1 b hb).2.2.1, ht0.trans up2_s⟩
        · exact absurd h_4 (by omega)
      · exact absurd h_3 (by omega)
  · exact absurd h_1 (by omega)
set_option maxRecDepth 100000 in
set_option maxHeartbeats 4000000 in
theorem k_did_2 (Γ : pTG) (g : pGG) (mi : pMI) (ml : pML) (A : AS) (hA : okAS A) (hC : CI A g mi ml) (b : Nat) (hb : b < aG A)  : CT Γ 60 20 5000 mX11_did [.ref 0, .int (nI b), .int (nI 2)] g mi ml (CQ A (.inl ((DYd A).1 199 b)) mi ml) := by
  refine CT_of (by decide +kernel) (Nat.le_of_ble_eq_true rfl) ?_
  have hSh := CI_Sh hC
  have hcl := CI_cl hC
  have hP := hA.1
  have hG8 : aG A ≤ 8 := hP.2.1
  have hC8 : (aP A).1 ≤ 8 := hP.1
  refine X_aload_n dX11_did_0 rfl ?_
  refine X_iload_n dX11_did_1 rfl ?_
  refine X_need dX11_did_2 mkX11_147 (k_0 hSh) (c_needGuest Γ g mi ml hSh (nI b)) rfl rfl (by decide) (by decide) (by decide) (by decide) (fun h => absurd (by rw [hcl.2.1]; exact (gd_iff hG8).mpr ⟨b, hb, rfl⟩) h) (fun _ => ?_)
  refine X_aload_n dX11_did_5 rfl ?_
  refine X_iload_n dX11_did_6 rfl ?_
  refine X_iconst (v := nI 0) dX11_did_7 (by decide) ?_
  refine X_bipush (v := nI 7) dX11_did_8 (by decide) ?_
  refine X_need dX11_did_10 mkX11_116 (k_0 hSh) (c_needWithin Γ g mi ml hSh (nI 2) (nI 0) (nI 7)) rfl rfl (by decide) (by decide) (by decide) (by decide) (fun h => absurd (by decide) h) (fun _ => ?_)
  refine X_aload_n dX11_did_13 rfl ?_
  refine X_callVrV dX11_did_14 mkX11_193 (k_0 hSh) (c_look Γ g mi ml A hA hC) rfl rfl (by decide) (Nat.le_of_ble_eq_true rfl) (fun m1 l1 hm1 => ?_)
  obtain ⟨⟨hC1, hcd⟩, hk1, hl1⟩ := hm1
  have hcl1 := CI_cl hC1
  refine X_aload_n dX11_did_17 rfl ?_
  refine X_getr (a := 57) dX11_did_18 fkX11_72 rfl (k_0 hSh) (r_0_9 hSh) ?_
  refine X_getr (a := 58) dX11_did_21 fkX11_215 rfl (k_57 hSh) (r_57_1 hSh) ?_
  refine X_iload_n dX11_did_24 rfl ?_
  refine X_bipush (v := nI 8) dX11_did_25 (by decide) ?_
  refine X_imul dX11_did_27 ?_
  refine X_topi (pk_mul b 8) ?_
  refine X_iload_n dX11_did_28 rfl ?_
  refine X_iadd dX11_did_29 ?_
  refine X_topi (nI_add (b * 8) 2) ?_
  refine X_iald ((b * 8) + 2) dX11_did_30 (k_58 hSh) rfl (by omega) ?_
  exact X_iret dX11_did_31 rfl ⟨congrArg (fun z => Sum.inl (some (Value.int z))) ((hcd.1 b hb).2.2.1), hC1, hk1, hl1⟩
set_option maxRecDepth 100000 in
set_option maxHeartbeats 4000000 in
theorem r_did_2 (Γ : pTG) (g : pGG) (mi : pMI) (ml : pML) (A : AS) (hA : okAS A) (hSh : Sh g) (hR : RI A mi) (b : Nat) (hb : b < aG A)  : CT Γ 60 0 0 mX12_did [.ref 87, .int (nI b), .int (nI 2)] g mi ml (RQ A (.inl ((DYd A).1 199 b)) cd2 g mi ml) := by
  refine CT_of (by decide +kernel) (Nat.le_of_ble_eq_true rfl) ?_
  have hP := hA.1
  have hG8 : aG A ≤ 8 := hP.2.1
  have hC8 : (aP A).1 ≤ 8 := hP.1
  refine X_aload_n dX12_did_0 rfl ?_
  refine X_iconst (v := nI 0) dX12_did_1 (by decide) ?_
  refine X_puti dX12_did_2 fkX12_158 rfl rfl (k_87 hSh) ?_
  refine X_aload_n dX12_did_5 rfl ?_
  refine X_aload_n dX12_did_6 rfl ?_
  refine X_iload_n dX12_did_7 rfl ?_
  refine X_callVI dX12_did_8 mkX12_285 (k_87 hSh) (c_isGuest Γ g (up2 mi 87 0 (nI 0)) ml hSh (nI b)) rfl rfl (by decide) (Nat.le_of_ble_eq_true rfl) ?_
  refine X_topi (show bI (decide (nI 0 ≤ nI b) && decide (nI b ≤ (up2 mi 87 0 (nI 0)) 91 1 - nI 1)) = nI 1 from congrArg bI (show (decide (nI 0 ≤ nI b) && decide (nI b ≤ (up2 mi 87 0 (nI 0)) 91 1 - nI 1)) = true from by rw [(show (up2 mi 87 0 (nI 0)) 91 1 = nI (aG A) from ((congrFun (up2_row (by omega)) _).trans hR.1.2.1))]; exact (gd_ref hG8).mpr ⟨b, hb, rfl⟩)) ?_
  refine X_if_neN (a := 1) 18 dX12_did_11 (by decide) (by omega) (fun h_1 => ?_) (fun h_1 => ?_)
  · refine X_iconst (v := nI 0) dX12_did_18 (by decide) ?_
    refine X_iconst (v := nI 1) dX12_did_19 (by decide) ?_
    refine X_iconst (v := nI 0) dX12_did_20 (by decide) ?_
    refine X_callVI dX12_did_21 mkX12_228 (k_87 hSh) (c_bad0 Γ g (up2 mi 87 0 (nI 0)) ml hSh 1 0 up2_s) rfl rfl (by decide) (Nat.le_of_ble_eq_true rfl) ?_
    refine X_if_neN (a := 0) 51 dX12_did_24 (by decide) (by omega) (fun h_2 => ?_) (fun h_2 => ?_)
    · exact absurd h_2 (by omega)
    · refine X_aload_n dX12_did_27 rfl ?_
      refine X_iload_n dX12_did_28 rfl ?_
      refine X_iconst (v := nI 0) dX12_did_29 (by decide) ?_
      refine X_bipush (v := nI 7) dX12_did_30 (by decide) ?_
      refine X_callSI dX12_did_32 mkX12_192 (c_in Γ g (up2 mi 87 0 (nI 0)) ml (nI 2) (nI 0) (nI 7)) rfl rfl (by decide) (Nat.le_of_ble_eq_true rfl) ?_
      refine X_topi (show bI (decide (nI 0 ≤ nI 2) && decide (nI 2 ≤ nI 7)) = nI 1 from congrArg bI (show (decide (nI 0 ≤ nI 2) && decide (nI 2 ≤ nI 7)) = true from by decide)) ?_
      refine X_if_neN (a := 1) 42 dX12_did_35 (by decide) (by omega) (fun h_3 => ?_) (fun h_3 => ?_)
      · refine X_iconst (v := nI 0) dX12_did_42 (by decide) ?_
        refine X_iconst (v := nI 2) dX12_did_43 (by decide) ?_
        refine X_iconst (v := nI 1) dX12_did_44 (by decide) ?_
        refine X_callVI dX12_did_45 mkX12_228 (k_87 hSh) (c_bad0 Γ g (up2 mi 87 0 (nI 0)) ml hSh 2 1 up2_s) rfl rfl (by decide) (Nat.le_of_ble_eq_true rfl) ?_
        refine X_if_eqN (a := 0) 53 dX12_did_48 (by decide) (by omega) (fun h_4 => ?_) (fun h_4 => ?_)
        · refine X_aload_n dX12_did_53 rfl ?_
          have hw0 : frW mi (up2 mi 87 0 (nI 0)) := frW_u frW_r (by unfold rsF rsR; omega)
          refine X_callVrV dX12_did_54 mkX12_353 (k_87 hSh) (r_dayK Γ g (up2 mi 87 0 (nI 0)) ml A hA hSh mi hR hw0) rfl rfl (by decide) (Nat.le_of_ble_eq_true rfl) (fun m1 l1 hm1 => ?_)
          obtain ⟨hrd, hfw, hf2, ht0, hrs, hl1⟩ := hm1
          rw [hl1]
          have hR1 := RI_fr hA hR hfw
          refine X_iload_n dX12_did_57 rfl ?_
          refine X_tableIn 114 dX12_did_58 (by decide) (by decide) rfl (by decide) ?_
          refine X_aload_n dX12_did_114 rfl ?_
          refine X_getr (a := 199) dX12_did_115 fkX12_86 rfl (k_87 hSh) (r_87_39 hSh) ?_
          refine X_iload_n dX12_did_118 rfl ?_
          refine X_iald b dX12_did_119 (k_199 hSh) rfl (by omega) ?_
          exact X_iret dX12_did_120 rfl ⟨rfl, rfl, hR1, frM2_t (frM2_u frM2_r (by omega)) hf2, _, rfl, (hrd.1 b hb).2.2.2.1, ht0.trans up2_s⟩
        · exact absurd h_4 (by omega)
      · exact absurd h_3 (by omega)
  · exact absurd h_1 (by omega)
set_option maxRecDepth 100000 in
set_option maxHeartbeats 4000000 in
theorem k_did_3 (Γ : pTG) (g : pGG) (mi : pMI) (ml : pML) (A : AS) (hA : okAS A) (hC : CI A g mi ml) (b : Nat) (hb : b < aG A)  : CT Γ 60 20 5000 mX11_did [.ref 0, .int (nI b), .int (nI 3)] g mi ml (CQ A (.inl ((DYd A).1 200 b)) mi ml) := by
  refine CT_of (by decide +kernel) (Nat.le_of_ble_eq_true rfl) ?_
  have hSh := CI_Sh hC
  have hcl := CI_cl hC
  have hP := hA.1
  have hG8 : aG A ≤ 8 := hP.2.1
  have hC8 : (aP A).1 ≤ 8 := hP.1
  refine X_aload_n dX11_did_0 rfl ?_
  refine X_iload_n dX11_did_1 rfl ?_
  refine X_need dX11_did_2 mkX11_147 (k_0 hSh) (c_needGuest Γ g mi ml hSh (nI b)) rfl rfl (by decide) (by decide) (by decide) (by decide) (fun h => absurd (by rw [hcl.2.1]; exact (gd_iff hG8).mpr ⟨b, hb, rfl⟩) h) (fun _ => ?_)
  refine X_aload_n dX11_did_5 rfl ?_
  refine X_iload_n dX11_did_6 rfl ?_
  refine X_iconst (v := nI 0) dX11_did_7 (by decide) ?_
  refine X_bipush (v := nI 7) dX11_did_8 (by decide) ?_
  refine X_need dX11_did_10 mkX11_116 (k_0 hSh) (c_needWithin Γ g mi ml hSh (nI 3) (nI 0) (nI 7)) rfl rfl (by decide) (by decide) (by decide) (by decide) (fun h => absurd (by decide) h) (fun _ => ?_)
  refine X_aload_n dX11_did_13 rfl ?_
  refine X_callVrV dX11_did_14 mkX11_193 (k_0 hSh) (c_look Γ g mi ml A hA hC) rfl rfl (by decide) (Nat.le_of_ble_eq_true rfl) (fun m1 l1 hm1 => ?_)
  obtain ⟨⟨hC1, hcd⟩, hk1, hl1⟩ := hm1
  have hcl1 := CI_cl hC1
  refine X_aload_n dX11_did_17 rfl ?_
  refine X_getr (a := 57) dX11_did_18 fkX11_72 rfl (k_0 hSh) (r_0_9 hSh) ?_
  refine X_getr (a := 58) dX11_did_21 fkX11_215 rfl (k_57 hSh) (r_57_1 hSh) ?_
  refine X_iload_n dX11_did_24 rfl ?_
  refine X_bipush (v := nI 8) dX11_did_25 (by decide) ?_
  refine X_imul dX11_did_27 ?_
  refine X_topi (pk_mul b 8) ?_
  refine X_iload_n dX11_did_28 rfl ?_
  refine X_iadd dX11_did_29 ?_
  refine X_topi (nI_add (b * 8) 3) ?_
  refine X_iald ((b * 8) + 3) dX11_did_30 (k_58 hSh) rfl (by omega) ?_
  exact X_iret dX11_did_31 rfl ⟨congrArg (fun z => Sum.inl (some (Value.int z))) ((hcd.1 b hb).2.2.2.1), hC1, hk1, hl1⟩
set_option maxRecDepth 100000 in
set_option maxHeartbeats 4000000 in
theorem r_did_3 (Γ : pTG) (g : pGG) (mi : pMI) (ml : pML) (A : AS) (hA : okAS A) (hSh : Sh g) (hR : RI A mi) (b : Nat) (hb : b < aG A)  : CT Γ 60 0 0 mX12_did [.ref 87, .int (nI b), .int (nI 3)] g mi ml (RQ A (.inl ((DYd A).1 200 b)) cd2 g mi ml) := by
  refine CT_of (by decide +kernel) (Nat.le_of_ble_eq_true rfl) ?_
  have hP := hA.1
  have hG8 : aG A ≤ 8 := hP.2.1
  have hC8 : (aP A).1 ≤ 8 := hP.1
  refine X_aload_n dX12_did_0 rfl ?_
  refine X_iconst (v := nI 0) dX12_did_1 (by decide) ?_
  refine X_puti dX12_did_2 fkX12_158 rfl rfl (k_87 hSh) ?_
  refine X_aload_n dX12_did_5 rfl ?_
  refine X_aload_n dX12_did_6 rfl ?_
  refine X_iload_n dX12_did_7 rfl ?_
  refine X_callVI dX12_did_8 mkX12_285 (k_87 hSh) (c_isGuest Γ g (up2 mi 87 0 (nI 0)) ml hSh (nI b)) rfl rfl (by decide) (Nat.le_of_ble_eq_true rfl) ?_
  refine X_topi (show bI (decide (nI 0 ≤ nI b) && decide (nI b ≤ (up2 mi 87 0 (nI 0)) 91 1 - nI 1)) = nI 1 from congrArg bI (show (decide (nI 0 ≤ nI b) && decide (nI b ≤ (up2 mi 87 0 (nI 0)) 91 1 - nI 1)) = true from by rw [(show (up2 mi 87 0 (nI 0)) 91 1 = nI (aG A) from ((congrFun (up2_row (by omega)) _).trans hR.1.2.1))]; exact (gd_ref hG8).mpr ⟨b, hb, rfl⟩)) ?_
  refine X_if_neN (a := 1) 18 dX12_did_11 (by decide) (by omega) (fun h_1 => ?_) (fun h_1 => ?_)
  · refine X_iconst (v := nI 0) dX12_did_18 (by decide) ?_
    refine X_iconst (v := nI 1) dX12_did_19 (by decide) ?_
    refine X_iconst (v := nI 0) dX12_did_20 (by decide) ?_
    refine X_callVI dX12_did_21 mkX12_228 (k_87 hSh) (c_bad0 Γ g (up2 mi 87 0 (nI 0)) ml hSh 1 0 up2_s) rfl rfl (by decide) (Nat.le_of_ble_eq_true rfl) ?_
    refine X_if_neN (a := 0) 51 dX12_did_24 (by decide) (by omega) (fun h_2 => ?_) (fun h_2 => ?_)
    · exact absurd h_2 (by omega)
    · refine X_aload_n dX12_did_27 rfl ?_
      refine X_iload_n dX12_did_28 rfl ?_
      refine X_iconst (v := nI 0) dX12_did_29 (by decide) ?_
      refine X_bipush (v := nI 7) dX12_did_30 (by decide) ?_
      refine X_callSI dX12_did_32 mkX12_192 (c_in Γ g (up2 mi 87 0 (nI 0)) ml (nI 3) (nI 0) (nI 7)) rfl rfl (by decide) (Nat.le_of_ble_eq_true rfl) ?_
      refine X_topi (show bI (decide (nI 0 ≤ nI 3) && decide (nI 3 ≤ nI 7)) = nI 1 from congrArg bI (show (decide (nI 0 ≤ nI 3) && decide (nI 3 ≤ nI 7)) = true from by decide)) ?_
      refine X_if_neN (a := 1) 42 dX12_did_35 (by decide) (by omega) (fun h_3 => ?_) (fun h_3 => ?_)
      · refine X_iconst (v := nI 0) dX12_did_42 (by decide) ?_
        refine X_iconst (v := nI 2) dX12_did_43 (by decide) ?_
        refine X_iconst (v := nI 1) dX12_did_44 (by decide) ?_
        refine X_callVI dX12_did_45 mkX12_228 (k_87 hSh) (c_bad0 Γ g (up2 mi 87 0 (nI 0)) ml hSh 2 1 up2_s) rfl rfl (by decide) (Nat.le_of_ble_eq_true rfl) ?_
        refine X_if_eqN (a := 0) 53 dX12_did_48 (by decide) (by omega) (fun h_4 => ?_) (fun h_4 => ?_)
        · refine X_aload_n dX12_did_53 rfl ?_
          have hw0 : frW mi (up2 mi 87 0 (nI 0)) := frW_u frW_r (by unfold rsF rsR; omega)
          refine X_callVrV dX12_did_54 mkX12_353 (k_87 hSh) (r_dayK Γ g (up2 mi 87 0 (nI 0)) ml A hA hSh mi hR hw0) rfl rfl (by decide) (Nat.le_of_ble_eq_true rfl) (fun m1 l1 hm1 => ?_)
          obtain ⟨hrd, hfw, hf2, ht0, hrs, hl1⟩ := hm1
          rw [hl1]
          have hR1 := RI_fr hA hR hfw
          refine X_iload_n dX12_did_57 rfl ?_
          refine X_tableIn 121 dX12_did_58 (by decide) (by decide) rfl (by decide) ?_
          refine X_aload_n dX12_did_121 rfl ?_
          refine X_getr (a := 200) dX12_did_122 fkX12_89 rfl (k_87 hSh) (r_87_40 hSh) ?_
          refine X_iload_n dX12_did_125 rfl ?_
          refine X_iald b dX12_did_126 (k_200 hSh) rfl (by omega) ?_
          exact X_iret dX12_did_127 rfl ⟨rfl, rfl, hR1, frM2_t (frM2_u frM2_r (by omega)) hf2, _, rfl, (hrd.1 b hb).2.2.2.2.1, ht0.trans up2_s⟩
        · exact absurd h_4 (by omega)
      · exact absurd h_3 (by omega)
  · exact absurd h_1 (by omega)
set_option maxRecDepth 100000 in
set_option maxHeartbeats 4000000 in
theorem k_did_4 (Γ : pTG) (g : pGG) (mi : pMI) (ml : pML) (A : AS) (hA : okAS A) (hC : CI A g mi ml) (b : Nat) (hb : b < aG A)  : CT Γ 60 20 5000 mX11_did [.ref 0, .int (nI b), .int (nI 4)] g mi ml (CQ A (.inl (netM (wD (DYd A)) b)) mi ml) := by
  refine CT_of (by decide +kernel) (Nat.le_of_ble_eq_true rfl) ?_
  have hSh := CI_Sh hC
  have hcl := CI_cl hC
  have hP := hA.1
  have hG8 : aG A ≤ 8 := hP.2.1
  have hC8 : (aP A).1 ≤ 8 := hP.1
  refine X_aload_n dX11_did_0 rfl ?_
  refine X_iload_n dX11_did_1 rfl ?_
  refine X_need dX11_did_2 mkX11_147 (k_0 hSh) (c_needGuest Γ g mi ml hSh (nI b)) rfl rfl (by decide) (by decide) (by decide) (by decide) (fun h => absurd (by rw [hcl.2.1]; exact (gd_iff hG8).mpr ⟨b, hb, rfl⟩) h) (fun _ => ?_)
  refine X_aload_n dX11_did_5 rfl ?_
  refine X_iload_n dX11_did_6 rfl ?_
  refine X_iconst (v := nI 0) dX11_did_7 (by decide) ?_
  refine X_bipush (v := nI 7) dX11_did_8 (by decide) ?_
  refine X_need dX11_did_10 mkX11_116 (k_0 hSh) (c_needWithin Γ g mi ml hSh (nI 4) (nI 0) (nI 7)) rfl rfl (by decide) (by decide) (by decide) (by decide) (fun h => absurd (by decide) h) (fun _ => ?_)
  refine X_aload_n dX11_did_13 rfl ?_
  refine X_callVrV dX11_did_14 mkX11_193 (k_0 hSh) (c_look Γ g mi ml A hA hC) rfl rfl (by decide) (Nat.le_of_ble_eq_true rfl) (fun m1 l1 hm1 => ?_)
  obtain ⟨⟨hC1, hcd⟩, hk1, hl1⟩ := hm1
  have hcl1 := CI_cl hC1
  refine X_aload_n dX11_did_17 rfl ?_
  refine X_getr (a := 57) dX11_did_18 fkX11_72 rfl (k_0 hSh) (r_0_9 hSh) ?_
  refine X_getr (a := 58) dX11_did_21 fkX11_215 rfl (k_57 hSh) (r_57_1 hSh) ?_
  refine X_iload_n dX11_did_24 rfl ?_
  refine X_bipush (v := nI 8) dX11_did_25 (by decide) ?_
  refine X_imul dX11_did_27 ?_
  refine X_topi (pk_mul b 8) ?_
  refine X_iload_n dX11_did_28 rfl ?_
  refine X_iadd dX11_did_29 ?_
  refine X_topi (nI_add (b * 8) 4) ?_
  refine X_iald ((b * 8) + 4) dX11_did_30 (k_58 hSh) rfl (by omega) ?_
  exact X_iret dX11_did_31 rfl ⟨congrArg (fun z => Sum.inl (some (Value.int z))) ((hcd.1 b hb).2.2.2.2.1), hC1, hk1, hl1⟩
set_option maxRecDepth 100000 in
set_option maxHeartbeats 4000000 in
theorem r_did_4 (Γ : pTG) (g : pGG) (mi : pMI) (ml : pML) (A : AS) (hA : okAS A) (hSh : Sh g) (hR : RI A mi) (b : Nat) (hb : b < aG A)  : CT Γ 60 0 0 mX12_did [.ref 87, .int (nI b), .int (nI 4)] g mi ml (RQ A (.inl (netM (wD (DYd A)) b)) cd2 g mi ml) := by
  refine CT_of (by decide +kernel) (Nat.le_of_ble_eq_true rfl) ?_
  have hP := hA.1
  have hG8 : aG A ≤ 8 := hP.2.1
  have hC8 : (aP A).1 ≤ 8 := hP.1
  refine X_aload_n dX12_did_0 rfl ?_
  refine X_iconst (v := nI 0) dX12_did_1 (by decide) ?_
  refine X_puti dX12_did_2 fkX12_158 rfl rfl (k_87 hSh) ?_
  refine X_aload_n dX12_did_5 rfl ?_
  refine X_aload_n dX12_did_6 rfl ?_
  refine X_iload_n dX12_did_7 rfl ?_
  refine X_callVI dX12_did_8 mkX12_285 (k_87 hSh) (c_isGuest Γ g (up2 mi 87 0 (nI 0)) ml hSh (nI b)) rfl rfl (by decide) (Nat.le_of_ble_eq_true rfl) ?_
  refine X_topi (show bI (decide (nI 0 ≤ nI b) && decide (nI b ≤ (up2 mi 87 0 (nI 0)) 91 1 - nI 1)) = nI 1 from congrArg bI (show (decide (nI 0 ≤ nI b) && decide (nI b ≤ (up2 mi 87 0 (nI 0)) 91 1 - nI 1)) = true from by rw [(show (up2 mi 87 0 (nI 0)) 91 1 = nI (aG A) from ((congrFun (up2_row (by omega)) _).trans hR.1.2.1))]; exact (gd_ref hG8).mpr ⟨b, hb, rfl⟩)) ?_
  refine X_if_neN (a := 1) 18 dX12_did_11 (by decide) (by omega) (fun h_1 => ?_) (fun h_1 => ?_)
  · refine X_iconst (v := nI 0) dX12_did_18 (by decide) ?_
    refine X_iconst (v := nI 1) dX12_did_19 (by decide) ?_
    refine X_iconst (v := nI 0) dX12_did_20 (by decide) ?_
    refine X_callVI dX12_did_21 mkX12_228 (k_87 hSh) (c_bad0 Γ g (up2 mi 87 0 (nI 0)) ml hSh 1 0 up2_s) rfl rfl (by decide) (Nat.le_of_ble_eq_true rfl) ?_
    refine X_if_neN (a := 0) 51 dX12_did_24 (by decide) (by omega) (fun h_2 => ?_) (fun h_2 => ?_)
    · exact absurd h_2 (by omega)
    · refine X_aload_n dX12_did_27 rfl ?_
      refine X_iload_n dX12_did_28 rfl ?_
      refine X_iconst (v := nI 0) dX12_did_29 (by decide) ?_
      refine X_bipush (v := nI 7) dX12_did_30 (by decide) ?_
      refine X_callSI dX12_did_32 mkX12_192 (c_in Γ g (up2 mi 87 0 (nI 0)) ml (nI 4) (nI 0) (nI 7)) rfl rfl (by decide) (Nat.le_of_ble_eq_true rfl) ?_
      refine X_topi (show bI (decide (nI 0 ≤ nI 4) && decide (nI 4 ≤ nI 7)) = nI 1 from congrArg bI (show (decide (nI 0 ≤ nI 4) && decide (nI 4 ≤ nI 7)) = true from by decide)) ?_
      refine X_if_neN (a := 1) 42 dX12_did_35 (by decide) (by omega) (fun h_3 => ?_) (fun h_3 => ?_)
      · refine X_iconst (v := nI 0) dX12_did_42 (by decide) ?_
        refine X_iconst (v := nI 2) dX12_did_43 (by decide) ?_
        refine X_iconst (v := nI 1) dX12_did_44 (by decide) ?_
        refine X_callVI dX12_did_45 mkX12_228 (k_87 hSh) (c_bad0 Γ g (up2 mi 87 0 (nI 0)) ml hSh 2 1 up2_s) rfl rfl (by decide) (Nat.le_of_ble_eq_true rfl) ?_
        refine X_if_eqN (a := 0) 53 dX12_did_48 (by decide) (by omega) (fun h_4 => ?_) (fun h_4 => ?_)
        · refine X_aload_n dX12_did_53 rfl ?_
          have hw0 : frW mi (up2 mi 87 0 (nI 0)) := frW_u frW_r (by unfold rsF rsR; omega)
          refine X_callVrV dX12_did_54 mkX12_353 (k_87 hSh) (r_dayK Γ g (up2 mi 87 0 (nI 0)) ml A hA hSh mi hR hw0) rfl rfl (by decide) (Nat.le_of_ble_eq_true rfl) (fun m1 l1 hm1 => ?_)
          obtain ⟨hrd, hfw, hf2, ht0, hrs, hl1⟩ := hm1
          rw [hl1]
          have hR1 := RI_fr hA hR hfw
          refine X_iload_n dX12_did_57 rfl ?_
          refine X_tableIn 128 dX12_did_58 (by decide) (by decide) rfl (by decide) ?_
          refine X_aload_n dX12_did_128 rfl ?_
          refine X_iload_n dX12_did_129 rfl ?_
          refine X_callVI dX12_did_130 mkX12_356 (k_87 hSh) (c_netOf Γ g m1 ml hSh b (by omega)) rfl rfl (by decide) (Nat.le_of_ble_eq_true rfl) ?_
          exact X_iret dX12_did_133 rfl ⟨rfl, rfl, hR1, frM2_t (frM2_u frM2_r (by omega)) hf2, _, rfl, (hrd.1 b hb).2.2.2.2.2.1, ht0.trans up2_s⟩
        · exact absurd h_4 (by omega)
      · exact absurd h_3 (by omega)
  · exact absurd h_1 (by omega)
set_option maxRecDepth 100000 in
set_option maxHeartbeats 4000000 in
theorem k_did_5 (Γ : pTG) (g : pGG) (mi : pMI) (ml : pML) (A : AS) (hA : okAS A) (hC : CI A g mi ml) (b : Nat) (hb : b < aG A)  : CT Γ 60 20 5000 mX11_did [.ref 0, .int (nI b), .int (nI 5)] g mi ml (CQ A (.inl ((DYd A).1 201 b)) mi ml) := by
  refine CT_of (by decide +kernel) (Nat.le_of_ble_eq_true rfl) ?_
  have hSh := CI_Sh hC
  have hcl := CI_cl hC
  have hP := hA.1
  have hG8 : aG A ≤ 8 := hP.2.1
  have hC8 : (aP A).1 ≤ 8 := hP.1
  refine X_aload_n dX11_did_0 rfl ?_
  refine X_iload_n dX11_did_1 rfl ?_
  refine X_need dX11_did_2 mkX11_147 (k_0 hSh) (c_needGuest Γ g mi ml hSh (nI b)) rfl rfl (by decide) (by decide) (by decide) (by decide) (fun h => absurd (by rw [hcl.2.1]; exact (gd_iff hG8).mpr ⟨b, hb, rfl⟩) h) (fun _ => ?_)
  refine X_aload_n dX11_did_5 rfl ?_
  refine X_iload_n dX11_did_6 rfl ?_
  refine X_iconst (v := nI 0) dX11_did_7 (by decide) ?_
  refine X_bipush (v := nI 7) dX11_did_8 (by decide) ?_
  refine X_need dX11_did_10 mkX11_116 (k_0 hSh) (c_needWithin Γ g mi ml hSh (nI 5) (nI 0) (nI 7)) rfl rfl (by decide) (by decide) (by decide) (by decide) (fun h => absurd (by decide) h) (fun _ => ?_)
  refine X_aload_n dX11_did_13 rfl ?_
  refine X_callVrV dX11_did_14 mkX11_193 (k_0 hSh) (c_look Γ g mi ml A hA hC) rfl rfl (by decide) (Nat.le_of_ble_eq_true rfl) (fun m1 l1 hm1 => ?_)
  obtain ⟨⟨hC1, hcd⟩, hk1, hl1⟩ := hm1
  have hcl1 := CI_cl hC1
  refine X_aload_n dX11_did_17 rfl ?_
  refine X_getr (a := 57) dX11_did_18 fkX11_72 rfl (k_0 hSh) (r_0_9 hSh) ?_
  refine X_getr (a := 58) dX11_did_21 fkX11_215 rfl (k_57 hSh) (r_57_1 hSh) ?_
  refine X_iload_n dX11_did_24 rfl ?_
  refine X_bipush (v := nI 8) dX11_did_25 (by decide) ?_
  refine X_imul dX11_did_27 ?_
  refine X_topi (pk_mul b 8) ?_
  refine X_iload_n dX11_did_28 rfl ?_
  refine X_iadd dX11_did_29 ?_
  refine X_topi (nI_add (b * 8) 5) ?_
  refine X_iald ((b * 8) + 5) dX11_did_30 (k_58 hSh) rfl (by omega) ?_
  exact X_iret dX11_did_31 rfl ⟨congrArg (fun z => Sum.inl (some (Value.int z))) ((hcd.1 b hb).2.2.2.2.2.1), hC1, hk1, hl1⟩
set_option maxRecDepth 100000 in
set_option maxHeartbeats 4000000 in
theorem r_did_5 (Γ : pTG) (g : pGG) (mi : pMI) (ml : pML) (A : AS) (hA : okAS A) (hSh : Sh g) (hR : RI A mi) (b : Nat) (hb : b < aG A)  : CT Γ 60 0 0 mX12_did [.ref 87, .int (nI b), .int (nI 5)] g mi ml (RQ A (.inl ((DYd A).1 201 b)) cd2 g mi ml) := by
  refine CT_of (by decide +kernel) (Nat.le_of_ble_eq_true rfl) ?_
  have hP := hA.1
  have hG8 : aG A ≤ 8 := hP.2.1
  have hC8 : (aP A).1 ≤ 8 := hP.1
  refine X_aload_n dX12_did_0 rfl ?_
  refine X_iconst (v := nI 0) dX12_did_1 (by decide) ?_
  refine X_puti dX12_did_2 fkX12_158 rfl rfl (k_87 hSh) ?_
  refine X_aload_n dX12_did_5 rfl ?_
  refine X_aload_n dX12_did_6 rfl ?_
  refine X_iload_n dX12_did_7 rfl ?_
  refine X_callVI dX12_did_8 mkX12_285 (k_87 hSh) (c_isGuest Γ g (up2 mi 87 0 (nI 0)) ml hSh (nI b)) rfl rfl (by decide) (Nat.le_of_ble_eq_true rfl) ?_
  refine X_topi (show bI (decide (nI 0 ≤ nI b) && decide (nI b ≤ (up2 mi 87 0 (nI 0)) 91 1 - nI 1)) = nI 1 from congrArg bI (show (decide (nI 0 ≤ nI b) && decide (nI b ≤ (up2 mi 87 0 (nI 0)) 91 1 - nI 1)) = true from by rw [(show (up2 mi 87 0 (nI 0)) 91 1 = nI (aG A) from ((congrFun (up2_row (by omega)) _).trans hR.1.2.1))]; exact (gd_ref hG8).mpr ⟨b, hb, rfl⟩)) ?_
  refine X_if_neN (a := 1) 18 dX12_did_11 (by decide) (by omega) (fun h_1 => ?_) (fun h_1 => ?_)
  · refine X_iconst (v := nI 0) dX12_did_18 (by decide) ?_
    refine X_iconst (v := nI 1) dX12_did_19 (by decide) ?_
    refine X_iconst (v := nI 0) dX12_did_20 (by decide) ?_
    refine X_callVI dX12_did_21 mkX12_228 (k_87 hSh) (c_bad0 Γ g (up2 mi 87 0 (nI 0)) ml hSh 1 0 up2_s) rfl rfl (by decide) (Nat.le_of_ble_eq_true rfl) ?_
    refine X_if_neN (a := 0) 51 dX12_did_24 (by decide) (by omega) (fun h_2 => ?_) (fun h_2 => ?_)
    · exact absurd h_2 (by omega)
    · refine X_aload_n dX12_did_27 rfl ?_
      refine X_iload_n dX12_did_28 rfl ?_
      refine X_iconst (v := nI 0) dX12_did_29 (by decide) ?_
      refine X_bipush (v := nI 7) dX12_did_30 (by decide) ?_
      refine X_callSI dX12_did_32 mkX12_192 (c_in Γ g (up2 mi 87 0 (nI 0)) ml (nI 5) (nI 0) (nI 7)) rfl rfl (by decide) (Nat.le_of_ble_eq_true rfl) ?_
      refine X_topi (show bI (decide (nI 0 ≤ nI 5) && decide (nI 5 ≤ nI 7)) = nI 1 from congrArg bI (show (decide (nI 0 ≤ nI 5) && decide (nI 5 ≤ nI 7)) = true from by decide)) ?_
      refine X_if_neN (a := 1) 42 dX12_did_35 (by decide) (by omega) (fun h_3 => ?_) (fun h_3 => ?_)
      · refine X_iconst (v := nI 0) dX12_did_42 (by decide) ?_
        refine X_iconst (v := nI 2) dX12_did_43 (by decide) ?_
        refine X_iconst (v := nI 1) dX12_did_44 (by decide) ?_
        refine X_callVI dX12_did_45 mkX12_228 (k_87 hSh) (c_bad0 Γ g (up2 mi 87 0 (nI 0)) ml hSh 2 1 up2_s) rfl rfl (by decide) (Nat.le_of_ble_eq_true rfl) ?_
        refine X_if_eqN (a := 0) 53 dX12_did_48 (by decide) (by omega) (fun h_4 => ?_) (fun h_4 => ?_)
        · refine X_aload_n dX12_did_53 rfl ?_
          have hw0 : frW mi (up2 mi 87 0 (nI 0)) := frW_u frW_r (by unfold rsF rsR; omega)
          refine X_callVrV dX12_did_54 mkX12_353 (k_87 hSh) (r_dayK Γ g (up2 mi 87 0 (nI 0)) ml A hA hSh mi hR hw0) rfl rfl (by decide) (Nat.le_of_ble_eq_true rfl) (fun m1 l1 hm1 => ?_)
          obtain ⟨hrd, hfw, hf2, ht0, hrs, hl1⟩ := hm1
          rw [hl1]
          have hR1 := RI_fr hA hR hfw
          refine X_iload_n dX12_did_57 rfl ?_
          refine X_tableIn 134 dX12_did_58 (by decide) (by decide) rfl (by decide) ?_
          refine X_aload_n dX12_did_134 rfl ?_
          refine X_getr (a := 201) dX12_did_135 fkX12_92 rfl (k_87 hSh) (r_87_41 hSh) ?_
          refine X_iload_n dX12_did_138 rfl ?_
          refine X_iald b dX12_did_139 (k_201 hSh) rfl (by omega) ?_
          exact X_iret dX12_did_140 rfl ⟨rfl, rfl, hR1, frM2_t (frM2_u frM2_r (by omega)) hf2, _, rfl, (hrd.1 b hb).2.2.2.2.2.2.1, ht0.trans up2_s⟩
        · exact absurd h_4 (by omega)
      · exact absurd h_3 (by omega)
  · exact absurd h_1 (by omega)
set_option maxRecDepth 100000 in
set_option maxHeartbeats 4000000 in
theorem k_did_6 (Γ : pTG) (g : pGG) (mi : pMI) (ml : pML) (A : AS) (hA : okAS A) (hC : CI A g mi ml) (b : Nat) (hb : b < aG A)  : CT Γ 60 20 5000 mX11_did [.ref 0, .int (nI b), .int (nI 6)] g mi ml (CQ A (.inl ((DYd A).1 202 b)) mi ml) := by
  refine CT_of (by decide +kernel) (Nat.le_of_ble_eq_true rfl) ?_
  have hSh := CI_Sh hC
  have hcl := CI_cl hC
  have hP := hA.1
  have hG8 : aG A ≤ 8 := hP.2.1
  have hC8 : (aP A).1 ≤ 8 := hP.1
  refine X_aload_n dX11_did_0 rfl ?_
  refine X_iload_n dX11_did_1 rfl ?_
  refine X_need dX11_did_2 mkX11_147 (k_0 hSh) (c_needGuest Γ g mi ml hSh (nI b)) rfl rfl (by decide) (by decide) (by decide) (by decide) (fun h => absurd (by rw [hcl.2.1]; exact (gd_iff hG8).mpr ⟨b, hb, rfl⟩) h) (fun _ => ?_)
  refine X_aload_n dX11_did_5 rfl ?_
  refine X_iload_n dX11_did_6 rfl ?_
  refine X_iconst (v := nI 0) dX11_did_7 (by decide) ?_
  refine X_bipush (v := nI 7) dX11_did_8 (by decide) ?_
  refine X_need dX11_did_10 mkX11_116 (k_0 hSh) (c_needWithin Γ g mi ml hSh (nI 6) (nI 0) (nI 7)) rfl rfl (by decide) (by decide) (by decide) (by decide) (fun h => absurd (by decide) h) (fun _ => ?_)
  refine X_aload_n dX11_did_13 rfl ?_
  refine X_callVrV dX11_did_14 mkX11_193 (k_0 hSh) (c_look Γ g mi ml A hA hC) rfl rfl (by decide) (Nat.le_of_ble_eq_true rfl) (fun m1 l1 hm1 => ?_)
  obtain ⟨⟨hC1, hcd⟩, hk1, hl1⟩ := hm1
  have hcl1 := CI_cl hC1
  refine X_aload_n dX11_did_17 rfl ?_
  refine X_getr (a := 57) dX11_did_18 fkX11_72 rfl (k_0 hSh) (r_0_9 hSh) ?_
  refine X_getr (a := 58) dX11_did_21 fkX11_215 rfl (k_57 hSh) (r_57_1 hSh) ?_
  refine X_iload_n dX11_did_24 rfl ?_
  refine X_bipush (v := nI 8) dX11_did_25 (by decide) ?_
  refine X_imul dX11_did_27 ?_
  refine X_topi (pk_mul b 8) ?_
  refine X_iload_n dX11_did_28 rfl ?_
  refine X_iadd dX11_did_29 ?_
  refine X_topi (nI_add (b * 8) 6) ?_
  refine X_iald ((b * 8) + 6) dX11_did_30 (k_58 hSh) rfl (by omega) ?_
  exact X_iret dX11_did_31 rfl ⟨congrArg (fun z => Sum.inl (some (Value.int z))) ((hcd.1 b hb).2.2.2.2.2.2.1), hC1, hk1, hl1⟩
set_option maxRecDepth 100000 in
set_option maxHeartbeats 4000000 in
theorem r_did_6 (Γ : pTG) (g : pGG) (mi : pMI) (ml : pML) (A : AS) (hA : okAS A) (hSh : Sh g) (hR : RI A mi) (b : Nat) (hb : b < aG A)  : CT Γ 60 0 0 mX12_did [.ref 87, .int (nI b), .int (nI 6)] g mi ml (RQ A (.inl ((DYd A).1 202 b)) cd2 g mi ml) := by
  refine CT_of (by decide +kernel) (Nat.le_of_ble_eq_true rfl) ?_
  have hP := hA.1
  have hG8 : aG A ≤ 8 := hP.2.1
  have hC8 : (aP A).1 ≤ 8 := hP.1
  refine X_aload_n dX12_did_0 rfl ?_
  refine X_iconst (v := nI 0) dX12_did_1 (by decide) ?_
  refine X_puti dX12_did_2 fkX12_158 rfl rfl (k_87 hSh) ?_
  refine X_aload_n dX12_did_5 rfl ?_
  refine X_aload_n dX12_did_6 rfl ?_
  refine X_iload_n dX12_did_7 rfl ?_
  refine X_callVI dX12_did_8 mkX12_285 (k_87 hSh) (c_isGuest Γ g (up2 mi 87 0 (nI 0)) ml hSh (nI b)) rfl rfl (by decide) (Nat.le_of_ble_eq_true rfl) ?_
  refine X_topi (show bI (decide (nI 0 ≤ nI b) && decide (nI b ≤ (up2 mi 87 0 (nI 0)) 91 1 - nI 1)) = nI 1 from congrArg bI (show (decide (nI 0 ≤ nI b) && decide (nI b ≤ (up2 mi 87 0 (nI 0)) 91 1 - nI 1)) = true from by rw [(show (up2 mi 87 0 (nI 0)) 91 1 = nI (aG A) from ((congrFun (up2_row (by omega)) _).trans hR.1.2.1))]; exact (gd_ref hG8).mpr ⟨b, hb, rfl⟩)) ?_
  refine X_if_neN (a := 1) 18 dX12_did_11 (by decide) (by omega) (fun h_1 => ?_) (fun h_1 => ?_)
  · refine X_iconst (v := nI 0) dX12_did_18 (by decide) ?_
    refine X_iconst (v := nI 1) dX12_did_19 (by decide) ?_
    refine X_iconst (v := nI 0) dX12_did_20 (by decide) ?_
    refine X_callVI dX12_did_21 mkX12_228 (k_87 hSh) (c_bad0 Γ g (up2 mi 87 0 (nI 0)) ml hSh 1 0 up2_s) rfl rfl (by decide) (Nat.le_of_ble_eq_true rfl) ?_
    refine X_if_neN (a := 0) 51 dX12_did_24 (by decide) (by omega) (fun h_2 => ?_) (fun h_2 => ?_)
    · exact absurd h_2 (by omega)
    · refine X_aload_n dX12_did_27 rfl ?_
      refine X_iload_n dX12_did_28 rfl ?_
      refine X_iconst (v := nI 0) dX12_did_29 (by decide) ?_
      refine X_bipush (v := nI 7) dX12_did_30 (by decide) ?_
      refine X_callSI dX12_did_32 mkX12_192 (c_in Γ g (up2 mi 87 0 (nI 0)) ml (nI 6) (nI 0) (nI 7)) rfl rfl (by decide) (Nat.le_of_ble_eq_true rfl) ?_
      refine X_topi (show bI (decide (nI 0 ≤ nI 6) && decide (nI 6 ≤ nI 7)) = nI 1 from congrArg bI (show (decide (nI 0 ≤ nI 6) && decide (nI 6 ≤ nI 7)) = true from by decide)) ?_
      refine X_if_neN (a := 1) 42 dX12_did_35 (by decide) (by omega) (fun h_3 => ?_) (fun h_3 => ?_)
      · refine X_iconst (v := nI 0) dX12_did_42 (by decide) ?_
        refine X_iconst (v := nI 2) dX12_did_43 (by decide) ?_
        refine X_iconst (v := nI 1) dX12_did_44 (by decide) ?_
        refine X_callVI dX12_did_45 mkX12_228 (k_87 hSh) (c_bad0 Γ g (up2 mi 87 0 (nI 0)) ml hSh 2 1 up2_s) rfl rfl (by decide) (Nat.le_of_ble_eq_true rfl) ?_
        refine X_if_eqN (a := 0) 53 dX12_did_48 (by decide) (by omega) (fun h_4 => ?_) (fun h_4 => ?_)
        · refine X_aload_n dX12_did_53 rfl ?_
          have hw0 : frW mi (up2 mi 87 0 (nI 0)) := frW_u frW_r (by unfold rsF rsR; omega)
          refine X_callVrV dX12_did_54 mkX12_353 (k_87 hSh) (r_dayK Γ g (up2 mi 87 0 (nI 0)) ml A hA hSh mi hR hw0) rfl rfl (by decide) (Nat.le_of_ble_eq_true rfl) (fun m1 l1 hm1 => ?_)
          obtain ⟨hrd, hfw, hf2, ht0, hrs, hl1⟩ := hm1
          rw [hl1]
          have hR1 := RI_fr hA hR hfw
          refine X_iload_n dX12_did_57 rfl ?_
          refine X_tableIn 141 dX12_did_58 (by decide) (by decide) rfl (by decide) ?_
          refine X_aload_n dX12_did_141 rfl ?_
          refine X_getr (a := 202) dX12_did_142 fkX12_95 rfl (k_87 hSh) (r_87_42 hSh) ?_
          refine X_iload_n dX12_did_145 rfl ?_
          refine X_iald b dX12_did_146 (k_202 hSh) rfl (by omega) ?_
          exact X_iret dX12_did_147 rfl ⟨rfl, rfl, hR1, frM2_t (frM2_u frM2_r (by omega)) hf2, _, rfl, (hrd.1 b hb).2.2.2.2.2.2.2.1, ht0.trans up2_s⟩
        · exact absurd h_4 (by omega)
      · exact absurd h_3 (by omega)
  · exact absurd h_1 (by omega)
set_option maxRecDepth 100000 in
set_option maxHeartbeats 4000000 in
theorem k_did_7 (Γ : pTG) (g : pGG) (mi : pMI) (ml : pML) (A : AS) (hA : okAS A) (hC : CI A g mi ml) (b : Nat) (hb : b < aG A)  : CT Γ 60 20 5000 mX11_did [.ref 0, .int (nI b), .int (nI 7)] g mi ml (CQ A (.inl ((DYd A).1 203 b)) mi ml) := by
  refine CT_of (by decide +kernel) (Nat.le_of_ble_eq_true rfl) ?_
  have hSh := CI_Sh hC
  have hcl := CI_cl hC
  have hP := hA.1
  have hG8 : aG A ≤ 8 := hP.2.1
  have hC8 : (aP A).1 ≤ 8 := hP.1
  refine X_aload_n dX11_did_0 rfl ?_
  refine X_iload_n dX11_did_1 rfl ?_
  refine X_need dX11_did_2 mkX11_147 (k_0 hSh) (c_needGuest Γ g mi ml hSh (nI b)) rfl rfl (by decide) (by decide) (by decide) (by decide) (fun h => absurd (by rw [hcl.2.1]; exact (gd_iff hG8).mpr ⟨b, hb, rfl⟩) h) (fun _ => ?_)
  refine X_aload_n dX11_did_5 rfl ?_
  refine X_iload_n dX11_did_6 rfl ?_
  refine X_iconst (v := nI 0) dX11_did_7 (by decide) ?_
  refine X_bipush (v := nI 7) dX11_did_8 (by decide) ?_
  refine X_need dX11_did_10 mkX11_116 (k_0 hSh) (c_needWithin Γ g mi ml hSh (nI 7) (nI 0) (nI 7)) rfl rfl (by decide) (by decide) (by decide) (by decide) (fun h => absurd (by decide) h) (fun _ => ?_)
  refine X_aload_n dX11_did_13 rfl ?_
  refine X_callVrV dX11_did_14 mkX11_193 (k_0 hSh) (c_look Γ g mi ml A hA hC) rfl rfl (by decide) (Nat.le_of_ble_eq_true rfl) (fun m1 l1 hm1 => ?_)
  obtain ⟨⟨hC1, hcd⟩, hk1, hl1⟩ := hm1
  have hcl1 := CI_cl hC1
  refine X_aload_n dX11_did_17 rfl ?_
  refine X_getr (a := 57) dX11_did_18 fkX11_72 rfl (k_0 hSh) (r_0_9 hSh) ?_
  refine X_getr (a := 58) dX11_did_21 fkX11_215 rfl (k_57 hSh) (r_57_1 hSh) ?_
  refine X_iload_n dX11_did_24 rfl ?_
  refine X_bipush (v := nI 8) dX11_did_25 (by decide) ?_
  refine X_imul dX11_did_27 ?_
  refine X_topi (pk_mul b 8) ?_
  refine X_iload_n dX11_did_28 rfl ?_
  refine X_iadd dX11_did_29 ?_
  refine X_topi (nI_add (b * 8) 7) ?_
  refine X_iald ((b * 8) + 7) dX11_did_30 (k_58 hSh) rfl (by omega) ?_
  exact X_iret dX11_did_31 rfl ⟨congrArg (fun z => Sum.inl (some (Value.int z))) ((hcd.1 b hb).2.2.2.2.2.2.2.1), hC1, hk1, hl1⟩
set_option maxRecDepth 100000 in
set_option maxHeartbeats 4000000 in
theorem r_did_7 (Γ : pTG) (g : pGG) (mi : pMI) (ml : pML) (A : AS) (hA : okAS A) (hSh : Sh g) (hR : RI A mi) (b : Nat) (hb : b < aG A)  : CT Γ 60 0 0 mX12_did [.ref 87, .int (nI b), .int (nI 7)] g mi ml (RQ A (.inl ((DYd A).1 203 b)) cd2 g mi ml) := by
  refine CT_of (by decide +kernel) (Nat.le_of_ble_eq_true rfl) ?_
  have hP := hA.1
  have hG8 : aG A ≤ 8 := hP.2.1
  have hC8 : (aP A).1 ≤ 8 := hP.1
  refine X_aload_n dX12_did_0 rfl ?_
  refine X_iconst (v := nI 0) dX12_did_1 (by decide) ?_
  refine X_puti dX12_did_2 fkX12_158 rfl rfl (k_87 hSh) ?_
  refine X_aload_n dX12_did_5 rfl ?_
  refine X_aload_n dX12_did_6 rfl ?_
  refine X_iload_n dX12_did_7 rfl ?_
  refine X_callVI dX12_did_8 mkX12_285 (k_87 hSh) (c_isGuest Γ g (up2 mi 87 0 (nI 0)) ml hSh (nI b)) rfl rfl (by decide) (Nat.le_of_ble_eq_true rfl) ?_
  refine X_topi (show bI (decide (nI 0 ≤ nI b) && decide (nI b ≤ (up2 mi 87 0 (nI 0)) 91 1 - nI 1)) = nI 1 from congrArg bI (show (decide (nI 0 ≤ nI b) && decide (nI b ≤ (up2 mi 87 0 (nI 0)) 91 1 - nI 1)) = true from by rw [(show (up2 mi 87 0 (nI 0)) 91 1 = nI (aG A) from ((congrFun (up2_row (by omega)) _).trans hR.1.2.1))]; exact (gd_ref hG8).mpr ⟨b, hb, rfl⟩)) ?_
  refine X_if_neN (a := 1) 18 dX12_did_11 (by decide) (by omega) (fun h_1 => ?_) (fun h_1 => ?_)
  · refine X_iconst (v := nI 0) dX12_did_18 (by decide) ?_
    refine X_iconst (v := nI 1) dX12_did_19 (by decide) ?_
    refine X_iconst (v := nI 0) dX12_did_20 (by decide) ?_
    refine X_callVI dX12_did_21 mkX12_228 (k_87 hSh) (c_bad0 Γ g (up2 mi 87 0 (nI 0)) ml hSh 1 0 up2_s) rfl rfl (by decide) (Nat.le_of_ble_eq_true rfl) ?_
    refine X_if_neN (a := 0) 51 dX12_did_24 (by decide) (by omega) (fun h_2 => ?_) (fun h_2 => ?_)
    · exact absurd h_2 (by omega)
    · refine X_aload_n dX12_did_27 rfl ?_
      refine X_iload_n dX12_did_28 rfl ?_
      refine X_iconst (v := nI 0) dX12_did_29 (by decide) ?_
      refine X_bipush (v := nI 7) dX12_did_30 (by decide) ?_
      refine X_callSI dX12_did_32 mkX12_192 (c_in Γ g (up2 mi 87 0 (nI 0)) ml (nI 7) (nI 0) (nI 7)) rfl rfl (by decide) (Nat.le_of_ble_eq_true rfl) ?_
      refine X_topi (show bI (decide (nI 0 ≤ nI 7) && decide (nI 7 ≤ nI 7)) = nI 1 from congrArg bI (show (decide (nI 0 ≤ nI 7) && decide (nI 7 ≤ nI 7)) = true from by decide)) ?_
      refine X_if_neN (a := 1) 42 dX12_did_35 (by decide) (by omega) (fun h_3 => ?_) (fun h_3 => ?_)
      · refine X_iconst (v := nI 0) dX12_did_42 (by decide) ?_
        refine X_iconst (v := nI 2) dX12_did_43 (by decide) ?_
        refine X_iconst (v := nI 1) dX12_did_44 (by decide) ?_
        refine X_callVI dX12_did_45 mkX12_228 (k_87 hSh) (c_bad0 Γ g (up2 mi 87 0 (nI 0)) ml hSh 2 1 up2_s) rfl rfl (by decide) (Nat.le_of_ble_eq_true rfl) ?_
        refine X_if_eqN (a := 0) 53 dX12_did_48 (by decide) (by omega) (fun h_4 => ?_) (fun h_4 => ?_)
        · refine X_aload_n dX12_did_53 rfl ?_
          have hw0 : frW mi (up2 mi 87 0 (nI 0)) := frW_u frW_r (by unfold rsF rsR; omega)
          refine X_callVrV dX12_did_54 mkX12_353 (k_87 hSh) (r_dayK Γ g (up2 mi 87 0 (nI 0)) ml A hA hSh mi hR hw0) rfl rfl (by decide) (Nat.le_of_ble_eq_true rfl) (fun m1 l1 hm1 => ?_)
          obtain ⟨hrd, hfw, hf2, ht0, hrs, hl1⟩ := hm1
          rw [hl1]
          have hR1 := RI_fr hA hR hfw
          refine X_iload_n dX12_did_57 rfl ?_
          refine X_tableOut 148 dX12_did_58 (by decide) (by decide) ?_
          refine X_aload_n dX12_did_148 rfl ?_
          refine X_getr (a := 203) dX12_did_149 fkX12_98 rfl (k_87 hSh) (r_87_43 hSh) ?_
          refine X_iload_n dX12_did_152 rfl ?_
          refine X_iald b dX12_did_153 (k_203 hSh) rfl (by omega) ?_
          exact X_iret dX12_did_154 rfl ⟨rfl, rfl, hR1, frM2_t (frM2_u frM2_r (by omega)) hf2, _, rfl, (hrd.1 b hb).2.2.2.2.2.2.2.2.1, ht0.trans up2_s⟩
        · exact absurd h_4 (by omega)
      · exact absurd h_3 (by omega)
  · exact absurd h_1 (by omega)
theorem m_did (A : AS) (hA : okAS A) (v : Int32) (w : Int32) : MOK mX11_did mX12_did cd2 [.int v, .int w] A := by
  by_cases hg0 : ∃ b, b < aG A ∧ v = nI b
  · obtain ⟨b, hb, rfl⟩ := hg0
    by_cases hg1 : nI 0 ≤ w ∧ w ≤ nI 7
    · obtain ⟨k, hka, hk, rfl⟩ := (wi_iff (by decide) (by decide)).mp hg1
      have hkk : k < 8 := by omega
      match k, hkk with
      | 0, _ => exact ⟨.inl (nI (mrn (aP A) (aH A) (aD A) b)), A, hA, fun j h => (by cases h), fun Γ g m l hC => k_did_0 Γ g m l A hA hC b hb , fun Γ g m l hSh hR => r_did_0 Γ g m l A hA hSh hR b hb ⟩
      | 1, _ => exact ⟨.inl (oI ((DYd A).2.1 198 b)), A, hA, fun j h => (by cases h), fun Γ g m l hC => k_did_1 Γ g m l A hA hC b hb , fun Γ g m l hSh hR => r_did_1 Γ g m l A hA hSh hR b hb ⟩
      | 2, _ => exact ⟨.inl ((DYd A).1 199 b), A, hA, fun j h => (by cases h), fun Γ g m l hC => k_did_2 Γ g m l A hA hC b hb , fun Γ g m l hSh hR => r_did_2 Γ g m l A hA hSh hR b hb ⟩
      | 3, _ => exact ⟨.inl ((DYd A).1 200 b), A, hA, fun j h => (by cases h), fun Γ g m l hC => k_did_3 Γ g m l A hA hC b hb , fun Γ g m l hSh hR => r_did_3 Γ g m l A hA hSh hR b hb ⟩
      | 4, _ => exact ⟨.inl (netM (wD (DYd A)) b), A, hA, fun j h => (by cases h), fun Γ g m l hC => k_did_4 Γ g m l A hA hC b hb , fun Γ g m l hSh hR => r_did_4 Γ g m l A hA hSh hR b hb ⟩
      | 5, _ => exact ⟨.inl ((DYd A).1 201 b), A, hA, fun j h => (by cases h), fun Γ g m l hC => k_did_5 Γ g m l A hA hC b hb , fun Γ g m l hSh hR => r_did_5 Γ g m l A hA hSh hR b hb ⟩
      | 6, _ => exact ⟨.inl ((DYd A).1 202 b), A, hA, fun j h => (by cases h), fun Γ g m l hC => k_did_6 Γ g m l A hA hC b hb , fun Γ g m l hSh hR => r_did_6 Γ g m l A hA hSh hR b hb ⟩
      | 7, _ => exact ⟨.inl ((DYd A).1 203 b), A, hA, fun j h => (by cases h), fun Γ g m l hC => k_did_7 Γ g m l A hA hC b hb , fun Γ g m l hSh hR => r_did_7 Γ g m l A hA hSh hR b hb ⟩
    · exact ⟨.inr 1, rfA A 1, ok_rf hA, fun j h => by cases h; decide, fun Γ g m l hC => k_did_f1 Γ g m l A hA hC b hb w hg1, fun Γ g m l hSh hR => r_did_f1 Γ g m l A hA hSh hR b hb w hg1⟩
  · exact ⟨.inr 0, rfA A 0, ok_rf hA, fun j h => by cases h; decide, fun Γ g m l hC => k_did_f0 Γ g m l A hA hC v hg0 w, fun Γ g m l hSh hR => r_did_f0 Γ g m l A hA hSh hR v hg0 w⟩
set_option maxRecDepth 100000 in
set_option maxHeartbeats 4000000 in
theorem k_towel_f0 (Γ : pTG) (g : pGG) (mi : pMI) (ml : pML) (A : AS) (hA : okAS A) (hC : CI A g mi ml) (c : Int32) (hf : ¬ ∃ b, b < (aP A).1 ∧ c = nI b) (h : Int32) : CT Γ 60 20 5000 mX11_towel [.ref 0, .int c, .int h] g mi ml (CQ (rfA A 0) (.inr 0) mi ml) := by
  refine CT_of (by decide +kernel) (Nat.le_of_ble_eq_true rfl) ?_
  have hSh := CI_Sh hC
  have hcl := CI_cl hC
  have hP := hA.1
  have hG8 : aG A ≤ 8 := hP.2.1
  have hC8 : (aP A).1 ≤ 8 := hP.1
  refine X_aload_n dX11_towel_0 rfl ?_
  refine X_iload_n dX11_towel_1 rfl ?_
  exact X_need dX11_towel_2 mkX11_184 (k_0 hSh) (c_needChair Γ g mi ml hSh c) rfl rfl (by decide) (by decide) (by decide) (by decide) (fun _ => ⟨rfl, CI_rf (by decide) hC, frK_86, rfl⟩) (fun h => absurd ((gd_iff hC8).mp (by rw [← hcl.1]; exact h)) hf)
set_option maxRecDepth 100000 in
set_option maxHeartbeats 4000000 in
theorem r_towel_f0 (Γ : pTG) (g : pGG) (mi : pMI) (ml : pML) (A : AS) (hA : okAS A) (hSh : Sh g) (hR : RI A mi) (c : Int32) (hf : ¬ ∃ b, b < (aP A).1 ∧ c = nI b) (h : Int32) : CT Γ 60 0 0 mX12_towel [.ref 87, .int c, .int h] g mi ml (RQ (rfA A 0) (.inr 0) cd2 g mi ml) := by
  refine CT_of (by decide +kernel) (Nat.le_of_ble_eq_true rfl) ?_
  have hP := hA.1
  have hG8 : aG A ≤ 8 := hP.2.1
  have hC8 : (aP A).1 ≤ 8 := hP.1
  refine X_aload_n dX12_towel_0 rfl ?_
  refine X_iconst (v := nI 0) dX12_towel_1 (by decide) ?_
  refine X_puti dX12_towel_2 fkX12_158 rfl rfl (k_87 hSh) ?_
  refine X_aload_n dX12_towel_5 rfl ?_
  refine X_aload_n dX12_towel_6 rfl ?_
  refine X_iload_n dX12_towel_7 rfl ?_
  refine X_callVI dX12_towel_8 mkX12_307 (k_87 hSh) (c_isChair Γ g (up2 mi 87 0 (nI 0)) ml hSh c) rfl rfl (by decide) (Nat.le_of_ble_eq_true rfl) ?_
  refine X_topi (show bI (decide (nI 0 ≤ c) && decide (c ≤ (up2 mi 87 0 (nI 0)) 91 0 - nI 1)) = nI 0 from congrArg bI (show (decide (nI 0 ≤ c) && decide (c ≤ (up2 mi 87 0 (nI 0)) 91 0 - nI 1)) = false from Bool.eq_false_iff.mpr (fun q => hf ((gd_ref hC8).mp (by rw [(show (up2 mi 87 0 (nI 0)) 91 0 = nI (aP A).1 from ((congrFun (up2_row (by omega)) _).trans hR.1.1))] at q; exact q))))) ?_
  refine X_if_neN (a := 0) 18 dX12_towel_11 (by decide) (by omega) (fun h_1 => ?_) (fun h_1 => ?_)
  · exact absurd h_1 (by omega)
  · refine X_iconst (v := nI 1) dX12_towel_14 (by decide) ?_
    refine X_goto 19 dX12_towel_15 (by decide) ?_
    refine X_iconst (v := nI 1) dX12_towel_19 (by decide) ?_
    refine X_iconst (v := nI 0) dX12_towel_20 (by decide) ?_
    refine X_callVI dX12_towel_21 mkX12_228 (k_87 hSh) (c_bad1 Γ g (up2 mi 87 0 (nI 0)) ml hSh 1 0 (by decide) (by decide) (by decide) up2_s) rfl rfl (by decide) (Nat.le_of_ble_eq_true rfl) ?_
    refine X_mi (show _ = mB mi 1 0 from rfl) ?_
    refine X_if_neN (a := 1) 48 dX12_towel_24 (by decide) (by omega) (fun h_2 => ?_) (fun h_2 => ?_)
    · refine X_iconst (v := nI 0) dX12_towel_48 (by decide) ?_
      exact X_iret dX12_towel_49 rfl ⟨rfl, rfl, RI_rf hA (by decide) hR, fr2_B, _, rfl, mB_0⟩
    · exact absurd h_2 (by omega)
set_option maxRecDepth 100000 in
set_option maxHeartbeats 4000000 in
theorem k_towel_f1 (Γ : pTG) (g : pGG) (mi : pMI) (ml : pML) (A : AS) (hA : okAS A) (hC : CI A g mi ml) (q : Nat) (hq : q < (aP A).1) (h : Int32) (hf : ¬ (nI 0 ≤ h ∧ h ≤ nI 23)) : CT Γ 60 20 5000 mX11_towel [.ref 0, .int (nI q), .int h] g mi ml (CQ (rfA A 1) (.inr 1) mi ml) := by
  refine CT_of (by decide +kernel) (Nat.le_of_ble_eq_true rfl) ?_
  have hSh := CI_Sh hC
  have hcl := CI_cl hC
  have hP := hA.1
  have hG8 : aG A ≤ 8 := hP.2.1
  have hC8 : (aP A).1 ≤ 8 := hP.1
  refine X_aload_n dX11_towel_0 rfl ?_
  refine X_iload_n dX11_towel_1 rfl ?_
  refine X_need dX11_towel_2 mkX11_184 (k_0 hSh) (c_needChair Γ g mi ml hSh (nI q)) rfl rfl (by decide) (by decide) (by decide) (by decide) (fun h => absurd (by rw [hcl.1]; exact (gd_iff hC8).mpr ⟨q, hq, rfl⟩) h) (fun _ => ?_)
  refine X_aload_n dX11_towel_5 rfl ?_
  refine X_iload_n dX11_towel_6 rfl ?_
  refine X_iconst (v := nI 0) dX11_towel_7 (by decide) ?_
  refine X_bipush (v := nI 23) dX11_towel_8 (by decide) ?_
  exact X_need dX11_towel_10 mkX11_116 (k_0 hSh) (c_needWithin Γ g mi ml hSh h (nI 0) (nI 23)) rfl rfl (by decide) (by decide) (by decide) (by decide) (fun _ => ⟨rfl, CI_rf (by decide) hC, frK_86, rfl⟩) (fun h => absurd h hf)
set_option maxRecDepth 100000 in
set_option maxHeartbeats 4000000 in
theorem r_towel_f1 (Γ : pTG) (g : pGG) (mi : pMI) (ml : pML) (A : AS) (hA : okAS A) (hSh : Sh g) (hR : RI A mi) (q : Nat) (hq : q < (aP A).1) (h : Int32) (hf : ¬ (nI 0 ≤ h ∧ h ≤ nI 23)) : CT Γ 60 0 0 mX12_towel [.ref 87, .int (nI q), .int h] g mi ml (RQ (rfA A 1) (.inr 1) cd2 g mi ml) := by
  refine CT_of (by decide +kernel) (Nat.le_of_ble_eq_true rfl) ?_
  have hP := hA.1
  have hG8 : aG A ≤ 8 := hP.2.1
  have hC8 : (aP A).1 ≤ 8 := hP.1
  refine X_aload_n dX12_towel_0 rfl ?_
  refine X_iconst (v := nI 0) dX12_towel_1 (by decide) ?_
  refine X_puti dX12_towel_2 fkX12_158 rfl rfl (k_87 hSh) ?_
  refine X_aload_n dX12_towel_5 rfl ?_
  refine X_aload_n dX12_towel_6 rfl ?_
  refine X_iload_n dX12_towel_7 rfl ?_
  refine X_callVI dX12_towel_8 mkX12_307 (k_87 hSh) (c_isChair Γ g (up2 mi 87 0 (nI 0)) ml hSh (nI q)) rfl rfl (by decide) (Nat.le_of_ble_eq_true rfl) ?_
  refine X_topi (show bI (decide (nI 0 ≤ nI q) && decide (nI q ≤ (up2 mi 87 0 (nI 0)) 91 0 - nI 1)) = nI 1 from congrArg bI (show (decide (nI 0 ≤ nI q) && decide (nI q ≤ (up2 mi 87 0 (nI 0)) 91 0 - nI 1)) = true from by rw [(show (up2 mi 87 0 (nI 0)) 91 0 = nI (aP A).1 from ((congrFun (up2_row (by omega)) _).trans hR.1.1))]; exact (gd_ref hC8).mpr ⟨q, hq, rfl⟩)) ?_
  refine X_if_neN (a := 1) 18 dX12_towel_11 (by decide) (by omega) (fun h_1 => ?_) (fun h_1 => ?_)
  · refine X_iconst (v := nI 0) dX12_towel_18 (by decide) ?_
    refine X_iconst (v := nI 1) dX12_towel_19 (by decide) ?_
    refine X_iconst (v := nI 0) dX12_towel_20 (by decide) ?_
    refine X_callVI dX12_towel_21 mkX12_228 (k_87 hSh) (c_bad0 Γ g (up2 mi 87 0 (nI 0)) ml hSh 1 0 up2_s) rfl rfl (by decide) (Nat.le_of_ble_eq_true rfl) ?_
    refine X_if_neN (a := 0) 48 dX12_towel_24 (by decide) (by omega) (fun h_2 => ?_) (fun h_2 => ?_)
    · exact absurd h_2 (by omega)
    · refine X_aload_n dX12_towel_27 rfl ?_
      refine X_iload_n dX12_towel_28 rfl ?_
      refine X_callSI dX12_towel_29 mkX12_298 (c_isHalf Γ g (up2 mi 87 0 (nI 0)) ml h) rfl rfl (by decide) (Nat.le_of_ble_eq_true rfl) ?_
      refine X_topi (show bI (decide (nI 0 ≤ h) && decide (h ≤ nI 23)) = nI 0 from congrArg bI (show (decide (nI 0 ≤ h) && decide (h ≤ nI 23)) = false from Bool.eq_false_iff.mpr (fun q => hf (by rw [Bool.and_eq_true, decide_eq_true_eq, decide_eq_true_eq] at q; exact q)))) ?_
      refine X_if_neN (a := 0) 39 dX12_towel_32 (by decide) (by omega) (fun h_3 => ?_) (fun h_3 => ?_)
      · exact absurd h_3 (by omega)
      · refine X_iconst (v := nI 1) dX12_towel_35 (by decide) ?_
        refine X_goto 40 dX12_towel_36 (by decide) ?_
        refine X_iconst (v := nI 2) dX12_towel_40 (by decide) ?_
        refine X_iconst (v := nI 1) dX12_towel_41 (by decide) ?_
        refine X_callVI dX12_towel_42 mkX12_228 (k_87 hSh) (c_bad1 Γ g (up2 mi 87 0 (nI 0)) ml hSh 2 1 (by decide) (by decide) (by decide) up2_s) rfl rfl (by decide) (Nat.le_of_ble_eq_true rfl) ?_
        refine X_mi (show _ = mB mi 2 1 from rfl) ?_
        refine X_if_eqN (a := 1) 50 dX12_towel_45 (by decide) (by omega) (fun h_4 => ?_) (fun h_4 => ?_)
        · exact absurd h_4 (by omega)
        · refine X_iconst (v := nI 0) dX12_towel_48 (by decide) ?_
          exact X_iret dX12_towel_49 rfl ⟨rfl, rfl, RI_rf hA (by decide) hR, fr2_B, _, rfl, mB_0⟩
  · exact absurd h_1 (by omega)
set_option maxRecDepth 100000 in
set_option maxHeartbeats 4000000 in
theorem k_towel (Γ : pTG) (g : pGG) (mi : pMI) (ml : pML) (A : AS) (hA : okAS A) (hC : CI A g mi ml) (q : Nat) (hq : q < (aP A).1) (k : Nat) (hka : 0 ≤ k) (hk : k ≤ 23) : CT Γ 60 20 5000 mX11_towel [.ref 0, .int (nI q), .int (nI k)] g mi ml (CQ A (.inl ((DYd A).1 (211 + q) k)) mi ml) := by
  refine CT_of (by decide +kernel) (Nat.le_of_ble_eq_true rfl) ?_
  have hSh := CI_Sh hC
  have hcl := CI_cl hC
  have hP := hA.1
  have hG8 : aG A ≤ 8 := hP.2.1
  have hC8 : (aP A).1 ≤ 8 := hP.1
  refine X_aload_n dX11_towel_0 rfl ?_
  refine X_iload_n dX11_towel_1 rfl ?_
  refine X_need dX11_towel_2 mkX11_184 (k_0 hSh) (c_needChair Γ g mi ml hSh (nI q)) rfl rfl (by decide) (by decide) (by decide) (by decide) (fun h => absurd (by rw [hcl.1]; exact (gd_iff hC8).mpr ⟨q, hq, rfl⟩) h) (fun _ => ?_)
  refine X_aload_n dX11_towel_5 rfl ?_
  refine X_iload_n dX11_towel_6 rfl ?_
  refine X_iconst (v := nI 0) dX11_towel_7 (by decide) ?_
  refine X_bipush (v := nI 23) dX11_towel_8 (by decide) ?_
  refine X_need dX11_towel_10 mkX11_116 (k_0 hSh) (c_needWithin Γ g mi ml hSh (nI k) (nI 0) (nI 23)) rfl rfl (by decide) (by decide) (by decide) (by decide) (fun h => absurd (⟨nI_le (by omega) (by omega), nI_le (by omega) (by omega)⟩) h) (fun _ => ?_)
  refine X_aload_n dX11_towel_13 rfl ?_
  refine X_callVrV dX11_towel_14 mkX11_193 (k_0 hSh) (c_look Γ g mi ml A hA hC) rfl rfl (by decide) (Nat.le_of_ble_eq_true rfl) (fun m1 l1 hm1 => ?_)
  obtain ⟨⟨hC1, hcd⟩, hk1, hl1⟩ := hm1
  have hcl1 := CI_cl hC1
  refine X_aload_n dX11_towel_17 rfl ?_
  refine X_getr (a := 57) dX11_towel_18 fkX11_72 rfl (k_0 hSh) (r_0_9 hSh) ?_
  refine X_getr (a := 65) dX11_towel_21 fkX11_218 rfl (k_57 hSh) (r_57_3 hSh) ?_
  refine X_iload_n dX11_towel_24 rfl ?_
  refine X_bipush (v := nI 24) dX11_towel_25 (by decide) ?_
  refine X_imul dX11_towel_27 ?_
  refine X_topi (pk_mul q 24) ?_
  refine X_iload_n dX11_towel_28 rfl ?_
  refine X_iadd dX11_towel_29 ?_
  refine X_topi (nI_add (q * 24) k) ?_
  refine X_iald ((q * 24) + k) dX11_towel_30 (k_65 hSh) rfl (by omega) ?_
  exact X_iret dX11_towel_31 rfl ⟨congrArg (fun z => Sum.inl (some (Value.int z))) ((hcd.2.2.2 rfl).1 q hq k (by omega)), hC1, hk1, hl1⟩
set_option maxRecDepth 100000 in
set_option maxHeartbeats 4000000 in
theorem r_towel (Γ : pTG) (g : pGG) (mi : pMI) (ml : pML) (A : AS) (hA : okAS A) (hSh : Sh g) (hR : RI A mi) (q : Nat) (hq : q < (aP A).1) (k : Nat) (hka : 0 ≤ k) (hk : k ≤ 23) : CT Γ 60 0 0 mX12_towel [.ref 87, .int (nI q), .int (nI k)] g mi ml (RQ A (.inl ((DYd A).1 (211 + q) k)) cd2 g mi ml) := by
  refine CT_of (by decide +kernel) (Nat.le_of_ble_eq_true rfl) ?_
  have hP := hA.1
  have hG8 : aG A ≤ 8 := hP.2.1
  have hC8 : (aP A).1 ≤ 8 := hP.1
  refine X_aload_n dX12_towel_0 rfl ?_
  refine X_iconst (v := nI 0) dX12_towel_1 (by decide) ?_
  refine X_puti dX12_towel_2 fkX12_158 rfl rfl (k_87 hSh) ?_
  refine X_aload_n dX12_towel_5 rfl ?_
  refine X_aload_n dX12_towel_6 rfl ?_
  refine X_iload_n dX12_towel_7 rfl ?_
  refine X_callVI dX12_towel_8 mkX12_307 (k_87 hSh) (c_isChair Γ g (up2 mi 87 0 (nI 0)) ml hSh (nI q)) rfl rfl (by decide) (Nat.le_of_ble_eq_true rfl) ?_
  refine X_topi (show bI (decide (nI 0 ≤ nI q) && decide (nI q ≤ (up2 mi 87 0 (nI 0)) 91 0 - nI 1)) = nI 1 from congrArg bI (show (decide (nI 0 ≤ nI q) && decide (nI q ≤ (up2 mi 87 0 (nI 0)) 91 0 - nI 1)) = true from by rw [(show (up2 mi 87 0 (nI 0)) 91 0 = nI (aP A).1 from ((congrFun (up2_row (by omega)) _).trans hR.1.1))]; exact (gd_ref hC8).mpr ⟨q, hq, rfl⟩)) ?_
  refine X_if_neN (a := 1) 18 dX12_towel_11 (by decide) (by omega) (fun h_1 => ?_) (fun h_1 => ?_)
  · refine X_iconst (v := nI 0) dX12_towel_18 (by decide) ?_
    refine X_iconst (v := nI 1) dX12_towel_19 (by decide) ?_
    refine X_iconst (v := nI 0) dX12_towel_20 (by decide) ?_
    refine X_callVI dX12_towel_21 mkX12_228 (k_87 hSh) (c_bad0 Γ g (up2 mi 87 0 (nI 0)) ml hSh 1 0 up2_s) rfl rfl (by decide) (Nat.le_of_ble_eq_true rfl) ?_
    refine X_if_neN (a := 0) 48 dX12_towel_24 (by decide) (by omega) (fun h_2 => ?_) (fun h_2 => ?_)
    · exact absurd h_2 (by omega)
    · refine X_aload_n dX12_towel_27 rfl ?_
      refine X_iload_n dX12_towel_28 rfl ?_
      refine X_callSI dX12_towel_29 mkX12_298 (c_isHalf Γ g (up2 mi 87 0 (nI 0)) ml (nI k)) rfl rfl (by decide) (Nat.le_of_ble_eq_true rfl) ?_
      refine X_topi (show bI (decide (nI 0 ≤ nI k) && decide (nI k ≤ nI 23)) = nI 1 from congrArg bI (show (decide (nI 0 ≤ nI k) && decide (nI k ≤ nI 23)) = true from by rw [decide_eq_true (nI_le (by omega) (by omega)), decide_eq_true (nI_le (by omega) (by omega))]; rfl)) ?_
      refine X_if_neN (a := 1) 39 dX12_towel_32 (by decide) (by omega) (fun h_3 => ?_) (fun h_3 => ?_)
      · refine X_iconst (v := nI 0) dX12_towel_39 (by decide) ?_
        refine X_iconst (v := nI 2) dX12_towel_40 (by decide) ?_
        refine X_iconst (v := nI 1) dX12_towel_41 (by decide) ?_
        refine X_callVI dX12_towel_42 mkX12_228 (k_87 hSh) (c_bad0 Γ g (up2 mi 87 0 (nI 0)) ml hSh 2 1 up2_s) rfl rfl (by decide) (Nat.le_of_ble_eq_true rfl) ?_
        refine X_if_eqN (a := 0) 50 dX12_towel_45 (by decide) (by omega) (fun h_4 => ?_) (fun h_4 => ?_)
        · refine X_aload_n dX12_towel_50 rfl ?_
          have hw0 : frW mi (up2 mi 87 0 (nI 0)) := frW_u frW_r (by unfold rsF rsR; omega)
          refine X_callVrV dX12_towel_51 mkX12_353 (k_87 hSh) (r_dayK Γ g (up2 mi 87 0 (nI 0)) ml A hA hSh mi hR hw0) rfl rfl (by decide) (Nat.le_of_ble_eq_true rfl) (fun m1 l1 hm1 => ?_)
          obtain ⟨hrd, hfw, hf2, ht0, hrs, hl1⟩ := hm1
          rw [hl1]
          have hR1 := RI_fr hA hR hfw
          refine X_aload_n dX12_towel_54 rfl ?_
          refine X_getr (a := 210) dX12_towel_55 fkX12_119 rfl (k_87 hSh) (r_87_50 hSh) ?_
          refine X_iload_n dX12_towel_58 rfl ?_
          refine X_aaldr (b := 211 + q) q dX12_towel_59 (k_210 hSh) rfl (by omega) (o_210 hSh q (by omega)) ?_
          refine X_iload_n dX12_towel_60 rfl ?_
          refine X_iald k dX12_towel_61 (kr_210 hSh q (by omega)) rfl (by omega) ?_
          exact X_iret dX12_towel_62 rfl ⟨rfl, rfl, hR1, frM2_t (frM2_u frM2_r (by omega)) hf2, _, rfl, ((hrd.2.1 q hq).2.2.2 k (by omega)).1, ht0.trans up2_s⟩
        · exact absurd h_4 (by omega)
      · exact absurd h_3 (by omega)
  · exact absurd h_1 (by omega)
theorem m_towel (A : AS) (hA : okAS A) (c : Int32) (h : Int32) : MOK mX11_towel mX12_towel cd2 [.int c, .int h] A := by
  by_cases hg0 : ∃ b, b < (aP A).1 ∧ c = nI b
  · obtain ⟨q, hq, rfl⟩ := hg0
    by_cases hg1 : nI 0 ≤ h ∧ h ≤ nI 23
    · obtain ⟨k, hka, hk, rfl⟩ := (wi_iff (by decide) (by decide)).mp hg1
      exact ⟨.inl ((DYd A).1 (211 + q) k), A, hA, fun j h => (by cases h), fun Γ g m l hC => k_towel Γ g m l A hA hC q hq k hka hk, fun Γ g m l hSh hR => r_towel Γ g m l A hA hSh hR q hq k hka hk⟩
    · exact ⟨.inr 1, rfA A 1, ok_rf hA, fun j h => by cases h; decide, fun Γ g m l hC => k_towel_f1 Γ g m l A hA hC q hq h hg1, fun Γ g m l hSh hR => r_towel_f1 Γ g m l A hA hSh hR q hq h hg1⟩
  · exact ⟨.inr 0, rfA A 0, ok_rf hA, fun j h => by cases h; decide, fun Γ g m l hC => k_towel_f0 Γ g m l A hA hC c hg0 h, fun Γ g m l hSh hR => r_towel_f0 Γ g m l A hA hSh hR c hg0 h⟩
set_option maxRecDepth 100000 in
set_option maxHeartbeats 4000000 in
theorem k_waits_f0 (Γ : pTG) (g : pGG) (mi : pMI) (ml : pML) (A : AS) (hA : okAS A) (hC : CI A g mi ml) (h : Int32) (hf : ¬ (nI 0 ≤ h ∧ h ≤ nI 23)) : CT Γ 60 20 5000 mX11_waits [.ref 0, .int h] g mi ml (CQ (rfA A 1) (.inr 1) mi ml) := by
  refine CT_of (by decide +kernel) (Nat.le_of_ble_eq_true rfl) ?_
  have hSh := CI_Sh hC
  have hcl := CI_cl hC
  have hP := hA.1
  have hG8 : aG A ≤ 8 := hP.2.1
  have hC8 : (aP A).1 ≤ 8 := hP.1
  refine X_aload_n dX11_waits_0 rfl ?_
  refine X_iload_n dX11_waits_1 rfl ?_
  refine X_iconst (v := nI 0) dX11_waits_2 (by decide) ?_
  refine X_bipush (v := nI 23) dX11_waits_3 (by decide) ?_
  exact X_need dX11_waits_5 mkX11_116 (k_0 hSh) (c_needWithin Γ g mi ml hSh h (nI 0) (nI 23)) rfl rfl (by decide) (by decide) (by decide) (by decide) (fun _ => ⟨rfl, CI_rf (by decide) hC, frK_86, rfl⟩) (fun h => absurd h hf)
set_option maxRecDepth 100000 in
set_option maxHeartbeats 4000000 in
theorem r_waits_f0 (Γ : pTG) (g : pGG) (mi : pMI) (ml : pML) (A : AS) (hA : okAS A) (hSh : Sh g) (hR : RI A mi) (h : Int32) (hf : ¬ (nI 0 ≤ h ∧ h ≤ nI 23)) : CT Γ 60 0 0 mX12_waits [.ref 87, .int h] g mi ml (RQ (rfA A 1) (.inr 1) cd1 g mi ml) := by
  refine CT_of (by decide +kernel) (Nat.le_of_ble_eq_true rfl) ?_
  have hP := hA.1
  have hG8 : aG A ≤ 8 := hP.2.1
  have hC8 : (aP A).1 ≤ 8 := hP.1
  refine X_aload_n dX12_waits_0 rfl ?_
  refine X_iconst (v := nI 0) dX12_waits_1 (by decide) ?_
  refine X_puti dX12_waits_2 fkX12_158 rfl rfl (k_87 hSh) ?_
  refine X_aload_n dX12_waits_5 rfl ?_
  refine X_iload_n dX12_waits_6 rfl ?_
  refine X_callSI dX12_waits_7 mkX12_298 (c_isHalf Γ g (up2 mi 87 0 (nI 0)) ml h) rfl rfl (by decide) (Nat.le_of_ble_eq_true rfl) ?_
  refine X_topi (show bI (decide (nI 0 ≤ h) && decide (h ≤ nI 23)) = nI 0 from congrArg bI (show (decide (nI 0 ≤ h) && decide (h ≤ nI 23)) = false from Bool.eq_false_iff.mpr (fun q => hf (by rw [Bool.and_eq_true, decide_eq_true_eq, decide_eq_true_eq] at q; exact q)))) ?_
  refine X_if_neN (a := 0) 17 dX12_waits_10 (by decide) (by omega) (fun h_1 => ?_) (fun h_1 => ?_)
  · exact absurd h_1 (by omega)
  · refine X_iconst (v := nI 1) dX12_waits_13 (by decide) ?_
    refine X_goto 18 dX12_waits_14 (by decide) ?_
    refine X_iconst (v := nI 1) dX12_waits_18 (by decide) ?_
    refine X_iconst (v := nI 1) dX12_waits_19 (by decide) ?_
    refine X_callVI dX12_waits_20 mkX12_228 (k_87 hSh) (c_bad1 Γ g (up2 mi 87 0 (nI 0)) ml hSh 1 1 (by decide) (by decide) (by decide) up2_s) rfl rfl (by decide) (Nat.le_of_ble_eq_true rfl) ?_
    refine X_mi (show _ = mB mi 1 1 from rfl) ?_
    refine X_if_eqN (a := 1) 28 dX12_waits_23 (by decide) (by omega) (fun h_2 => ?_) (fun h_2 => ?_)
    · exact absurd h_2 (by omega)
    · refine X_iconst (v := nI 0) dX12_waits_26 (by decide) ?_
      exact X_iret dX12_waits_27 rfl ⟨rfl, rfl, RI_rf hA (by decide) hR, fr2_B, _, rfl, mB_0⟩
set_option maxRecDepth 100000 in
set_option maxHeartbeats 4000000 in
theorem k_waits (Γ : pTG) (g : pGG) (mi : pMI) (ml : pML) (A : AS) (hA : okAS A) (hC : CI A g mi ml) (k : Nat) (hka : 0 ≤ k) (hk : k ≤ 23) : CT Γ 60 20 5000 mX11_waits [.ref 0, .int (nI k)] g mi ml (CQ A (.inl ((DYd A).1 209 k)) mi ml) := by
  refine CT_of (by decide +kernel) (Nat.le_of_ble_eq_true rfl) ?_
  have hSh := CI_Sh hC
  have hcl := CI_cl hC
  have hP := hA.1
  have hG8 : aG A ≤ 8 := hP.2.1
  have hC8 : (aP A).1 ≤ 8 := hP.1
  refine X_aload_n dX11_waits_0 rfl ?_
  refine X_iload_n dX11_waits_1 rfl ?_
  refine X_iconst (v := nI 0) dX11_waits_2 (by decide) ?_
  refine X_bipush (v := nI 23) dX11_waits_3 (by decide) ?_
  refine X_need dX11_waits_5 mkX11_116 (k_0 hSh) (c_needWithin Γ g mi ml hSh (nI k) (nI 0) (nI 23)) rfl rfl (by decide) (by decide) (by decide) (by decide) (fun h => absurd (⟨nI_le (by omega) (by omega), nI_le (by omega) (by omega)⟩) h) (fun _ => ?_)
  refine X_aload_n dX11_waits_8 rfl ?_
  refine X_callVrV dX11_waits_9 mkX11_193 (k_0 hSh) (c_look Γ g mi ml A hA hC) rfl rfl (by decide) (Nat.le_of_ble_eq_true rfl) (fun m1 l1 hm1 => ?_)
  obtain ⟨⟨hC1, hcd⟩, hk1, hl1⟩ := hm1
  have hcl1 := CI_cl hC1
  refine X_aload_n dX11_waits_12 rfl ?_
  refine X_getr (a := 57) dX11_waits_13 fkX11_72 rfl (k_0 hSh) (r_0_9 hSh) ?_
  refine X_getr (a := 66) dX11_waits_16 fkX11_221 rfl (k_57 hSh) (r_57_4 hSh) ?_
  refine X_iload_n dX11_waits_19 rfl ?_
  refine X_iald k dX11_waits_20 (k_66 hSh) rfl (by omega) ?_
  exact X_iret dX11_waits_21 rfl ⟨congrArg (fun z => Sum.inl (some (Value.int z))) ((hcd.2.2.2 rfl).2 k (by omega)), hC1, hk1, hl1⟩
set_option maxRecDepth 100000 in
set_option maxHeartbeats 4000000 in
theorem r_waits (Γ : pTG) (g : pGG) (mi : pMI) (ml : pML) (A : AS) (hA : okAS A) (hSh : Sh g) (hR : RI A mi) (k : Nat) (hka : 0 ≤ k) (hk : k ≤ 23) : CT Γ 60 0 0 mX12_waits [.ref 87, .int (nI k)] g mi ml (RQ A (.inl ((DYd A).1 209 k)) cd1 g mi ml) := by
  refine CT_of (by decide +kernel) (Nat.le_of_ble_eq_true rfl) ?_
  have hP := hA.1
  have hG8 : aG A ≤ 8 := hP.2.1
  have hC8 : (aP A).1 ≤ 8 := hP.1
  refine X_aload_n dX12_waits_0 rfl ?_
  refine X_iconst (v := nI 0) dX12_waits_1 (by decide) ?_
  refine X_puti dX12_waits_2 fkX12_158 rfl rfl (k_87 hSh) ?_
  refine X_aload_n dX12_waits_5 rfl ?_
  refine X_iload_n dX12_waits_6 rfl ?_
  refine X_callSI dX12_waits_7 mkX12_298 (c_isHalf Γ g (up2 mi 87 0 (nI 0)) ml (nI k)) rfl rfl (by decide) (Nat.le_of_ble_eq_true rfl) ?_
  refine X_topi (show bI (decide (nI 0 ≤ nI k) && decide (nI k ≤ nI 23)) = nI 1 from congrArg bI (show (decide (nI 0 ≤ nI k) && decide (nI k ≤ nI 23)) = true from by rw [decide_eq_true (nI_le (by omega) (by omega)), decide_eq_true (nI_le (by omega) (by omega))]; rfl)) ?_
  refine X_if_neN (a := 1) 17 dX12_waits_10 (by decide) (by omega) (fun h_1 => ?_) (fun h_1 => ?_)
  · refine X_iconst (v := nI 0) dX12_waits_17 (by decide) ?_
    refine X_iconst (v := nI 1) dX12_waits_18 (by decide) ?_
    refine X_iconst (v := nI 1) dX12_waits_19 (by decide) ?_
    refine X_callVI dX12_waits_20 mkX12_228 (k_87 hSh) (c_bad0 Γ g (up2 mi 87 0 (nI 0)) ml hSh 1 1 up2_s) rfl rfl (by decide) (Nat.le_of_ble_eq_true rfl) ?_
    refine X_if_eqN (a := 0) 28 dX12_waits_23 (by decide) (by omega) (fun h_2 => ?_) (fun h_2 => ?_)
    · refine X_aload_n dX12_waits_28 rfl ?_
      have hw0 : frW mi (up2 mi 87 0 (nI 0)) := frW_u frW_r (by unfold rsF rsR; omega)
      refine X_callVrV dX12_waits_29 mkX12_353 (k_87 hSh) (r_dayK Γ g (up2 mi 87 0 (nI 0)) ml A hA hSh mi hR hw0) rfl rfl (by decide) (Nat.le_of_ble_eq_true rfl) (fun m1 l1 hm1 => ?_)
      obtain ⟨hrd, hfw, hf2, ht0, hrs, hl1⟩ := hm1
      rw [hl1]
      have hR1 := RI_fr hA hR hfw
      refine X_aload_n dX12_waits_32 rfl ?_
      refine X_getr (a := 209) dX12_waits_33 fkX12_116 rfl (k_87 hSh) (r_87_49 hSh) ?_
      refine X_iload_n dX12_waits_36 rfl ?_
      refine X_iald k dX12_waits_37 (k_209 hSh) rfl (by omega) ?_
      exact X_iret dX12_waits_38 rfl ⟨rfl, rfl, hR1, frM2_t (frM2_u frM2_r (by omega)) hf2, _, rfl, hrd.2.2.1 k (by omega), ht0.trans up2_s⟩
    · exact absurd h_2 (by omega)
  · exact absurd h_1 (by omega)
theorem m_waits (A : AS) (hA : okAS A) (h : Int32) : MOK mX11_waits mX12_waits cd1 [.int h] A := by
  by_cases hg0 : nI 0 ≤ h ∧ h ≤ nI 23
  · obtain ⟨k, hka, hk, rfl⟩ := (wi_iff (by decide) (by decide)).mp hg0
    exact ⟨.inl ((DYd A).1 209 k), A, hA, fun j h => (by cases h), fun Γ g m l hC => k_waits Γ g m l A hA hC k hka hk, fun Γ g m l hSh hR => r_waits Γ g m l A hA hSh hR k hka hk⟩
  · exact ⟨.inr 1, rfA A 1, ok_rf hA, fun j h => by cases h; decide, fun Γ g m l hC => k_waits_f0 Γ g m l A hA hC h hg0, fun Γ g m l hSh hR => r_waits_f0 Γ g m l A hA hSh hR h hg0⟩
theorem DY_pl {A : AS} (hA : okAS A) : PLI (aP A).1 (aG A) (pF (aP A)) 24 (DYd A) := (ref_eq (P := aP A) (m := mR (aP A) (mrn (aP A) (aH A) (aD A)) id (aP A).2.2.2.1) (cm := mrn (aP A) (aH A) (aD A)) (rk := id) (ord := id) (un := (aP A).2.2.2.1) hA.1 (mR_rf _ hA.1 _ _ _) (fun b hb => ⟨rfl, sqd_lt hA.1 _ _⟩) (fun b hb => rfl) (okO_id hA.1.2.1) rfl ⟨hA.1.2.2.2.1, hA.1.2.2.2.2.1⟩).2.2.2.2
def lyV (A : AS) (q k : Nat) : Int32 := if (DYd A).1 (211 + q) k = -1 then -1 else if k < (aP A).2.2.2.2.2.2 (uN ((DYd A).1 (211 + q) k)) 1 then -1 else (DYd A).1 (211 + q) k
set_option maxRecDepth 100000 in
set_option maxHeartbeats 4000000 in
theorem k_lies_f0 (Γ : pTG) (g : pGG) (mi : pMI) (ml : pML) (A : AS) (hA : okAS A) (hC : CI A g mi ml) (c : Int32) (hf : ¬ ∃ b, b < (aP A).1 ∧ c = nI b) (h : Int32) : CT Γ 60 20 5000 mX11_lies [.ref 0, .int c, .int h] g mi ml (CQ (rfA A 0) (.inr 0) mi ml) := by
  refine CT_of (by decide +kernel) (Nat.le_of_ble_eq_true rfl) ?_
  have hSh := CI_Sh hC
  have hcl := CI_cl hC
  have hP := hA.1
  have hG8 : aG A ≤ 8 := hP.2.1
  have hC8 : (aP A).1 ≤ 8 := hP.1
  refine X_aload_n dX11_lies_0 rfl ?_
  refine X_iload_n dX11_lies_1 rfl ?_
  exact X_need dX11_lies_2 mkX11_184 (k_0 hSh) (c_needChair Γ g mi ml hSh c) rfl rfl (by decide) (by decide) (by decide) (by decide) (fun _ => ⟨rfl, CI_rf (by decide) hC, frK_86, rfl⟩) (fun h => absurd ((gd_iff hC8).mp (by rw [← hcl.1]; exact h)) hf)
set_option maxRecDepth 100000 in
set_option maxHeartbeats 4000000 in
theorem r_lies_f0 (Γ : pTG) (g : pGG) (mi : pMI) (ml : pML) (A : AS) (hA : okAS A) (hSh : Sh g) (hR : RI A mi) (c : Int32) (hf : ¬ ∃ b, b < (aP A).1 ∧ c = nI b) (h : Int32) : CT Γ 60 0 0 mX12_lies [.ref 87, .int c, .int h] g mi ml (RQ (rfA A 0) (.inr 0) cd2 g mi ml) := by
  refine CT_of (by decide +kernel) (Nat.le_of_ble_eq_true rfl) ?_
  have hP := hA.1
  have hG8 : aG A ≤ 8 := hP.2.1
  have hC8 : (aP A).1 ≤ 8 := hP.1
  refine X_aload_n dX12_lies_0 rfl ?_
  refine X_iconst (v := nI 0) dX12_lies_1 (by decide) ?_
  refine X_puti dX12_lies_2 fkX12_158 rfl rfl (k_87 hSh) ?_
  refine X_aload_n dX12_lies_5 rfl ?_
  refine X_aload_n dX12_lies_6 rfl ?_
  refine X_iload_n dX12_lies_7 rfl ?_
  refine X_callVI dX12_lies_8 mkX12_307 (k_87 hSh) (c_isChair Γ g (up2 mi 87 0 (nI 0)) ml hSh c) rfl rfl (by decide) (Nat.le_of_ble_eq_true rfl) ?_
  refine X_topi (show bI (decide (nI 0 ≤ c) && decide (c ≤ (up2 mi 87 0 (nI 0)) 91 0 - nI 1)) = nI 0 from congrArg bI (show (decide (nI 0 ≤ c) && decide (c ≤ (up2 mi 87 0 (nI 0)) 91 0 - nI 1)) = false from Bool.eq_false_iff.mpr (fun q => hf ((gd_ref hC8).mp (by rw [(show (up2 mi 87 0 (nI 0)) 91 0 = nI (aP A).1 from ((congrFun (up2_row (by omega)) _).trans hR.1.1))] at q; exact q))))) ?_
  refine X_if_neN (a := 0) 18 dX12_lies_11 (by decide) (by omega) (fun h_1 => ?_) (fun h_1 => ?_)
  · exact absurd h_1 (by omega)
  · refine X_iconst (v := nI 1) dX12_lies_14 (by decide) ?_
    refine X_goto 19 dX12_lies_15 (by decide) ?_
    refine X_iconst (v := nI 1) dX12_lies_19 (by decide) ?_
    refine X_iconst (v := nI 0) dX12_lies_20 (by decide) ?_
    refine X_callVI dX12_lies_21 mkX12_228 (k_87 hSh) (c_bad1 Γ g (up2 mi 87 0 (nI 0)) ml hSh 1 0 (by decide) (by decide) (by decide) up2_s) rfl rfl (by decide) (Nat.le_of_ble_eq_true rfl) ?_
    refine X_mi (show _ = mB mi 1 0 from rfl) ?_
    refine X_if_neN (a := 1) 48 dX12_lies_24 (by decide) (by omega) (fun h_2 => ?_) (fun h_2 => ?_)
    · refine X_iconst (v := nI 0) dX12_lies_48 (by decide) ?_
      exact X_iret dX12_lies_49 rfl ⟨rfl, rfl, RI_rf hA (by decide) hR, fr2_B, _, rfl, mB_0⟩
    · exact absurd h_2 (by omega)
set_option maxRecDepth 100000 in
set_option maxHeartbeats 4000000 in
theorem k_lies_f1 (Γ : pTG) (g : pGG) (mi : pMI) (ml : pML) (A : AS) (hA : okAS A) (hC : CI A g mi ml) (q : Nat) (hq : q < (aP A).1) (h : Int32) (hf : ¬ (nI 0 ≤ h ∧ h ≤ nI 23)) : CT Γ 60 20 5000 mX11_lies [.ref 0, .int (nI q), .int h] g mi ml (CQ (rfA A 1) (.inr 1) mi ml) := by
  refine CT_of (by decide +kernel) (Nat.le_of_ble_eq_true rfl) ?_
  have hSh := CI_Sh hC
  have hcl := CI_cl hC
  have hP := hA.1
  have hG8 : aG A ≤ 8 := hP.2.1
  have hC8 : (aP A).1 ≤ 8 := hP.1
  refine X_aload_n dX11_lies_0 rfl ?_
  refine X_iload_n dX11_lies_1 rfl ?_
  refine X_need dX11_lies_2 mkX11_184 (k_0 hSh) (c_needChair Γ g mi ml hSh (nI q)) rfl rfl (by decide) (by decide) (by decide) (by decide) (fun h => absurd (by rw [hcl.1]; exact (gd_iff hC8).mpr ⟨q, hq, rfl⟩) h) (fun _ => ?_)
  refine X_aload_n dX11_lies_5 rfl ?_
  refine X_iload_n dX11_lies_6 rfl ?_
  refine X_iconst (v := nI 0) dX11_lies_7 (by decide) ?_
  refine X_bipush (v := nI 23) dX11_lies_8 (by decide) ?_
  exact X_need dX11_lies_10 mkX11_116 (k_0 hSh) (c_needWithin Γ g mi ml hSh h (nI 0) (nI 23)) rfl rfl (by decide) (by decide) (by decide) (by decide) (fun _ => ⟨rfl, CI_rf (by decide) hC, frK_86, rfl⟩) (fun h => absurd h hf)
set_option maxRecDepth 100000 in
set_option maxHeartbeats 4000000 in
theorem r_lies_f1 (Γ : pTG) (g : pGG) (mi : pMI) (ml : pML) (A : AS) (hA : okAS A) (hSh : Sh g) (hR : RI A mi) (q : Nat) (hq : q < (aP A).1) (h : Int32) (hf : ¬ (nI 0 ≤ h ∧ h ≤ nI 23)) : CT Γ 60 0 0 mX12_lies [.ref 87, .int (nI q), .int h] g mi ml (RQ (rfA A 1) (.inr 1) cd2 g mi ml) := by
  refine CT_of (by decide +kernel) (Nat.le_of_ble_eq_true rfl) ?_
  have hP := hA.1
  have hG8 : aG A ≤ 8 := hP.2.1
  have hC8 : (aP A).1 ≤ 8 := hP.1
  refine X_aload_n dX12_lies_0 rfl ?_
  refine X_iconst (v := nI 0) dX12_lies_1 (by decide) ?_
  refine X_puti dX12_lies_2 fkX12_158 rfl rfl (k_87 hSh) ?_
  refine X_aload_n dX12_lies_5 rfl ?_
  refine X_aload_n dX12_lies_6 rfl ?_
  refine X_iload_n dX12_lies_7 rfl ?_
  refine X_callVI dX12_lies_8 mkX12_307 (k_87 hSh) (c_isChair Γ g (up2 mi 87 0 (nI 0)) ml hSh (nI q)) rfl rfl (by decide) (Nat.le_of_ble_eq_true rfl) ?_
  refine X_topi (show bI (decide (nI 0 ≤ nI q) && decide (nI q ≤ (up2 mi 87 0 (nI 0)) 91 0 - nI 1)) = nI 1 from congrArg bI (show (decide (nI 0 ≤ nI q) && decide (nI q ≤ (up2 mi 87 0 (nI 0)) 91 0 - nI 1)) = true from by rw [(show (up2 mi 87 0 (nI 0)) 91 0 = nI (aP A).1 from ((congrFun (up2_row (by omega)) _).trans hR.1.1))]; exact (gd_ref hC8).mpr ⟨q, hq, rfl⟩)) ?_
  refine X_if_neN (a := 1) 18 dX12_lies_11 (by decide) (by omega) (fun h_1 => ?_) (fun h_1 => ?_)
  · refine X_iconst (v := nI 0) dX12_lies_18 (by decide) ?_
    refine X_iconst (v := nI 1) dX12_lies_19 (by decide) ?_
    refine X_iconst (v := nI 0) dX12_lies_20 (by decide) ?_
    refine X_callVI dX12_lies_21 mkX12_228 (k_87 hSh) (c_bad0 Γ g (up2 mi 87 0 (nI 0)) ml hSh 1 0 up2_s) rfl rfl (by decide) (Nat.le_of_ble_eq_true rfl) ?_
    refine X_if_neN (a := 0) 48 dX12_lies_24 (by decide) (by omega) (fun h_2 => ?_) (fun h_2 => ?_)
    · exact absurd h_2 (by omega)
    · refine X_aload_n dX12_lies_27 rfl ?_
      refine X_iload_n dX12_lies_28 rfl ?_
      refine X_callSI dX12_lies_29 mkX12_298 (c_isHalf Γ g (up2 mi 87 0 (nI 0)) ml h) rfl rfl (by decide) (Nat.le_of_ble_eq_true rfl) ?_
      refine X_topi (show bI (decide (nI 0 ≤ h) && decide (h ≤ nI 23)) = nI 0 from congrArg bI (show (decide (nI 0 ≤ h) && decide (h ≤ nI 23)) = false from Bool.eq_false_iff.mpr (fun q => hf (by rw [Bool.and_eq_true, decide_eq_true_eq, decide_eq_true_eq] at q; exact q)))) ?_
      refine X_if_neN (a := 0) 39 dX12_lies_32 (by decide) (by omega) (fun h_3 => ?_) (fun h_3 => ?_)
      · exact absurd h_3 (by omega)
      · refine X_iconst (v := nI 1) dX12_lies_35 (by decide) ?_
        refine X_goto 40 dX12_lies_36 (by decide) ?_
        refine X_iconst (v := nI 2) dX12_lies_40 (by decide) ?_
        refine X_iconst (v := nI 1) dX12_lies_41 (by decide) ?_
        refine X_callVI dX12_lies_42 mkX12_228 (k_87 hSh) (c_bad1 Γ g (up2 mi 87 0 (nI 0)) ml hSh 2 1 (by decide) (by decide) (by decide) up2_s) rfl rfl (by decide) (Nat.le_of_ble_eq_true rfl) ?_
        refine X_mi (show _ = mB mi 2 1 from rfl) ?_
        refine X_if_eqN (a := 1) 50 dX12_lies_45 (by decide) (by omega) (fun h_4 => ?_) (fun h_4 => ?_)
        · exact absurd h_4 (by omega)
        · refine X_iconst (v := nI 0) dX12_lies_48 (by decide) ?_
          exact X_iret dX12_lies_49 rfl ⟨rfl, rfl, RI_rf hA (by decide) hR, fr2_B, _, rfl, mB_0⟩
  · exact absurd h_1 (by omega)
set_option maxRecDepth 100000 in
set_option maxHeartbeats 4000000 in
theorem k_lies_e (Γ : pTG) (g : pGG) (mi : pMI) (ml : pML) (A : AS) (hA : okAS A) (hC : CI A g mi ml) (q : Nat) (hq : q < (aP A).1) (k : Nat) (hka : 0 ≤ k) (hk : k ≤ 23) (ht : (DYd A).1 (211 + q) k = -1) : CT Γ 60 20 5000 mX11_lies [.ref 0, .int (nI q), .int (nI k)] g mi ml (CQ A (.inl (lyV A q k)) mi ml) := by
  refine CT_of (by decide +kernel) (Nat.le_of_ble_eq_true rfl) ?_
  have hSh := CI_Sh hC
  have hcl := CI_cl hC
  have hP := hA.1
  have hG8 : aG A ≤ 8 := hP.2.1
  have hC8 : (aP A).1 ≤ 8 := hP.1
  refine X_aload_n dX11_lies_0 rfl ?_
  refine X_iload_n dX11_lies_1 rfl ?_
  refine X_need dX11_lies_2 mkX11_184 (k_0 hSh) (c_needChair Γ g mi ml hSh (nI q)) rfl rfl (by decide) (by decide) (by decide) (by decide) (fun h => absurd (by rw [hcl.1]; exact (gd_iff hC8).mpr ⟨q, hq, rfl⟩) h) (fun _ => ?_)
  refine X_aload_n dX11_lies_5 rfl ?_
  refine X_iload_n dX11_lies_6 rfl ?_
  refine X_iconst (v := nI 0) dX11_lies_7 (by decide) ?_
  refine X_bipush (v := nI 23) dX11_lies_8 (by decide) ?_
  refine X_need dX11_lies_10 mkX11_116 (k_0 hSh) (c_needWithin Γ g mi ml hSh (nI k) (nI 0) (nI 23)) rfl rfl (by decide) (by decide) (by decide) (by decide) (fun h => absurd (⟨nI_le (by omega) (by omega), nI_le (by omega) (by omega)⟩) h) (fun _ => ?_)
  refine X_aload_n dX11_lies_13 rfl ?_
  refine X_callVrV dX11_lies_14 mkX11_193 (k_0 hSh) (c_look Γ g mi ml A hA hC) rfl rfl (by decide) (Nat.le_of_ble_eq_true rfl) (fun m1 l1 hm1 => ?_)
  obtain ⟨⟨hC1, hcd⟩, hk1, hl1⟩ := hm1
  have hcl1 := CI_cl hC1
  refine X_aload_n dX11_lies_17 rfl ?_
  refine X_getr (a := 57) dX11_lies_18 fkX11_72 rfl (k_0 hSh) (r_0_9 hSh) ?_
  refine X_getr (a := 65) dX11_lies_21 fkX11_218 rfl (k_57 hSh) (r_57_3 hSh) ?_
  refine X_iload_n dX11_lies_24 rfl ?_
  refine X_bipush (v := nI 24) dX11_lies_25 (by decide) ?_
  refine X_imul dX11_lies_27 ?_
  refine X_topi (pk_mul q 24) ?_
  refine X_iload_n dX11_lies_28 rfl ?_
  refine X_iadd dX11_lies_29 ?_
  refine X_topi (nI_add (q * 24) k) ?_
  refine X_iald ((q * 24) + k) dX11_lies_30 (k_65 hSh) rfl (by first | omega | (have hx9 := (hP.2.2.2.2.2.2.2 x hx).2.1; omega)) ?_
  rw [((hcd.2.2.2 rfl).1 q hq k (by omega)).trans ht]
  refine X_istore_n dX11_lies_31 (by decide) ?_
  refine X_iload_n dX11_lies_32 rfl ?_
  refine X_iconst (v := -1) dX11_lies_33 (by decide) ?_
  refine X_icmp_eq 54 dX11_lies_34 (by decide) (fun h_1 => ?_) (fun h_1 => ?_)
  · refine X_iconst (v := -1) dX11_lies_54 (by decide) ?_
    exact X_iret dX11_lies_55 rfl ⟨congrArg (fun z => Sum.inl (some (Value.int z))) ((if_pos ht).symm), hC1, hk1, hl1⟩
  · exact absurd rfl h_1
set_option maxRecDepth 100000 in
set_option maxHeartbeats 4000000 in
theorem k_lies_s (Γ : pTG) (g : pGG) (mi : pMI) (ml : pML) (A : AS) (hA : okAS A) (hC : CI A g mi ml) (q : Nat) (hq : q < (aP A).1) (k : Nat) (hka : 0 ≤ k) (hk : k ≤ 23) (x : Nat) (hx : x < aG A) (ht : (DYd A).1 (211 + q) k = nI x) : CT Γ 60 20 5000 mX11_lies [.ref 0, .int (nI q), .int (nI k)] g mi ml (CQ A (.inl (lyV A q k)) mi ml) := by
  refine CT_of (by decide +kernel) (Nat.le_of_ble_eq_true rfl) ?_
  have hSh := CI_Sh hC
  have hcl := CI_cl hC
  have hP := hA.1
  have hG8 : aG A ≤ 8 := hP.2.1
  have hC8 : (aP A).1 ≤ 8 := hP.1
  refine X_aload_n dX11_lies_0 rfl ?_
  refine X_iload_n dX11_lies_1 rfl ?_
  refine X_need dX11_lies_2 mkX11_184 (k_0 hSh) (c_needChair Γ g mi ml hSh (nI q)) rfl rfl (by decide) (by decide) (by decide) (by decide) (fun h => absurd (by rw [hcl.1]; exact (gd_iff hC8).mpr ⟨q, hq, rfl⟩) h) (fun _ => ?_)
  refine X_aload_n dX11_lies_5 rfl ?_
  refine X_iload_n dX11_lies_6 rfl ?_
  refine X_iconst (v := nI 0) dX11_lies_7 (by decide) ?_
  refine X_bipush (v := nI 23) dX11_lies_8 (by decide) ?_
  refine X_need dX11_lies_10 mkX11_116 (k_0 hSh) (c_needWithin Γ g mi ml hSh (nI k) (nI 0) (nI 23)) rfl rfl (by decide) (by decide) (by decide) (by decide) (fun h => absurd (⟨nI_le (by omega) (by omega), nI_le (by omega) (by omega)⟩) h) (fun _ => ?_)
  refine X_aload_n dX11_lies_13 rfl ?_
  refine X_callVrV dX11_lies_14 mkX11_193 (k_0 hSh) (c_look Γ g mi ml A hA hC) rfl rfl (by decide) (Nat.le_of_ble_eq_true rfl) (fun m1 l1 hm1 => ?_)
  obtain ⟨⟨hC1, hcd⟩, hk1, hl1⟩ := hm1
  have hcl1 := CI_cl hC1
  refine X_aload_n dX11_lies_17 rfl ?_
  refine X_getr (a := 57) dX11_lies_18 fkX11_72 rfl (k_0 hSh) (r_0_9 hSh) ?_
  refine X_getr (a := 65) dX11_lies_21 fkX11_218 rfl (k_57 hSh) (r_57_3 hSh) ?_
  refine X_iload_n dX11_lies_24 rfl ?_
  refine X_bipush (v := nI 24) dX11_lies_25 (by decide) ?_
  refine X_imul dX11_lies_27 ?_
  refine X_topi (pk_mul q 24) ?_
  refine X_iload_n dX11_lies_28 rfl ?_
  refine X_iadd dX11_lies_29 ?_
  refine X_topi (nI_add (q * 24) k) ?_
  refine X_iald ((q * 24) + k) dX11_lies_30 (k_65 hSh) rfl (by first | omega | (have hx9 := (hP.2.2.2.2.2.2.2 x hx).2.1; omega)) ?_
  rw [((hcd.2.2.2 rfl).1 q hq k (by omega)).trans ht]
  refine X_istore_n dX11_lies_31 (by decide) ?_
  refine X_iload_n dX11_lies_32 rfl ?_
  refine X_iconst (v := -1) dX11_lies_33 (by decide) ?_
  refine X_icmp_eq 54 dX11_lies_34 (by decide) (fun h_1 => ?_) (fun h_1 => ?_)
  · exact absurd h_1 (nI_m1 (by first | omega | (have hx9 := (hP.2.2.2.2.2.2.2 x hx).2.1; omega)))
  · refine X_iload_n dX11_lies_37 rfl ?_
    refine X_aload_n dX11_lies_38 rfl ?_
    refine X_getr (a := 3) dX11_lies_39 fkX11_25 rfl (k_0 hSh) (r_0_2 hSh) ?_
    refine X_getr (a := 7) dX11_lies_42 fkX11_202 rfl (k_3 hSh) (r_3_3 hSh) ?_
    refine X_iload_n dX11_lies_45 rfl ?_
    refine X_iald x dX11_lies_46 (k_7 hSh) rfl (by first | omega | (have hx9 := (hP.2.2.2.2.2.2.2 x hx).2.1; omega)) ?_
    rw [(hcl1.2.2.2.2.2.2 x hx).2.1]
    refine X_icmp_ltN (a := k) (b := (aP A).2.2.2.2.2.2 x 1) 54 dX11_lies_47 (by decide) (by first | omega | (have hx9 := (hP.2.2.2.2.2.2.2 x hx).2.1; omega)) (by first | omega | (have hx9 := (hP.2.2.2.2.2.2.2 x hx).2.1; omega)) (fun h_2 => ?_) (fun h_2 => ?_)
    · refine X_iconst (v := -1) dX11_lies_54 (by decide) ?_
      exact X_iret dX11_lies_55 rfl ⟨congrArg (fun z => Sum.inl (some (Value.int z))) (((if_neg (by rw [ht]; exact nI_m1 (by omega))).trans (if_pos (by rw [ht, uN_nI (by omega)]; assumption))).symm), hC1, hk1, hl1⟩
    · refine X_iload_n dX11_lies_50 rfl ?_
      refine X_goto 55 dX11_lies_51 (by decide) ?_
      exact X_iret dX11_lies_55 rfl ⟨congrArg (fun z => Sum.inl (some (Value.int z))) ((((if_neg (by rw [ht]; exact nI_m1 (by omega))).trans (if_neg (by rw [ht, uN_nI (by omega)]; omega))).trans ht).symm), hC1, hk1, hl1⟩
theorem lies_r {A : AS} {m : pMI} {q k : Nat} (hA : okAS A) (hq : q < (aP A).1) (hk : k < 24) (h : RDY m (aP A) (mrn (aP A) (aH A) (aD A)) (DYd A)) : m (220 + q) k = lyV A q k := by
  obtain ⟨h1, h2⟩ := (h.2.1 q hq).2.2.2 k hk
  have hG8 : aG A ≤ 8 := hA.1.2.1
  unfold lyV
  rw [← h1]
  rcases h2 with ⟨a, b⟩ | ⟨x, hx, a, b⟩
  · rw [if_pos a, b]
  · have hx : x < aG A := hx
    rw [b, a, if_neg (nI_m1 (by omega)), uN_nI (by omega)]
set_option maxRecDepth 100000 in
set_option maxHeartbeats 4000000 in
theorem r_lies (Γ : pTG) (g : pGG) (mi : pMI) (ml : pML) (A : AS) (hA : okAS A) (hSh : Sh g) (hR : RI A mi) (q : Nat) (hq : q < (aP A).1) (k : Nat) (hka : 0 ≤ k) (hk : k ≤ 23) : CT Γ 60 0 0 mX12_lies [.ref 87, .int (nI q), .int (nI k)] g mi ml (RQ A (.inl (lyV A q k)) cd2 g mi ml) := by
  refine CT_of (by decide +kernel) (Nat.le_of_ble_eq_true rfl) ?_
  have hP := hA.1
  have hG8 : aG A ≤ 8 := hP.2.1
  have hC8 : (aP A).1 ≤ 8 := hP.1
  refine X_aload_n dX12_lies_0 rfl ?_
  refine X_iconst (v := nI 0) dX12_lies_1 (by decide) ?_
  refine X_puti dX12_lies_2 fkX12_158 rfl rfl (k_87 hSh) ?_
  refine X_aload_n dX12_lies_5 rfl ?_
  refine X_aload_n dX12_lies_6 rfl ?_
  refine X_iload_n dX12_lies_7 rfl ?_
  refine X_callVI dX12_lies_8 mkX12_307 (k_87 hSh) (c_isChair Γ g (up2 mi 87 0 (nI 0)) ml hSh (nI q)) rfl rfl (by decide) (Nat.le_of_ble_eq_true rfl) ?_
  refine X_topi (show bI (decide (nI 0 ≤ nI q) && decide (nI q ≤ (up2 mi 87 0 (nI 0)) 91 0 - nI 1)) = nI 1 from congrArg bI (show (decide (nI 0 ≤ nI q) && decide (nI q ≤ (up2 mi 87 0 (nI 0)) 91 0 - nI 1)) = true from by rw [(show (up2 mi 87 0 (nI 0)) 91 0 = nI (aP A).1 from ((congrFun (up2_row (by omega)) _).trans hR.1.1))]; exact (gd_ref hC8).mpr ⟨q, hq, rfl⟩)) ?_
  refine X_if_neN (a := 1) 18 dX12_lies_11 (by decide) (by omega) (fun h_1 => ?_) (fun h_1 => ?_)
  · refine X_iconst (v := nI 0) dX12_lies_18 (by decide) ?_
    refine X_iconst (v := nI 1) dX12_lies_19 (by decide) ?_
    refine X_iconst (v := nI 0) dX12_lies_20 (by decide) ?_
    refine X_callVI dX12_lies_21 mkX12_228 (k_87 hSh) (c_bad0 Γ g (up2 mi 87 0 (nI 0)) ml hSh 1 0 up2_s) rfl rfl (by decide) (Nat.le_of_ble_eq_true rfl) ?_
    refine X_if_neN (a := 0) 48 dX12_lies_24 (by decide) (by omega) (fun h_2 => ?_) (fun h_2 => ?_)
    · exact absurd h_2 (by omega)
    · refine X_aload_n dX12_lies_27 rfl ?_
      refine X_iload_n dX12_lies_28 rfl ?_
      refine X_callSI dX12_lies_29 mkX12_298 (c_isHalf Γ g (up2 mi 87 0 (nI 0)) ml (nI k)) rfl rfl (by decide) (Nat.le_of_ble_eq_true rfl) ?_
      refine X_topi (show bI (decide (nI 0 ≤ nI k) && decide (nI k ≤ nI 23)) = nI 1 from congrArg bI (show (decide (nI 0 ≤ nI k) && decide (nI k ≤ nI 23)) = true from by rw [decide_eq_true (nI_le (by omega) (by omega)), decide_eq_true (nI_le (by omega) (by omega))]; rfl)) ?_
      refine X_if_neN (a := 1) 39 dX12_lies_32 (by decide) (by omega) (fun h_3 => ?_) (fun h_3 => ?_)
      · refine X_iconst (v := nI 0) dX12_lies_39 (by decide) ?_
        refine X_iconst (v := nI 2) dX12_lies_40 (by decide) ?_
        refine X_iconst (v := nI 1) dX12_lies_41 (by decide) ?_
        refine X_callVI dX12_lies_42 mkX12_228 (k_87 hSh) (c_bad0 Γ g (up2 mi 87 0 (nI 0)) ml hSh 2 1 up2_s) rfl rfl (by decide) (Nat.le_of_ble_eq_true rfl) ?_
        refine X_if_eqN (a := 0) 50 dX12_lies_45 (by decide) (by omega) (fun h_4 => ?_) (fun h_4 => ?_)
        · refine X_aload_n dX12_lies_50 rfl ?_
          have hw0 : frW mi (up2 mi 87 0 (nI 0)) := frW_u frW_r (by unfold rsF rsR; omega)
          refine X_callVrV dX12_lies_51 mkX12_353 (k_87 hSh) (r_dayK Γ g (up2 mi 87 0 (nI 0)) ml A hA hSh mi hR hw0) rfl rfl (by decide) (Nat.le_of_ble_eq_true rfl) (fun m1 l1 hm1 => ?_)
          obtain ⟨hrd, hfw, hf2, ht0, hrs, hl1⟩ := hm1
          rw [hl1]
          have hR1 := RI_fr hA hR hfw
          refine X_aload_n dX12_lies_54 rfl ?_
          refine X_getr (a := 219) dX12_lies_55 fkX12_122 rfl (k_87 hSh) (r_87_51 hSh) ?_
          refine X_iload_n dX12_lies_58 rfl ?_
          refine X_aaldr (b := 220 + q) q dX12_lies_59 (k_219 hSh) rfl (by omega) (o_219 hSh q (by omega)) ?_
          refine X_iload_n dX12_lies_60 rfl ?_
          refine X_iald k dX12_lies_61 (kr_219 hSh q (by omega)) rfl (by omega) ?_
          exact X_iret dX12_lies_62 rfl ⟨rfl, rfl, hR1, frM2_t (frM2_u frM2_r (by omega)) hf2, _, rfl, lies_r hA hq (by omega) hrd, ht0.trans up2_s⟩
        · exact absurd h_4 (by omega)
      · exact absurd h_3 (by omega)
  · exact absurd h_1 (by omega)
theorem m_lies (A : AS) (hA : okAS A) (c : Int32) (h : Int32) : MOK mX11_lies mX12_lies cd2 [.int c, .int h] A := by
  by_cases hg0 : ∃ b, b < (aP A).1 ∧ c = nI b
  · obtain ⟨q, hq, rfl⟩ := hg0
    by_cases hg1 : nI 0 ≤ h ∧ h ≤ nI 23
    · obtain ⟨k, hka, hk, rfl⟩ := (wi_iff (by decide) (by decide)).mp hg1
      refine ⟨.inl (lyV A q k), A, hA, fun j h => (by cases h), fun Γ g m l hC => ?_, fun Γ g m l hSh hR => r_lies Γ g m l A hA hSh hR q hq k hka hk⟩
      rcases DY_pl hA q hq k (by omega) with ⟨ht, _⟩ | ⟨x, hx, ht, _⟩
      · exact k_lies_e Γ g m l A hA hC q hq k hka hk ht
      · exact k_lies_s Γ g m l A hA hC q hq k hka hk x hx ht
    · exact ⟨.inr 1, rfA A 1, ok_rf hA, fun j h => by cases h; decide, fun Γ g m l hC => k_lies_f1 Γ g m l A hA hC q hq h hg1, fun Γ g m l hSh hR => r_lies_f1 Γ g m l A hA hSh hR q hq h hg1⟩
  · exact ⟨.inr 0, rfA A 0, ok_rf hA, fun j h => by cases h; decide, fun Γ g m l hC => k_lies_f0 Γ g m l A hA hC c hg0 h, fun Γ g m l hSh hR => r_lies_f0 Γ g m l A hA hSh hR c hg0 h⟩
theorem i_or0 (x : Int32) : x ||| nI 0 = x := b_ext (fun i hi => by rw [b_or, show bt (nI 0) i = false from b_0 i, Bool.or_false])
set_option maxRecDepth 100000 in
set_option maxHeartbeats 4000000 in
theorem k_early_f0 (Γ : pTG) (g : pGG) (mi : pMI) (ml : pML) (A : AS) (hA : okAS A) (hC : CI A g mi ml) (h : Int32) (hf : ¬ (nI 0 ≤ h ∧ h ≤ nI 23)) : CT Γ 60 20 5000 mX11_early [.ref 0, .int h] g mi ml (CQ (rfA A 1) (.inr 1) mi ml) := by
  refine CT_of (by decide +kernel) (Nat.le_of_ble_eq_true rfl) ?_
  have hSh := CI_Sh hC
  have hcl := CI_cl hC
  have hP := hA.1
  have hG8 : aG A ≤ 8 := hP.2.1
  have hC8 : (aP A).1 ≤ 8 := hP.1
  refine X_aload_n dX11_early_0 rfl ?_
  refine X_iload_n dX11_early_1 rfl ?_
  refine X_iconst (v := nI 0) dX11_early_2 (by decide) ?_
  refine X_bipush (v := nI 23) dX11_early_3 (by decide) ?_
  exact X_need dX11_early_5 mkX11_116 (k_0 hSh) (c_needWithin Γ g mi ml hSh h (nI 0) (nI 23)) rfl rfl (by decide) (by decide) (by decide) (by decide) (fun _ => ⟨rfl, CI_rf (by decide) hC, frK_86, rfl⟩) (fun h => absurd h hf)
set_option maxRecDepth 100000 in
set_option maxHeartbeats 4000000 in
theorem r_early_f0 (Γ : pTG) (g : pGG) (mi : pMI) (ml : pML) (A : AS) (hA : okAS A) (hSh : Sh g) (hR : RI A mi) (h : Int32) (hf : ¬ (nI 0 ≤ h ∧ h ≤ nI 23)) : CT Γ 60 0 0 mX12_early [.ref 87, .int h] g mi ml (RQ (rfA A 1) (.inr 1) cd1 g mi ml) := by
  refine CT_of (by decide +kernel) (Nat.le_of_ble_eq_true rfl) ?_
  have hP := hA.1
  have hG8 : aG A ≤ 8 := hP.2.1
  have hC8 : (aP A).1 ≤ 8 := hP.1
  refine X_aload_n dX12_early_0 rfl ?_
  refine X_iconst (v := nI 0) dX12_early_1 (by decide) ?_
  refine X_puti dX12_early_2 fkX12_158 rfl rfl (k_87 hSh) ?_
  refine X_aload_n dX12_early_5 rfl ?_
  refine X_iload_n dX12_early_6 rfl ?_
  refine X_callSI dX12_early_7 mkX12_298 (c_isHalf Γ g (up2 mi 87 0 (nI 0)) ml h) rfl rfl (by decide) (Nat.le_of_ble_eq_true rfl) ?_
  refine X_topi (show bI (decide (nI 0 ≤ h) && decide (h ≤ nI 23)) = nI 0 from congrArg bI (show (decide (nI 0 ≤ h) && decide (h ≤ nI 23)) = false from Bool.eq_false_iff.mpr (fun q => hf (by rw [Bool.and_eq_true, decide_eq_true_eq, decide_eq_true_eq] at q; exact q)))) ?_
  refine X_if_neN (a := 0) 17 dX12_early_10 (by decide) (by omega) (fun h_1 => ?_) (fun h_1 => ?_)
  · exact absurd h_1 (by omega)
  · refine X_iconst (v := nI 1) dX12_early_13 (by decide) ?_
    refine X_goto 18 dX12_early_14 (by decide) ?_
    refine X_iconst (v := nI 1) dX12_early_18 (by decide) ?_
    refine X_iconst (v := nI 1) dX12_early_19 (by decide) ?_
    refine X_callVI dX12_early_20 mkX12_228 (k_87 hSh) (c_bad1 Γ g (up2 mi 87 0 (nI 0)) ml hSh 1 1 (by decide) (by decide) (by decide) up2_s) rfl rfl (by decide) (Nat.le_of_ble_eq_true rfl) ?_
    refine X_mi (show _ = mB mi 1 1 from rfl) ?_
    refine X_if_eqN (a := 1) 28 dX12_early_23 (by decide) (by omega) (fun h_2 => ?_) (fun h_2 => ?_)
    · exact absurd h_2 (by omega)
    · refine X_iconst (v := nI 0) dX12_early_26 (by decide) ?_
      exact X_iret dX12_early_27 rfl ⟨rfl, rfl, RI_rf hA (by decide) hR, fr2_B, _, rfl, mB_0⟩
set_option maxRecDepth 100000 in
set_option maxHeartbeats 4000000 in
theorem k_early (Γ : pTG) (g : pGG) (mi : pMI) (ml : pML) (A : AS) (hA : okAS A) (hC : CI A g mi ml) (k : Nat) (hka : 0 ≤ k) (hk : k ≤ 23) : CT Γ 60 20 5000 mX11_early [.ref 0, .int (nI k)] g mi ml (CQ A (.inl (mkN (fun b => decide (mrn (aP A) (aH A) (aD A) b ≤ k)) (aG A))) mi ml) := by
  refine CT_of (by decide +kernel) (Nat.le_of_ble_eq_true rfl) ?_
  have hSh := CI_Sh hC
  have hcl := CI_cl hC
  have hP := hA.1
  have hG8 : aG A ≤ 8 := hP.2.1
  have hC8 : (aP A).1 ≤ 8 := hP.1
  refine X_aload_n dX11_early_0 rfl ?_
  refine X_iload_n dX11_early_1 rfl ?_
  refine X_iconst (v := nI 0) dX11_early_2 (by decide) ?_
  refine X_bipush (v := nI 23) dX11_early_3 (by decide) ?_
  refine X_need dX11_early_5 mkX11_116 (k_0 hSh) (c_needWithin Γ g mi ml hSh (nI k) (nI 0) (nI 23)) rfl rfl (by decide) (by decide) (by decide) (by decide) (fun h => absurd (⟨nI_le (by omega) (by omega), nI_le (by omega) (by omega)⟩) h) (fun _ => ?_)
  refine X_aload_n dX11_early_8 rfl ?_
  refine X_callVrV dX11_early_9 mkX11_193 (k_0 hSh) (c_look Γ g mi ml A hA hC) rfl rfl (by decide) (Nat.le_of_ble_eq_true rfl) (fun m1 l1 hm1 => ?_)
  obtain ⟨⟨hC1, hcd⟩, hk1, hl1⟩ := hm1
  have hcl1 := CI_cl hC1
  refine X_iconst (v := nI 0) dX11_early_12 (by decide) ?_
  refine X_istore_n dX11_early_13 (by decide) ?_
  refine X_iconst (v := nI 0) dX11_early_14 (by decide) ?_
  refine X_istore_n dX11_early_15 (by decide) ?_
  refine X_L [(3, .int (nI 0)), (2, .int (nI 0)), (0, .ref 0), (1, .int (nI k))] ⟨rfl, rfl, rfl, rfl, trivial⟩ ?_
  refine X_for2 (σ := Unit) 16 (fun i x => [(3, .int (nI i)), (2, .int (mkN (fun b => decide (mrn (aP A) (aH A) (aD A) b ≤ k)) i)), (0, .ref 0), (1, .int (nI k))]) (fun x => m1) (fun x => l1) (fun _ x => x) (fun _ _ => True) (aG A) ?_ (aG A) 0 () (by first | omega | (have hq9 : mrn (aP A) (aH A) (aD A) i < 24 := sqd_lt hA.1 _ _; omega)) trivial ?_
  · intro i x hi hI
    refine ⟨trivial, fun hn => ?_⟩
    refine X_iload_n dX11_early_16 rfl ?_
    refine X_aload_n dX11_early_17 rfl ?_
    refine X_getr (a := 3) dX11_early_18 fkX11_25 rfl (k_0 hSh) (r_0_2 hSh) ?_
    refine X_geti dX11_early_21 fkX11_144 rfl (k_3 hSh) ?_
    rw [hcl1.2.1]
    refine X_icmp_geN (a := i) (b := aG A) 57 dX11_early_24 (by decide) (by first | omega | (have hq9 : mrn (aP A) (aH A) (aD A) i < 24 := sqd_lt hA.1 _ _; omega)) (by first | omega | (have hq9 : mrn (aP A) (aH A) (aD A) i < 24 := sqd_lt hA.1 _ _; omega)) (fun h_1 => ?_) (fun h_1 => ?_)
    · exact absurd hi (by omega)
    · refine X_aload_n dX11_early_27 rfl ?_
      refine X_getr (a := 57) dX11_early_28 fkX11_72 rfl (k_0 hSh) (r_0_9 hSh) ?_
      refine X_getr (a := 58) dX11_early_31 fkX11_215 rfl (k_57 hSh) (r_57_1 hSh) ?_
      refine X_iload_n dX11_early_34 rfl ?_
      refine X_bipush (v := nI 8) dX11_early_35 (by decide) ?_
      refine X_imul dX11_early_37 ?_
      refine X_topi (pk_mul i 8) ?_
      refine X_iconst (v := nI 0) dX11_early_38 (by decide) ?_
      refine X_iadd dX11_early_39 ?_
      refine X_topi (nI_add (i * 8) 0) ?_
      refine X_iald ((i * 8) + 0) dX11_early_40 (k_58 hSh) rfl (by first | omega | (have hq9 : mrn (aP A) (aH A) (aD A) i < 24 := sqd_lt hA.1 _ _; omega)) ?_
      rw [(hcd.1 i hi).1]
      refine X_iload_n dX11_early_41 rfl ?_
      refine X_icmp_gtN (a := mrn (aP A) (aH A) (aD A) i) (b := k) 51 dX11_early_42 (by decide) (by first | omega | (have hq9 : mrn (aP A) (aH A) (aD A) i < 24 := sqd_lt hA.1 _ _; omega)) (by first | omega | (have hq9 : mrn (aP A) (aH A) (aD A) i < 24 := sqd_lt hA.1 _ _; omega)) (fun h_2 => ?_) (fun h_2 => ?_)
      · refine X_iinc (v := nI (i + 1)) dX11_early_51 rfl (nI_1 _) (by decide) ?_
        refine X_goto 16 dX11_early_54 (by decide) ?_
        refine X_L [(3, .int (nI (i + 1))), (2, .int (mkN (fun b => decide (mrn (aP A) (aH A) (aD A) b ≤ k)) i)), (0, .ref 0), (1, .int (nI k))] ⟨rfl, rfl, rfl, rfl, trivial⟩ ?_
        rw [show mkN (fun b => decide (mrn (aP A) (aH A) (aD A) b ≤ k)) (i + 1) = mkN (fun b => decide (mrn (aP A) (aH A) (aD A) b ≤ k)) i from if_neg (by simp; omega)] at hn
        exact hn
      · refine X_iload_n dX11_early_45 rfl ?_
        refine X_iconst (v := nI 1) dX11_early_46 (by decide) ?_
        refine X_iload_n dX11_early_47 rfl ?_
        refine X_ishl dX11_early_48 ?_
        refine X_ior dX11_early_49 ?_
        refine X_istore_n dX11_early_50 (by decide) ?_
        refine X_iinc (v := nI (i + 1)) dX11_early_51 rfl (nI_1 _) (by decide) ?_
        refine X_goto 16 dX11_early_54 (by decide) ?_
        refine X_L [(3, .int (nI (i + 1))), (2, .int ((mkN (fun b => decide (mrn (aP A) (aH A) (aD A) b ≤ k)) i) ||| ((nI 1) <<< ((nI i) &&& 31)))), (0, .ref 0), (1, .int (nI k))] ⟨rfl, rfl, rfl, rfl, trivial⟩ ?_
        rw [show mkN (fun b => decide (mrn (aP A) (aH A) (aD A) b ≤ k)) (i + 1) = (mkN (fun b => decide (mrn (aP A) (aH A) (aD A) b ≤ k)) i) ||| ((nI 1) <<< ((nI i) &&& 31)) from if_pos (by simp; omega)] at hn
        exact hn
  · intro x hI
    refine X_iload_n dX11_early_16 rfl ?_
    refine X_aload_n dX11_early_17 rfl ?_
    refine X_getr (a := 3) dX11_early_18 fkX11_25 rfl (k_0 hSh) (r_0_2 hSh) ?_
    refine X_geti dX11_early_21 fkX11_144 rfl (k_3 hSh) ?_
    rw [hcl1.2.1]
    refine X_icmp_geN (a := (aG A)) (b := aG A) 57 dX11_early_24 (by decide) (by first | omega | (have hq9 : mrn (aP A) (aH A) (aD A) i < 24 := sqd_lt hA.1 _ _; omega)) (by first | omega | (have hq9 : mrn (aP A) (aH A) (aD A) i < 24 := sqd_lt hA.1 _ _; omega)) (fun h_3 => ?_) (fun h_3 => ?_)
    · refine X_iload_n dX11_early_57 rfl ?_
      exact X_iret dX11_early_58 rfl ⟨rfl, hC1, hk1, hl1⟩
    · exact absurd h_3 (by omega)
set_option maxRecDepth 100000 in
set_option maxHeartbeats 4000000 in
theorem r_early (Γ : pTG) (g : pGG) (mi : pMI) (ml : pML) (A : AS) (hA : okAS A) (hSh : Sh g) (hR : RI A mi) (k : Nat) (hka : 0 ≤ k) (hk : k ≤ 23) : CT Γ 60 0 0 mX12_early [.ref 87, .int (nI k)] g mi ml (RQ A (.inl (mkN (fun b => decide (mrn (aP A) (aH A) (aD A) b ≤ k)) (aG A))) cd1 g mi ml) := by
  refine CT_of (by decide +kernel) (Nat.le_of_ble_eq_true rfl) ?_
  have hP := hA.1
  have hG8 : aG A ≤ 8 := hP.2.1
  have hC8 : (aP A).1 ≤ 8 := hP.1
  refine X_aload_n dX12_early_0 rfl ?_
  refine X_iconst (v := nI 0) dX12_early_1 (by decide) ?_
  refine X_puti dX12_early_2 fkX12_158 rfl rfl (k_87 hSh) ?_
  refine X_aload_n dX12_early_5 rfl ?_
  refine X_iload_n dX12_early_6 rfl ?_
  refine X_callSI dX12_early_7 mkX12_298 (c_isHalf Γ g (up2 mi 87 0 (nI 0)) ml (nI k)) rfl rfl (by decide) (Nat.le_of_ble_eq_true rfl) ?_
  refine X_topi (show bI (decide (nI 0 ≤ nI k) && decide (nI k ≤ nI 23)) = nI 1 from congrArg bI (show (decide (nI 0 ≤ nI k) && decide (nI k ≤ nI 23)) = true from by rw [decide_eq_true (nI_le (by omega) (by omega)), decide_eq_true (nI_le (by omega) (by omega))]; rfl)) ?_
  refine X_if_neN (a := 1) 17 dX12_early_10 (by decide) (by first | omega | (have hq9 : mrn (aP A) (aH A) (aD A) i < 24 := sqd_lt hA.1 _ _; omega)) (fun h_1 => ?_) (fun h_1 => ?_)
  · refine X_iconst (v := nI 0) dX12_early_17 (by decide) ?_
    refine X_iconst (v := nI 1) dX12_early_18 (by decide) ?_
    refine X_iconst (v := nI 1) dX12_early_19 (by decide) ?_
    refine X_callVI dX12_early_20 mkX12_228 (k_87 hSh) (c_bad0 Γ g (up2 mi 87 0 (nI 0)) ml hSh 1 1 up2_s) rfl rfl (by decide) (Nat.le_of_ble_eq_true rfl) ?_
    refine X_if_eqN (a := 0) 28 dX12_early_23 (by decide) (by first | omega | (have hq9 : mrn (aP A) (aH A) (aD A) i < 24 := sqd_lt hA.1 _ _; omega)) (fun h_2 => ?_) (fun h_2 => ?_)
    · refine X_aload_n dX12_early_28 rfl ?_
      have hw0 : frW mi (up2 mi 87 0 (nI 0)) := frW_u frW_r (by unfold rsF rsR; omega)
      refine X_callVrV dX12_early_29 mkX12_353 (k_87 hSh) (r_dayK Γ g (up2 mi 87 0 (nI 0)) ml A hA hSh mi hR hw0) rfl rfl (by decide) (Nat.le_of_ble_eq_true rfl) (fun m1 l1 hm1 => ?_)
      obtain ⟨hrd, hfw, hf2, ht0, hrs, hl1⟩ := hm1
      rw [hl1]
      have hR1 := RI_fr hA hR hfw
      refine X_iconst (v := nI 0) dX12_early_32 (by decide) ?_
      refine X_istore_n dX12_early_33 (by decide) ?_
      refine X_iconst (v := nI 0) dX12_early_34 (by decide) ?_
      refine X_istore_n dX12_early_35 (by decide) ?_
      refine X_L [(3, .int (nI 0)), (2, .int (nI 0)), (0, .ref 87), (1, .int (nI k))] ⟨rfl, rfl, rfl, rfl, trivial⟩ ?_
      refine X_for2 (σ := Unit) 36 (fun i x => [(3, .int (nI i)), (2, .int (mkN (fun b => decide (mrn (aP A) (aH A) (aD A) b ≤ k)) i)), (0, .ref 87), (1, .int (nI k))]) (fun x => m1) (fun x => ml) (fun _ x => x) (fun _ _ => True) (aG A) ?_ (aG A) 0 () (by first | omega | (have hq9 : mrn (aP A) (aH A) (aD A) i < 24 := sqd_lt hA.1 _ _; omega)) trivial ?_
      · intro i x hi hI
        refine ⟨trivial, fun hn => ?_⟩
        refine X_iload_n dX12_early_36 rfl ?_
        refine X_aload_n dX12_early_37 rfl ?_
        refine X_getr (a := 91) dX12_early_38 fkX12_23 rfl (k_87 hSh) (r_87_12 hSh) ?_
        refine X_iconst (v := nI 1) dX12_early_41 (by decide) ?_
        refine X_iald 1 dX12_early_42 (k_91 hSh) rfl (by first | omega | (have hq9 : mrn (aP A) (aH A) (aD A) i < 24 := sqd_lt hA.1 _ _; omega)) ?_
        rw [hR1.1.2.1]
        refine X_icmp_geN (a := i) (b := aG A) 72 dX12_early_43 (by decide) (by first | omega | (have hq9 : mrn (aP A) (aH A) (aD A) i < 24 := sqd_lt hA.1 _ _; omega)) (by first | omega | (have hq9 : mrn (aP A) (aH A) (aD A) i < 24 := sqd_lt hA.1 _ _; omega)) (fun h_3 => ?_) (fun h_3 => ?_)
        · exact absurd hi (by omega)
        · refine X_iload_n dX12_early_46 rfl ?_
          refine X_aload_n dX12_early_47 rfl ?_
          refine X_getr (a := 194) dX12_early_48 fkX12_71 rfl (k_87 hSh) (r_87_34 hSh) ?_
          refine X_iload_n dX12_early_51 rfl ?_
          refine X_iald i dX12_early_52 (k_194 hSh) rfl (by first | omega | (have hq9 : mrn (aP A) (aH A) (aD A) i < 24 := sqd_lt hA.1 _ _; omega)) ?_
          rw [(hrd.1 i hi).1]
          refine X_iload_n dX12_early_53 rfl ?_
          refine X_icmp_gtN (a := mrn (aP A) (aH A) (aD A) i) (b := k) 63 dX12_early_54 (by decide) (by first | omega | (have hq9 : mrn (aP A) (aH A) (aD A) i < 24 := sqd_lt hA.1 _ _; omega)) (by first | omega | (have hq9 : mrn (aP A) (aH A) (aD A) i < 24 := sqd_lt hA.1 _ _; omega)) (fun h_4 => ?_) (fun h_4 => ?_)
          · refine X_iconst (v := nI 0) dX12_early_63 (by decide) ?_
            refine X_ior dX12_early_64 ?_
            refine X_istore_n dX12_early_65 (by decide) ?_
            refine X_iinc (v := nI (i + 1)) dX12_early_66 rfl (nI_1 _) (by decide) ?_
            refine X_goto 36 dX12_early_69 (by decide) ?_
            refine X_L [(3, .int (nI (i + 1))), (2, .int ((mkN (fun b => decide (mrn (aP A) (aH A) (aD A) b ≤ k)) i) ||| (nI 0))), (0, .ref 87), (1, .int (nI k))] ⟨rfl, rfl, rfl, rfl, trivial⟩ ?_
            rw [show mkN (fun b => decide (mrn (aP A) (aH A) (aD A) b ≤ k)) (i + 1) = (mkN (fun b => decide (mrn (aP A) (aH A) (aD A) b ≤ k)) i) ||| (nI 0) from (if_neg (by simp; omega)).trans (i_or0 _).symm] at hn
            exact hn
          · refine X_iconst (v := nI 1) dX12_early_57 (by decide) ?_
            refine X_iload_n dX12_early_58 rfl ?_
            refine X_ishl dX12_early_59 ?_
            refine X_goto 64 dX12_early_60 (by decide) ?_
            refine X_ior dX12_early_64 ?_
            refine X_istore_n dX12_early_65 (by decide) ?_
            refine X_iinc (v := nI (i + 1)) dX12_early_66 rfl (nI_1 _) (by decide) ?_
            refine X_goto 36 dX12_early_69 (by decide) ?_
            refine X_L [(3, .int (nI (i + 1))), (2, .int ((mkN (fun b => decide (mrn (aP A) (aH A) (aD A) b ≤ k)) i) ||| ((nI 1) <<< ((nI i) &&& 31)))), (0, .ref 87), (1, .int (nI k))] ⟨rfl, rfl, rfl, rfl, trivial⟩ ?_
            rw [show mkN (fun b => decide (mrn (aP A) (aH A) (aD A) b ≤ k)) (i + 1) = (mkN (fun b => decide (mrn (aP A) (aH A) (aD A) b ≤ k)) i) ||| ((nI 1) <<< ((nI i) &&& 31)) from if_pos (by simp; omega)] at hn
            exact hn
      · intro x hI
        refine X_iload_n dX12_early_36 rfl ?_
        refine X_aload_n dX12_early_37 rfl ?_
        refine X_getr (a := 91) dX12_early_38 fkX12_23 rfl (k_87 hSh) (r_87_12 hSh) ?_
        refine X_iconst (v := nI 1) dX12_early_41 (by decide) ?_
        refine X_iald 1 dX12_early_42 (k_91 hSh) rfl (by first | omega | (have hq9 : mrn (aP A) (aH A) (aD A) i < 24 := sqd_lt hA.1 _ _; omega)) ?_
        rw [hR1.1.2.1]
        refine X_icmp_geN (a := (aG A)) (b := aG A) 72 dX12_early_43 (by decide) (by first | omega | (have hq9 : mrn (aP A) (aH A) (aD A) i < 24 := sqd_lt hA.1 _ _; omega)) (by first | omega | (have hq9 : mrn (aP A) (aH A) (aD A) i < 24 := sqd_lt hA.1 _ _; omega)) (fun h_5 => ?_) (fun h_5 => ?_)
        · refine X_iload_n dX12_early_72 rfl ?_
          exact X_iret dX12_early_73 rfl ⟨rfl, rfl, hR1, frM2_t (frM2_u frM2_r (by omega)) hf2, _, rfl, rfl, ht0.trans up2_s⟩
        · exact absurd h_5 (by omega)
    · exact absurd h_2 (by omega)
  · exact absurd h_1 (by omega)
theorem m_early (A : AS) (hA : okAS A) (h : Int32) : MOK mX11_early mX12_early cd1 [.int h] A := by
  by_cases hg0 : nI 0 ≤ h ∧ h ≤ nI 23
  · obtain ⟨k, hka, hk, rfl⟩ := (wi_iff (by decide) (by decide)).mp hg0
    exact ⟨.inl (mkN (fun b => decide (mrn (aP A) (aH A) (aD A) b ≤ k)) (aG A)), A, hA, fun j h => (by cases h), fun Γ g m l hC => k_early Γ g m l A hA hC k hka hk, fun Γ g m l hSh hR => r_early Γ g m l A hA hSh hR k hka hk⟩
  · exact ⟨.inr 1, rfA A 1, ok_rf hA, fun j h => by cases h; decide, fun Γ g m l hC => k_early_f0 Γ g m l A hA hC h hg0, fun Γ g m l hSh hR => r_early_f0 Γ g m l A hA hSh hR h hg0⟩

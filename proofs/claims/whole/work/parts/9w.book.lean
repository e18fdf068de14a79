/-! ===== book ===== -/
set_option maxRecDepth 100000 in
set_option maxHeartbeats 4000000 in
theorem k_book_f0 (Γ : pTG) (g : pGG) (mi : pMI) (ml : pML) (A : AS) (hA : okAS A) (hC : CI A g mi ml) (w : Int32) (hf : ¬ (nI 0 ≤ w ∧ w ≤ nI (min (aTn A) 150))) : CT Γ 60 20 5000 mX11_book [.ref 0, .int w] g mi ml (CQ (rfA A 1) (.inr 1) mi ml) := by
  refine CT_of (by decide +kernel) (Nat.le_of_ble_eq_true rfl) ?_
  have hSh := CI_Sh hC
  have hcl := CI_cl hC
  have hP := hA.1
  have hG8 : aG A ≤ 8 := hP.2.1
  have hC8 : (aP A).1 ≤ 8 := hP.1
  have hT6 := hA.2.2.2.2.2.2.2.2.2.1
  refine X_aload_n dX11_book_0 rfl ?_
  refine X_iload_n dX11_book_1 rfl ?_
  refine X_iconst (v := nI 0) dX11_book_2 (by decide) ?_
  refine X_aload_n dX11_book_3 rfl ?_
  refine X_geti dX11_book_4 fkX11_108 rfl (k_0 hSh) ?_
  rw [(CI_k hC).2.2.2.2.1.1]
  refine X_sipush (v := nI 150) dX11_book_7 (by decide) ?_
  refine X_min dX11_book_10 mkX11_150 (by decide) (Nat.le_of_ble_eq_true rfl) ?_
  refine X_topi (nI_minJ (a := aTn A) (b := 150) (by omega) (by omega)) ?_
  exact X_need dX11_book_13 mkX11_116 (k_0 hSh) (c_needWithin Γ g mi ml hSh w (nI 0) (nI (min (aTn A) 150))) rfl rfl (by decide) (by decide) (by decide) (by decide) (fun _ => ⟨rfl, CI_rf (by decide) hC, frK_86, rfl⟩) (fun h => absurd h hf)
set_option maxRecDepth 100000 in
set_option maxHeartbeats 4000000 in
theorem r_book_f0a (Γ : pTG) (g : pGG) (mi : pMI) (ml : pML) (A : AS) (hA : okAS A) (hSh : Sh g) (hR : RI A mi) (w : Int32) (hf : ¬ (nI 0 ≤ w ∧ w ≤ nI (aTn A))) : CT Γ 60 0 0 mX12_book [.ref 87, .int w] g mi ml (RQ (rfA A 1) (.inr 1) cd1 g mi ml) := by
  refine CT_of (by decide +kernel) (Nat.le_of_ble_eq_true rfl) ?_
  have hP := hA.1
  have hG8 : aG A ≤ 8 := hP.2.1
  have hC8 : (aP A).1 ≤ 8 := hP.1
  have hT6 := hA.2.2.2.2.2.2.2.2.2.1
  refine X_aload_n dX12_book_0 rfl ?_
  refine X_iconst (v := nI 0) dX12_book_1 (by decide) ?_
  refine X_puti dX12_book_2 fkX12_158 rfl rfl (k_87 hSh) ?_
  refine X_aload_n dX12_book_5 rfl ?_
  refine X_iload_n dX12_book_6 rfl ?_
  refine X_iconst (v := nI 0) dX12_book_7 (by decide) ?_
  refine X_aload_n dX12_book_8 rfl ?_
  refine X_geti dX12_book_9 fkX12_161 rfl (k_87 hSh) ?_
  refine X_topi (show (up2 mi 87 0 (nI 0)) 87 1 = nI (aTn A) by rw [up2_n (by omega)]; exact hR.2.2.2.2.2.2.2.1.1) ?_
  refine X_callSI dX12_book_12 mkX12_192 (c_in Γ g (up2 mi 87 0 (nI 0)) ml w (nI 0) (nI (aTn A))) rfl rfl (by decide) (Nat.le_of_ble_eq_true rfl) ?_
  refine X_topi (show bI (decide (nI 0 ≤ w) && decide (w ≤ nI (aTn A))) = nI 0 from congrArg bI (show (decide (nI 0 ≤ w) && decide (w ≤ nI (aTn A))) = false from Bool.eq_false_iff.mpr (fun q => hf (by rw [Bool.and_eq_true, decide_eq_true_eq, decide_eq_true_eq] at q; exact q)))) ?_
  refine X_if_eqN (a := 0) 25 dX12_book_15 (by decide) (by omega) (fun h_1 => ?_) (fun h_1 => ?_)
  · refine X_iconst (v := nI 1) dX12_book_25 (by decide) ?_
    refine X_goto 30 dX12_book_26 (by decide) ?_
    refine X_iconst (v := nI 1) dX12_book_30 (by decide) ?_
    refine X_iconst (v := nI 1) dX12_book_31 (by decide) ?_
    refine X_callVI dX12_book_32 mkX12_228 (k_87 hSh) (c_bad1 Γ g (up2 mi 87 0 (nI 0)) ml hSh 1 1 (by decide) (by decide) (by decide) up2_s) rfl rfl (by decide) (Nat.le_of_ble_eq_true rfl) ?_
    refine X_mi (show _ = mB mi 1 1 from rfl) ?_
    refine X_if_eqN (a := 1) 40 dX12_book_35 (by decide) (by omega) (fun h_2 => ?_) (fun h_2 => ?_)
    · exact absurd h_2 (by omega)
    · refine X_iconst (v := nI 0) dX12_book_38 (by decide) ?_
      exact X_iret dX12_book_39 rfl ⟨rfl, rfl, RI_rf hA (by decide) hR, fr2_B, _, rfl, mB_0⟩
  · exact absurd h_1 (by omega)
set_option maxRecDepth 100000 in
set_option maxHeartbeats 4000000 in
theorem r_book_f0b (Γ : pTG) (g : pGG) (mi : pMI) (ml : pML) (A : AS) (hA : okAS A) (hSh : Sh g) (hR : RI A mi) (k : Nat) (hka : 0 ≤ k) (hk : k ≤ (aTn A)) (hk5 : 150 < k) : CT Γ 60 0 0 mX12_book [.ref 87, .int (nI k)] g mi ml (RQ (rfA A 1) (.inr 1) cd1 g mi ml) := by
  refine CT_of (by decide +kernel) (Nat.le_of_ble_eq_true rfl) ?_
  have hP := hA.1
  have hG8 : aG A ≤ 8 := hP.2.1
  have hC8 : (aP A).1 ≤ 8 := hP.1
  have hT6 := hA.2.2.2.2.2.2.2.2.2.1
  refine X_aload_n dX12_book_0 rfl ?_
  refine X_iconst (v := nI 0) dX12_book_1 (by decide) ?_
  refine X_puti dX12_book_2 fkX12_158 rfl rfl (k_87 hSh) ?_
  refine X_aload_n dX12_book_5 rfl ?_
  refine X_iload_n dX12_book_6 rfl ?_
  refine X_iconst (v := nI 0) dX12_book_7 (by decide) ?_
  refine X_aload_n dX12_book_8 rfl ?_
  refine X_geti dX12_book_9 fkX12_161 rfl (k_87 hSh) ?_
  refine X_topi (show (up2 mi 87 0 (nI 0)) 87 1 = nI (aTn A) by rw [up2_n (by omega)]; exact hR.2.2.2.2.2.2.2.1.1) ?_
  refine X_callSI dX12_book_12 mkX12_192 (c_in Γ g (up2 mi 87 0 (nI 0)) ml (nI k) (nI 0) (nI (aTn A))) rfl rfl (by decide) (Nat.le_of_ble_eq_true rfl) ?_
  refine X_topi (show bI (decide (nI 0 ≤ nI k) && decide (nI k ≤ nI (aTn A))) = nI 1 from congrArg bI (show (decide (nI 0 ≤ nI k) && decide (nI k ≤ nI (aTn A))) = true from by rw [decide_eq_true (nI_le (by omega) (by omega)), decide_eq_true (nI_le (by omega) (by omega))]; rfl)) ?_
  refine X_if_eqN (a := 1) 25 dX12_book_15 (by decide) (by omega) (fun h_1 => ?_) (fun h_1 => ?_)
  · exact absurd h_1 (by omega)
  · refine X_iload_n dX12_book_18 rfl ?_
    refine X_sipush (v := nI 150) dX12_book_19 (by decide) ?_
    refine X_icmp_leN (a := k) (b := 150) 29 dX12_book_22 (by decide) (by omega) (by omega) (fun h_2 => ?_) (fun h_2 => ?_)
    · exact absurd h_2 (by omega)
    · refine X_iconst (v := nI 1) dX12_book_25 (by decide) ?_
      refine X_goto 30 dX12_book_26 (by decide) ?_
      refine X_iconst (v := nI 1) dX12_book_30 (by decide) ?_
      refine X_iconst (v := nI 1) dX12_book_31 (by decide) ?_
      refine X_callVI dX12_book_32 mkX12_228 (k_87 hSh) (c_bad1 Γ g (up2 mi 87 0 (nI 0)) ml hSh 1 1 (by decide) (by decide) (by decide) up2_s) rfl rfl (by decide) (Nat.le_of_ble_eq_true rfl) ?_
      refine X_mi (show _ = mB mi 1 1 from rfl) ?_
      refine X_if_eqN (a := 1) 40 dX12_book_35 (by decide) (by omega) (fun h_3 => ?_) (fun h_3 => ?_)
      · exact absurd h_3 (by omega)
      · refine X_iconst (v := nI 0) dX12_book_38 (by decide) ?_
        exact X_iret dX12_book_39 rfl ⟨rfl, rfl, RI_rf hA (by decide) hR, fr2_B, _, rfl, mB_0⟩
set_option maxRecDepth 100000 in
set_option maxHeartbeats 4000000 in
theorem k_book_e (Γ : pTG) (g : pGG) (mi : pMI) (ml : pML) (A : AS) (hA : okAS A) (hC : CI A g mi ml) (k : Nat) (hka : 0 ≤ k) (hk : k ≤ (min (aTn A) 150)) (c1 p1 : Nat) (hr : bkR (aT A) k (aG A) 13 0 0 (fun _ _ => 0) = .error (c1, p1)) : CT Γ 60 20 5000 mX11_book [.ref 0, .int (nI k)] g mi ml (CQ (tbA A (aBn A, aB A) (nI p1)) (.inl (nI c1 - nI 10)) mi ml) := by
  refine CT_of (by decide +kernel) (Nat.le_of_ble_eq_true rfl) ?_
  have hSh := CI_Sh hC
  have hcl := CI_cl hC
  have hP := hA.1
  have hG8 : aG A ≤ 8 := hP.2.1
  have hC8 : (aP A).1 ≤ 8 := hP.1
  have hT6 := hA.2.2.2.2.2.2.2.2.2.1
  refine X_aload_n dX11_book_0 rfl ?_
  refine X_iload_n dX11_book_1 rfl ?_
  refine X_iconst (v := nI 0) dX11_book_2 (by decide) ?_
  refine X_aload_n dX11_book_3 rfl ?_
  refine X_geti dX11_book_4 fkX11_108 rfl (k_0 hSh) ?_
  rw [(CI_k hC).2.2.2.2.1.1]
  refine X_sipush (v := nI 150) dX11_book_7 (by decide) ?_
  refine X_min dX11_book_10 mkX11_150 (by decide) (Nat.le_of_ble_eq_true rfl) ?_
  refine X_topi (nI_minJ (a := aTn A) (b := 150) (by omega) (by omega)) ?_
  refine X_need dX11_book_13 mkX11_116 (k_0 hSh) (c_needWithin Γ g mi ml hSh (nI k) (nI 0) (nI (min (aTn A) 150))) rfl rfl (by decide) (by decide) (by decide) (by decide) (fun h => absurd (⟨nI_le (by omega) (by omega), nI_le (by omega) (by omega)⟩) h) (fun _ => ?_)
  refine X_aload_n dX11_book_16 rfl ?_
  refine X_iload_n dX11_book_17 rfl ?_
  refine X_callVV dX11_book_18 mkX11_120 (k_0 hSh) (c_startText Γ g mi ml hSh k) rfl rfl (by decide) (Nat.le_of_ble_eq_true rfl) ?_
  have hT0 := tx0_T hA hC (show k ≤ aTn A by omega)
  refine X_aload_n dX11_book_21 rfl ?_
  refine X_getr (a := 24) dX11_book_22 fkX11_51 rfl (k_0 hSh) (r_0_6 hSh) ?_
  refine X_aload_n dX11_book_25 rfl ?_
  refine X_getr (a := 2) dX11_book_26 fkX11_18 rfl (k_0 hSh) (r_0_1 hSh) ?_
  refine X_aload_n dX11_book_29 rfl ?_
  refine X_getr (a := 3) dX11_book_30 fkX11_25 rfl (k_0 hSh) (r_0_2 hSh) ?_
  refine X_geti dX11_book_33 fkX11_144 rfl (k_3 hSh) ?_
  rw [((congrFun (tx0_row (by omega) (by omega)) _).trans hcl.2.1)]
  refine X_callVrI dX11_book_36 mkX11_163 (k_24 hSh) (c_Bread Γ g (tx0 mi k) ml hSh (aT A) k 0 (aG A) hG8 (fun q hq => hA.2.2.2.2.2.2.2.2.2.2 q (by omega)) hT0) rfl rfl (by decide) (Nat.le_of_ble_eq_true rfl) (fun v1 m1 l1 hm1 => ?_)
  obtain ⟨hl1, hm1⟩ := hm1
  rw [hr] at hm1
  obtain ⟨hv1, hE1, hE2, hE3⟩ := hm1
  rw [hl1, hv1]
  refine X_if_neN (a := 0) 53 dX11_book_39 (by decide) (by omega) (fun h_1 => ?_) (fun h_1 => ?_)
  · exact absurd h_1 (by omega)
  · refine X_aload_n dX11_book_42 rfl ?_
    refine X_getr (a := 2) dX11_book_43 fkX11_18 rfl (k_0 hSh) (r_0_1 hSh) ?_
    refine X_geti dX11_book_46 fkX11_127 rfl (k_2 hSh) ?_
    rw [hE1]
    refine X_bipush (v := nI 10) dX11_book_49 (by decide) ?_
    refine X_isub dX11_book_51 ?_
    exact X_iret dX11_book_52 rfl ⟨rfl, CI_tb hC (fun i h1 h2 h3 h4 h5 h6 => by rw [hE3 i h4 (fun q => h2 (by unfold scR; omega))]; exact tx0_row h3 h4) (fun j hj => by rw [hE3 0 (by omega) (by omega)]; exact tx0_0 hj) (by rw [hE3 0 (by omega) (by omega)]; exact tx0_17) (by rw [hE3 24 (by omega) (by omega), tx0_row (by omega) (by omega)]; exact (CI_bk hC).1) (fun q hq z hz => by rw [hE3 25 (by omega) (by omega), tx0_row (by omega) (by omega)]; exact (CI_bk hC).2 q hq z hz) hE2, fun i h1 h2 => by rw [hE3 i (by omega) (by omega)]; exact tx0_row (by omega) (by omega), rfl⟩
set_option maxRecDepth 100000 in
set_option maxHeartbeats 4000000 in
theorem k_book_o (Γ : pTG) (g : pGG) (mi : pMI) (ml : pML) (A : AS) (hA : okAS A) (hC : CI A g mi ml) (k : Nat) (hka : 0 ≤ k) (hk : k ≤ (min (aTn A) 150)) (c1 : Nat) (bk : Nat → Nat → Nat) (hb : okBk (aG A) c1 bk) (hr : bkR (aT A) k (aG A) 13 0 0 (fun _ _ => 0) = .ok (c1, bk)) : CT Γ 60 20 5000 mX11_book [.ref 0, .int (nI k)] g mi ml (CQ (tbA A (c1, bk) (-1)) (.inl (nI c1)) mi ml) := by
  refine CT_of (by decide +kernel) (Nat.le_of_ble_eq_true rfl) ?_
  have hSh := CI_Sh hC
  have hcl := CI_cl hC
  have hP := hA.1
  have hG8 : aG A ≤ 8 := hP.2.1
  have hC8 : (aP A).1 ≤ 8 := hP.1
  have hT6 := hA.2.2.2.2.2.2.2.2.2.1
  refine X_aload_n dX11_book_0 rfl ?_
  refine X_iload_n dX11_book_1 rfl ?_
  refine X_iconst (v := nI 0) dX11_book_2 (by decide) ?_
  refine X_aload_n dX11_book_3 rfl ?_
  refine X_geti dX11_book_4 fkX11_108 rfl (k_0 hSh) ?_
  rw [(CI_k hC).2.2.2.2.1.1]
  refine X_sipush (v := nI 150) dX11_book_7 (by decide) ?_
  refine X_min dX11_book_10 mkX11_150 (by decide) (Nat.le_of_ble_eq_true rfl) ?_
  refine X_topi (nI_minJ (a := aTn A) (b := 150) (by omega) (by omega)) ?_
  refine X_need dX11_book_13 mkX11_116 (k_0 hSh) (c_needWithin Γ g mi ml hSh (nI k) (nI 0) (nI (min (aTn A) 150))) rfl rfl (by decide) (by decide) (by decide) (by decide) (fun h => absurd (⟨nI_le (by omega) (by omega), nI_le (by omega) (by omega)⟩) h) (fun _ => ?_)
  refine X_aload_n dX11_book_16 rfl ?_
  refine X_iload_n dX11_book_17 rfl ?_
  refine X_callVV dX11_book_18 mkX11_120 (k_0 hSh) (c_startText Γ g mi ml hSh k) rfl rfl (by decide) (Nat.le_of_ble_eq_true rfl) ?_
  have hT0 := tx0_T hA hC (show k ≤ aTn A by omega)
  refine X_aload_n dX11_book_21 rfl ?_
  refine X_getr (a := 24) dX11_book_22 fkX11_51 rfl (k_0 hSh) (r_0_6 hSh) ?_
  refine X_aload_n dX11_book_25 rfl ?_
  refine X_getr (a := 2) dX11_book_26 fkX11_18 rfl (k_0 hSh) (r_0_1 hSh) ?_
  refine X_aload_n dX11_book_29 rfl ?_
  refine X_getr (a := 3) dX11_book_30 fkX11_25 rfl (k_0 hSh) (r_0_2 hSh) ?_
  refine X_geti dX11_book_33 fkX11_144 rfl (k_3 hSh) ?_
  rw [((congrFun (tx0_row (by omega) (by omega)) _).trans hcl.2.1)]
  refine X_callVrI dX11_book_36 mkX11_163 (k_24 hSh) (c_Bread Γ g (tx0 mi k) ml hSh (aT A) k 0 (aG A) hG8 (fun q hq => hA.2.2.2.2.2.2.2.2.2.2 q (by omega)) hT0) rfl rfl (by decide) (Nat.le_of_ble_eq_true rfl) (fun v1 m1 l1 hm1 => ?_)
  obtain ⟨hl1, hm1⟩ := hm1
  rw [hr] at hm1
  obtain ⟨hv1, hS1, hS2, hS3, hS4, hS5, hS6⟩ := hm1
  rw [hl1, hv1]
  refine X_if_neN (a := 1) 53 dX11_book_39 (by decide) (by omega) (fun h_1 => ?_) (fun h_1 => ?_)
  · refine X_aload_n dX11_book_53 rfl ?_
    refine X_getr (a := 24) dX11_book_54 fkX11_51 rfl (k_0 hSh) (r_0_6 hSh) ?_
    refine X_geti dX11_book_57 fkX11_166 rfl (k_24 hSh) ?_
    rw [hS2]
    exact X_iret dX11_book_60 rfl ⟨rfl, CI_tb hC (fun i h1 h2 h3 h4 h5 h6 => by rw [hS6 i h4 (fun q => h2 (by unfold scR; omega))]; exact tx0_row h3 h4) (fun j hj => by rw [hS6 0 (by omega) (by omega)]; exact tx0_0 hj) (by rw [hS6 0 (by omega) (by omega)]; exact tx0_17) hS2 hS3 (hS5.trans tx0_24), fun i h1 h2 => by rw [hS6 i (by omega) (by omega)]; exact tx0_row (by omega) (by omega), rfl⟩
  · exact absurd h_1 (by omega)
set_option maxRecDepth 100000 in
set_option maxHeartbeats 4000000 in
theorem r_book_e (Γ : pTG) (g : pGG) (mi : pMI) (ml : pML) (A : AS) (hA : okAS A) (hSh : Sh g) (hR : RI A mi) (k : Nat) (hka : 0 ≤ k) (hk : k ≤ (min (aTn A) 150)) (c1 p1 : Nat) (hr : bkR (aT A) k (aG A) 13 0 0 (fun _ _ => 0) = .error (c1, p1)) : CT Γ 60 0 0 mX12_book [.ref 87, .int (nI k)] g mi ml (RQ (tbA A (aBn A, aB A) (nI p1)) (.inl (nI c1 - nI 10)) cd1 g mi ml) := by
  refine CT_of (by decide +kernel) (Nat.le_of_ble_eq_true rfl) ?_
  have hP := hA.1
  have hG8 : aG A ≤ 8 := hP.2.1
  have hC8 : (aP A).1 ≤ 8 := hP.1
  have hT6 := hA.2.2.2.2.2.2.2.2.2.1
  refine X_aload_n dX12_book_0 rfl ?_
  refine X_iconst (v := nI 0) dX12_book_1 (by decide) ?_
  refine X_puti dX12_book_2 fkX12_158 rfl rfl (k_87 hSh) ?_
  refine X_aload_n dX12_book_5 rfl ?_
  refine X_iload_n dX12_book_6 rfl ?_
  refine X_iconst (v := nI 0) dX12_book_7 (by decide) ?_
  refine X_aload_n dX12_book_8 rfl ?_
  refine X_geti dX12_book_9 fkX12_161 rfl (k_87 hSh) ?_
  refine X_topi (show (up2 mi 87 0 (nI 0)) 87 1 = nI (aTn A) by rw [up2_n (by omega)]; exact hR.2.2.2.2.2.2.2.1.1) ?_
  refine X_callSI dX12_book_12 mkX12_192 (c_in Γ g (up2 mi 87 0 (nI 0)) ml (nI k) (nI 0) (nI (aTn A))) rfl rfl (by decide) (Nat.le_of_ble_eq_true rfl) ?_
  refine X_topi (show bI (decide (nI 0 ≤ nI k) && decide (nI k ≤ nI (aTn A))) = nI 1 from congrArg bI (show (decide (nI 0 ≤ nI k) && decide (nI k ≤ nI (aTn A))) = true from by rw [decide_eq_true (nI_le (by omega) (by omega)), decide_eq_true (nI_le (by omega) (by omega))]; rfl)) ?_
  refine X_if_eqN (a := 1) 25 dX12_book_15 (by decide) (by omega) (fun h_1 => ?_) (fun h_1 => ?_)
  · exact absurd h_1 (by omega)
  · refine X_iload_n dX12_book_18 rfl ?_
    refine X_sipush (v := nI 150) dX12_book_19 (by decide) ?_
    refine X_icmp_leN (a := k) (b := 150) 29 dX12_book_22 (by decide) (by omega) (by omega) (fun h_2 => ?_) (fun h_2 => ?_)
    · refine X_iconst (v := nI 0) dX12_book_29 (by decide) ?_
      refine X_iconst (v := nI 1) dX12_book_30 (by decide) ?_
      refine X_iconst (v := nI 1) dX12_book_31 (by decide) ?_
      refine X_callVI dX12_book_32 mkX12_228 (k_87 hSh) (c_bad0 Γ g (up2 mi 87 0 (nI 0)) ml hSh 1 1 up2_s) rfl rfl (by decide) (Nat.le_of_ble_eq_true rfl) ?_
      refine X_if_eqN (a := 0) 40 dX12_book_35 (by decide) (by omega) (fun h_3 => ?_) (fun h_3 => ?_)
      · refine X_aload_n dX12_book_40 rfl ?_
        refine X_iload_n dX12_book_41 rfl ?_
        refine X_callVV dX12_book_42 mkX12_232 (k_87 hSh) (c_starts Γ g (up2 mi 87 0 (nI 0)) ml hSh (aT A) k (by omega) (fun q hq => by rw [up2_row (by omega)]; exact hR.2.2.2.2.2.2.2.1.2 q (by omega))) rfl rfl (by decide) (Nat.le_of_ble_eq_true rfl) ?_
        refine X_iconst (v := nI 0) dX12_book_45 (by decide) ?_
        refine X_istore_n dX12_book_46 (by decide) ?_
        refine X_L [(0, .ref 87), (1, .int (nI k)), (2, .int (nI 0))] ⟨rfl, rfl, rfl, trivial⟩ ?_
        obtain ⟨x1, x2, x3, x4, x5, x6⟩ := rs_x hA hR (show k ≤ aTn A by omega)
        have hRB : RBS (up2 (stW (up2 mi 87 0 (nI 0)) k) 87 4 (nI (skT (aT A) k 0))) (up2 (stW (up2 mi 87 0 (nI 0)) k) 87 4 (nI (skT (aT A) k 0))) (aT A) k (aG A) (skT (aT A) k 0) 0 (fun _ _ => 0) := ⟨x1, x3, ⟨by omega, fun q hq => absurd hq (by omega)⟩, fun q hq => absurd hq (by omega), frRB_r, rfl⟩
        have h911 : (up2 (stW (up2 mi 87 0 (nI 0)) k) 87 4 (nI (skT (aT A) k 0))) 91 1 = nI (aG A) := by rw [rs_1 (by omega)]; exact hR.1.2.1
        refine XW_d (d := 20) (by decide) ?_
        refine rbkX Γ g (up2 (stW (up2 mi 87 0 (nI 0)) k) 87 4 (nI (skT (aT A) k 0))) (aT A) k (aG A) hSh hG8 h911 (r := bkR (aT A) k (aG A) 13 0 0 (fun _ _ => 0)) (fun x0 c2 k2 p2 hc2 hr2 hE => ?_) (fun m c2 b2 i2 hr2 _ => by rw [hr] at hr2; cases hr2) 13 (up2 (stW (up2 mi 87 0 (nI 0)) k) 87 4 (nI (skT (aT A) k 0))) (skT (aT A) k 0) 0 (fun _ _ => 0) hRB skT_sk (by omega) (by omega) bkR_sk
        rw [hr] at hr2
        cases hr2
        have hk1 := hE.2.1
        have hk3 := hE.2.2.1
        have hfr := hE.2.2.2.2.1
        refine X_aload_n dX12_book_175 rfl ?_
        refine X_geti dX12_book_176 fkX12_174 rfl (k_87 hSh) ?_
        rw [hE.1]
        refine X_if_eqN (a := c1) 187 dX12_book_179 (by decide) (by omega) (fun h_4 => ?_) (fun h_4 => ?_)
        · exact absurd h_4 (by omega)
        · refine X_aload_n dX12_book_182 rfl ?_
          refine X_callVI dX12_book_183 mkX12_238 (k_87 hSh) (c_ends Γ g x0 ml hSh) rfl rfl (by decide) (Nat.le_of_ble_eq_true rfl) ?_
          exact X_iret dX12_book_186 rfl ⟨rfl, rfl, RI_tb hA hR hA.2.2.2.1.1 (fun i h1 h2 h3 h4 => by rw [up2_row (by omega), hfr.1 i (by omega) (fun z => h3 (by unfold rsR; omega))]; exact rs_1 (by omega)) (fun j h1 h2 => by rw [up2_n (by omega), hfr.2 j (by omega) (by omega) (by omega), rs_87 (by omega), if_neg (by omega)]) (by rw [up2_n (by omega), hfr.2 1 (by omega) (by omega) (by omega)]; exact x2) (by rw [up2_s]; exact hE.2.2.2.1) (by rw [up2_n (by omega), hfr.2 28 (by omega) (by omega) (by omega), rs_87 (by omega), if_neg (by omega)]; exact hR.2.2.2.1.1) (fun q hq z hz => by have hq : q < aBn A := hq; have hb12 := hA.2.2.2.1.1; rw [up2_row (by omega), hfr.1 (143 + q) (by omega) (by omega), rs_1 (by omega)]; exact hR.2.2.2.1.2 q hq z hz), fun i hi => by rw [up2_row (by omega), hfr.1 i (by omega) (by omega)]; exact rs_1 (by omega), _, rfl, by rw [hE.1], by rw [up2_n (by omega), hfr.2 0 (by omega) (by omega) (by omega), rs_87 (by omega), if_pos rfl]⟩
      · exact absurd h_3 (by omega)
    · exact absurd h_2 (by omega)
set_option maxRecDepth 100000 in
set_option maxHeartbeats 4000000 in
theorem r_book_o (Γ : pTG) (g : pGG) (mi : pMI) (ml : pML) (A : AS) (hA : okAS A) (hSh : Sh g) (hR : RI A mi) (k : Nat) (hka : 0 ≤ k) (hk : k ≤ (min (aTn A) 150)) (c1 : Nat) (bk : Nat → Nat → Nat) (hb : okBk (aG A) c1 bk) (hr : bkR (aT A) k (aG A) 13 0 0 (fun _ _ => 0) = .ok (c1, bk)) : CT Γ 60 0 0 mX12_book [.ref 87, .int (nI k)] g mi ml (RQ (tbA A (c1, bk) (-1)) (.inl (nI c1)) cd1 g mi ml) := by
  refine CT_of (by decide +kernel) (Nat.le_of_ble_eq_true rfl) ?_
  have hP := hA.1
  have hG8 : aG A ≤ 8 := hP.2.1
  have hC8 : (aP A).1 ≤ 8 := hP.1
  have hT6 := hA.2.2.2.2.2.2.2.2.2.1
  refine X_aload_n dX12_book_0 rfl ?_
  refine X_iconst (v := nI 0) dX12_book_1 (by decide) ?_
  refine X_puti dX12_book_2 fkX12_158 rfl rfl (k_87 hSh) ?_
  refine X_aload_n dX12_book_5 rfl ?_
  refine X_iload_n dX12_book_6 rfl ?_
  refine X_iconst (v := nI 0) dX12_book_7 (by decide) ?_
  refine X_aload_n dX12_book_8 rfl ?_
  refine X_geti dX12_book_9 fkX12_161 rfl (k_87 hSh) ?_
  refine X_topi (show (up2 mi 87 0 (nI 0)) 87 1 = nI (aTn A) by rw [up2_n (by omega)]; exact hR.2.2.2.2.2.2.2.1.1) ?_
  refine X_callSI dX12_book_12 mkX12_192 (c_in Γ g (up2 mi 87 0 (nI 0)) ml (nI k) (nI 0) (nI (aTn A))) rfl rfl (by decide) (Nat.le_of_ble_eq_true rfl) ?_
  refine X_topi (show bI (decide (nI 0 ≤ nI k) && decide (nI k ≤ nI (aTn A))) = nI 1 from congrArg bI (show (decide (nI 0 ≤ nI k) && decide (nI k ≤ nI (aTn A))) = true from by rw [decide_eq_true (nI_le (by omega) (by omega)), decide_eq_true (nI_le (by omega) (by omega))]; rfl)) ?_
  refine X_if_eqN (a := 1) 25 dX12_book_15 (by decide) (by omega) (fun h_1 => ?_) (fun h_1 => ?_)
  · exact absurd h_1 (by omega)
  · refine X_iload_n dX12_book_18 rfl ?_
    refine X_sipush (v := nI 150) dX12_book_19 (by decide) ?_
    refine X_icmp_leN (a := k) (b := 150) 29 dX12_book_22 (by decide) (by omega) (by omega) (fun h_2 => ?_) (fun h_2 => ?_)
    · refine X_iconst (v := nI 0) dX12_book_29 (by decide) ?_
      refine X_iconst (v := nI 1) dX12_book_30 (by decide) ?_
      refine X_iconst (v := nI 1) dX12_book_31 (by decide) ?_
      refine X_callVI dX12_book_32 mkX12_228 (k_87 hSh) (c_bad0 Γ g (up2 mi 87 0 (nI 0)) ml hSh 1 1 up2_s) rfl rfl (by decide) (Nat.le_of_ble_eq_true rfl) ?_
      refine X_if_eqN (a := 0) 40 dX12_book_35 (by decide) (by omega) (fun h_3 => ?_) (fun h_3 => ?_)
      · refine X_aload_n dX12_book_40 rfl ?_
        refine X_iload_n dX12_book_41 rfl ?_
        refine X_callVV dX12_book_42 mkX12_232 (k_87 hSh) (c_starts Γ g (up2 mi 87 0 (nI 0)) ml hSh (aT A) k (by omega) (fun q hq => by rw [up2_row (by omega)]; exact hR.2.2.2.2.2.2.2.1.2 q (by omega))) rfl rfl (by decide) (Nat.le_of_ble_eq_true rfl) ?_
        refine X_iconst (v := nI 0) dX12_book_45 (by decide) ?_
        refine X_istore_n dX12_book_46 (by decide) ?_
        refine X_L [(0, .ref 87), (1, .int (nI k)), (2, .int (nI 0))] ⟨rfl, rfl, rfl, trivial⟩ ?_
        obtain ⟨x1, x2, x3, x4, x5, x6⟩ := rs_x hA hR (show k ≤ aTn A by omega)
        have hRB : RBS (up2 (stW (up2 mi 87 0 (nI 0)) k) 87 4 (nI (skT (aT A) k 0))) (up2 (stW (up2 mi 87 0 (nI 0)) k) 87 4 (nI (skT (aT A) k 0))) (aT A) k (aG A) (skT (aT A) k 0) 0 (fun _ _ => 0) := ⟨x1, x3, ⟨by omega, fun q hq => absurd hq (by omega)⟩, fun q hq => absurd hq (by omega), frRB_r, rfl⟩
        have h911 : (up2 (stW (up2 mi 87 0 (nI 0)) k) 87 4 (nI (skT (aT A) k 0))) 91 1 = nI (aG A) := by rw [rs_1 (by omega)]; exact hR.1.2.1
        refine XW_d (d := 20) (by decide) ?_
        refine rbkX Γ g (up2 (stW (up2 mi 87 0 (nI 0)) k) 87 4 (nI (skT (aT A) k 0))) (aT A) k (aG A) hSh hG8 h911 (r := bkR (aT A) k (aG A) 13 0 0 (fun _ _ => 0)) (fun m c2 k2 p2 _ hr2 _ => by rw [hr] at hr2; cases hr2) (fun x0 c2 b2 i2 hr2 hO => ?_) 13 (up2 (stW (up2 mi 87 0 (nI 0)) k) 87 4 (nI (skT (aT A) k 0))) (skT (aT A) k 0) 0 (fun _ _ => 0) hRB skT_sk (by omega) (by omega) bkR_sk
        rw [hr] at hr2
        cases hr2
        have hfr := hO.2.2.2.2.1
        have hb12 := hb.1
        refine X_aload_n dX12_book_175 rfl ?_
        refine X_geti dX12_book_176 fkX12_174 rfl (k_87 hSh) ?_
        rw [hO.2.1]
        refine X_if_eqN (a := 0) 187 dX12_book_179 (by decide) (by omega) (fun h_4 => ?_) (fun h_4 => ?_)
        · refine X_aload_n dX12_book_187 rfl ?_
          refine X_iconst (v := -1) dX12_book_188 (by decide) ?_
          refine X_puti dX12_book_189 fkX12_9 rfl rfl (k_87 hSh) ?_
          refine X_aload_n dX12_book_192 rfl ?_
          refine X_iload_n dX12_book_193 rfl ?_
          refine X_puti dX12_book_194 fkX12_241 rfl rfl (k_87 hSh) ?_
          refine X_iconst (v := nI 0) dX12_book_197 (by decide) ?_
          refine X_istore_n dX12_book_198 (by decide) ?_
          refine X_L [(3, .int (nI 0)), (2, .int (nI c1)), (1, .int (nI k)), (0, .ref 87)] ⟨rfl, rfl, rfl, rfl, trivial⟩ ?_
          refine X_forR (σ := pMI) 199 (fun i y => [(3, .int (nI i)), (2, .int (nI c1)), (1, .int (nI k)), (0, .ref 87)]) (fun y => y) (fun y => ml) (fun i y => (∀ q, q < i → ∀ t, t < 3 → y (143 + q) t = nI (bk q t)) ∧ ∀ a, ¬ (143 ≤ a ∧ a ≤ 154) → y a = (up2 (up2 x0 87 3 (-1)) 87 28 (nI c1)) a) c1 ?_ ?_ c1 0 ((up2 (up2 x0 87 3 (-1)) 87 28 (nI c1))) (by omega) ⟨fun q hq => absurd hq (by omega), fun _ _ => rfl⟩
          · intro i y hi hI hn
            refine X_iload_n dX12_book_199 rfl ?_
            refine X_iload_n dX12_book_200 rfl ?_
            refine X_icmp_geN (a := i) (b := c1) 243 dX12_book_201 (by decide) (by omega) (by omega) (fun h_5 => ?_) (fun h_5 => ?_)
            · exact absurd hi (by omega)
            · refine X_iconst (v := nI 0) dX12_book_204 (by decide) ?_
              refine X_istore dX12_book_205 (by decide) ?_
              refine X_L [(4, .int (nI 0)), (3, .int (nI i)), (2, .int (nI c1)), (1, .int (nI k)), (0, .ref 87)] ⟨rfl, rfl, rfl, rfl, rfl, trivial⟩ ?_
              refine X_forR (σ := pMI) 207 (fun j z => [(4, .int (nI j)), (3, .int (nI i)), (2, .int (nI c1)), (1, .int (nI k)), (0, .ref 87)]) (fun z => z) (fun z => ml) (fun j z => (∀ q, q < i → ∀ t, t < 3 → z (143 + q) t = nI (bk q t)) ∧ (∀ t, t < j → z (143 + i) t = nI (bk i t)) ∧ ∀ a, ¬ (143 ≤ a ∧ a ≤ 154) → z a = (up2 (up2 x0 87 3 (-1)) 87 28 (nI c1)) a) 3 ?_ ?_ 3 0 y (by omega) ⟨hI.1, fun t ht => absurd ht (by omega), hI.2⟩
              · intro j z hj hJ hn2
                refine X_iload dX12_book_207 rfl ?_
                refine X_iconst (v := nI 3) dX12_book_209 (by decide) ?_
                refine X_icmp_geN (a := j) (b := 3) 237 dX12_book_210 (by decide) (by omega) (by omega) (fun h_6 => ?_) (fun h_6 => ?_)
                · exact absurd hj (by omega)
                · refine X_aload_n dX12_book_213 rfl ?_
                  refine X_getr (a := 142) dX12_book_214 fkX12_55 rfl (k_87 hSh) (r_87_22 hSh) ?_
                  refine X_iload_n dX12_book_217 rfl ?_
                  refine X_aaldr (b := 143 + i) i dX12_book_218 (k_142 hSh) rfl (by omega) (o_142 hSh i (by omega)) ?_
                  refine X_iload dX12_book_219 rfl ?_
                  refine X_aload_n dX12_book_221 rfl ?_
                  refine X_getr (a := 155) dX12_book_222 fkX12_58 rfl (k_87 hSh) (r_87_23 hSh) ?_
                  refine X_iload_n dX12_book_225 rfl ?_
                  refine X_aaldr (b := 156 + i) i dX12_book_226 (k_155 hSh) rfl (by omega) (o_155 hSh i (by omega)) ?_
                  refine X_iload dX12_book_227 rfl ?_
                  refine X_iald j dX12_book_229 (kr_155 hSh i (by omega)) rfl (by omega) ?_
                  refine X_iast j dX12_book_230 (kr_142 hSh i (by omega)) rfl (by omega) ?_
                  refine X_iinc (v := nI (j + 1)) dX12_book_231 rfl (nI_1 _) (by decide) ?_
                  refine X_goto 207 dX12_book_234 (by decide) ?_
                  refine X_L [(4, .int (nI (j + 1))), (3, .int (nI i)), (2, .int (nI c1)), (1, .int (nI k)), (0, .ref 87)] ⟨rfl, rfl, rfl, rfl, rfl, trivial⟩ ?_
                  refine hn2 _ ⟨fun q hq t ht => ?_, fun t ht => ?_, fun a ha => ?_⟩
                  · rw [up2_row (by omega)]; exact hJ.1 q hq t ht
                  · by_cases e : t = j
                    · subst e; rw [up2_s, hJ.2.2 (156 + i) (by omega), up2_row (by omega), up2_row (by omega)]; exact hO.2.2.2.1 i (by omega) t (by omega)
                    · rw [up2_n e]; exact hJ.2.1 t (by omega)
                  · rw [up2_row (by omega)]; exact hJ.2.2 a ha
              · intro z hJ
                refine X_iload dX12_book_207 rfl ?_
                refine X_iconst (v := nI 3) dX12_book_209 (by decide) ?_
                refine X_icmp_geN (a := 3) (b := 3) 237 dX12_book_210 (by decide) (by omega) (by omega) (fun h_7 => ?_) (fun h_7 => ?_)
                · refine X_iinc (v := nI (i + 1)) dX12_book_237 rfl (nI_1 _) (by decide) ?_
                  refine X_goto 199 dX12_book_240 (by decide) ?_
                  refine X_L [(3, .int (nI (i + 1))), (2, .int (nI c1)), (1, .int (nI k)), (0, .ref 87)] ⟨rfl, rfl, rfl, rfl, trivial⟩ ?_
                  refine hn z ⟨fun q hq t ht => ?_, hJ.2.2⟩
                  by_cases e : q = i
                  · subst e; exact hJ.2.1 t ht
                  · exact hJ.1 q (by omega) t ht
                · exact absurd h_7 (by omega)
          · intro y hI
            refine X_iload_n dX12_book_199 rfl ?_
            refine X_iload_n dX12_book_200 rfl ?_
            refine X_icmp_geN (a := c1) (b := c1) 243 dX12_book_201 (by decide) (by omega) (by omega) (fun h_8 => ?_) (fun h_8 => ?_)
            · refine X_iload_n dX12_book_243 rfl ?_
              exact X_iret dX12_book_244 rfl ⟨rfl, rfl, RI_tb hA hR hb.1 (fun i h1 h2 h3 h4 => by rw [hI.2 i h4, up2_row (by omega), up2_row (by omega), hfr.1 i (by omega) (fun z => h3 (by unfold rsR; omega))]; exact rs_1 (by omega)) (fun j h1 h2 => by rw [hI.2 87 (by omega), up2_n (by omega), up2_n (by omega), hfr.2 j (by omega) (by omega) (by omega), rs_87 (by omega), if_neg (by omega)]) (by rw [hI.2 87 (by omega), up2_n (by omega), up2_n (by omega), hfr.2 1 (by omega) (by omega) (by omega)]; exact x2) (by rw [hI.2 87 (by omega), up2_n (by omega), up2_s]) (by rw [hI.2 87 (by omega), up2_s]) hI.1, fun i hi => by rw [hI.2 i (by omega), up2_row (by omega), up2_row (by omega), hfr.1 i (by omega) (by omega)]; exact rs_1 (by omega), _, rfl, rfl, by rw [hI.2 87 (by omega), up2_n (by omega), up2_n (by omega), hfr.2 0 (by omega) (by omega) (by omega), rs_87 (by omega), if_pos rfl]⟩
            · exact absurd h_8 (by omega)
        · exact absurd h_4 (by omega)
      · exact absurd h_3 (by omega)
    · exact absurd h_2 (by omega)
theorem m_book (A : AS) (hA : okAS A) (w : Int32) : MOK mX11_book mX12_book cd1 [.int w] A := by
  have hT6 := hA.2.2.2.2.2.2.2.2.2.1
  by_cases hg0 : nI 0 ≤ w ∧ w ≤ nI (min (aTn A) 150)
  · obtain ⟨k, hka, hk, rfl⟩ := (wi_iff (by decide) (by omega)).mp hg0
    cases hr : bkR (aT A) k (aG A) 13 0 0 (fun _ _ => 0) with
    | error e =>
      obtain ⟨c1, p1⟩ := e
      exact ⟨.inl (nI c1 - nI 10), tbA A (aBn A, aB A) (nI p1), ok_tb hA hA.2.2.2.1, fun j h => (by cases h), fun Γ g m l hC => k_book_e Γ g m l A hA hC k hka hk c1 p1 hr, fun Γ g m l hSh hR => r_book_e Γ g m l A hA hSh hR k hka hk c1 p1 hr⟩
    | ok e =>
      obtain ⟨c1, bk⟩ := e
      have hb0 : okBk (aG A) 0 (fun _ _ => 0) := ⟨Nat.zero_le _, fun q hq => absurd hq (Nat.not_lt_zero _)⟩
      have hb := bkR_ok 13 0 0 _ c1 bk (Nat.zero_le _) hb0 hr
      exact ⟨.inl (nI c1), tbA A (c1, bk) (-1), ok_tb hA hb, fun j h => (by cases h), fun Γ g m l hC => k_book_o Γ g m l A hA hC k hka hk c1 bk hb hr, fun Γ g m l hSh hR => r_book_o Γ g m l A hA hSh hR k hka hk c1 bk hb hr⟩
  · refine ⟨.inr 1, rfA A 1, ok_rf hA, fun j h => by cases h; decide, fun Γ g m l hC => k_book_f0 Γ g m l A hA hC w hg0, fun Γ g m l hSh hR => ?_⟩
    by_cases hg1 : nI 0 ≤ w ∧ w ≤ nI (aTn A)
    · obtain ⟨k, hka, hk, rfl⟩ := (wi_iff (by decide) (by omega)).mp hg1
      refine r_book_f0b Γ g m l A hA hSh hR k hka hk (Nat.lt_of_not_le (fun q => hg0 ?_))
      exact (wi_iff (by decide) (by omega)).mpr ⟨k, hka, by omega, rfl⟩
    · exact r_book_f0a Γ g m l A hA hSh hR w hg1

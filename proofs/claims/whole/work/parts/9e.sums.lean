theorem lc_J6_265 : Cond.constant RJ6 265 1431655765 ∈ uxW := uxW_of (by decide +kernel) (by decide +kernel)
theorem lc_J6_266 : Cond.constant RJ6 266 858993459 ∈ uxW := uxW_of (by decide +kernel) (by decide +kernel)
theorem lc_J6_267 : Cond.constant RJ6 267 252645135 ∈ uxW := uxW_of (by decide +kernel) (by decide +kernel)
def bc1 (x : Int32) : Int32 := x - ((x.toUInt32 >>> ((nI 1).toUInt32 &&& Int32.toUInt32 31)).toInt32 &&& 1431655765)
def bc2 (x : Int32) : Int32 := (x &&& 858993459) + ((x.toUInt32 >>> ((nI 2).toUInt32 &&& Int32.toUInt32 31)).toInt32 &&& 858993459)
def bc3 (x : Int32) : Int32 := (x + (x.toUInt32 >>> ((nI 4).toUInt32 &&& Int32.toUInt32 31)).toInt32) &&& 252645135
def bc4 (x : Int32) : Int32 := x + (x.toUInt32 >>> ((nI 8).toUInt32 &&& Int32.toUInt32 31)).toInt32
def bc5 (x : Int32) : Int32 := x + (x.toUInt32 >>> ((nI 16).toUInt32 &&& Int32.toUInt32 31)).toInt32
def bcA (x : Int32) : Int32 := bc5 (bc4 (bc3 (bc2 (bc1 x)))) &&& nI 63
set_option maxRecDepth 100000 in
set_option maxHeartbeats 4000000 in
theorem c_bitCount (Γ : pTG) (g : pGG) (mi : pMI) (ml : pML) (x : Int32) : cI Γ 1 mJ6_bitCount_0f7a4 [.int x] g mi ml (bcA x) mi := by
  refine cI_of (by decide +kernel) (Nat.le_of_ble_eq_true rfl) ?_
  refine X_iload_n dJ6_bitCount_0f7a4_0 rfl ?_
  refine X_iload_n dJ6_bitCount_0f7a4_1 rfl ?_
  refine X_iconst (v := nI 1) dJ6_bitCount_0f7a4_2 (by decide) ?_
  refine X_iushr dJ6_bitCount_0f7a4_3 ?_
  refine X_ldcw (v := 1431655765) dJ6_bitCount_0f7a4_4 lc_J6_265 ?_
  refine X_iand dJ6_bitCount_0f7a4_7 ?_
  refine X_isub dJ6_bitCount_0f7a4_8 ?_
  refine X_topi (show _ = bc1 x from rfl) ?_
  refine X_istore_n dJ6_bitCount_0f7a4_9 (by decide) ?_
  refine X_iload_n dJ6_bitCount_0f7a4_10 rfl ?_
  refine X_ldcw (v := 858993459) dJ6_bitCount_0f7a4_11 lc_J6_266 ?_
  refine X_iand dJ6_bitCount_0f7a4_14 ?_
  refine X_iload_n dJ6_bitCount_0f7a4_15 rfl ?_
  refine X_iconst (v := nI 2) dJ6_bitCount_0f7a4_16 (by decide) ?_
  refine X_iushr dJ6_bitCount_0f7a4_17 ?_
  refine X_ldcw (v := 858993459) dJ6_bitCount_0f7a4_18 lc_J6_266 ?_
  refine X_iand dJ6_bitCount_0f7a4_21 ?_
  refine X_iadd dJ6_bitCount_0f7a4_22 ?_
  refine X_topi (show _ = bc2 (bc1 x) from rfl) ?_
  refine X_istore_n dJ6_bitCount_0f7a4_23 (by decide) ?_
  refine X_iload_n dJ6_bitCount_0f7a4_24 rfl ?_
  refine X_iload_n dJ6_bitCount_0f7a4_25 rfl ?_
  refine X_iconst (v := nI 4) dJ6_bitCount_0f7a4_26 (by decide) ?_
  refine X_iushr dJ6_bitCount_0f7a4_27 ?_
  refine X_iadd dJ6_bitCount_0f7a4_28 ?_
  refine X_ldcw (v := 252645135) dJ6_bitCount_0f7a4_29 lc_J6_267 ?_
  refine X_iand dJ6_bitCount_0f7a4_32 ?_
  refine X_topi (show _ = bc3 (bc2 (bc1 x)) from rfl) ?_
  refine X_istore_n dJ6_bitCount_0f7a4_33 (by decide) ?_
  refine X_iload_n dJ6_bitCount_0f7a4_34 rfl ?_
  refine X_iload_n dJ6_bitCount_0f7a4_35 rfl ?_
  refine X_bipush (v := nI 8) dJ6_bitCount_0f7a4_36 (by decide) ?_
  refine X_iushr dJ6_bitCount_0f7a4_38 ?_
  refine X_iadd dJ6_bitCount_0f7a4_39 ?_
  refine X_topi (show _ = bc4 (bc3 (bc2 (bc1 x))) from rfl) ?_
  refine X_istore_n dJ6_bitCount_0f7a4_40 (by decide) ?_
  refine X_iload_n dJ6_bitCount_0f7a4_41 rfl ?_
  refine X_iload_n dJ6_bitCount_0f7a4_42 rfl ?_
  refine X_bipush (v := nI 16) dJ6_bitCount_0f7a4_43 (by decide) ?_
  refine X_iushr dJ6_bitCount_0f7a4_45 ?_
  refine X_iadd dJ6_bitCount_0f7a4_46 ?_
  refine X_topi (show _ = bc5 (bc4 (bc3 (bc2 (bc1 x)))) from rfl) ?_
  refine X_istore_n dJ6_bitCount_0f7a4_47 (by decide) ?_
  refine X_iload_n dJ6_bitCount_0f7a4_48 rfl ?_
  refine X_bipush (v := nI 63) dJ6_bitCount_0f7a4_49 (by decide) ?_
  refine X_iand dJ6_bitCount_0f7a4_51 ?_
  exact X_iret dJ6_bitCount_0f7a4_52 rfl ⟨by rfl, rfl, rfl, rfl⟩
theorem decide_0 (p : Nat → Bool) : bcA (mkN p 0) = nI (cN p 0) := by
  show bcA 0 = nI 0
  decide +kernel
set_option maxRecDepth 100000 in
theorem bc_mk (p : Nat → Bool) : ∀ n, n ≤ 8 → bcA (mkN p n) = nI (cN p n)
  | 0, _ => decide_0 p
  | 1, _ => by simp only [mkN, cN]; generalize p 0 = b0; revert b0; decide +kernel
  | 2, _ => by simp only [mkN, cN]; generalize p 0 = b0; generalize p 1 = b1; revert b0 b1; decide +kernel
  | 3, _ => by simp only [mkN, cN]; generalize p 0 = b0; generalize p 1 = b1; generalize p 2 = b2; revert b0 b1 b2; decide +kernel
  | 4, _ => by simp only [mkN, cN]; generalize p 0 = b0; generalize p 1 = b1; generalize p 2 = b2; generalize p 3 = b3; revert b0 b1 b2 b3; decide +kernel
  | 5, _ => by simp only [mkN, cN]; generalize p 0 = b0; generalize p 1 = b1; generalize p 2 = b2; generalize p 3 = b3; generalize p 4 = b4; revert b0 b1 b2 b3 b4; decide +kernel
  | 6, _ => by simp only [mkN, cN]; generalize p 0 = b0; generalize p 1 = b1; generalize p 2 = b2; generalize p 3 = b3; generalize p 4 = b4; generalize p 5 = b5; revert b0 b1 b2 b3 b4 b5; decide +kernel
  | 7, _ => by simp only [mkN, cN]; generalize p 0 = b0; generalize p 1 = b1; generalize p 2 = b2; generalize p 3 = b3; generalize p 4 = b4; generalize p 5 = b5; generalize p 6 = b6; revert b0 b1 b2 b3 b4 b5 b6; decide +kernel
  | 8, _ => by simp only [mkN, cN]; generalize p 0 = b0; generalize p 1 = b1; generalize p 2 = b2; generalize p 3 = b3; generalize p 4 = b4; generalize p 5 = b5; generalize p 6 = b6; generalize p 7 = b7; revert b0 b1 b2 b3 b4 b5 b6 b7; decide +kernel
  | n + 9, h => absurd h (by omega)
theorem sumN_eq {f h : Nat → Int32} : ∀ n, (∀ b, b < n → f b = h b) → sumN f n = sumN h n
  | 0, _ => rfl
  | n + 1, q => by unfold sumN; rw [sumN_eq n (fun b hb => q b (by omega)), q n (by omega)]
theorem sumN_c (p : Nat → Bool) : ∀ n, sumN (fun b => bI (p b)) n = nI (cN p n)
  | 0 => rfl
  | n + 1 => by
    unfold sumN cN
    rw [sumN_c p n]
    cases p n
    · show nI (cN p n) + nI 0 = nI (cN p n + 0); rw [nI_add]
    · show nI (cN p n) + nI 1 = nI (cN p n + 1); rw [nI_add]
def loV (A : AS) (b : Nat) : Int32 := nI ((aP A).2.2.2.2.2.2 b 0 - mrn (aP A) (aH A) (aD A) b)
theorem lo_k {m : pMI} {t u c b : Nat} (h6 : m 6 b = nI u) (h7 : m (t + 1) (b * 8 + 0) = nI c) (hu : u < 24) (hc : c < 24) : loC t m b = nI (u - c) := by
  unfold loC
  rw [h6, h7]
  by_cases q : c ≤ u
  · rw [pk_sub q]
    by_cases z : u - c = 0
    · rw [z, if_pos (by decide)]
    · rw [if_neg (nI_nle (by omega) (by omega))]
  · rw [if_pos (Int32.le_of_lt (pk_sneg (by omega) (by omega))), show u - c = 0 by omega]
theorem lo_r {m : pMI} {u c b : Nat} (h6 : m (121 + b) 0 = nI u) (h7 : m 194 b = nI c) (hu : u < 24) (hc : c < 24) : lostM m b = nI (u - c) := by
  unfold lostM
  rw [h6, h7]
  by_cases q : c ≤ u
  · rw [pk_sub q]; exact if_neg (nI_pos (by omega))
  · rw [if_pos (show nI u - nI c < nI 0 from pk_sneg (by omega) (by omega)), show u - c = 0 by omega]
theorem ms_238 : MLS RX11 238 mJ6_bitCount_0f7a4 1 := ⟨uxW_all (by decide +kernel), ⟨by decide, by decide, by decide +kernel⟩, by decide⟩
set_option maxRecDepth 100000 in
set_option maxHeartbeats 4000000 in
theorem k_sums_f0 (Γ : pTG) (g : pGG) (mi : pMI) (ml : pML) (A : AS) (hA : okAS A) (hC : CI A g mi ml) (w : Int32) (hf : ¬ (nI 0 ≤ w ∧ w ≤ nI 5)) : CT Γ 60 20 5000 mX11_sums [.ref 0, .int w] g mi ml (CQ (rfA A 1) (.inr 1) mi ml) := by
  refine CT_of (by decide +kernel) (Nat.le_of_ble_eq_true rfl) ?_
  have hSh := CI_Sh hC
  have hcl := CI_cl hC
  have hP := hA.1
  have hG8 : aG A ≤ 8 := hP.2.1
  have hC8 : (aP A).1 ≤ 8 := hP.1
  refine X_aload_n dX11_sums_0 rfl ?_
  refine X_iload_n dX11_sums_1 rfl ?_
  refine X_iconst (v := nI 0) dX11_sums_2 (by decide) ?_
  refine X_iconst (v := nI 5) dX11_sums_3 (by decide) ?_
  exact X_need dX11_sums_4 mkX11_116 (k_0 hSh) (c_needWithin Γ g mi ml hSh w (nI 0) (nI 5)) rfl rfl (by decide) (by decide) (by decide) (by decide) (fun _ => ⟨rfl, CI_rf (by decide) hC, frK_86, rfl⟩) (fun h => absurd h hf)
set_option maxRecDepth 100000 in
set_option maxHeartbeats 4000000 in
theorem r_sums_f0 (Γ : pTG) (g : pGG) (mi : pMI) (ml : pML) (A : AS) (hA : okAS A) (hSh : Sh g) (hR : RI A mi) (w : Int32) (hf : ¬ (nI 0 ≤ w ∧ w ≤ nI 5)) : CT Γ 60 0 0 mX12_sums [.ref 87, .int w] g mi ml (RQ (rfA A 1) (.inr 1) cd1 g mi ml) := by
  refine CT_of (by decide +kernel) (Nat.le_of_ble_eq_true rfl) ?_
  have hP := hA.1
  have hG8 : aG A ≤ 8 := hP.2.1
  have hC8 : (aP A).1 ≤ 8 := hP.1
  refine X_aload_n dX12_sums_0 rfl ?_
  refine X_iconst (v := nI 0) dX12_sums_1 (by decide) ?_
  refine X_puti dX12_sums_2 fkX12_158 rfl rfl (k_87 hSh) ?_
  refine X_aload_n dX12_sums_5 rfl ?_
  refine X_iload_n dX12_sums_6 rfl ?_
  refine X_iconst (v := nI 0) dX12_sums_7 (by decide) ?_
  refine X_iconst (v := nI 5) dX12_sums_8 (by decide) ?_
  refine X_callSI dX12_sums_9 mkX12_192 (c_in Γ g (up2 mi 87 0 (nI 0)) ml w (nI 0) (nI 5)) rfl rfl (by decide) (Nat.le_of_ble_eq_true rfl) ?_
  refine X_topi (show bI (decide (nI 0 ≤ w) && decide (w ≤ nI 5)) = nI 0 from congrArg bI (show (decide (nI 0 ≤ w) && decide (w ≤ nI 5)) = false from Bool.eq_false_iff.mpr (fun q => hf (by rw [Bool.and_eq_true, decide_eq_true_eq, decide_eq_true_eq] at q; exact q)))) ?_
  refine X_if_neN (a := 0) 19 dX12_sums_12 (by decide) (by omega) (fun h_1 => ?_) (fun h_1 => ?_)
  · exact absurd h_1 (by omega)
  · refine X_iconst (v := nI 1) dX12_sums_15 (by decide) ?_
    refine X_goto 20 dX12_sums_16 (by decide) ?_
    refine X_iconst (v := nI 1) dX12_sums_20 (by decide) ?_
    refine X_iconst (v := nI 1) dX12_sums_21 (by decide) ?_
    refine X_callVI dX12_sums_22 mkX12_228 (k_87 hSh) (c_bad1 Γ g (up2 mi 87 0 (nI 0)) ml hSh 1 1 (by decide) (by decide) (by decide) up2_s) rfl rfl (by decide) (Nat.le_of_ble_eq_true rfl) ?_
    refine X_mi (show _ = mB mi 1 1 from rfl) ?_
    refine X_if_eqN (a := 1) 30 dX12_sums_25 (by decide) (by omega) (fun h_2 => ?_) (fun h_2 => ?_)
    · exact absurd h_2 (by omega)
    · refine X_iconst (v := nI 0) dX12_sums_28 (by decide) ?_
      exact X_iret dX12_sums_29 rfl ⟨rfl, rfl, RI_rf hA (by decide) hR, fr2_B, _, rfl, mB_0⟩
set_option maxRecDepth 100000 in
set_option maxHeartbeats 4000000 in
theorem k_sums_0 (Γ : pTG) (g : pGG) (mi : pMI) (ml : pML) (A : AS) (hA : okAS A) (hC : CI A g mi ml)  : CT Γ 60 20 5000 mX11_sums [.ref 0, .int (nI 0)] g mi ml (CQ A (.inl (sumN (fun b => (DYd A).1 200 b) (aG A))) mi ml) := by
  refine CT_of (by decide +kernel) (Nat.le_of_ble_eq_true rfl) ?_
  have hSh := CI_Sh hC
  have hcl := CI_cl hC
  have hP := hA.1
  have hG8 : aG A ≤ 8 := hP.2.1
  have hC8 : (aP A).1 ≤ 8 := hP.1
  refine X_aload_n dX11_sums_0 rfl ?_
  refine X_iload_n dX11_sums_1 rfl ?_
  refine X_iconst (v := nI 0) dX11_sums_2 (by decide) ?_
  refine X_iconst (v := nI 5) dX11_sums_3 (by decide) ?_
  refine X_need dX11_sums_4 mkX11_116 (k_0 hSh) (c_needWithin Γ g mi ml hSh (nI 0) (nI 0) (nI 5)) rfl rfl (by decide) (by decide) (by decide) (by decide) (fun h => absurd (by decide) h) (fun _ => ?_)
  refine X_aload_n dX11_sums_7 rfl ?_
  refine X_callVrV dX11_sums_8 mkX11_193 (k_0 hSh) (c_look Γ g mi ml A hA hC) rfl rfl (by decide) (Nat.le_of_ble_eq_true rfl) (fun m1 l1 hm1 => ?_)
  obtain ⟨⟨hC1, hcd⟩, hk1, hl1⟩ := hm1
  have hcl1 := CI_cl hC1
  refine X_iload_n dX11_sums_11 rfl ?_
  refine X_tableIn 48 dX11_sums_12 (by decide) (by decide) rfl (by decide) ?_
  refine X_aload_n dX11_sums_48 rfl ?_
  refine X_getr (a := 57) dX11_sums_49 fkX11_72 rfl (k_0 hSh) (r_0_9 hSh) ?_
  refine X_iconst (v := nI 3) dX11_sums_52 (by decide) ?_
  refine X_callVI dX11_sums_53 mkX11_224 (k_57 hSh) (c_total Γ g m1 l1 hSh 57 (shC_57 hSh) (aG A) hcl1.2.1 hG8 3 (by decide)) rfl rfl (by decide) (Nat.le_of_ble_eq_true rfl) ?_
  exact X_iret dX11_sums_56 rfl ⟨congrArg (fun z => Sum.inl (some (Value.int z))) (sumN_eq _ (fun b hb => (hcd.1 b hb).2.2.2.1)), hC1, hk1, hl1⟩
set_option maxRecDepth 100000 in
set_option maxHeartbeats 4000000 in
theorem r_sums_0 (Γ : pTG) (g : pGG) (mi : pMI) (ml : pML) (A : AS) (hA : okAS A) (hSh : Sh g) (hR : RI A mi)  : CT Γ 60 0 0 mX12_sums [.ref 87, .int (nI 0)] g mi ml (RQ A (.inl (sumN (fun b => (DYd A).1 200 b) (aG A))) cd1 g mi ml) := by
  refine CT_of (by decide +kernel) (Nat.le_of_ble_eq_true rfl) ?_
  have hP := hA.1
  have hG8 : aG A ≤ 8 := hP.2.1
  have hC8 : (aP A).1 ≤ 8 := hP.1
  refine X_aload_n dX12_sums_0 rfl ?_
  refine X_iconst (v := nI 0) dX12_sums_1 (by decide) ?_
  refine X_puti dX12_sums_2 fkX12_158 rfl rfl (k_87 hSh) ?_
  refine X_aload_n dX12_sums_5 rfl ?_
  refine X_iload_n dX12_sums_6 rfl ?_
  refine X_iconst (v := nI 0) dX12_sums_7 (by decide) ?_
  refine X_iconst (v := nI 5) dX12_sums_8 (by decide) ?_
  refine X_callSI dX12_sums_9 mkX12_192 (c_in Γ g (up2 mi 87 0 (nI 0)) ml (nI 0) (nI 0) (nI 5)) rfl rfl (by decide) (Nat.le_of_ble_eq_true rfl) ?_
  refine X_topi (show bI (decide (nI 0 ≤ nI 0) && decide (nI 0 ≤ nI 5)) = nI 1 from congrArg bI (show (decide (nI 0 ≤ nI 0) && decide (nI 0 ≤ nI 5)) = true from by decide)) ?_
  refine X_if_neN (a := 1) 19 dX12_sums_12 (by decide) (by omega) (fun h_1 => ?_) (fun h_1 => ?_)
  · refine X_iconst (v := nI 0) dX12_sums_19 (by decide) ?_
    refine X_iconst (v := nI 1) dX12_sums_20 (by decide) ?_
    refine X_iconst (v := nI 1) dX12_sums_21 (by decide) ?_
    refine X_callVI dX12_sums_22 mkX12_228 (k_87 hSh) (c_bad0 Γ g (up2 mi 87 0 (nI 0)) ml hSh 1 1 up2_s) rfl rfl (by decide) (Nat.le_of_ble_eq_true rfl) ?_
    refine X_if_eqN (a := 0) 30 dX12_sums_25 (by decide) (by omega) (fun h_2 => ?_) (fun h_2 => ?_)
    · refine X_aload_n dX12_sums_30 rfl ?_
      have hw0 : frW mi (up2 mi 87 0 (nI 0)) := frW_u frW_r (by unfold rsF rsR; omega)
      refine X_callVrV dX12_sums_31 mkX12_353 (k_87 hSh) (r_dayK Γ g (up2 mi 87 0 (nI 0)) ml A hA hSh mi hR hw0) rfl rfl (by decide) (Nat.le_of_ble_eq_true rfl) (fun m1 l1 hm1 => ?_)
      obtain ⟨hrd, hfw, hf2, ht0, hrs, hl1⟩ := hm1
      rw [hl1]
      have hR1 := RI_fr hA hR hfw
      refine X_iload_n dX12_sums_34 rfl ?_
      refine X_if_neN (a := 0) 43 dX12_sums_35 (by decide) (by omega) (fun h_3 => ?_) (fun h_3 => ?_)
      · exact absurd h_3 (by omega)
      · refine X_aload_n dX12_sums_38 rfl ?_
        refine X_callVI dX12_sums_39 mkX12_359 (k_87 hSh) (c_allGot Γ g m1 ml hSh (aG A) hR1.1.2.1 hG8) rfl rfl (by decide) (Nat.le_of_ble_eq_true rfl) ?_
        exact X_iret dX12_sums_42 rfl ⟨rfl, rfl, hR1, frM2_t (frM2_u frM2_r (by omega)) hf2, _, rfl, sumN_eq _ (fun b hb => (hrd.1 b hb).2.2.2.2.1), ht0.trans up2_s⟩
    · exact absurd h_2 (by omega)
  · exact absurd h_1 (by omega)
set_option maxRecDepth 100000 in
set_option maxHeartbeats 4000000 in
theorem k_sums_1 (Γ : pTG) (g : pGG) (mi : pMI) (ml : pML) (A : AS) (hA : okAS A) (hC : CI A g mi ml)  : CT Γ 60 20 5000 mX11_sums [.ref 0, .int (nI 1)] g mi ml (CQ A (.inl (sumN (fun b => netM (wD (DYd A)) b) (aG A))) mi ml) := by
  refine CT_of (by decide +kernel) (Nat.le_of_ble_eq_true rfl) ?_
  have hSh := CI_Sh hC
  have hcl := CI_cl hC
  have hP := hA.1
  have hG8 : aG A ≤ 8 := hP.2.1
  have hC8 : (aP A).1 ≤ 8 := hP.1
  refine X_aload_n dX11_sums_0 rfl ?_
  refine X_iload_n dX11_sums_1 rfl ?_
  refine X_iconst (v := nI 0) dX11_sums_2 (by decide) ?_
  refine X_iconst (v := nI 5) dX11_sums_3 (by decide) ?_
  refine X_need dX11_sums_4 mkX11_116 (k_0 hSh) (c_needWithin Γ g mi ml hSh (nI 1) (nI 0) (nI 5)) rfl rfl (by decide) (by decide) (by decide) (by decide) (fun h => absurd (by decide) h) (fun _ => ?_)
  refine X_aload_n dX11_sums_7 rfl ?_
  refine X_callVrV dX11_sums_8 mkX11_193 (k_0 hSh) (c_look Γ g mi ml A hA hC) rfl rfl (by decide) (Nat.le_of_ble_eq_true rfl) (fun m1 l1 hm1 => ?_)
  obtain ⟨⟨hC1, hcd⟩, hk1, hl1⟩ := hm1
  have hcl1 := CI_cl hC1
  refine X_iload_n dX11_sums_11 rfl ?_
  refine X_tableIn 57 dX11_sums_12 (by decide) (by decide) rfl (by decide) ?_
  refine X_aload_n dX11_sums_57 rfl ?_
  refine X_getr (a := 57) dX11_sums_58 fkX11_72 rfl (k_0 hSh) (r_0_9 hSh) ?_
  refine X_iconst (v := nI 4) dX11_sums_61 (by decide) ?_
  refine X_callVI dX11_sums_62 mkX11_224 (k_57 hSh) (c_total Γ g m1 l1 hSh 57 (shC_57 hSh) (aG A) hcl1.2.1 hG8 4 (by decide)) rfl rfl (by decide) (Nat.le_of_ble_eq_true rfl) ?_
  exact X_iret dX11_sums_65 rfl ⟨congrArg (fun z => Sum.inl (some (Value.int z))) (sumN_eq _ (fun b hb => (hcd.1 b hb).2.2.2.2.1)), hC1, hk1, hl1⟩
set_option maxRecDepth 100000 in
set_option maxHeartbeats 4000000 in
theorem r_sums_1 (Γ : pTG) (g : pGG) (mi : pMI) (ml : pML) (A : AS) (hA : okAS A) (hSh : Sh g) (hR : RI A mi)  : CT Γ 60 0 0 mX12_sums [.ref 87, .int (nI 1)] g mi ml (RQ A (.inl (sumN (fun b => netM (wD (DYd A)) b) (aG A))) cd1 g mi ml) := by
  refine CT_of (by decide +kernel) (Nat.le_of_ble_eq_true rfl) ?_
  have hP := hA.1
  have hG8 : aG A ≤ 8 := hP.2.1
  have hC8 : (aP A).1 ≤ 8 := hP.1
  refine X_aload_n dX12_sums_0 rfl ?_
  refine X_iconst (v := nI 0) dX12_sums_1 (by decide) ?_
  refine X_puti dX12_sums_2 fkX12_158 rfl rfl (k_87 hSh) ?_
  refine X_aload_n dX12_sums_5 rfl ?_
  refine X_iload_n dX12_sums_6 rfl ?_
  refine X_iconst (v := nI 0) dX12_sums_7 (by decide) ?_
  refine X_iconst (v := nI 5) dX12_sums_8 (by decide) ?_
  refine X_callSI dX12_sums_9 mkX12_192 (c_in Γ g (up2 mi 87 0 (nI 0)) ml (nI 1) (nI 0) (nI 5)) rfl rfl (by decide) (Nat.le_of_ble_eq_true rfl) ?_
  refine X_topi (show bI (decide (nI 0 ≤ nI 1) && decide (nI 1 ≤ nI 5)) = nI 1 from congrArg bI (show (decide (nI 0 ≤ nI 1) && decide (nI 1 ≤ nI 5)) = true from by decide)) ?_
  refine X_if_neN (a := 1) 19 dX12_sums_12 (by decide) (by omega) (fun h_1 => ?_) (fun h_1 => ?_)
  · refine X_iconst (v := nI 0) dX12_sums_19 (by decide) ?_
    refine X_iconst (v := nI 1) dX12_sums_20 (by decide) ?_
    refine X_iconst (v := nI 1) dX12_sums_21 (by decide) ?_
    refine X_callVI dX12_sums_22 mkX12_228 (k_87 hSh) (c_bad0 Γ g (up2 mi 87 0 (nI 0)) ml hSh 1 1 up2_s) rfl rfl (by decide) (Nat.le_of_ble_eq_true rfl) ?_
    refine X_if_eqN (a := 0) 30 dX12_sums_25 (by decide) (by omega) (fun h_2 => ?_) (fun h_2 => ?_)
    · refine X_aload_n dX12_sums_30 rfl ?_
      have hw0 : frW mi (up2 mi 87 0 (nI 0)) := frW_u frW_r (by unfold rsF rsR; omega)
      refine X_callVrV dX12_sums_31 mkX12_353 (k_87 hSh) (r_dayK Γ g (up2 mi 87 0 (nI 0)) ml A hA hSh mi hR hw0) rfl rfl (by decide) (Nat.le_of_ble_eq_true rfl) (fun m1 l1 hm1 => ?_)
      obtain ⟨hrd, hfw, hf2, ht0, hrs, hl1⟩ := hm1
      rw [hl1]
      have hR1 := RI_fr hA hR hfw
      refine X_iload_n dX12_sums_34 rfl ?_
      refine X_if_neN (a := 1) 43 dX12_sums_35 (by decide) (by omega) (fun h_3 => ?_) (fun h_3 => ?_)
      · refine X_iload_n dX12_sums_43 rfl ?_
        refine X_iconst (v := nI 2) dX12_sums_44 (by decide) ?_
        refine X_icmp_neN (a := 1) (b := 2) 53 dX12_sums_45 (by decide) (by omega) (by omega) (fun h_4 => ?_) (fun h_4 => ?_)
        · refine X_iload_n dX12_sums_53 rfl ?_
          refine X_iconst (v := nI 3) dX12_sums_54 (by decide) ?_
          refine X_icmp_neN (a := 1) (b := 3) 63 dX12_sums_55 (by decide) (by omega) (by omega) (fun h_5 => ?_) (fun h_5 => ?_)
          · refine X_iconst (v := nI 0) dX12_sums_63 (by decide) ?_
            refine X_istore_n dX12_sums_64 (by decide) ?_
            refine X_iconst (v := nI 0) dX12_sums_65 (by decide) ?_
            refine X_istore_n dX12_sums_66 (by decide) ?_
            refine X_L [(3, .int (nI 0)), (2, .int (nI 0)), (0, .ref 87), (1, .int (nI 1))] ⟨rfl, rfl, rfl, rfl, trivial⟩ ?_
            refine X_for2 (σ := Unit) 67 (fun i x => [(3, .int (nI i)), (2, .int (sumN (fun b => netM m1 b) i)), (0, .ref 87), (1, .int (nI 1))]) (fun x => m1) (fun x => ml) (fun _ x => x) (fun _ _ => True) (aG A) ?_ (aG A) 0 () (by omega) trivial ?_
            · intro i x hi hI
              refine ⟨trivial, fun hn => ?_⟩
              refine X_iload_n dX12_sums_67 rfl ?_
              refine X_aload_n dX12_sums_68 rfl ?_
              refine X_getr (a := 91) dX12_sums_69 fkX12_23 rfl (k_87 hSh) (r_87_12 hSh) ?_
              refine X_iconst (v := nI 1) dX12_sums_72 (by decide) ?_
              refine X_iald 1 dX12_sums_73 (k_91 hSh) rfl (by omega) ?_
              rw [hR1.1.2.1]
              refine X_icmp_geN (a := i) (b := aG A) 127 dX12_sums_74 (by decide) (by omega) (by omega) (fun h_6 => ?_) (fun h_6 => ?_)
              · exact absurd hi (by omega)
              · refine X_iload_n dX12_sums_77 rfl ?_
                refine X_iload_n dX12_sums_78 rfl ?_
                refine X_iconst (v := nI 1) dX12_sums_79 (by decide) ?_
                refine X_icmp_neN (a := 1) (b := 1) 91 dX12_sums_80 (by decide) (by omega) (by omega) (fun h_7 => ?_) (fun h_7 => ?_)
                · exact absurd h_7 (by omega)
                · refine X_aload_n dX12_sums_83 rfl ?_
                  refine X_iload_n dX12_sums_84 rfl ?_
                  refine X_callVI dX12_sums_85 mkX12_356 (k_87 hSh) (c_netOf Γ g m1 ml hSh i (by omega)) rfl rfl (by decide) (Nat.le_of_ble_eq_true rfl) ?_
                  refine X_goto 119 dX12_sums_88 (by decide) ?_
                  refine X_iadd dX12_sums_119 ?_
                  refine X_istore_n dX12_sums_120 (by decide) ?_
                  refine X_iinc (v := nI (i + 1)) dX12_sums_121 rfl (nI_1 _) (by decide) ?_
                  refine X_goto 67 dX12_sums_124 (by decide) ?_
                  refine X_L [(3, .int (nI (i + 1))), (2, .int ((sumN (fun b => netM m1 b) i) + (netM m1 i))), (0, .ref 87), (1, .int (nI 1))] ⟨rfl, rfl, rfl, rfl, trivial⟩ ?_
                  exact hn
            · intro x hI
              refine X_iload_n dX12_sums_67 rfl ?_
              refine X_aload_n dX12_sums_68 rfl ?_
              refine X_getr (a := 91) dX12_sums_69 fkX12_23 rfl (k_87 hSh) (r_87_12 hSh) ?_
              refine X_iconst (v := nI 1) dX12_sums_72 (by decide) ?_
              refine X_iald 1 dX12_sums_73 (k_91 hSh) rfl (by omega) ?_
              rw [hR1.1.2.1]
              refine X_icmp_geN (a := (aG A)) (b := aG A) 127 dX12_sums_74 (by decide) (by omega) (by omega) (fun h_8 => ?_) (fun h_8 => ?_)
              · refine X_iload_n dX12_sums_127 rfl ?_
                exact X_iret dX12_sums_128 rfl ⟨rfl, rfl, hR1, frM2_t (frM2_u frM2_r (by omega)) hf2, _, rfl, sumN_eq _ (fun b hb => (hrd.1 b hb).2.2.2.2.2.1), ht0.trans up2_s⟩
              · exact absurd h_8 (by omega)
          · exact absurd h_5 (by omega)
        · exact absurd h_4 (by omega)
      · exact absurd h_3 (by omega)
    · exact absurd h_2 (by omega)
  · exact absurd h_1 (by omega)
set_option maxRecDepth 100000 in
set_option maxHeartbeats 4000000 in
theorem k_sums_2 (Γ : pTG) (g : pGG) (mi : pMI) (ml : pML) (A : AS) (hA : okAS A) (hC : CI A g mi ml)  : CT Γ 60 20 5000 mX11_sums [.ref 0, .int (nI 2)] g mi ml (CQ A (.inl (sumN (fun c => (DYd A).1 207 c) (aP A).1)) mi ml) := by
  refine CT_of (by decide +kernel) (Nat.le_of_ble_eq_true rfl) ?_
  have hSh := CI_Sh hC
  have hcl := CI_cl hC
  have hP := hA.1
  have hG8 : aG A ≤ 8 := hP.2.1
  have hC8 : (aP A).1 ≤ 8 := hP.1
  refine X_aload_n dX11_sums_0 rfl ?_
  refine X_iload_n dX11_sums_1 rfl ?_
  refine X_iconst (v := nI 0) dX11_sums_2 (by decide) ?_
  refine X_iconst (v := nI 5) dX11_sums_3 (by decide) ?_
  refine X_need dX11_sums_4 mkX11_116 (k_0 hSh) (c_needWithin Γ g mi ml hSh (nI 2) (nI 0) (nI 5)) rfl rfl (by decide) (by decide) (by decide) (by decide) (fun h => absurd (by decide) h) (fun _ => ?_)
  refine X_aload_n dX11_sums_7 rfl ?_
  refine X_callVrV dX11_sums_8 mkX11_193 (k_0 hSh) (c_look Γ g mi ml A hA hC) rfl rfl (by decide) (Nat.le_of_ble_eq_true rfl) (fun m1 l1 hm1 => ?_)
  obtain ⟨⟨hC1, hcd⟩, hk1, hl1⟩ := hm1
  have hcl1 := CI_cl hC1
  refine X_iload_n dX11_sums_11 rfl ?_
  refine X_tableIn 66 dX11_sums_12 (by decide) (by decide) rfl (by decide) ?_
  refine X_aload_n dX11_sums_66 rfl ?_
  refine X_getr (a := 57) dX11_sums_67 fkX11_72 rfl (k_0 hSh) (r_0_9 hSh) ?_
  refine X_callVI dX11_sums_70 mkX11_228 (k_57 hSh) (c_idle Γ g m1 l1 hSh 57 (shC_57 hSh) (aP A).1 hcl1.1 hC8) rfl rfl (by decide) (Nat.le_of_ble_eq_true rfl) ?_
  exact X_iret dX11_sums_73 rfl ⟨congrArg (fun z => Sum.inl (some (Value.int z))) (sumN_eq _ (fun c hc => (hcd.2.1 c hc).2.1)), hC1, hk1, hl1⟩
set_option maxRecDepth 100000 in
set_option maxHeartbeats 4000000 in
theorem r_sums_2 (Γ : pTG) (g : pGG) (mi : pMI) (ml : pML) (A : AS) (hA : okAS A) (hSh : Sh g) (hR : RI A mi)  : CT Γ 60 0 0 mX12_sums [.ref 87, .int (nI 2)] g mi ml (RQ A (.inl (sumN (fun c => (DYd A).1 207 c) (aP A).1)) cd1 g mi ml) := by
  refine CT_of (by decide +kernel) (Nat.le_of_ble_eq_true rfl) ?_
  have hP := hA.1
  have hG8 : aG A ≤ 8 := hP.2.1
  have hC8 : (aP A).1 ≤ 8 := hP.1
  refine X_aload_n dX12_sums_0 rfl ?_
  refine X_iconst (v := nI 0) dX12_sums_1 (by decide) ?_
  refine X_puti dX12_sums_2 fkX12_158 rfl rfl (k_87 hSh) ?_
  refine X_aload_n dX12_sums_5 rfl ?_
  refine X_iload_n dX12_sums_6 rfl ?_
  refine X_iconst (v := nI 0) dX12_sums_7 (by decide) ?_
  refine X_iconst (v := nI 5) dX12_sums_8 (by decide) ?_
  refine X_callSI dX12_sums_9 mkX12_192 (c_in Γ g (up2 mi 87 0 (nI 0)) ml (nI 2) (nI 0) (nI 5)) rfl rfl (by decide) (Nat.le_of_ble_eq_true rfl) ?_
  refine X_topi (show bI (decide (nI 0 ≤ nI 2) && decide (nI 2 ≤ nI 5)) = nI 1 from congrArg bI (show (decide (nI 0 ≤ nI 2) && decide (nI 2 ≤ nI 5)) = true from by decide)) ?_
  refine X_if_neN (a := 1) 19 dX12_sums_12 (by decide) (by omega) (fun h_1 => ?_) (fun h_1 => ?_)
  · refine X_iconst (v := nI 0) dX12_sums_19 (by decide) ?_
    refine X_iconst (v := nI 1) dX12_sums_20 (by decide) ?_
    refine X_iconst (v := nI 1) dX12_sums_21 (by decide) ?_
    refine X_callVI dX12_sums_22 mkX12_228 (k_87 hSh) (c_bad0 Γ g (up2 mi 87 0 (nI 0)) ml hSh 1 1 up2_s) rfl rfl (by decide) (Nat.le_of_ble_eq_true rfl) ?_
    refine X_if_eqN (a := 0) 30 dX12_sums_25 (by decide) (by omega) (fun h_2 => ?_) (fun h_2 => ?_)
    · refine X_aload_n dX12_sums_30 rfl ?_
      have hw0 : frW mi (up2 mi 87 0 (nI 0)) := frW_u frW_r (by unfold rsF rsR; omega)
      refine X_callVrV dX12_sums_31 mkX12_353 (k_87 hSh) (r_dayK Γ g (up2 mi 87 0 (nI 0)) ml A hA hSh mi hR hw0) rfl rfl (by decide) (Nat.le_of_ble_eq_true rfl) (fun m1 l1 hm1 => ?_)
      obtain ⟨hrd, hfw, hf2, ht0, hrs, hl1⟩ := hm1
      rw [hl1]
      have hR1 := RI_fr hA hR hfw
      refine X_iload_n dX12_sums_34 rfl ?_
      refine X_if_neN (a := 2) 43 dX12_sums_35 (by decide) (by omega) (fun h_3 => ?_) (fun h_3 => ?_)
      · refine X_iload_n dX12_sums_43 rfl ?_
        refine X_iconst (v := nI 2) dX12_sums_44 (by decide) ?_
        refine X_icmp_neN (a := 2) (b := 2) 53 dX12_sums_45 (by decide) (by omega) (by omega) (fun h_4 => ?_) (fun h_4 => ?_)
        · exact absurd h_4 (by omega)
        · refine X_aload_n dX12_sums_48 rfl ?_
          refine X_callVI dX12_sums_49 mkX12_362 (k_87 hSh) (c_allIdle Γ g m1 ml hSh (aP A).1 hR1.1.1 hC8) rfl rfl (by decide) (Nat.le_of_ble_eq_true rfl) ?_
          exact X_iret dX12_sums_52 rfl ⟨rfl, rfl, hR1, frM2_t (frM2_u frM2_r (by omega)) hf2, _, rfl, sumN_eq _ (fun c hc => (hrd.2.1 c hc).2.1), ht0.trans up2_s⟩
      · exact absurd h_3 (by omega)
    · exact absurd h_2 (by omega)
  · exact absurd h_1 (by omega)
set_option maxRecDepth 100000 in
set_option maxHeartbeats 4000000 in
theorem k_sums_3 (Γ : pTG) (g : pGG) (mi : pMI) (ml : pML) (A : AS) (hA : okAS A) (hC : CI A g mi ml)  : CT Γ 60 20 5000 mX11_sums [.ref 0, .int (nI 3)] g mi ml (CQ A (.inl (sumN (loV A) (aG A))) mi ml) := by
  refine CT_of (by decide +kernel) (Nat.le_of_ble_eq_true rfl) ?_
  have hSh := CI_Sh hC
  have hcl := CI_cl hC
  have hP := hA.1
  have hG8 : aG A ≤ 8 := hP.2.1
  have hC8 : (aP A).1 ≤ 8 := hP.1
  refine X_aload_n dX11_sums_0 rfl ?_
  refine X_iload_n dX11_sums_1 rfl ?_
  refine X_iconst (v := nI 0) dX11_sums_2 (by decide) ?_
  refine X_iconst (v := nI 5) dX11_sums_3 (by decide) ?_
  refine X_need dX11_sums_4 mkX11_116 (k_0 hSh) (c_needWithin Γ g mi ml hSh (nI 3) (nI 0) (nI 5)) rfl rfl (by decide) (by decide) (by decide) (by decide) (fun h => absurd (by decide) h) (fun _ => ?_)
  refine X_aload_n dX11_sums_7 rfl ?_
  refine X_callVrV dX11_sums_8 mkX11_193 (k_0 hSh) (c_look Γ g mi ml A hA hC) rfl rfl (by decide) (Nat.le_of_ble_eq_true rfl) (fun m1 l1 hm1 => ?_)
  obtain ⟨⟨hC1, hcd⟩, hk1, hl1⟩ := hm1
  have hcl1 := CI_cl hC1
  refine X_iload_n dX11_sums_11 rfl ?_
  refine X_tableIn 74 dX11_sums_12 (by decide) (by decide) rfl (by decide) ?_
  refine X_aload_n dX11_sums_74 rfl ?_
  refine X_getr (a := 57) dX11_sums_75 fkX11_72 rfl (k_0 hSh) (r_0_9 hSh) ?_
  refine X_callVI dX11_sums_78 mkX11_232 (k_57 hSh) (c_sleepLost Γ g m1 l1 hSh 57 (shC_57 hSh) (aG A) hcl1.2.1 hG8) rfl rfl (by decide) (Nat.le_of_ble_eq_true rfl) ?_
  exact X_iret dX11_sums_81 rfl ⟨congrArg (fun z => Sum.inl (some (Value.int z))) (sumN_eq _ (fun b hb => lo_k (hcl1.2.2.2.2.2.2 b hb).1 (hcd.1 b hb).1 (hP.2.2.2.2.2.2.2 b hb).1 (sqd_lt hA.1 _ _))), hC1, hk1, hl1⟩
set_option maxRecDepth 100000 in
set_option maxHeartbeats 4000000 in
theorem r_sums_3 (Γ : pTG) (g : pGG) (mi : pMI) (ml : pML) (A : AS) (hA : okAS A) (hSh : Sh g) (hR : RI A mi)  : CT Γ 60 0 0 mX12_sums [.ref 87, .int (nI 3)] g mi ml (RQ A (.inl (sumN (loV A) (aG A))) cd1 g mi ml) := by
  refine CT_of (by decide +kernel) (Nat.le_of_ble_eq_true rfl) ?_
  have hP := hA.1
  have hG8 : aG A ≤ 8 := hP.2.1
  have hC8 : (aP A).1 ≤ 8 := hP.1
  refine X_aload_n dX12_sums_0 rfl ?_
  refine X_iconst (v := nI 0) dX12_sums_1 (by decide) ?_
  refine X_puti dX12_sums_2 fkX12_158 rfl rfl (k_87 hSh) ?_
  refine X_aload_n dX12_sums_5 rfl ?_
  refine X_iload_n dX12_sums_6 rfl ?_
  refine X_iconst (v := nI 0) dX12_sums_7 (by decide) ?_
  refine X_iconst (v := nI 5) dX12_sums_8 (by decide) ?_
  refine X_callSI dX12_sums_9 mkX12_192 (c_in Γ g (up2 mi 87 0 (nI 0)) ml (nI 3) (nI 0) (nI 5)) rfl rfl (by decide) (Nat.le_of_ble_eq_true rfl) ?_
  refine X_topi (show bI (decide (nI 0 ≤ nI 3) && decide (nI 3 ≤ nI 5)) = nI 1 from congrArg bI (show (decide (nI 0 ≤ nI 3) && decide (nI 3 ≤ nI 5)) = true from by decide)) ?_
  refine X_if_neN (a := 1) 19 dX12_sums_12 (by decide) (by omega) (fun h_1 => ?_) (fun h_1 => ?_)
  · refine X_iconst (v := nI 0) dX12_sums_19 (by decide) ?_
    refine X_iconst (v := nI 1) dX12_sums_20 (by decide) ?_
    refine X_iconst (v := nI 1) dX12_sums_21 (by decide) ?_
    refine X_callVI dX12_sums_22 mkX12_228 (k_87 hSh) (c_bad0 Γ g (up2 mi 87 0 (nI 0)) ml hSh 1 1 up2_s) rfl rfl (by decide) (Nat.le_of_ble_eq_true rfl) ?_
    refine X_if_eqN (a := 0) 30 dX12_sums_25 (by decide) (by omega) (fun h_2 => ?_) (fun h_2 => ?_)
    · refine X_aload_n dX12_sums_30 rfl ?_
      have hw0 : frW mi (up2 mi 87 0 (nI 0)) := frW_u frW_r (by unfold rsF rsR; omega)
      refine X_callVrV dX12_sums_31 mkX12_353 (k_87 hSh) (r_dayK Γ g (up2 mi 87 0 (nI 0)) ml A hA hSh mi hR hw0) rfl rfl (by decide) (Nat.le_of_ble_eq_true rfl) (fun m1 l1 hm1 => ?_)
      obtain ⟨hrd, hfw, hf2, ht0, hrs, hl1⟩ := hm1
      rw [hl1]
      have hR1 := RI_fr hA hR hfw
      refine X_iload_n dX12_sums_34 rfl ?_
      refine X_if_neN (a := 3) 43 dX12_sums_35 (by decide) (by omega) (fun h_3 => ?_) (fun h_3 => ?_)
      · refine X_iload_n dX12_sums_43 rfl ?_
        refine X_iconst (v := nI 2) dX12_sums_44 (by decide) ?_
        refine X_icmp_neN (a := 3) (b := 2) 53 dX12_sums_45 (by decide) (by omega) (by omega) (fun h_4 => ?_) (fun h_4 => ?_)
        · refine X_iload_n dX12_sums_53 rfl ?_
          refine X_iconst (v := nI 3) dX12_sums_54 (by decide) ?_
          refine X_icmp_neN (a := 3) (b := 3) 63 dX12_sums_55 (by decide) (by omega) (by omega) (fun h_5 => ?_) (fun h_5 => ?_)
          · exact absurd h_5 (by omega)
          · refine X_aload_n dX12_sums_58 rfl ?_
            refine X_callVI dX12_sums_59 mkX12_365 (k_87 hSh) (c_allLost Γ g m1 ml hSh (aG A) hR1.1.2.1 hG8) rfl rfl (by decide) (Nat.le_of_ble_eq_true rfl) ?_
            exact X_iret dX12_sums_62 rfl ⟨rfl, rfl, hR1, frM2_t (frM2_u frM2_r (by omega)) hf2, _, rfl, sumN_eq _ (fun b hb => lo_r (hR1.1.2.2.2.2.2.2 b hb).1 (hrd.1 b hb).1 (hP.2.2.2.2.2.2.2 b hb).1 (sqd_lt hA.1 _ _)), ht0.trans up2_s⟩
        · exact absurd h_4 (by omega)
      · exact absurd h_3 (by omega)
    · exact absurd h_2 (by omega)
  · exact absurd h_1 (by omega)
set_option maxRecDepth 100000 in
set_option maxHeartbeats 4000000 in
theorem k_sums_4 (Γ : pTG) (g : pGG) (mi : pMI) (ml : pML) (A : AS) (hA : okAS A) (hC : CI A g mi ml)  : CT Γ 60 20 5000 mX11_sums [.ref 0, .int (nI 4)] g mi ml (CQ A (.inl (nI (cN (seaB (DYd A)) (aG A)))) mi ml) := by
  refine CT_of (by decide +kernel) (Nat.le_of_ble_eq_true rfl) ?_
  have hSh := CI_Sh hC
  have hcl := CI_cl hC
  have hP := hA.1
  have hG8 : aG A ≤ 8 := hP.2.1
  have hC8 : (aP A).1 ≤ 8 := hP.1
  refine X_aload_n dX11_sums_0 rfl ?_
  refine X_iload_n dX11_sums_1 rfl ?_
  refine X_iconst (v := nI 0) dX11_sums_2 (by decide) ?_
  refine X_iconst (v := nI 5) dX11_sums_3 (by decide) ?_
  refine X_need dX11_sums_4 mkX11_116 (k_0 hSh) (c_needWithin Γ g mi ml hSh (nI 4) (nI 0) (nI 5)) rfl rfl (by decide) (by decide) (by decide) (by decide) (fun h => absurd (by decide) h) (fun _ => ?_)
  refine X_aload_n dX11_sums_7 rfl ?_
  refine X_callVrV dX11_sums_8 mkX11_193 (k_0 hSh) (c_look Γ g mi ml A hA hC) rfl rfl (by decide) (Nat.le_of_ble_eq_true rfl) (fun m1 l1 hm1 => ?_)
  obtain ⟨⟨hC1, hcd⟩, hk1, hl1⟩ := hm1
  have hcl1 := CI_cl hC1
  refine X_iload_n dX11_sums_11 rfl ?_
  refine X_tableIn 82 dX11_sums_12 (by decide) (by decide) rfl (by decide) ?_
  refine X_aload_n dX11_sums_82 rfl ?_
  refine X_getr (a := 57) dX11_sums_83 fkX11_72 rfl (k_0 hSh) (r_0_9 hSh) ?_
  refine X_callVI dX11_sums_86 mkX11_235 (k_57 hSh) (c_seated Γ g m1 l1 hSh 57 (shC_57 hSh) (aG A) hcl1.2.1 hG8) rfl rfl (by decide) (Nat.le_of_ble_eq_true rfl) ?_
  refine X_callSI dX11_sums_89 ms_238 (c_bitCount Γ g m1 l1 _) rfl rfl (by decide) (Nat.le_of_ble_eq_true rfl) ?_
  exact X_iret dX11_sums_92 rfl ⟨congrArg (fun z => Sum.inl (some (Value.int z))) ((congrArg bcA (mkN_eq (fun b hb => by rw [(hcd.1 b hb).2.2.2.2.2.1]; rfl))).trans (bc_mk _ _ hG8)), hC1, hk1, hl1⟩
set_option maxRecDepth 100000 in
set_option maxHeartbeats 4000000 in
theorem r_sums_4 (Γ : pTG) (g : pGG) (mi : pMI) (ml : pML) (A : AS) (hA : okAS A) (hSh : Sh g) (hR : RI A mi)  : CT Γ 60 0 0 mX12_sums [.ref 87, .int (nI 4)] g mi ml (RQ A (.inl (nI (cN (seaB (DYd A)) (aG A)))) cd1 g mi ml) := by
  refine CT_of (by decide +kernel) (Nat.le_of_ble_eq_true rfl) ?_
  have hP := hA.1
  have hG8 : aG A ≤ 8 := hP.2.1
  have hC8 : (aP A).1 ≤ 8 := hP.1
  refine X_aload_n dX12_sums_0 rfl ?_
  refine X_iconst (v := nI 0) dX12_sums_1 (by decide) ?_
  refine X_puti dX12_sums_2 fkX12_158 rfl rfl (k_87 hSh) ?_
  refine X_aload_n dX12_sums_5 rfl ?_
  refine X_iload_n dX12_sums_6 rfl ?_
  refine X_iconst (v := nI 0) dX12_sums_7 (by decide) ?_
  refine X_iconst (v := nI 5) dX12_sums_8 (by decide) ?_
  refine X_callSI dX12_sums_9 mkX12_192 (c_in Γ g (up2 mi 87 0 (nI 0)) ml (nI 4) (nI 0) (nI 5)) rfl rfl (by decide) (Nat.le_of_ble_eq_true rfl) ?_
  refine X_topi (show bI (decide (nI 0 ≤ nI 4) && decide (nI 4 ≤ nI 5)) = nI 1 from congrArg bI (show (decide (nI 0 ≤ nI 4) && decide (nI 4 ≤ nI 5)) = true from by decide)) ?_
  refine X_if_neN (a := 1) 19 dX12_sums_12 (by decide) (by omega) (fun h_1 => ?_) (fun h_1 => ?_)
  · refine X_iconst (v := nI 0) dX12_sums_19 (by decide) ?_
    refine X_iconst (v := nI 1) dX12_sums_20 (by decide) ?_
    refine X_iconst (v := nI 1) dX12_sums_21 (by decide) ?_
    refine X_callVI dX12_sums_22 mkX12_228 (k_87 hSh) (c_bad0 Γ g (up2 mi 87 0 (nI 0)) ml hSh 1 1 up2_s) rfl rfl (by decide) (Nat.le_of_ble_eq_true rfl) ?_
    refine X_if_eqN (a := 0) 30 dX12_sums_25 (by decide) (by omega) (fun h_2 => ?_) (fun h_2 => ?_)
    · refine X_aload_n dX12_sums_30 rfl ?_
      have hw0 : frW mi (up2 mi 87 0 (nI 0)) := frW_u frW_r (by unfold rsF rsR; omega)
      refine X_callVrV dX12_sums_31 mkX12_353 (k_87 hSh) (r_dayK Γ g (up2 mi 87 0 (nI 0)) ml A hA hSh mi hR hw0) rfl rfl (by decide) (Nat.le_of_ble_eq_true rfl) (fun m1 l1 hm1 => ?_)
      obtain ⟨hrd, hfw, hf2, ht0, hrs, hl1⟩ := hm1
      rw [hl1]
      have hR1 := RI_fr hA hR hfw
      refine X_iload_n dX12_sums_34 rfl ?_
      refine X_if_neN (a := 4) 43 dX12_sums_35 (by decide) (by omega) (fun h_3 => ?_) (fun h_3 => ?_)
      · refine X_iload_n dX12_sums_43 rfl ?_
        refine X_iconst (v := nI 2) dX12_sums_44 (by decide) ?_
        refine X_icmp_neN (a := 4) (b := 2) 53 dX12_sums_45 (by decide) (by omega) (by omega) (fun h_4 => ?_) (fun h_4 => ?_)
        · refine X_iload_n dX12_sums_53 rfl ?_
          refine X_iconst (v := nI 3) dX12_sums_54 (by decide) ?_
          refine X_icmp_neN (a := 4) (b := 3) 63 dX12_sums_55 (by decide) (by omega) (by omega) (fun h_5 => ?_) (fun h_5 => ?_)
          · refine X_iconst (v := nI 0) dX12_sums_63 (by decide) ?_
            refine X_istore_n dX12_sums_64 (by decide) ?_
            refine X_iconst (v := nI 0) dX12_sums_65 (by decide) ?_
            refine X_istore_n dX12_sums_66 (by decide) ?_
            refine X_L [(3, .int (nI 0)), (2, .int (nI 0)), (0, .ref 87), (1, .int (nI 4))] ⟨rfl, rfl, rfl, rfl, trivial⟩ ?_
            refine X_for2 (σ := Unit) 67 (fun i x => [(3, .int (nI i)), (2, .int (sumN (fun b => bI (!decide (m1 201 b ≤ 0))) i)), (0, .ref 87), (1, .int (nI 4))]) (fun x => m1) (fun x => ml) (fun _ x => x) (fun _ _ => True) (aG A) ?_ (aG A) 0 () (by omega) trivial ?_
            · intro i x hi hI
              refine ⟨trivial, fun hn => ?_⟩
              refine X_iload_n dX12_sums_67 rfl ?_
              refine X_aload_n dX12_sums_68 rfl ?_
              refine X_getr (a := 91) dX12_sums_69 fkX12_23 rfl (k_87 hSh) (r_87_12 hSh) ?_
              refine X_iconst (v := nI 1) dX12_sums_72 (by decide) ?_
              refine X_iald 1 dX12_sums_73 (k_91 hSh) rfl (by omega) ?_
              rw [hR1.1.2.1]
              refine X_icmp_geN (a := i) (b := aG A) 127 dX12_sums_74 (by decide) (by omega) (by omega) (fun h_6 => ?_) (fun h_6 => ?_)
              · exact absurd hi (by omega)
              · refine X_iload_n dX12_sums_77 rfl ?_
                refine X_iload_n dX12_sums_78 rfl ?_
                refine X_iconst (v := nI 1) dX12_sums_79 (by decide) ?_
                refine X_icmp_neN (a := 4) (b := 1) 91 dX12_sums_80 (by decide) (by omega) (by omega) (fun h_7 => ?_) (fun h_7 => ?_)
                · refine X_iload_n dX12_sums_91 rfl ?_
                  refine X_iconst (v := nI 4) dX12_sums_92 (by decide) ?_
                  refine X_icmp_neN (a := 4) (b := 4) 113 dX12_sums_93 (by decide) (by omega) (by omega) (fun h_8 => ?_) (fun h_8 => ?_)
                  · exact absurd h_8 (by omega)
                  · refine X_aload_n dX12_sums_96 rfl ?_
                    refine X_getr (a := 201) dX12_sums_97 fkX12_92 rfl (k_87 hSh) (r_87_41 hSh) ?_
                    refine X_iload_n dX12_sums_100 rfl ?_
                    refine X_iald i dX12_sums_101 (k_201 hSh) rfl (by omega) ?_
                    refine X_if_le 109 dX12_sums_102 (by decide) (fun h_9 => ?_) (fun h_9 => ?_)
                    · refine X_iconst (v := nI 0) dX12_sums_109 (by decide) ?_
                      refine X_goto 119 dX12_sums_110 (by decide) ?_
                      refine X_iadd dX12_sums_119 ?_
                      refine X_istore_n dX12_sums_120 (by decide) ?_
                      refine X_iinc (v := nI (i + 1)) dX12_sums_121 rfl (nI_1 _) (by decide) ?_
                      refine X_goto 67 dX12_sums_124 (by decide) ?_
                      refine X_L [(3, .int (nI (i + 1))), (2, .int ((sumN (fun b => bI (!decide (m1 201 b ≤ 0))) i) + (nI 0))), (0, .ref 87), (1, .int (nI 4))] ⟨rfl, rfl, rfl, rfl, trivial⟩ ?_
                      rw [show sumN (fun b => bI (!decide (m1 201 b ≤ 0))) (i + 1) = (sumN (fun b => bI (!decide (m1 201 b ≤ 0))) i) + (nI 0) from congrArg (sumN (fun b => bI (!decide (m1 201 b ≤ 0))) i + ·) (show bI (!decide (m1 201 i ≤ 0)) = nI 0 by rw [decide_eq_true (by assumption)]; rfl)] at hn
                      exact hn
                    · refine X_iconst (v := nI 1) dX12_sums_105 (by decide) ?_
                      refine X_goto 119 dX12_sums_106 (by decide) ?_
                      refine X_iadd dX12_sums_119 ?_
                      refine X_istore_n dX12_sums_120 (by decide) ?_
                      refine X_iinc (v := nI (i + 1)) dX12_sums_121 rfl (nI_1 _) (by decide) ?_
                      refine X_goto 67 dX12_sums_124 (by decide) ?_
                      refine X_L [(3, .int (nI (i + 1))), (2, .int ((sumN (fun b => bI (!decide (m1 201 b ≤ 0))) i) + (nI 1))), (0, .ref 87), (1, .int (nI 4))] ⟨rfl, rfl, rfl, rfl, trivial⟩ ?_
                      rw [show sumN (fun b => bI (!decide (m1 201 b ≤ 0))) (i + 1) = (sumN (fun b => bI (!decide (m1 201 b ≤ 0))) i) + (nI 1) from congrArg (sumN (fun b => bI (!decide (m1 201 b ≤ 0))) i + ·) (show bI (!decide (m1 201 i ≤ 0)) = nI 1 by rw [decide_eq_false (by assumption)]; rfl)] at hn
                      exact hn
                · exact absurd h_7 (by omega)
            · intro x hI
              refine X_iload_n dX12_sums_67 rfl ?_
              refine X_aload_n dX12_sums_68 rfl ?_
              refine X_getr (a := 91) dX12_sums_69 fkX12_23 rfl (k_87 hSh) (r_87_12 hSh) ?_
              refine X_iconst (v := nI 1) dX12_sums_72 (by decide) ?_
              refine X_iald 1 dX12_sums_73 (k_91 hSh) rfl (by omega) ?_
              rw [hR1.1.2.1]
              refine X_icmp_geN (a := (aG A)) (b := aG A) 127 dX12_sums_74 (by decide) (by omega) (by omega) (fun h_10 => ?_) (fun h_10 => ?_)
              · refine X_iload_n dX12_sums_127 rfl ?_
                exact X_iret dX12_sums_128 rfl ⟨rfl, rfl, hR1, frM2_t (frM2_u frM2_r (by omega)) hf2, _, rfl, (sumN_eq _ (fun b hb => by show bI (!decide (m1 201 b ≤ 0)) = _; rw [(hrd.1 b hb).2.2.2.2.2.2.1]; rfl)).trans (sumN_c _ _), ht0.trans up2_s⟩
              · exact absurd h_10 (by omega)
          · exact absurd h_5 (by omega)
        · exact absurd h_4 (by omega)
      · exact absurd h_3 (by omega)
    · exact absurd h_2 (by omega)
  · exact absurd h_1 (by omega)
set_option maxRecDepth 100000 in
set_option maxHeartbeats 4000000 in
theorem k_sums_5 (Γ : pTG) (g : pGG) (mi : pMI) (ml : pML) (A : AS) (hA : okAS A) (hC : CI A g mi ml)  : CT Γ 60 20 5000 mX11_sums [.ref 0, .int (nI 5)] g mi ml (CQ A (.inl (sumN (fun b => (DYd A).1 202 b) (aG A))) mi ml) := by
  refine CT_of (by decide +kernel) (Nat.le_of_ble_eq_true rfl) ?_
  have hSh := CI_Sh hC
  have hcl := CI_cl hC
  have hP := hA.1
  have hG8 : aG A ≤ 8 := hP.2.1
  have hC8 : (aP A).1 ≤ 8 := hP.1
  refine X_aload_n dX11_sums_0 rfl ?_
  refine X_iload_n dX11_sums_1 rfl ?_
  refine X_iconst (v := nI 0) dX11_sums_2 (by decide) ?_
  refine X_iconst (v := nI 5) dX11_sums_3 (by decide) ?_
  refine X_need dX11_sums_4 mkX11_116 (k_0 hSh) (c_needWithin Γ g mi ml hSh (nI 5) (nI 0) (nI 5)) rfl rfl (by decide) (by decide) (by decide) (by decide) (fun h => absurd (by decide) h) (fun _ => ?_)
  refine X_aload_n dX11_sums_7 rfl ?_
  refine X_callVrV dX11_sums_8 mkX11_193 (k_0 hSh) (c_look Γ g mi ml A hA hC) rfl rfl (by decide) (Nat.le_of_ble_eq_true rfl) (fun m1 l1 hm1 => ?_)
  obtain ⟨⟨hC1, hcd⟩, hk1, hl1⟩ := hm1
  have hcl1 := CI_cl hC1
  refine X_iload_n dX11_sums_11 rfl ?_
  refine X_tableOut 93 dX11_sums_12 (by decide) (by decide) ?_
  refine X_aload_n dX11_sums_93 rfl ?_
  refine X_getr (a := 57) dX11_sums_94 fkX11_72 rfl (k_0 hSh) (r_0_9 hSh) ?_
  refine X_bipush (v := nI 6) dX11_sums_97 (by decide) ?_
  refine X_callVI dX11_sums_99 mkX11_224 (k_57 hSh) (c_total Γ g m1 l1 hSh 57 (shC_57 hSh) (aG A) hcl1.2.1 hG8 6 (by decide)) rfl rfl (by decide) (Nat.le_of_ble_eq_true rfl) ?_
  exact X_iret dX11_sums_102 rfl ⟨congrArg (fun z => Sum.inl (some (Value.int z))) (sumN_eq _ (fun b hb => (hcd.1 b hb).2.2.2.2.2.2.1)), hC1, hk1, hl1⟩
set_option maxRecDepth 100000 in
set_option maxHeartbeats 4000000 in
theorem r_sums_5 (Γ : pTG) (g : pGG) (mi : pMI) (ml : pML) (A : AS) (hA : okAS A) (hSh : Sh g) (hR : RI A mi)  : CT Γ 60 0 0 mX12_sums [.ref 87, .int (nI 5)] g mi ml (RQ A (.inl (sumN (fun b => (DYd A).1 202 b) (aG A))) cd1 g mi ml) := by
  refine CT_of (by decide +kernel) (Nat.le_of_ble_eq_true rfl) ?_
  have hP := hA.1
  have hG8 : aG A ≤ 8 := hP.2.1
  have hC8 : (aP A).1 ≤ 8 := hP.1
  refine X_aload_n dX12_sums_0 rfl ?_
  refine X_iconst (v := nI 0) dX12_sums_1 (by decide) ?_
  refine X_puti dX12_sums_2 fkX12_158 rfl rfl (k_87 hSh) ?_
  refine X_aload_n dX12_sums_5 rfl ?_
  refine X_iload_n dX12_sums_6 rfl ?_
  refine X_iconst (v := nI 0) dX12_sums_7 (by decide) ?_
  refine X_iconst (v := nI 5) dX12_sums_8 (by decide) ?_
  refine X_callSI dX12_sums_9 mkX12_192 (c_in Γ g (up2 mi 87 0 (nI 0)) ml (nI 5) (nI 0) (nI 5)) rfl rfl (by decide) (Nat.le_of_ble_eq_true rfl) ?_
  refine X_topi (show bI (decide (nI 0 ≤ nI 5) && decide (nI 5 ≤ nI 5)) = nI 1 from congrArg bI (show (decide (nI 0 ≤ nI 5) && decide (nI 5 ≤ nI 5)) = true from by decide)) ?_
  refine X_if_neN (a := 1) 19 dX12_sums_12 (by decide) (by omega) (fun h_1 => ?_) (fun h_1 => ?_)
  · refine X_iconst (v := nI 0) dX12_sums_19 (by decide) ?_
    refine X_iconst (v := nI 1) dX12_sums_20 (by decide) ?_
    refine X_iconst (v := nI 1) dX12_sums_21 (by decide) ?_
    refine X_callVI dX12_sums_22 mkX12_228 (k_87 hSh) (c_bad0 Γ g (up2 mi 87 0 (nI 0)) ml hSh 1 1 up2_s) rfl rfl (by decide) (Nat.le_of_ble_eq_true rfl) ?_
    refine X_if_eqN (a := 0) 30 dX12_sums_25 (by decide) (by omega) (fun h_2 => ?_) (fun h_2 => ?_)
    · refine X_aload_n dX12_sums_30 rfl ?_
      have hw0 : frW mi (up2 mi 87 0 (nI 0)) := frW_u frW_r (by unfold rsF rsR; omega)
      refine X_callVrV dX12_sums_31 mkX12_353 (k_87 hSh) (r_dayK Γ g (up2 mi 87 0 (nI 0)) ml A hA hSh mi hR hw0) rfl rfl (by decide) (Nat.le_of_ble_eq_true rfl) (fun m1 l1 hm1 => ?_)
      obtain ⟨hrd, hfw, hf2, ht0, hrs, hl1⟩ := hm1
      rw [hl1]
      have hR1 := RI_fr hA hR hfw
      refine X_iload_n dX12_sums_34 rfl ?_
      refine X_if_neN (a := 5) 43 dX12_sums_35 (by decide) (by omega) (fun h_3 => ?_) (fun h_3 => ?_)
      · refine X_iload_n dX12_sums_43 rfl ?_
        refine X_iconst (v := nI 2) dX12_sums_44 (by decide) ?_
        refine X_icmp_neN (a := 5) (b := 2) 53 dX12_sums_45 (by decide) (by omega) (by omega) (fun h_4 => ?_) (fun h_4 => ?_)
        · refine X_iload_n dX12_sums_53 rfl ?_
          refine X_iconst (v := nI 3) dX12_sums_54 (by decide) ?_
          refine X_icmp_neN (a := 5) (b := 3) 63 dX12_sums_55 (by decide) (by omega) (by omega) (fun h_5 => ?_) (fun h_5 => ?_)
          · refine X_iconst (v := nI 0) dX12_sums_63 (by decide) ?_
            refine X_istore_n dX12_sums_64 (by decide) ?_
            refine X_iconst (v := nI 0) dX12_sums_65 (by decide) ?_
            refine X_istore_n dX12_sums_66 (by decide) ?_
            refine X_L [(3, .int (nI 0)), (2, .int (nI 0)), (0, .ref 87), (1, .int (nI 5))] ⟨rfl, rfl, rfl, rfl, trivial⟩ ?_
            refine X_for2 (σ := Unit) 67 (fun i x => [(3, .int (nI i)), (2, .int (sumN (fun b => m1 202 b) i)), (0, .ref 87), (1, .int (nI 5))]) (fun x => m1) (fun x => ml) (fun _ x => x) (fun _ _ => True) (aG A) ?_ (aG A) 0 () (by omega) trivial ?_
            · intro i x hi hI
              refine ⟨trivial, fun hn => ?_⟩
              refine X_iload_n dX12_sums_67 rfl ?_
              refine X_aload_n dX12_sums_68 rfl ?_
              refine X_getr (a := 91) dX12_sums_69 fkX12_23 rfl (k_87 hSh) (r_87_12 hSh) ?_
              refine X_iconst (v := nI 1) dX12_sums_72 (by decide) ?_
              refine X_iald 1 dX12_sums_73 (k_91 hSh) rfl (by omega) ?_
              rw [hR1.1.2.1]
              refine X_icmp_geN (a := i) (b := aG A) 127 dX12_sums_74 (by decide) (by omega) (by omega) (fun h_6 => ?_) (fun h_6 => ?_)
              · exact absurd hi (by omega)
              · refine X_iload_n dX12_sums_77 rfl ?_
                refine X_iload_n dX12_sums_78 rfl ?_
                refine X_iconst (v := nI 1) dX12_sums_79 (by decide) ?_
                refine X_icmp_neN (a := 5) (b := 1) 91 dX12_sums_80 (by decide) (by omega) (by omega) (fun h_7 => ?_) (fun h_7 => ?_)
                · refine X_iload_n dX12_sums_91 rfl ?_
                  refine X_iconst (v := nI 4) dX12_sums_92 (by decide) ?_
                  refine X_icmp_neN (a := 5) (b := 4) 113 dX12_sums_93 (by decide) (by omega) (by omega) (fun h_8 => ?_) (fun h_8 => ?_)
                  · refine X_aload_n dX12_sums_113 rfl ?_
                    refine X_getr (a := 202) dX12_sums_114 fkX12_95 rfl (k_87 hSh) (r_87_42 hSh) ?_
                    refine X_iload_n dX12_sums_117 rfl ?_
                    refine X_iald i dX12_sums_118 (k_202 hSh) rfl (by omega) ?_
                    refine X_iadd dX12_sums_119 ?_
                    refine X_istore_n dX12_sums_120 (by decide) ?_
                    refine X_iinc (v := nI (i + 1)) dX12_sums_121 rfl (nI_1 _) (by decide) ?_
                    refine X_goto 67 dX12_sums_124 (by decide) ?_
                    refine X_L [(3, .int (nI (i + 1))), (2, .int ((sumN (fun b => m1 202 b) i) + (m1 202 i))), (0, .ref 87), (1, .int (nI 5))] ⟨rfl, rfl, rfl, rfl, trivial⟩ ?_
                    exact hn
                  · exact absurd h_8 (by omega)
                · exact absurd h_7 (by omega)
            · intro x hI
              refine X_iload_n dX12_sums_67 rfl ?_
              refine X_aload_n dX12_sums_68 rfl ?_
              refine X_getr (a := 91) dX12_sums_69 fkX12_23 rfl (k_87 hSh) (r_87_12 hSh) ?_
              refine X_iconst (v := nI 1) dX12_sums_72 (by decide) ?_
              refine X_iald 1 dX12_sums_73 (k_91 hSh) rfl (by omega) ?_
              rw [hR1.1.2.1]
              refine X_icmp_geN (a := (aG A)) (b := aG A) 127 dX12_sums_74 (by decide) (by omega) (by omega) (fun h_9 => ?_) (fun h_9 => ?_)
              · refine X_iload_n dX12_sums_127 rfl ?_
                exact X_iret dX12_sums_128 rfl ⟨rfl, rfl, hR1, frM2_t (frM2_u frM2_r (by omega)) hf2, _, rfl, sumN_eq _ (fun b hb => (hrd.1 b hb).2.2.2.2.2.2.2.1), ht0.trans up2_s⟩
              · exact absurd h_9 (by omega)
          · exact absurd h_5 (by omega)
        · exact absurd h_4 (by omega)
      · exact absurd h_3 (by omega)
    · exact absurd h_2 (by omega)
  · exact absurd h_1 (by omega)
theorem m_sums (A : AS) (hA : okAS A) (w : Int32) : MOK mX11_sums mX12_sums cd1 [.int w] A := by
  by_cases hg0 : nI 0 ≤ w ∧ w ≤ nI 5
  · obtain ⟨k, hka, hk, rfl⟩ := (wi_iff (by decide) (by decide)).mp hg0
    have hkk : k < 6 := by omega
    match k, hkk with
    | 0, _ => exact ⟨.inl (sumN (fun b => (DYd A).1 200 b) (aG A)), A, hA, fun j h => (by cases h), fun Γ g m l hC => k_sums_0 Γ g m l A hA hC, fun Γ g m l hSh hR => r_sums_0 Γ g m l A hA hSh hR⟩
    | 1, _ => exact ⟨.inl (sumN (fun b => netM (wD (DYd A)) b) (aG A)), A, hA, fun j h => (by cases h), fun Γ g m l hC => k_sums_1 Γ g m l A hA hC, fun Γ g m l hSh hR => r_sums_1 Γ g m l A hA hSh hR⟩
    | 2, _ => exact ⟨.inl (sumN (fun c => (DYd A).1 207 c) (aP A).1), A, hA, fun j h => (by cases h), fun Γ g m l hC => k_sums_2 Γ g m l A hA hC, fun Γ g m l hSh hR => r_sums_2 Γ g m l A hA hSh hR⟩
    | 3, _ => exact ⟨.inl (sumN (loV A) (aG A)), A, hA, fun j h => (by cases h), fun Γ g m l hC => k_sums_3 Γ g m l A hA hC, fun Γ g m l hSh hR => r_sums_3 Γ g m l A hA hSh hR⟩
    | 4, _ => exact ⟨.inl (nI (cN (seaB (DYd A)) (aG A))), A, hA, fun j h => (by cases h), fun Γ g m l hC => k_sums_4 Γ g m l A hA hC, fun Γ g m l hSh hR => r_sums_4 Γ g m l A hA hSh hR⟩
    | 5, _ => exact ⟨.inl (sumN (fun b => (DYd A).1 202 b) (aG A)), A, hA, fun j h => (by cases h), fun Γ g m l hC => k_sums_5 Γ g m l A hA hC, fun Γ g m l hSh hR => r_sums_5 Γ g m l A hA hSh hR⟩
  · exact ⟨.inr 1, rfA A 1, ok_rf hA, fun j h => by cases h; decide, fun Γ g m l hC => k_sums_f0 Γ g m l A hA hC w hg0, fun Γ g m l hSh hR => r_sums_f0 Γ g m l A hA hSh hR w hg0⟩

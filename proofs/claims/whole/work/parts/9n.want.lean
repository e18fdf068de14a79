/-! ===== more, want, just ===== -/
theorem RI_c {A : AS} {m : pMI} {a b : Int32} (hA : okAS A) (h : RI A m) : RI A (up2 (up2 m (102 + (aP A).1) 0 a) (102 + (aP A).1) 1 b) := by
  have h8 : (aP A).1 ≤ 8 := hA.1.1
  have hG8 : aG A ≤ 8 := hA.1.2.1
  obtain ⟨r1, r2, r3, r4, r5, r6, r7, r8, r9, r10⟩ := h
  have e : ∀ i, i ≠ 102 + (aP A).1 → up2 (up2 m (102 + (aP A).1) 0 a) (102 + (aP A).1) 1 b i = m i := fun i hi => by rw [up2_row hi, up2_row hi]
  refine ⟨⟨?_, ?_, ?_, ?_, ?_, fun c hc => ?_, fun d hd => ?_⟩, rfHb_w r2 (fun i hi => e i (by omega)), fun b hb => by rw [e 193 (by omega)]; exact r3 b hb, ⟨by rw [e 87 (by omega)]; exact r4.1, fun k hk q hq => by rw [e (143 + k) (by omega)]; exact r4.2 k hk q hq⟩, by rw [e 87 (by omega)]; exact r5, ⟨by rw [e 87 (by omega)]; exact r6.1, fun k hk => rfSn_row (r6.2 k hk) (e _ (by omega))⟩, ⟨by rw [e 87 (by omega)]; exact r7.1, fun k hk => rfIm_row (r7.2 k hk) (e _ (by omega))⟩, ⟨by rw [e 87 (by omega)]; exact r8.1, fun k hk => by rw [e 88 (by omega)]; exact r8.2 k hk⟩, by rw [e 87 (by omega)]; exact r9, fun j hj => by rw [e 89 (by omega)]; exact r10 j hj⟩
  · rw [e 91 (by omega)]; exact r1.1
  · rw [e 91 (by omega)]; exact r1.2.1
  · rw [e 91 (by omega)]; exact r1.2.2.1
  · rw [e 91 (by omega)]; exact r1.2.2.2.1
  · rw [e 91 (by omega)]; exact r1.2.2.2.2.1
  · rw [e (102 + c) (by omega)]; exact r1.2.2.2.2.2.1 c hc
  · have hd : d < aG A := hd
    rw [e (121 + d) (by omega)]; exact r1.2.2.2.2.2.2 d hd
theorem vR_vQ {A : AS} {m : pMI} {a b : Int32} (hR : rfP m (aP A)) (ha : m (102 + (aP A).1) 0 = a) (hb : m (102 + (aP A).1) 1 = b) {d c : Nat} (hc : c < (aP A).1 + 1) : vR (aP A) m d c = vQ (aP A) a b d c := by
  unfold vQ
  by_cases q : c < (aP A).1
  · rw [if_pos q]; exact vR_vP hR q
  · rw [if_neg q, show c = (aP A).1 by omega]
    unfold vR
    rw [ha, hb]
theorem r_lays2 (Γ : pTG) (g : pGG) (mi : pMI) (ml : pML) (A : AS) (hA : okAS A) (hSh : Sh g) (hP : rfP mi (aP A)) (a b : Int32) (ha : mi (102 + (aP A).1) 0 = a) (hb : mi (102 + (aP A).1) 1 = b) : rI Γ 3 mX12_laysGiven [.ref 87, .int (nI ((aP A).1 + 1))] g mi ml (fun v m l => v = gtR (vQ (aP A) a b) (aG A) ((aP A).1 + 1) (aG A) 0 ∧ frL mi m ∧ l = ml) := by
  have h8 : (aP A).1 ≤ 8 := hA.1.1
  refine CT_q (c_laysGiven Γ g mi ml hSh (aP A) hA.1 hP ((aP A).1 + 1) (by omega)) (fun o g' m l hm => ?_)
  obtain ⟨rfl, v, rfl, h1, h2, h3, rfl⟩ := hm
  exact ⟨rfl, _, rfl, h1.trans (gtR_eq (fun d hd i hi => vR_vQ hP ha hb hi) _ (Nat.le_refl _) _ (Nat.pow_pos (by omega))), h2, rfl⟩
theorem RW_r {m : pMI} (h : m 87 0 = nI 0) : RW m m := ⟨frW_r, frM2_r, h⟩
theorem wantN_le {A : AS} {p : Int32} : wantN (aP A) p ≤ aG A := cN_le _ _
theorem wa_t {p : Nat → Bool} {j : Nat} (h : ¬ bI (anB p j) = 0) : bI (anB p (j + 1)) = nI 1 := by
  show bI (anB p j || p j) = _
  rw [bI_n0.mp h]; rfl
theorem wa_u {p : Nat → Bool} {j : Nat} (h : p j = true) : bI (anB p (j + 1)) = nI 1 := by
  show bI (anB p j || p j) = _
  rw [h, Bool.or_true]; rfl
theorem wa_f {p : Nat → Bool} {j : Nat} (h0 : bI (anB p j) = 0) (h : p j = false) : bI (anB p (j + 1)) = nI 0 := by
  show bI (anB p j || p j) = _
  rw [h, bI_0.mp h0]; rfl
theorem cN_t {p : Nat → Bool} {i : Nat} (h : p i = true) : cN p (i + 1) = cN p i + 1 := by rw [cN_s, h]; rfl
theorem cN_f {p : Nat → Bool} {i : Nat} (h : p i = false) : cN p (i + 1) = cN p i + 0 := by rw [cN_s, h]; rfl
theorem m1_lt {k : Nat} (h : k < 2147483648) : (-1 : Int32) < nI k := Int32.lt_iff_toInt_lt.mpr (by rw [nI_toInt h]; show (-1 : Int) < _; omega)
set_option maxRecDepth 100000 in
set_option maxHeartbeats 4000000 in
theorem k_more_f0 (Γ : pTG) (g : pGG) (mi : pMI) (ml : pML) (A : AS) (hA : okAS A) (hC : CI A g mi ml) (xa : Int32) (hf : ¬ (nI 0 ≤ xa ∧ xa ≤ nI 9)) (xb : Int32) : CT Γ 60 20 5000 mX11_more [.ref 0, .int xa, .int xb] g mi ml (CQ (rfA A 1) (.inr 1) mi ml) := by
  refine CT_of (by decide +kernel) (Nat.le_of_ble_eq_true rfl) ?_
  have hSh := CI_Sh hC
  have hcl := CI_cl hC
  have hP := hA.1
  have hG8 : aG A ≤ 8 := hP.2.1
  have hC8 : (aP A).1 ≤ 8 := hP.1
  refine X_aload_n dX11_more_0 rfl ?_
  refine X_iload_n dX11_more_1 rfl ?_
  refine X_iconst (v := nI 0) dX11_more_2 (by decide) ?_
  refine X_bipush (v := nI 9) dX11_more_3 (by decide) ?_
  exact X_need dX11_more_5 mkX11_116 (k_0 hSh) (c_needWithin Γ g mi ml hSh xa (nI 0) (nI 9)) rfl rfl (by decide) (by decide) (by decide) (by decide) (fun _ => ⟨rfl, CI_rf (by decide) hC, frK_86, rfl⟩) (fun h => absurd h hf)
set_option maxRecDepth 100000 in
set_option maxHeartbeats 4000000 in
theorem r_more_f0 (Γ : pTG) (g : pGG) (mi : pMI) (ml : pML) (A : AS) (hA : okAS A) (hSh : Sh g) (hR : RI A mi) (xa : Int32) (hf : ¬ (nI 0 ≤ xa ∧ xa ≤ nI 9)) (xb : Int32) : CT Γ 60 0 0 mX12_more [.ref 87, .int xa, .int xb] g mi ml (RQ (rfA A 1) (.inr 1) cd1 g mi ml) := by
  refine CT_of (by decide +kernel) (Nat.le_of_ble_eq_true rfl) ?_
  have hP := hA.1
  have hG8 : aG A ≤ 8 := hP.2.1
  have hC8 : (aP A).1 ≤ 8 := hP.1
  refine X_aload_n dX12_more_0 rfl ?_
  refine X_iconst (v := nI 0) dX12_more_1 (by decide) ?_
  refine X_puti dX12_more_2 fkX12_158 rfl rfl (k_87 hSh) ?_
  refine X_aload_n dX12_more_5 rfl ?_
  refine X_iload_n dX12_more_6 rfl ?_
  refine X_iconst (v := nI 0) dX12_more_7 (by decide) ?_
  refine X_bipush (v := nI 9) dX12_more_8 (by decide) ?_
  refine X_callSI dX12_more_10 mkX12_192 (c_in Γ g (up2 mi 87 0 (nI 0)) ml xa (nI 0) (nI 9)) rfl rfl (by decide) (Nat.le_of_ble_eq_true rfl) ?_
  refine X_topi (show bI (decide (nI 0 ≤ xa) && decide (xa ≤ nI 9)) = nI 0 from congrArg bI (show (decide (nI 0 ≤ xa) && decide (xa ≤ nI 9)) = false from Bool.eq_false_iff.mpr (fun q => hf (by rw [Bool.and_eq_true, decide_eq_true_eq, decide_eq_true_eq] at q; exact q)))) ?_
  refine X_if_eqN (a := 0) 26 dX12_more_13 (by decide) (by omega) (fun h_1 => ?_) (fun h_1 => ?_)
  · refine X_iconst (v := nI 1) dX12_more_26 (by decide) ?_
    refine X_goto 31 dX12_more_27 (by decide) ?_
    refine X_iconst (v := nI 1) dX12_more_31 (by decide) ?_
    refine X_iconst (v := nI 1) dX12_more_32 (by decide) ?_
    refine X_callVI dX12_more_33 mkX12_228 (k_87 hSh) (c_bad1 Γ g (up2 mi 87 0 (nI 0)) ml hSh 1 1 (by decide) (by decide) (by decide) up2_s) rfl rfl (by decide) (Nat.le_of_ble_eq_true rfl) ?_
    refine X_mi (show _ = mB mi 1 1 from rfl) ?_
    refine X_if_eqN (a := 1) 41 dX12_more_36 (by decide) (by omega) (fun h_2 => ?_) (fun h_2 => ?_)
    · exact absurd h_2 (by omega)
    · refine X_iconst (v := nI 0) dX12_more_39 (by decide) ?_
      exact X_iret dX12_more_40 rfl ⟨rfl, rfl, RI_rf hA (by decide) hR, fr2_B, _, rfl, mB_0⟩
  · exact absurd h_1 (by omega)
set_option maxRecDepth 100000 in
set_option maxHeartbeats 4000000 in
theorem k_more_f1 (Γ : pTG) (g : pGG) (mi : pMI) (ml : pML) (A : AS) (hA : okAS A) (hC : CI A g mi ml) (ka : Nat) (hkaa : 0 ≤ ka) (hka : ka ≤ 9) (xb : Int32) (hf : ¬ (nI 0 ≤ xb ∧ xb ≤ nI 9)) : CT Γ 60 20 5000 mX11_more [.ref 0, .int (nI ka), .int xb] g mi ml (CQ (rfA A 1) (.inr 1) mi ml) := by
  refine CT_of (by decide +kernel) (Nat.le_of_ble_eq_true rfl) ?_
  have hSh := CI_Sh hC
  have hcl := CI_cl hC
  have hP := hA.1
  have hG8 : aG A ≤ 8 := hP.2.1
  have hC8 : (aP A).1 ≤ 8 := hP.1
  refine X_aload_n dX11_more_0 rfl ?_
  refine X_iload_n dX11_more_1 rfl ?_
  refine X_iconst (v := nI 0) dX11_more_2 (by decide) ?_
  refine X_bipush (v := nI 9) dX11_more_3 (by decide) ?_
  refine X_need dX11_more_5 mkX11_116 (k_0 hSh) (c_needWithin Γ g mi ml hSh (nI ka) (nI 0) (nI 9)) rfl rfl (by decide) (by decide) (by decide) (by decide) (fun h => absurd (⟨nI_le (by omega) (by omega), nI_le (by omega) (by omega)⟩) h) (fun _ => ?_)
  refine X_aload_n dX11_more_8 rfl ?_
  refine X_iload_n dX11_more_9 rfl ?_
  refine X_iconst (v := nI 0) dX11_more_10 (by decide) ?_
  refine X_bipush (v := nI 9) dX11_more_11 (by decide) ?_
  exact X_need dX11_more_13 mkX11_116 (k_0 hSh) (c_needWithin Γ g mi ml hSh xb (nI 0) (nI 9)) rfl rfl (by decide) (by decide) (by decide) (by decide) (fun _ => ⟨rfl, CI_rf (by decide) hC, frK_86, rfl⟩) (fun h => absurd h hf)
set_option maxRecDepth 100000 in
set_option maxHeartbeats 4000000 in
theorem r_more_f1 (Γ : pTG) (g : pGG) (mi : pMI) (ml : pML) (A : AS) (hA : okAS A) (hSh : Sh g) (hR : RI A mi) (ka : Nat) (hkaa : 0 ≤ ka) (hka : ka ≤ 9) (xb : Int32) (hf : ¬ (nI 0 ≤ xb ∧ xb ≤ nI 9)) : CT Γ 60 0 0 mX12_more [.ref 87, .int (nI ka), .int xb] g mi ml (RQ (rfA A 1) (.inr 1) cd1 g mi ml) := by
  refine CT_of (by decide +kernel) (Nat.le_of_ble_eq_true rfl) ?_
  have hP := hA.1
  have hG8 : aG A ≤ 8 := hP.2.1
  have hC8 : (aP A).1 ≤ 8 := hP.1
  refine X_aload_n dX12_more_0 rfl ?_
  refine X_iconst (v := nI 0) dX12_more_1 (by decide) ?_
  refine X_puti dX12_more_2 fkX12_158 rfl rfl (k_87 hSh) ?_
  refine X_aload_n dX12_more_5 rfl ?_
  refine X_iload_n dX12_more_6 rfl ?_
  refine X_iconst (v := nI 0) dX12_more_7 (by decide) ?_
  refine X_bipush (v := nI 9) dX12_more_8 (by decide) ?_
  refine X_callSI dX12_more_10 mkX12_192 (c_in Γ g (up2 mi 87 0 (nI 0)) ml (nI ka) (nI 0) (nI 9)) rfl rfl (by decide) (Nat.le_of_ble_eq_true rfl) ?_
  refine X_topi (show bI (decide (nI 0 ≤ nI ka) && decide (nI ka ≤ nI 9)) = nI 1 from congrArg bI (show (decide (nI 0 ≤ nI ka) && decide (nI ka ≤ nI 9)) = true from by rw [decide_eq_true (nI_le (by omega) (by omega)), decide_eq_true (nI_le (by omega) (by omega))]; rfl)) ?_
  refine X_if_eqN (a := 1) 26 dX12_more_13 (by decide) (by omega) (fun h_1 => ?_) (fun h_1 => ?_)
  · exact absurd h_1 (by omega)
  · refine X_iload_n dX12_more_16 rfl ?_
    refine X_iconst (v := nI 0) dX12_more_17 (by decide) ?_
    refine X_bipush (v := nI 9) dX12_more_18 (by decide) ?_
    refine X_callSI dX12_more_20 mkX12_192 (c_in Γ g (up2 mi 87 0 (nI 0)) ml xb (nI 0) (nI 9)) rfl rfl (by decide) (Nat.le_of_ble_eq_true rfl) ?_
    refine X_topi (show bI (decide (nI 0 ≤ xb) && decide (xb ≤ nI 9)) = nI 0 from congrArg bI (show (decide (nI 0 ≤ xb) && decide (xb ≤ nI 9)) = false from Bool.eq_false_iff.mpr (fun q => hf (by rw [Bool.and_eq_true, decide_eq_true_eq, decide_eq_true_eq] at q; exact q)))) ?_
    refine X_if_neN (a := 0) 30 dX12_more_23 (by decide) (by omega) (fun h_2 => ?_) (fun h_2 => ?_)
    · exact absurd h_2 (by omega)
    · refine X_iconst (v := nI 1) dX12_more_26 (by decide) ?_
      refine X_goto 31 dX12_more_27 (by decide) ?_
      refine X_iconst (v := nI 1) dX12_more_31 (by decide) ?_
      refine X_iconst (v := nI 1) dX12_more_32 (by decide) ?_
      refine X_callVI dX12_more_33 mkX12_228 (k_87 hSh) (c_bad1 Γ g (up2 mi 87 0 (nI 0)) ml hSh 1 1 (by decide) (by decide) (by decide) up2_s) rfl rfl (by decide) (Nat.le_of_ble_eq_true rfl) ?_
      refine X_mi (show _ = mB mi 1 1 from rfl) ?_
      refine X_if_eqN (a := 1) 41 dX12_more_36 (by decide) (by omega) (fun h_3 => ?_) (fun h_3 => ?_)
      · exact absurd h_3 (by omega)
      · refine X_iconst (v := nI 0) dX12_more_39 (by decide) ?_
        exact X_iret dX12_more_40 rfl ⟨rfl, rfl, RI_rf hA (by decide) hR, fr2_B, _, rfl, mB_0⟩
set_option maxRecDepth 100000 in
set_option maxHeartbeats 4000000 in
theorem k_more (Γ : pTG) (g : pGG) (mi : pMI) (ml : pML) (A : AS) (hA : okAS A) (hC : CI A g mi ml) (ka : Nat) (hkaa : 0 ≤ ka) (hka : ka ≤ 9) (kb : Nat) (hkba : 0 ≤ kb) (hkb : kb ≤ 9) : CT Γ 60 20 5000 mX11_more [.ref 0, .int (nI ka), .int (nI kb)] g mi ml (CQ A (.inl (gtR (vQ (aP A) (nI ka) (nI kb)) (aG A) ((aP A).1 + 1) (aG A) 0 - gtR (vP (aP A)) (aG A) (aP A).1 (aG A) 0)) mi ml) := by
  refine CT_of (by decide +kernel) (Nat.le_of_ble_eq_true rfl) ?_
  have hSh := CI_Sh hC
  have hcl := CI_cl hC
  have hP := hA.1
  have hG8 : aG A ≤ 8 := hP.2.1
  have hC8 : (aP A).1 ≤ 8 := hP.1
  refine X_aload_n dX11_more_0 rfl ?_
  refine X_iload_n dX11_more_1 rfl ?_
  refine X_iconst (v := nI 0) dX11_more_2 (by decide) ?_
  refine X_bipush (v := nI 9) dX11_more_3 (by decide) ?_
  refine X_need dX11_more_5 mkX11_116 (k_0 hSh) (c_needWithin Γ g mi ml hSh (nI ka) (nI 0) (nI 9)) rfl rfl (by decide) (by decide) (by decide) (by decide) (fun h => absurd (⟨nI_le (by omega) (by omega), nI_le (by omega) (by omega)⟩) h) (fun _ => ?_)
  refine X_aload_n dX11_more_8 rfl ?_
  refine X_iload_n dX11_more_9 rfl ?_
  refine X_iconst (v := nI 0) dX11_more_10 (by decide) ?_
  refine X_bipush (v := nI 9) dX11_more_11 (by decide) ?_
  refine X_need dX11_more_13 mkX11_116 (k_0 hSh) (c_needWithin Γ g mi ml hSh (nI kb) (nI 0) (nI 9)) rfl rfl (by decide) (by decide) (by decide) (by decide) (fun h => absurd (⟨nI_le (by omega) (by omega), nI_le (by omega) (by omega)⟩) h) (fun _ => ?_)
  refine X_aload_n dX11_more_16 rfl ?_
  refine X_getr (a := 77) dX11_more_17 fkX11_84 rfl (k_0 hSh) (r_0_11 hSh) ?_
  refine X_callVrV dX11_more_20 mkX11_307 (k_77 hSh) (c_learnK Γ g mi ml A hA hC) rfl rfl (by decide) (Nat.le_of_ble_eq_true rfl) (fun m2 l2 hm2 => ?_)
  obtain ⟨hC2, hgo, hg4, hfG, hl2⟩ := hm2
  rw [hl2] at hC2 ⊢
  refine X_aload_n dX11_more_23 rfl ?_
  refine X_getr (a := 77) dX11_more_24 fkX11_84 rfl (k_0 hSh) (r_0_11 hSh) ?_
  refine X_iload_n dX11_more_27 rfl ?_
  refine X_iload_n dX11_more_28 rfl ?_
  refine X_callVrI dX11_more_29 mkX11_316 (k_77 hSh) (c_mostWith Γ g m2 ml hSh (aP A) hP (CI_cl hC2) hgo.1 (nI ka) (nI kb)) rfl rfl (by decide) (Nat.le_of_ble_eq_true rfl) (fun v3 m3 l3 hm3 => ?_)
  obtain ⟨hv3, hfM, hvl, hl3⟩ := hm3
  rw [hl3]
  have e77 : m3 77 = m2 77 := hfM 77 (by omega) (by omega)
  have hC3 : CI A g m3 ml := CI_G hC2 (frM_G hfM) (by rw [e77]; exact hg4) ⟨hvl, by rw [e77]; exact hgo.2.1, fun b hb => by rw [hfM 80 (by omega) (by omega)]; exact hgo.2.2 b hb⟩
  refine X_aload_n dX11_more_32 rfl ?_
  refine X_getr (a := 77) dX11_more_33 fkX11_84 rfl (k_0 hSh) (r_0_11 hSh) ?_
  refine X_geti dX11_more_36 fkX11_310 rfl (k_77 hSh) ?_
  rw [((congrFun e77 5).trans hgo.2.1)]
  refine X_isub dX11_more_39 ?_
  exact X_iret dX11_more_40 rfl ⟨congrArg (fun z => Sum.inl (some (Value.int z))) ((by rw [hv3])), hC3, frK_t (frG_K hfG) (frG_K (frM_G hfM)), rfl⟩
set_option maxRecDepth 100000 in
set_option maxHeartbeats 4000000 in
theorem r_more (Γ : pTG) (g : pGG) (mi : pMI) (ml : pML) (A : AS) (hA : okAS A) (hSh : Sh g) (hR : RI A mi) (ka : Nat) (hkaa : 0 ≤ ka) (hka : ka ≤ 9) (kb : Nat) (hkba : 0 ≤ kb) (hkb : kb ≤ 9) : CT Γ 60 0 0 mX12_more [.ref 87, .int (nI ka), .int (nI kb)] g mi ml (RQ A (.inl (gtR (vQ (aP A) (nI ka) (nI kb)) (aG A) ((aP A).1 + 1) (aG A) 0 - gtR (vP (aP A)) (aG A) (aP A).1 (aG A) 0)) cd1 g mi ml) := by
  refine CT_of (by decide +kernel) (Nat.le_of_ble_eq_true rfl) ?_
  have hP := hA.1
  have hG8 : aG A ≤ 8 := hP.2.1
  have hC8 : (aP A).1 ≤ 8 := hP.1
  refine X_aload_n dX12_more_0 rfl ?_
  refine X_iconst (v := nI 0) dX12_more_1 (by decide) ?_
  refine X_puti dX12_more_2 fkX12_158 rfl rfl (k_87 hSh) ?_
  refine X_aload_n dX12_more_5 rfl ?_
  refine X_iload_n dX12_more_6 rfl ?_
  refine X_iconst (v := nI 0) dX12_more_7 (by decide) ?_
  refine X_bipush (v := nI 9) dX12_more_8 (by decide) ?_
  refine X_callSI dX12_more_10 mkX12_192 (c_in Γ g (up2 mi 87 0 (nI 0)) ml (nI ka) (nI 0) (nI 9)) rfl rfl (by decide) (Nat.le_of_ble_eq_true rfl) ?_
  refine X_topi (show bI (decide (nI 0 ≤ nI ka) && decide (nI ka ≤ nI 9)) = nI 1 from congrArg bI (show (decide (nI 0 ≤ nI ka) && decide (nI ka ≤ nI 9)) = true from by rw [decide_eq_true (nI_le (by omega) (by omega)), decide_eq_true (nI_le (by omega) (by omega))]; rfl)) ?_
  refine X_if_eqN (a := 1) 26 dX12_more_13 (by decide) (by omega) (fun h_1 => ?_) (fun h_1 => ?_)
  · exact absurd h_1 (by omega)
  · refine X_iload_n dX12_more_16 rfl ?_
    refine X_iconst (v := nI 0) dX12_more_17 (by decide) ?_
    refine X_bipush (v := nI 9) dX12_more_18 (by decide) ?_
    refine X_callSI dX12_more_20 mkX12_192 (c_in Γ g (up2 mi 87 0 (nI 0)) ml (nI kb) (nI 0) (nI 9)) rfl rfl (by decide) (Nat.le_of_ble_eq_true rfl) ?_
    refine X_topi (show bI (decide (nI 0 ≤ nI kb) && decide (nI kb ≤ nI 9)) = nI 1 from congrArg bI (show (decide (nI 0 ≤ nI kb) && decide (nI kb ≤ nI 9)) = true from by rw [decide_eq_true (nI_le (by omega) (by omega)), decide_eq_true (nI_le (by omega) (by omega))]; rfl)) ?_
    refine X_if_neN (a := 1) 30 dX12_more_23 (by decide) (by omega) (fun h_2 => ?_) (fun h_2 => ?_)
    · refine X_iconst (v := nI 0) dX12_more_30 (by decide) ?_
      refine X_iconst (v := nI 1) dX12_more_31 (by decide) ?_
      refine X_iconst (v := nI 1) dX12_more_32 (by decide) ?_
      refine X_callVI dX12_more_33 mkX12_228 (k_87 hSh) (c_bad0 Γ g (up2 mi 87 0 (nI 0)) ml hSh 1 1 up2_s) rfl rfl (by decide) (Nat.le_of_ble_eq_true rfl) ?_
      refine X_if_eqN (a := 0) 41 dX12_more_36 (by decide) (by omega) (fun h_3 => ?_) (fun h_3 => ?_)
      · refine X_aload_n dX12_more_41 rfl ?_
        refine X_getr (a := 101) dX12_more_42 fkX12_31 rfl (k_87 hSh) (r_87_14 hSh) ?_
        refine X_aload_n dX12_more_45 rfl ?_
        refine X_getr (a := 91) dX12_more_46 fkX12_23 rfl (k_87 hSh) (r_87_12 hSh) ?_
        refine X_iconst (v := nI 0) dX12_more_49 (by decide) ?_
        refine X_iald 0 dX12_more_50 (k_91 hSh) rfl (by omega) ?_
        rw [((congrFun (up2_row (by omega)) _).trans hR.1.1)]
        refine X_aaldr (b := 102 + ((aP A).1)) ((aP A).1) dX12_more_51 (k_101 hSh) rfl (by omega) (o_101 hSh ((aP A).1) (by omega)) ?_
        refine X_iconst (v := nI 0) dX12_more_52 (by decide) ?_
        refine X_iload_n dX12_more_53 rfl ?_
        refine X_iast 0 dX12_more_54 (kr_101 hSh (((aP A).1)) (by omega)) rfl (by omega) ?_
        refine X_aload_n dX12_more_55 rfl ?_
        refine X_getr (a := 101) dX12_more_56 fkX12_31 rfl (k_87 hSh) (r_87_14 hSh) ?_
        refine X_aload_n dX12_more_59 rfl ?_
        refine X_getr (a := 91) dX12_more_60 fkX12_23 rfl (k_87 hSh) (r_87_12 hSh) ?_
        refine X_iconst (v := nI 0) dX12_more_63 (by decide) ?_
        refine X_iald 0 dX12_more_64 (k_91 hSh) rfl (by omega) ?_
        refine X_topi (show (up2 (up2 mi 87 0 (nI 0)) (102 + ((aP A).1)) 0 (nI ka)) 91 0 = nI ((aP A).1) by rw [up2_row (by omega), up2_row (by omega)]; exact hR.1.1) ?_
        refine X_aaldr (b := 102 + ((aP A).1)) ((aP A).1) dX12_more_65 (k_101 hSh) rfl (by omega) (o_101 hSh ((aP A).1) (by omega)) ?_
        refine X_iconst (v := nI 1) dX12_more_66 (by decide) ?_
        refine X_iload_n dX12_more_67 rfl ?_
        refine X_iast 1 dX12_more_68 (kr_101 hSh (((aP A).1)) (by omega)) rfl (by omega) ?_
        refine X_aload_n dX12_more_69 rfl ?_
        refine X_aload_n dX12_more_70 rfl ?_
        refine X_getr (a := 91) dX12_more_71 fkX12_23 rfl (k_87 hSh) (r_87_12 hSh) ?_
        refine X_iconst (v := nI 0) dX12_more_74 (by decide) ?_
        refine X_iald 0 dX12_more_75 (k_91 hSh) rfl (by omega) ?_
        refine X_topi (show (up2 (up2 (up2 mi 87 0 (nI 0)) (102 + ((aP A).1)) 0 (nI ka)) (102 + ((aP A).1)) 1 (nI kb)) 91 0 = nI ((aP A).1) by rw [up2_row (by omega), up2_row (by omega), up2_row (by omega)]; exact hR.1.1) ?_
        refine X_iconst (v := nI 1) dX12_more_76 (by decide) ?_
        refine X_iadd dX12_more_77 ?_
        refine X_topi (nI_add ((aP A).1) 1) ?_
        have hRc : RI A (up2 (up2 (up2 mi 87 0 (nI 0)) (102 + ((aP A).1)) 0 (nI ka)) (102 + ((aP A).1)) 1 (nI kb)) := RI_c hA (RW_I hA hR RW_0)
        have h00 : (up2 (up2 (up2 mi 87 0 (nI 0)) (102 + ((aP A).1)) 0 (nI ka)) (102 + ((aP A).1)) 1 (nI kb)) 87 0 = nI 0 := by rw [up2_row (by omega), up2_row (by omega)]; exact up2_s
        refine X_callVrI dX12_more_78 mkX12_378 (k_87 hSh) (r_lays2 Γ g (up2 (up2 (up2 mi 87 0 (nI 0)) (102 + ((aP A).1)) 0 (nI ka)) (102 + ((aP A).1)) 1 (nI kb)) ml A hA hSh hRc.1 (nI ka) (nI kb) ((up2_n (by omega)).trans up2_s) up2_s) rfl rfl (by decide) (Nat.le_of_ble_eq_true rfl) (fun v2 m2 l2 hm2 => ?_)
        obtain ⟨hv2, hfL, hl2⟩ := hm2
        rw [hl2]
        have hw2 := RW_L (RW_r h00) hfL
        have hI2 := RW_I hA hRc hw2
        refine X_istore_n dX12_more_81 (by decide) ?_
        refine X_iload_n dX12_more_82 rfl ?_
        refine X_aload_n dX12_more_83 rfl ?_
        refine X_aload_n dX12_more_84 rfl ?_
        refine X_getr (a := 91) dX12_more_85 fkX12_23 rfl (k_87 hSh) (r_87_12 hSh) ?_
        refine X_iconst (v := nI 0) dX12_more_88 (by decide) ?_
        refine X_iald 0 dX12_more_89 (k_91 hSh) rfl (by omega) ?_
        rw [hI2.1.1]
        refine X_callVrI dX12_more_90 mkX12_378 (k_87 hSh) (r_lays Γ g m2 ml A hA hSh hI2.1) rfl rfl (by decide) (Nat.le_of_ble_eq_true rfl) (fun v3 m3 l3 hm3 => ?_)
        obtain ⟨hv3, hfL3, _, hl3⟩ := hm3
        rw [hl3]
        have hw3 := RW_L hw2 hfL3
        refine X_isub dX12_more_93 ?_
        exact X_iret dX12_more_94 rfl ⟨rfl, rfl, RW_I hA hRc hw3, frM2_t (frM2_u (frM2_u (frM2_u frM2_r (by omega)) (by omega)) (by omega)) hw3.2.1, _, rfl, by rw [hv2, hv3], hw3.2.2⟩
      · exact absurd h_3 (by omega)
    · exact absurd h_2 (by omega)
theorem m_more (A : AS) (hA : okAS A) (xa : Int32) (xb : Int32) : MOK mX11_more mX12_more cd1 [.int xa, .int xb] A := by
  by_cases hg0 : nI 0 ≤ xa ∧ xa ≤ nI 9
  · obtain ⟨ka, hkaa, hka, rfl⟩ := (wi_iff (by decide) (by decide)).mp hg0
    by_cases hg1 : nI 0 ≤ xb ∧ xb ≤ nI 9
    · obtain ⟨kb, hkba, hkb, rfl⟩ := (wi_iff (by decide) (by decide)).mp hg1
      exact ⟨.inl (gtR (vQ (aP A) (nI ka) (nI kb)) (aG A) ((aP A).1 + 1) (aG A) 0 - gtR (vP (aP A)) (aG A) (aP A).1 (aG A) 0), A, hA, fun j h => (by cases h), fun Γ g m l hC => k_more Γ g m l A hA hC ka hkaa hka kb hkba hkb, fun Γ g m l hSh hR => r_more Γ g m l A hA hSh hR ka hkaa hka kb hkba hkb⟩
    · exact ⟨.inr 1, rfA A 1, ok_rf hA, fun j h => by cases h; decide, fun Γ g m l hC => k_more_f1 Γ g m l A hA hC ka hkaa hka xb hg1, fun Γ g m l hSh hR => r_more_f1 Γ g m l A hA hSh hR ka hkaa hka xb hg1⟩
  · exact ⟨.inr 1, rfA A 1, ok_rf hA, fun j h => by cases h; decide, fun Γ g m l hC => k_more_f0 Γ g m l A hA hC xa hg0 xb, fun Γ g m l hSh hR => r_more_f0 Γ g m l A hA hSh hR xa hg0 xb⟩
set_option maxRecDepth 100000 in
set_option maxHeartbeats 4000000 in
theorem c_wantAt (Γ : pTG) (g : pGG) (mi : pMI) (ml : pML) (hSh : Sh g) (A : AS) (hA : okAS A) (hr : rfP mi (aP A)) (p : Int32) : cI Γ 3 mX12_wantAt [.ref 87, .int p] g mi ml (nI (wantN (aP A) p)) mi := by
  refine cI_of (by decide +kernel) (Nat.le_of_ble_eq_true rfl) ?_
  have hP := hA.1
  have hG8 : aG A ≤ 8 := hP.2.1
  have hC8 : (aP A).1 ≤ 8 := hP.1
  refine X_iconst (v := nI 0) dX12_wantAt_0 (by decide) ?_
  refine X_istore_n dX12_wantAt_1 (by decide) ?_
  refine X_iconst (v := nI 0) dX12_wantAt_2 (by decide) ?_
  refine X_istore_n dX12_wantAt_3 (by decide) ?_
  refine X_L [(3, .int (nI 0)), (2, .int (nI 0)), (0, .ref 87), (1, .int p)] ⟨rfl, rfl, rfl, rfl, trivial⟩ ?_
  refine X_forR (σ := Unit) 4 (fun i u => [(3, .int (nI i)), (2, .int (nI (cN (fun b => anB (fun c => decide (p ≤ vP (aP A) b c)) (aP A).1) i))), (0, .ref 87), (1, .int p)]) (fun u => mi) (fun u => ml) (fun i u => True) (aG A) ?_ ?_ (aG A) 0 (()) (by omega) trivial
  · intro i u hi hI hn
    refine X_iload_n dX12_wantAt_4 rfl ?_
    refine X_aload_n dX12_wantAt_5 rfl ?_
    refine X_getr (a := 91) dX12_wantAt_6 fkX12_23 rfl (k_87 hSh) (r_87_12 hSh) ?_
    refine X_iconst (v := nI 1) dX12_wantAt_9 (by decide) ?_
    refine X_iald 1 dX12_wantAt_10 (k_91 hSh) rfl (by omega) ?_
    rw [hr.2.1]
    refine X_icmp_geN (a := i) (b := aG A) 87 dX12_wantAt_11 (by decide) (by omega) (by omega) (fun h_1 => ?_) (fun h_1 => ?_)
    · exact absurd hi (by omega)
    · refine X_iconst (v := nI 0) dX12_wantAt_14 (by decide) ?_
      refine X_istore dX12_wantAt_15 (by decide) ?_
      refine X_iconst (v := nI 0) dX12_wantAt_17 (by decide) ?_
      refine X_istore dX12_wantAt_18 (by decide) ?_
      refine X_L [(5, .int (nI 0)), (4, .int (nI 0)), (3, .int (nI i)), (2, .int (nI (cN (fun b => anB (fun c => decide (p ≤ vP (aP A) b c)) (aP A).1) i))), (0, .ref 87), (1, .int p)] ⟨rfl, rfl, rfl, rfl, rfl, rfl, trivial⟩ ?_
      refine X_forR (σ := Unit) 20 (fun j u2 => [(5, .int (nI j)), (4, .int (bI (anB (fun c => decide (p ≤ vP (aP A) i c)) j))), (3, .int (nI i)), (2, .int (nI (cN (fun b => anB (fun c => decide (p ≤ vP (aP A) b c)) (aP A).1) i))), (0, .ref 87), (1, .int p)]) (fun u2 => mi) (fun u2 => ml) (fun j u2 => True) ((aP A).1) ?_ ?_ ((aP A).1) 0 (()) (by omega) trivial
      · intro j u2 hj hJ hn2
        refine X_iload dX12_wantAt_20 rfl ?_
        refine X_aload_n dX12_wantAt_22 rfl ?_
        refine X_getr (a := 91) dX12_wantAt_23 fkX12_23 rfl (k_87 hSh) (r_87_12 hSh) ?_
        refine X_iconst (v := nI 0) dX12_wantAt_26 (by decide) ?_
        refine X_iald 0 dX12_wantAt_27 (k_91 hSh) rfl (by omega) ?_
        rw [hr.1]
        refine X_icmp_geN (a := j) (b := (aP A).1) 68 dX12_wantAt_28 (by decide) (by omega) (by omega) (fun h_2 => ?_) (fun h_2 => ?_)
        · exact absurd hj (by omega)
        · refine X_iload dX12_wantAt_31 rfl ?_
          refine X_if_ne 55 dX12_wantAt_33 (by decide) (fun h_3 => ?_) (fun h_3 => ?_)
          · refine X_iconst (v := nI 1) dX12_wantAt_55 (by decide) ?_
            refine X_goto 60 dX12_wantAt_56 (by decide) ?_
            refine X_istore dX12_wantAt_60 (by decide) ?_
            refine X_iinc (v := nI (j + 1)) dX12_wantAt_62 rfl (nI_1 _) (by decide) ?_
            refine X_goto 20 dX12_wantAt_65 (by decide) ?_
            refine X_L [(5, .int (nI (j + 1))), (4, .int (nI 1)), (3, .int (nI i)), (2, .int (nI (cN (fun b => anB (fun c => decide (p ≤ vP (aP A) b c)) (aP A).1) i))), (0, .ref 87), (1, .int p)] ⟨rfl, rfl, rfl, rfl, rfl, rfl, trivial⟩ ?_
            refine X_L [(5, .int (nI (j + 1))), (4, .int (bI (anB (fun c => decide (p ≤ vP (aP A) i c)) (j + 1)))), (3, .int (nI i)), (2, .int (nI (cN (fun b => anB (fun c => decide (p ≤ vP (aP A) b c)) (aP A).1) i))), (0, .ref 87), (1, .int p)] ⟨rfl, by first | (rw [wa_t (p := (fun c => decide (p ≤ vP (aP A) i c))) (j := j) (by assumption)]; rfl) | (rw [wa_u (p := (fun c => decide (p ≤ vP (aP A) i c))) (j := j) (decide_eq_true (Int32.not_lt.mp (by assumption)))]; rfl) | (rw [wa_f (p := (fun c => decide (p ≤ vP (aP A) i c))) (j := j) (by first | assumption | exact Classical.not_not.mp (by assumption)) (decide_eq_false (Int32.not_le.mpr (by assumption)))]; rfl), rfl, rfl, rfl, rfl, trivial⟩ ?_
            exact hn2 () trivial
          · refine X_aload_n dX12_wantAt_36 rfl ?_
            refine X_iload_n dX12_wantAt_37 rfl ?_
            refine X_iload dX12_wantAt_38 rfl ?_
            refine X_aload_n dX12_wantAt_40 rfl ?_
            refine X_getr (a := 120) dX12_wantAt_41 fkX12_37 rfl (k_87 hSh) (r_87_16 hSh) ?_
            refine X_iload_n dX12_wantAt_44 rfl ?_
            refine X_aaldr (b := 121 + i) i dX12_wantAt_45 (k_120 hSh) rfl (by omega) (o_120 hSh i (by omega)) ?_
            refine X_iconst (v := nI 1) dX12_wantAt_46 (by decide) ?_
            refine X_iald 1 dX12_wantAt_47 (kr_120 hSh i (by omega)) rfl (by omega) ?_
            rw [(hr.2.2.2.2.2.2 i hi).2.1]
            refine X_callVI dX12_wantAt_48 mkX12_310 (k_87 hSh) (c_worthOf Γ g mi ml hSh i j ((aP A).2.2.2.2.2.2 i 1) ((aP A).2.2.2.2.2.2 i 1) ((aP A).2.2.2.2.2.2 i 2) (by omega) (by omega) (by have := hP.2.2.2.2.2.2.2 _ hi; omega) (hr.2.2.2.2.2.2 _ hi).2.1 (hr.2.2.2.2.2.2 _ hi).2.2.1 (by have := hP.2.2.2.2.2.2.2 _ hi; omega) (by have := hP.2.2.2.2.2.2.2 _ hi; omega)) rfl rfl (by decide) (Nat.le_of_ble_eq_true rfl) ?_
            refine X_topi (show _ = vP (aP A) i j by unfold vP; rw [Nat.max_self, (hr.2.2.2.2.2.1 _ hj).1, (hr.2.2.2.2.2.1 _ hj).2]) ?_
            refine X_iload_n dX12_wantAt_51 rfl ?_
            refine X_icmp_lt 59 dX12_wantAt_52 (by decide) (fun h_4 => ?_) (fun h_4 => ?_)
            · refine X_iconst (v := nI 0) dX12_wantAt_59 (by decide) ?_
              refine X_istore dX12_wantAt_60 (by decide) ?_
              refine X_iinc (v := nI (j + 1)) dX12_wantAt_62 rfl (nI_1 _) (by decide) ?_
              refine X_goto 20 dX12_wantAt_65 (by decide) ?_
              refine X_L [(5, .int (nI (j + 1))), (4, .int (nI 0)), (3, .int (nI i)), (2, .int (nI (cN (fun b => anB (fun c => decide (p ≤ vP (aP A) b c)) (aP A).1) i))), (0, .ref 87), (1, .int p)] ⟨rfl, rfl, rfl, rfl, rfl, rfl, trivial⟩ ?_
              refine X_L [(5, .int (nI (j + 1))), (4, .int (bI (anB (fun c => decide (p ≤ vP (aP A) i c)) (j + 1)))), (3, .int (nI i)), (2, .int (nI (cN (fun b => anB (fun c => decide (p ≤ vP (aP A) b c)) (aP A).1) i))), (0, .ref 87), (1, .int p)] ⟨rfl, by first | (rw [wa_t (p := (fun c => decide (p ≤ vP (aP A) i c))) (j := j) (by assumption)]; rfl) | (rw [wa_u (p := (fun c => decide (p ≤ vP (aP A) i c))) (j := j) (decide_eq_true (Int32.not_lt.mp (by assumption)))]; rfl) | (rw [wa_f (p := (fun c => decide (p ≤ vP (aP A) i c))) (j := j) (by first | assumption | exact Classical.not_not.mp (by assumption)) (decide_eq_false (Int32.not_le.mpr (by assumption)))]; rfl), rfl, rfl, rfl, rfl, trivial⟩ ?_
              exact hn2 () trivial
            · refine X_iconst (v := nI 1) dX12_wantAt_55 (by decide) ?_
              refine X_goto 60 dX12_wantAt_56 (by decide) ?_
              refine X_istore dX12_wantAt_60 (by decide) ?_
              refine X_iinc (v := nI (j + 1)) dX12_wantAt_62 rfl (nI_1 _) (by decide) ?_
              refine X_goto 20 dX12_wantAt_65 (by decide) ?_
              refine X_L [(5, .int (nI (j + 1))), (4, .int (nI 1)), (3, .int (nI i)), (2, .int (nI (cN (fun b => anB (fun c => decide (p ≤ vP (aP A) b c)) (aP A).1) i))), (0, .ref 87), (1, .int p)] ⟨rfl, rfl, rfl, rfl, rfl, rfl, trivial⟩ ?_
              refine X_L [(5, .int (nI (j + 1))), (4, .int (bI (anB (fun c => decide (p ≤ vP (aP A) i c)) (j + 1)))), (3, .int (nI i)), (2, .int (nI (cN (fun b => anB (fun c => decide (p ≤ vP (aP A) b c)) (aP A).1) i))), (0, .ref 87), (1, .int p)] ⟨rfl, by first | (rw [wa_t (p := (fun c => decide (p ≤ vP (aP A) i c))) (j := j) (by assumption)]; rfl) | (rw [wa_u (p := (fun c => decide (p ≤ vP (aP A) i c))) (j := j) (decide_eq_true (Int32.not_lt.mp (by assumption)))]; rfl) | (rw [wa_f (p := (fun c => decide (p ≤ vP (aP A) i c))) (j := j) (by first | assumption | exact Classical.not_not.mp (by assumption)) (decide_eq_false (Int32.not_le.mpr (by assumption)))]; rfl), rfl, rfl, rfl, rfl, trivial⟩ ?_
              exact hn2 () trivial
      · intro u2 hJ
        refine X_iload dX12_wantAt_20 rfl ?_
        refine X_aload_n dX12_wantAt_22 rfl ?_
        refine X_getr (a := 91) dX12_wantAt_23 fkX12_23 rfl (k_87 hSh) (r_87_12 hSh) ?_
        refine X_iconst (v := nI 0) dX12_wantAt_26 (by decide) ?_
        refine X_iald 0 dX12_wantAt_27 (k_91 hSh) rfl (by omega) ?_
        rw [hr.1]
        refine X_icmp_geN (a := ((aP A).1)) (b := (aP A).1) 68 dX12_wantAt_28 (by decide) (by omega) (by omega) (fun h_5 => ?_) (fun h_5 => ?_)
        · refine X_iload_n dX12_wantAt_68 rfl ?_
          refine X_iload dX12_wantAt_69 rfl ?_
          refine X_if_eq 78 dX12_wantAt_71 (by decide) (fun h_6 => ?_) (fun h_6 => ?_)
          · refine X_iconst (v := nI 0) dX12_wantAt_78 (by decide) ?_
            refine X_iadd dX12_wantAt_79 ?_
            refine X_topi (nI_add (cN (fun b => anB (fun c => decide (p ≤ vP (aP A) b c)) (aP A).1) i) 0) ?_
            refine X_istore_n dX12_wantAt_80 (by decide) ?_
            refine X_iinc (v := nI (i + 1)) dX12_wantAt_81 rfl (nI_1 _) (by decide) ?_
            refine X_goto 4 dX12_wantAt_84 (by decide) ?_
            refine X_L [(3, .int (nI (i + 1))), (2, .int (nI ((cN (fun b => anB (fun c => decide (p ≤ vP (aP A) b c)) (aP A).1) i) + 0))), (0, .ref 87), (1, .int p)] ⟨rfl, rfl, rfl, rfl, trivial⟩ ?_
            refine X_L [(3, .int (nI (i + 1))), (2, .int (nI (cN (fun b => anB (fun c => decide (p ≤ vP (aP A) b c)) (aP A).1) (i + 1)))), (0, .ref 87), (1, .int p)] ⟨rfl, by first | (rw [cN_t (p := (fun b => anB (fun c => decide (p ≤ vP (aP A) b c)) (aP A).1)) (i := i) (bI_n0.mp (by assumption))]; rfl) | (rw [cN_f (p := (fun b => anB (fun c => decide (p ≤ vP (aP A) b c)) (aP A).1)) (i := i) ((bI_0 (b := anB (fun c => decide (p ≤ vP (aP A) i c)) (aP A).1)).mp (by first | assumption | exact Classical.not_not.mp (by assumption)))]; rfl), rfl, rfl, trivial⟩ ?_
            exact hn () trivial
          · refine X_iconst (v := nI 1) dX12_wantAt_74 (by decide) ?_
            refine X_goto 79 dX12_wantAt_75 (by decide) ?_
            refine X_iadd dX12_wantAt_79 ?_
            refine X_topi (nI_add (cN (fun b => anB (fun c => decide (p ≤ vP (aP A) b c)) (aP A).1) i) 1) ?_
            refine X_istore_n dX12_wantAt_80 (by decide) ?_
            refine X_iinc (v := nI (i + 1)) dX12_wantAt_81 rfl (nI_1 _) (by decide) ?_
            refine X_goto 4 dX12_wantAt_84 (by decide) ?_
            refine X_L [(3, .int (nI (i + 1))), (2, .int (nI ((cN (fun b => anB (fun c => decide (p ≤ vP (aP A) b c)) (aP A).1) i) + 1))), (0, .ref 87), (1, .int p)] ⟨rfl, rfl, rfl, rfl, trivial⟩ ?_
            refine X_L [(3, .int (nI (i + 1))), (2, .int (nI (cN (fun b => anB (fun c => decide (p ≤ vP (aP A) b c)) (aP A).1) (i + 1)))), (0, .ref 87), (1, .int p)] ⟨rfl, by first | (rw [cN_t (p := (fun b => anB (fun c => decide (p ≤ vP (aP A) b c)) (aP A).1)) (i := i) (bI_n0.mp (by assumption))]; rfl) | (rw [cN_f (p := (fun b => anB (fun c => decide (p ≤ vP (aP A) b c)) (aP A).1)) (i := i) ((bI_0 (b := anB (fun c => decide (p ≤ vP (aP A) i c)) (aP A).1)).mp (by first | assumption | exact Classical.not_not.mp (by assumption)))]; rfl), rfl, rfl, trivial⟩ ?_
            exact hn () trivial
        · exact absurd h_5 (by omega)
  · intro u hI
    refine X_iload_n dX12_wantAt_4 rfl ?_
    refine X_aload_n dX12_wantAt_5 rfl ?_
    refine X_getr (a := 91) dX12_wantAt_6 fkX12_23 rfl (k_87 hSh) (r_87_12 hSh) ?_
    refine X_iconst (v := nI 1) dX12_wantAt_9 (by decide) ?_
    refine X_iald 1 dX12_wantAt_10 (k_91 hSh) rfl (by omega) ?_
    rw [hr.2.1]
    refine X_icmp_geN (a := (aG A)) (b := aG A) 87 dX12_wantAt_11 (by decide) (by omega) (by omega) (fun h_7 => ?_) (fun h_7 => ?_)
    · refine X_iload_n dX12_wantAt_87 rfl ?_
      exact X_iret dX12_wantAt_88 rfl ⟨by rfl, rfl, rfl, rfl⟩
    · exact absurd h_7 (by omega)
set_option maxRecDepth 100000 in
set_option maxHeartbeats 4000000 in
theorem k_want_f0 (Γ : pTG) (g : pGG) (mi : pMI) (ml : pML) (A : AS) (hA : okAS A) (hC : CI A g mi ml) (w : Int32) (hf : ¬ (nI 0 ≤ w ∧ w ≤ nI 999)) : CT Γ 60 20 5000 mX11_want [.ref 0, .int w] g mi ml (CQ (rfA A 1) (.inr 1) mi ml) := by
  refine CT_of (by decide +kernel) (Nat.le_of_ble_eq_true rfl) ?_
  have hSh := CI_Sh hC
  have hcl := CI_cl hC
  have hP := hA.1
  have hG8 : aG A ≤ 8 := hP.2.1
  have hC8 : (aP A).1 ≤ 8 := hP.1
  refine X_aload_n dX11_want_0 rfl ?_
  refine X_iload_n dX11_want_1 rfl ?_
  refine X_iconst (v := nI 0) dX11_want_2 (by decide) ?_
  refine X_sipush (v := nI 999) dX11_want_3 (by decide) ?_
  exact X_need dX11_want_6 mkX11_116 (k_0 hSh) (c_needWithin Γ g mi ml hSh w (nI 0) (nI 999)) rfl rfl (by decide) (by decide) (by decide) (by decide) (fun _ => ⟨rfl, CI_rf (by decide) hC, frK_86, rfl⟩) (fun h => absurd h hf)
set_option maxRecDepth 100000 in
set_option maxHeartbeats 4000000 in
theorem r_want_f0 (Γ : pTG) (g : pGG) (mi : pMI) (ml : pML) (A : AS) (hA : okAS A) (hSh : Sh g) (hR : RI A mi) (w : Int32) (hf : ¬ (nI 0 ≤ w ∧ w ≤ nI 999)) : CT Γ 60 0 0 mX12_want [.ref 87, .int w] g mi ml (RQ (rfA A 1) (.inr 1) cd1 g mi ml) := by
  refine CT_of (by decide +kernel) (Nat.le_of_ble_eq_true rfl) ?_
  have hP := hA.1
  have hG8 : aG A ≤ 8 := hP.2.1
  have hC8 : (aP A).1 ≤ 8 := hP.1
  refine X_aload_n dX12_want_0 rfl ?_
  refine X_iconst (v := nI 0) dX12_want_1 (by decide) ?_
  refine X_puti dX12_want_2 fkX12_158 rfl rfl (k_87 hSh) ?_
  refine X_aload_n dX12_want_5 rfl ?_
  refine X_iload_n dX12_want_6 rfl ?_
  refine X_iconst (v := nI 0) dX12_want_7 (by decide) ?_
  refine X_sipush (v := nI 999) dX12_want_8 (by decide) ?_
  refine X_callSI dX12_want_11 mkX12_192 (c_in Γ g (up2 mi 87 0 (nI 0)) ml w (nI 0) (nI 999)) rfl rfl (by decide) (Nat.le_of_ble_eq_true rfl) ?_
  refine X_topi (show bI (decide (nI 0 ≤ w) && decide (w ≤ nI 999)) = nI 0 from congrArg bI (show (decide (nI 0 ≤ w) && decide (w ≤ nI 999)) = false from Bool.eq_false_iff.mpr (fun q => hf (by rw [Bool.and_eq_true, decide_eq_true_eq, decide_eq_true_eq] at q; exact q)))) ?_
  refine X_if_neN (a := 0) 21 dX12_want_14 (by decide) (by omega) (fun h_1 => ?_) (fun h_1 => ?_)
  · exact absurd h_1 (by omega)
  · refine X_iconst (v := nI 1) dX12_want_17 (by decide) ?_
    refine X_goto 22 dX12_want_18 (by decide) ?_
    refine X_iconst (v := nI 1) dX12_want_22 (by decide) ?_
    refine X_iconst (v := nI 1) dX12_want_23 (by decide) ?_
    refine X_callVI dX12_want_24 mkX12_228 (k_87 hSh) (c_bad1 Γ g (up2 mi 87 0 (nI 0)) ml hSh 1 1 (by decide) (by decide) (by decide) up2_s) rfl rfl (by decide) (Nat.le_of_ble_eq_true rfl) ?_
    refine X_mi (show _ = mB mi 1 1 from rfl) ?_
    refine X_if_eqN (a := 1) 32 dX12_want_27 (by decide) (by omega) (fun h_2 => ?_) (fun h_2 => ?_)
    · exact absurd h_2 (by omega)
    · refine X_iconst (v := nI 0) dX12_want_30 (by decide) ?_
      exact X_iret dX12_want_31 rfl ⟨rfl, rfl, RI_rf hA (by decide) hR, fr2_B, _, rfl, mB_0⟩
set_option maxRecDepth 100000 in
set_option maxHeartbeats 4000000 in
theorem k_want (Γ : pTG) (g : pGG) (mi : pMI) (ml : pML) (A : AS) (hA : okAS A) (hC : CI A g mi ml) (k : Nat) (hka : 0 ≤ k) (hk : k ≤ 999) : CT Γ 60 20 5000 mX11_want [.ref 0, .int (nI k)] g mi ml (CQ A (.inl (nI (wantN (aP A) (nI k)))) mi ml) := by
  refine CT_of (by decide +kernel) (Nat.le_of_ble_eq_true rfl) ?_
  have hSh := CI_Sh hC
  have hcl := CI_cl hC
  have hP := hA.1
  have hG8 : aG A ≤ 8 := hP.2.1
  have hC8 : (aP A).1 ≤ 8 := hP.1
  refine X_aload_n dX11_want_0 rfl ?_
  refine X_iload_n dX11_want_1 rfl ?_
  refine X_iconst (v := nI 0) dX11_want_2 (by decide) ?_
  refine X_sipush (v := nI 999) dX11_want_3 (by decide) ?_
  refine X_need dX11_want_6 mkX11_116 (k_0 hSh) (c_needWithin Γ g mi ml hSh (nI k) (nI 0) (nI 999)) rfl rfl (by decide) (by decide) (by decide) (by decide) (fun h => absurd (⟨nI_le (by omega) (by omega), nI_le (by omega) (by omega)⟩) h) (fun _ => ?_)
  refine X_aload_n dX11_want_9 rfl ?_
  refine X_getr (a := 77) dX11_want_10 fkX11_84 rfl (k_0 hSh) (r_0_11 hSh) ?_
  refine X_callVrV dX11_want_13 mkX11_307 (k_77 hSh) (c_learnK Γ g mi ml A hA hC) rfl rfl (by decide) (Nat.le_of_ble_eq_true rfl) (fun m2 l2 hm2 => ?_)
  obtain ⟨hC2, hgo, hg4, hfG, hl2⟩ := hm2
  rw [hl2] at hC2 ⊢
  refine X_aload_n dX11_want_16 rfl ?_
  refine X_getr (a := 77) dX11_want_17 fkX11_84 rfl (k_0 hSh) (r_0_11 hSh) ?_
  refine X_iload_n dX11_want_20 rfl ?_
  refine X_callVI dX11_want_21 mkX11_319 (k_77 hSh) (c_takersAt Γ g m2 ml hSh (aP A) hP (CI_cl hC2) hgo.1 (nI k) (m1_lt (by omega))) rfl rfl (by decide) (Nat.le_of_ble_eq_true rfl) ?_
  exact X_iret dX11_want_24 rfl ⟨rfl, hC2, frG_K hfG, rfl⟩
set_option maxRecDepth 100000 in
set_option maxHeartbeats 4000000 in
theorem r_want (Γ : pTG) (g : pGG) (mi : pMI) (ml : pML) (A : AS) (hA : okAS A) (hSh : Sh g) (hR : RI A mi) (k : Nat) (hka : 0 ≤ k) (hk : k ≤ 999) : CT Γ 60 0 0 mX12_want [.ref 87, .int (nI k)] g mi ml (RQ A (.inl (nI (wantN (aP A) (nI k)))) cd1 g mi ml) := by
  refine CT_of (by decide +kernel) (Nat.le_of_ble_eq_true rfl) ?_
  have hP := hA.1
  have hG8 : aG A ≤ 8 := hP.2.1
  have hC8 : (aP A).1 ≤ 8 := hP.1
  refine X_aload_n dX12_want_0 rfl ?_
  refine X_iconst (v := nI 0) dX12_want_1 (by decide) ?_
  refine X_puti dX12_want_2 fkX12_158 rfl rfl (k_87 hSh) ?_
  refine X_aload_n dX12_want_5 rfl ?_
  refine X_iload_n dX12_want_6 rfl ?_
  refine X_iconst (v := nI 0) dX12_want_7 (by decide) ?_
  refine X_sipush (v := nI 999) dX12_want_8 (by decide) ?_
  refine X_callSI dX12_want_11 mkX12_192 (c_in Γ g (up2 mi 87 0 (nI 0)) ml (nI k) (nI 0) (nI 999)) rfl rfl (by decide) (Nat.le_of_ble_eq_true rfl) ?_
  refine X_topi (show bI (decide (nI 0 ≤ nI k) && decide (nI k ≤ nI 999)) = nI 1 from congrArg bI (show (decide (nI 0 ≤ nI k) && decide (nI k ≤ nI 999)) = true from by rw [decide_eq_true (nI_le (by omega) (by omega)), decide_eq_true (nI_le (by omega) (by omega))]; rfl)) ?_
  refine X_if_neN (a := 1) 21 dX12_want_14 (by decide) (by omega) (fun h_1 => ?_) (fun h_1 => ?_)
  · refine X_iconst (v := nI 0) dX12_want_21 (by decide) ?_
    refine X_iconst (v := nI 1) dX12_want_22 (by decide) ?_
    refine X_iconst (v := nI 1) dX12_want_23 (by decide) ?_
    refine X_callVI dX12_want_24 mkX12_228 (k_87 hSh) (c_bad0 Γ g (up2 mi 87 0 (nI 0)) ml hSh 1 1 up2_s) rfl rfl (by decide) (Nat.le_of_ble_eq_true rfl) ?_
    refine X_if_eqN (a := 0) 32 dX12_want_27 (by decide) (by omega) (fun h_2 => ?_) (fun h_2 => ?_)
    · refine X_aload_n dX12_want_32 rfl ?_
      refine X_iload_n dX12_want_33 rfl ?_
      refine X_callVI dX12_want_34 mkX12_381 (k_87 hSh) (c_wantAt Γ g (up2 mi 87 0 (nI 0)) ml hSh A hA (RW_I hA hR RW_0).1 (nI k)) rfl rfl (by decide) (Nat.le_of_ble_eq_true rfl) ?_
      exact X_iret dX12_want_37 rfl ⟨rfl, rfl, RW_I hA hR (show RW mi (up2 mi 87 0 (nI 0)) from RW_0), (show RW mi (up2 mi 87 0 (nI 0)) from RW_0).2.1, _, rfl, rfl, (show RW mi (up2 mi 87 0 (nI 0)) from RW_0).2.2⟩
    · exact absurd h_2 (by omega)
  · exact absurd h_1 (by omega)
theorem m_want (A : AS) (hA : okAS A) (w : Int32) : MOK mX11_want mX12_want cd1 [.int w] A := by
  by_cases hg0 : nI 0 ≤ w ∧ w ≤ nI 999
  · obtain ⟨k, hka, hk, rfl⟩ := (wi_iff (by decide) (by decide)).mp hg0
    exact ⟨.inl (nI (wantN (aP A) (nI k))), A, hA, fun j h => (by cases h), fun Γ g m l hC => k_want Γ g m l A hA hC k hka hk, fun Γ g m l hSh hR => r_want Γ g m l A hA hSh hR k hka hk⟩
  · exact ⟨.inr 1, rfA A 1, ok_rf hA, fun j h => by cases h; decide, fun Γ g m l hC => k_want_f0 Γ g m l A hA hC w hg0, fun Γ g m l hSh hR => r_want_f0 Γ g m l A hA hSh hR w hg0⟩
def juP (A : AS) (p : Nat) : Bool := decide (wantN (aP A) (nI p) = (aP A).1)
/-- the last of which p is true -/
def laN (p : Nat → Bool) : Nat → Option Nat
  | 0 => none
  | n + 1 => if p n = true then some n else laN p n
theorem la_s {p : Nat → Bool} {j : Nat} (hj : p j = true) : ∀ n, j < n → (∀ i, j < i → i < n → p i = false) → laN p n = some j
  | 0, h, _ => absurd h (by omega)
  | n + 1, h, hz => by
    unfold laN
    by_cases q : j = n
    · subst q; rw [if_pos hj]
    · rw [if_neg (by rw [hz n (by omega) (by omega)]; decide)]
      exact la_s hj n (by omega) (fun i h1 h2 => hz i h1 (by omega))
theorem la_n {p : Nat → Bool} : ∀ n, (∀ i, i < n → p i = false) → laN p n = none
  | 0, _ => rfl
  | n + 1, hz => by
    unfold laN
    rw [if_neg (by rw [hz n (by omega)]; decide)]
    exact la_n n (fun i h => hz i (by omega))
theorem fE_ss {p : Nat → Bool} {n e : Nat} (h : fE p n = some e) : fE p (n + 1) = some e := by
  show (match fE p n with
    | some e => some e
    | none => if p n then some n else none) = _
  rw [h]
theorem fE_st {p : Nat → Bool} {n : Nat} (h : fE p n = none) (hp : p n = true) : fE p (n + 1) = some n := by
  show (match fE p n with
    | some e => some e
    | none => if p n then some n else none) = _
  rw [h]
  exact if_pos hp
theorem fE_sf {p : Nat → Bool} {n : Nat} (h : fE p n = none) (hp : p n = false) : fE p (n + 1) = none := by
  show (match fE p n with
    | some e => some e
    | none => if p n then some n else none) = _
  rw [h]
  exact if_neg (by rw [hp]; decide)
set_option maxRecDepth 100000 in
set_option maxHeartbeats 4000000 in
theorem k_just_f0 (Γ : pTG) (g : pGG) (mi : pMI) (ml : pML) (A : AS) (hA : okAS A) (hC : CI A g mi ml) (w : Int32) (hf : ¬ (nI 0 ≤ w ∧ w ≤ nI 1)) : CT Γ 60 20 5000 mX11_just [.ref 0, .int w] g mi ml (CQ (rfA A 1) (.inr 1) mi ml) := by
  refine CT_of (by decide +kernel) (Nat.le_of_ble_eq_true rfl) ?_
  have hSh := CI_Sh hC
  have hcl := CI_cl hC
  have hP := hA.1
  have hG8 : aG A ≤ 8 := hP.2.1
  have hC8 : (aP A).1 ≤ 8 := hP.1
  refine X_aload_n dX11_just_0 rfl ?_
  refine X_iload_n dX11_just_1 rfl ?_
  refine X_iconst (v := nI 0) dX11_just_2 (by decide) ?_
  refine X_iconst (v := nI 1) dX11_just_3 (by decide) ?_
  exact X_need dX11_just_4 mkX11_116 (k_0 hSh) (c_needWithin Γ g mi ml hSh w (nI 0) (nI 1)) rfl rfl (by decide) (by decide) (by decide) (by decide) (fun _ => ⟨rfl, CI_rf (by decide) hC, frK_86, rfl⟩) (fun h => absurd h hf)
set_option maxRecDepth 100000 in
set_option maxHeartbeats 4000000 in
theorem r_just_f0 (Γ : pTG) (g : pGG) (mi : pMI) (ml : pML) (A : AS) (hA : okAS A) (hSh : Sh g) (hR : RI A mi) (w : Int32) (hf : ¬ (nI 0 ≤ w ∧ w ≤ nI 1)) : CT Γ 60 0 0 mX12_just [.ref 87, .int w] g mi ml (RQ (rfA A 1) (.inr 1) cd1 g mi ml) := by
  refine CT_of (by decide +kernel) (Nat.le_of_ble_eq_true rfl) ?_
  have hP := hA.1
  have hG8 : aG A ≤ 8 := hP.2.1
  have hC8 : (aP A).1 ≤ 8 := hP.1
  refine X_aload_n dX12_just_0 rfl ?_
  refine X_iconst (v := nI 0) dX12_just_1 (by decide) ?_
  refine X_puti dX12_just_2 fkX12_158 rfl rfl (k_87 hSh) ?_
  refine X_aload_n dX12_just_5 rfl ?_
  refine X_iload_n dX12_just_6 rfl ?_
  refine X_iconst (v := nI 0) dX12_just_7 (by decide) ?_
  refine X_iconst (v := nI 1) dX12_just_8 (by decide) ?_
  refine X_callSI dX12_just_9 mkX12_192 (c_in Γ g (up2 mi 87 0 (nI 0)) ml w (nI 0) (nI 1)) rfl rfl (by decide) (Nat.le_of_ble_eq_true rfl) ?_
  refine X_topi (show bI (decide (nI 0 ≤ w) && decide (w ≤ nI 1)) = nI 0 from congrArg bI (show (decide (nI 0 ≤ w) && decide (w ≤ nI 1)) = false from Bool.eq_false_iff.mpr (fun q => hf (by rw [Bool.and_eq_true, decide_eq_true_eq, decide_eq_true_eq] at q; exact q)))) ?_
  refine X_if_neN (a := 0) 19 dX12_just_12 (by decide) (by omega) (fun h_1 => ?_) (fun h_1 => ?_)
  · exact absurd h_1 (by omega)
  · refine X_iconst (v := nI 1) dX12_just_15 (by decide) ?_
    refine X_goto 20 dX12_just_16 (by decide) ?_
    refine X_iconst (v := nI 1) dX12_just_20 (by decide) ?_
    refine X_iconst (v := nI 1) dX12_just_21 (by decide) ?_
    refine X_callVI dX12_just_22 mkX12_228 (k_87 hSh) (c_bad1 Γ g (up2 mi 87 0 (nI 0)) ml hSh 1 1 (by decide) (by decide) (by decide) up2_s) rfl rfl (by decide) (Nat.le_of_ble_eq_true rfl) ?_
    refine X_mi (show _ = mB mi 1 1 from rfl) ?_
    refine X_if_eqN (a := 1) 30 dX12_just_25 (by decide) (by omega) (fun h_2 => ?_) (fun h_2 => ?_)
    · exact absurd h_2 (by omega)
    · refine X_iconst (v := nI 0) dX12_just_28 (by decide) ?_
      exact X_iret dX12_just_29 rfl ⟨rfl, rfl, RI_rf hA (by decide) hR, fr2_B, _, rfl, mB_0⟩
set_option maxRecDepth 100000 in
set_option maxHeartbeats 4000000 in
theorem k_just_0 (Γ : pTG) (g : pGG) (mi : pMI) (ml : pML) (A : AS) (hA : okAS A) (hC : CI A g mi ml)  : CT Γ 60 20 5000 mX11_just [.ref 0, .int (nI 0)] g mi ml (CQ A (.inl (oI (fE (juP A) 1000))) mi ml) := by
  refine CT_of (by decide +kernel) (Nat.le_of_ble_eq_true rfl) ?_
  have hSh := CI_Sh hC
  have hcl := CI_cl hC
  have hP := hA.1
  have hG8 : aG A ≤ 8 := hP.2.1
  have hC8 : (aP A).1 ≤ 8 := hP.1
  refine X_aload_n dX11_just_0 rfl ?_
  refine X_iload_n dX11_just_1 rfl ?_
  refine X_iconst (v := nI 0) dX11_just_2 (by decide) ?_
  refine X_iconst (v := nI 1) dX11_just_3 (by decide) ?_
  refine X_need dX11_just_4 mkX11_116 (k_0 hSh) (c_needWithin Γ g mi ml hSh (nI 0) (nI 0) (nI 1)) rfl rfl (by decide) (by decide) (by decide) (by decide) (fun h => absurd (by decide) h) (fun _ => ?_)
  refine X_aload_n dX11_just_7 rfl ?_
  refine X_getr (a := 77) dX11_just_8 fkX11_84 rfl (k_0 hSh) (r_0_11 hSh) ?_
  refine X_callVrV dX11_just_11 mkX11_307 (k_77 hSh) (c_learnK Γ g mi ml A hA hC) rfl rfl (by decide) (Nat.le_of_ble_eq_true rfl) (fun m2 l2 hm2 => ?_)
  obtain ⟨hC2, hgo, hg4, hfG, hl2⟩ := hm2
  rw [hl2] at hC2 ⊢
  refine X_iconst (v := nI 0) dX11_just_14 (by decide) ?_
  refine X_istore_n dX11_just_15 (by decide) ?_
  refine X_L [(2, .int (nI 0)), (0, .ref 0), (1, .int (nI 0))] ⟨rfl, rfl, rfl, trivial⟩ ?_
  refine X_forE 16 (fun i => [(2, .int (nI i)), (0, .ref 0), (1, .int (nI 0))]) (fun i => juP A (i)) 1000 (fun i hi h0 => ⟨fun hp => ?_, fun hp hk => ?_⟩) (fun hz => ?_) 1000 0 (by omega) (fun b hb => absurd hb (by omega))
  · skip
    refine X_iload_n dX11_just_16 rfl ?_
    refine X_sipush (v := nI 999) dX11_just_17 (by decide) ?_
    refine X_icmp_gtN (a := i) (b := 999) 63 dX11_just_20 (by decide) (by first | omega | (have q9 := wantN_le (A := A) (p := nI (i)); omega)) (by first | omega | (have q9 := wantN_le (A := A) (p := nI (i)); omega)) (fun h_1 => ?_) (fun h_1 => ?_)
    · exact absurd h_1 (by omega)
    · refine X_iload_n dX11_just_23 rfl ?_
      refine X_if_neN (a := 0) 31 dX11_just_24 (by decide) (by first | omega | (have q9 := wantN_le (A := A) (p := nI (i)); omega)) (fun h_2 => ?_) (fun h_2 => ?_)
      · exact absurd h_2 (by omega)
      · refine X_iload_n dX11_just_27 rfl ?_
        refine X_goto 36 dX11_just_28 (by decide) ?_
        refine X_istore_n dX11_just_36 (by decide) ?_
        refine X_aload_n dX11_just_37 rfl ?_
        refine X_getr (a := 77) dX11_just_38 fkX11_84 rfl (k_0 hSh) (r_0_11 hSh) ?_
        refine X_iload_n dX11_just_41 rfl ?_
        refine X_callVI dX11_just_42 mkX11_319 (k_77 hSh) (c_takersAt Γ g m2 ml hSh (aP A) hP (CI_cl hC2) hgo.1 (nI (i)) (m1_lt (by omega))) rfl rfl (by decide) (Nat.le_of_ble_eq_true rfl) ?_
        refine X_aload_n dX11_just_45 rfl ?_
        refine X_getr (a := 3) dX11_just_46 fkX11_25 rfl (k_0 hSh) (r_0_2 hSh) ?_
        refine X_geti dX11_just_49 fkX11_172 rfl (k_3 hSh) ?_
        rw [(CI_cl hC2).1]
        refine X_icmp_neN (a := wantN (aP A) (nI (i))) (b := (aP A).1) 57 dX11_just_52 (by decide) (by first | omega | (have q9 := wantN_le (A := A) (p := nI (i)); omega)) (by first | omega | (have q9 := wantN_le (A := A) (p := nI (i)); omega)) (fun h_3 => ?_) (fun h_3 => ?_)
        · exact absurd (of_decide_eq_true hp) h_3
        · refine X_iload_n dX11_just_55 rfl ?_
          exact X_iret dX11_just_56 rfl ⟨congrArg (fun z => Sum.inl (some (Value.int z))) ((by rw [fE_s h0 hp hi]; rfl)), hC2, frG_K hfG, rfl⟩
  · skip
    refine X_iload_n dX11_just_16 rfl ?_
    refine X_sipush (v := nI 999) dX11_just_17 (by decide) ?_
    refine X_icmp_gtN (a := i) (b := 999) 63 dX11_just_20 (by decide) (by first | omega | (have q9 := wantN_le (A := A) (p := nI (i)); omega)) (by first | omega | (have q9 := wantN_le (A := A) (p := nI (i)); omega)) (fun h_4 => ?_) (fun h_4 => ?_)
    · exact absurd h_4 (by omega)
    · refine X_iload_n dX11_just_23 rfl ?_
      refine X_if_neN (a := 0) 31 dX11_just_24 (by decide) (by first | omega | (have q9 := wantN_le (A := A) (p := nI (i)); omega)) (fun h_5 => ?_) (fun h_5 => ?_)
      · exact absurd h_5 (by omega)
      · refine X_iload_n dX11_just_27 rfl ?_
        refine X_goto 36 dX11_just_28 (by decide) ?_
        refine X_istore_n dX11_just_36 (by decide) ?_
        refine X_aload_n dX11_just_37 rfl ?_
        refine X_getr (a := 77) dX11_just_38 fkX11_84 rfl (k_0 hSh) (r_0_11 hSh) ?_
        refine X_iload_n dX11_just_41 rfl ?_
        refine X_callVI dX11_just_42 mkX11_319 (k_77 hSh) (c_takersAt Γ g m2 ml hSh (aP A) hP (CI_cl hC2) hgo.1 (nI (i)) (m1_lt (by omega))) rfl rfl (by decide) (Nat.le_of_ble_eq_true rfl) ?_
        refine X_aload_n dX11_just_45 rfl ?_
        refine X_getr (a := 3) dX11_just_46 fkX11_25 rfl (k_0 hSh) (r_0_2 hSh) ?_
        refine X_geti dX11_just_49 fkX11_172 rfl (k_3 hSh) ?_
        rw [(CI_cl hC2).1]
        refine X_icmp_neN (a := wantN (aP A) (nI (i))) (b := (aP A).1) 57 dX11_just_52 (by decide) (by first | omega | (have q9 := wantN_le (A := A) (p := nI (i)); omega)) (by first | omega | (have q9 := wantN_le (A := A) (p := nI (i)); omega)) (fun h_6 => ?_) (fun h_6 => ?_)
        · refine X_iinc (v := nI (i + 1)) dX11_just_57 rfl (nI_1 _) (by decide) ?_
          refine X_goto 16 dX11_just_60 (by decide) ?_
          refine X_L [(2, .int (nI (i + 1))), (0, .ref 0), (1, .int (nI 0))] ⟨rfl, rfl, rfl, trivial⟩ ?_
          exact hk
        · exact absurd h_6 (of_decide_eq_false hp)
  · skip
    refine X_iload_n dX11_just_16 rfl ?_
    refine X_sipush (v := nI 999) dX11_just_17 (by decide) ?_
    refine X_icmp_gtN (a := 1000) (b := 999) 63 dX11_just_20 (by decide) (by first | omega | (have q9 := wantN_le (A := A) (p := nI (i)); omega)) (by first | omega | (have q9 := wantN_le (A := A) (p := nI (i)); omega)) (fun h_7 => ?_) (fun h_7 => ?_)
    · refine X_iconst (v := -1) dX11_just_63 (by decide) ?_
      exact X_iret dX11_just_64 rfl ⟨congrArg (fun z => Sum.inl (some (Value.int z))) ((by rw [fE_n.mpr hz]; rfl)), hC2, frG_K hfG, rfl⟩
    · exact absurd h_7 (by omega)
set_option maxRecDepth 100000 in
set_option maxHeartbeats 4000000 in
theorem r_just_0 (Γ : pTG) (g : pGG) (mi : pMI) (ml : pML) (A : AS) (hA : okAS A) (hSh : Sh g) (hR : RI A mi)  : CT Γ 60 0 0 mX12_just [.ref 87, .int (nI 0)] g mi ml (RQ A (.inl (oI (fE (juP A) 1000))) cd1 g mi ml) := by
  refine CT_of (by decide +kernel) (Nat.le_of_ble_eq_true rfl) ?_
  have hP := hA.1
  have hG8 : aG A ≤ 8 := hP.2.1
  have hC8 : (aP A).1 ≤ 8 := hP.1
  refine X_aload_n dX12_just_0 rfl ?_
  refine X_iconst (v := nI 0) dX12_just_1 (by decide) ?_
  refine X_puti dX12_just_2 fkX12_158 rfl rfl (k_87 hSh) ?_
  refine X_aload_n dX12_just_5 rfl ?_
  refine X_iload_n dX12_just_6 rfl ?_
  refine X_iconst (v := nI 0) dX12_just_7 (by decide) ?_
  refine X_iconst (v := nI 1) dX12_just_8 (by decide) ?_
  refine X_callSI dX12_just_9 mkX12_192 (c_in Γ g (up2 mi 87 0 (nI 0)) ml (nI 0) (nI 0) (nI 1)) rfl rfl (by decide) (Nat.le_of_ble_eq_true rfl) ?_
  refine X_topi (show bI (decide (nI 0 ≤ nI 0) && decide (nI 0 ≤ nI 1)) = nI 1 from congrArg bI (show (decide (nI 0 ≤ nI 0) && decide (nI 0 ≤ nI 1)) = true from by decide)) ?_
  refine X_if_neN (a := 1) 19 dX12_just_12 (by decide) (by first | omega | (have q9 := wantN_le (A := A) (p := nI i); omega)) (fun h_1 => ?_) (fun h_1 => ?_)
  · refine X_iconst (v := nI 0) dX12_just_19 (by decide) ?_
    refine X_iconst (v := nI 1) dX12_just_20 (by decide) ?_
    refine X_iconst (v := nI 1) dX12_just_21 (by decide) ?_
    refine X_callVI dX12_just_22 mkX12_228 (k_87 hSh) (c_bad0 Γ g (up2 mi 87 0 (nI 0)) ml hSh 1 1 up2_s) rfl rfl (by decide) (Nat.le_of_ble_eq_true rfl) ?_
    refine X_if_eqN (a := 0) 30 dX12_just_25 (by decide) (by first | omega | (have q9 := wantN_le (A := A) (p := nI i); omega)) (fun h_2 => ?_) (fun h_2 => ?_)
    · refine X_iconst (v := -1) dX12_just_30 (by decide) ?_
      refine X_istore_n dX12_just_31 (by decide) ?_
      refine X_iconst (v := nI 0) dX12_just_32 (by decide) ?_
      refine X_istore_n dX12_just_33 (by decide) ?_
      refine X_L [(3, .int (nI 0)), (2, .int (-1)), (0, .ref 87), (1, .int (nI 0))] ⟨rfl, rfl, rfl, rfl, trivial⟩ ?_
      refine X_L [(3, .int (nI (0))), (2, .int (oI (fE (juP A) (0)))), (0, .ref 87), (1, .int (nI 0))] ⟨rfl, rfl, rfl, rfl, trivial⟩ ?_
      refine X_forR (σ := Unit) 34 (fun i u => [(3, .int (nI (i))), (2, .int (oI (fE (juP A) (i)))), (0, .ref 87), (1, .int (nI 0))]) (fun u => (up2 mi 87 0 (nI 0))) (fun u => ml) (fun i u => True) 1000 ?_ ?_ 1000 0 () (by omega) trivial
      · intro i u hi hI hn
        cases hq : fE (juP A) i with
        | none =>
          refine X_iload_n dX12_just_34 rfl ?_
          refine X_sipush (v := nI 999) dX12_just_35 (by decide) ?_
          refine X_icmp_gtN (a := i) (b := 999) 73 dX12_just_38 (by decide) (by first | omega | (have q9 := wantN_le (A := A) (p := nI i); omega)) (by first | omega | (have q9 := wantN_le (A := A) (p := nI i); omega)) (fun h_3 => ?_) (fun h_3 => ?_)
          · exact absurd h_3 (by omega)
          · refine X_aload_n dX12_just_41 rfl ?_
            refine X_iload_n dX12_just_42 rfl ?_
            refine X_callVI dX12_just_43 mkX12_381 (k_87 hSh) (c_wantAt Γ g (up2 mi 87 0 (nI 0)) ml hSh A hA (RW_I hA hR RW_0).1 (nI i)) rfl rfl (by decide) (Nat.le_of_ble_eq_true rfl) ?_
            refine X_aload_n dX12_just_46 rfl ?_
            refine X_getr (a := 91) dX12_just_47 fkX12_23 rfl (k_87 hSh) (r_87_12 hSh) ?_
            refine X_iconst (v := nI 0) dX12_just_50 (by decide) ?_
            refine X_iald 0 dX12_just_51 (k_91 hSh) rfl (by first | omega | (have q9 := wantN_le (A := A) (p := nI i); omega)) ?_
            rw [((congrFun (up2_row (by omega)) _).trans hR.1.1)]
            refine X_icmp_neN (a := wantN (aP A) (nI i)) (b := (aP A).1) 67 dX12_just_52 (by decide) (by first | omega | (have q9 := wantN_le (A := A) (p := nI i); omega)) (by first | omega | (have q9 := wantN_le (A := A) (p := nI i); omega)) (fun h_4 => ?_) (fun h_4 => ?_)
            · refine X_iinc (v := nI (i + 1)) dX12_just_67 rfl (nI_1 _) (by decide) ?_
              refine X_goto 34 dX12_just_70 (by decide) ?_
              refine X_L [(3, .int (nI (i + 1))), (2, .int (-1)), (0, .ref 87), (1, .int (nI 0))] ⟨rfl, rfl, rfl, rfl, trivial⟩ ?_
              refine X_L [(3, .int (nI (i + 1))), (2, .int (oI (fE (juP A) (i + 1)))), (0, .ref 87), (1, .int (nI 0))] ⟨rfl, by first | (rw [fE_st hq (decide_eq_true (by assumption) : juP A i = true)]; rfl) | (rw [fE_sf hq (decide_eq_false (by assumption) : juP A i = false)]; rfl), rfl, rfl, trivial⟩ ?_
              exact hn () trivial
            · refine X_iload_n dX12_just_55 rfl ?_
              refine X_iconst (v := -1) dX12_just_56 (by decide) ?_
              refine X_icmp_eq 65 dX12_just_57 (by decide) (fun h_5 => ?_) (fun h_5 => ?_)
              · refine X_iload_n dX12_just_65 rfl ?_
                refine X_istore_n dX12_just_66 (by decide) ?_
                refine X_iinc (v := nI (i + 1)) dX12_just_67 rfl (nI_1 _) (by decide) ?_
                refine X_goto 34 dX12_just_70 (by decide) ?_
                refine X_L [(3, .int (nI (i + 1))), (2, .int (nI i)), (0, .ref 87), (1, .int (nI 0))] ⟨rfl, rfl, rfl, rfl, trivial⟩ ?_
                refine X_L [(3, .int (nI (i + 1))), (2, .int (oI (fE (juP A) (i + 1)))), (0, .ref 87), (1, .int (nI 0))] ⟨rfl, by first | (rw [fE_st hq (decide_eq_true (by assumption) : juP A i = true)]; rfl) | (rw [fE_sf hq (decide_eq_false (by assumption) : juP A i = false)]; rfl), rfl, rfl, trivial⟩ ?_
                exact hn () trivial
              · exact absurd rfl h_5
        | some e =>
          have he := (fE_i hq).1
          refine X_iload_n dX12_just_34 rfl ?_
          refine X_sipush (v := nI 999) dX12_just_35 (by decide) ?_
          refine X_icmp_gtN (a := i) (b := 999) 73 dX12_just_38 (by decide) (by first | omega | (have q9 := wantN_le (A := A) (p := nI i); omega)) (by first | omega | (have q9 := wantN_le (A := A) (p := nI i); omega)) (fun h_6 => ?_) (fun h_6 => ?_)
          · exact absurd h_6 (by omega)
          · refine X_aload_n dX12_just_41 rfl ?_
            refine X_iload_n dX12_just_42 rfl ?_
            refine X_callVI dX12_just_43 mkX12_381 (k_87 hSh) (c_wantAt Γ g (up2 mi 87 0 (nI 0)) ml hSh A hA (RW_I hA hR RW_0).1 (nI i)) rfl rfl (by decide) (Nat.le_of_ble_eq_true rfl) ?_
            refine X_aload_n dX12_just_46 rfl ?_
            refine X_getr (a := 91) dX12_just_47 fkX12_23 rfl (k_87 hSh) (r_87_12 hSh) ?_
            refine X_iconst (v := nI 0) dX12_just_50 (by decide) ?_
            refine X_iald 0 dX12_just_51 (k_91 hSh) rfl (by first | omega | (have q9 := wantN_le (A := A) (p := nI i); omega)) ?_
            rw [((congrFun (up2_row (by omega)) _).trans hR.1.1)]
            refine X_icmp_neN (a := wantN (aP A) (nI i)) (b := (aP A).1) 67 dX12_just_52 (by decide) (by first | omega | (have q9 := wantN_le (A := A) (p := nI i); omega)) (by first | omega | (have q9 := wantN_le (A := A) (p := nI i); omega)) (fun h_7 => ?_) (fun h_7 => ?_)
            · refine X_iinc (v := nI (i + 1)) dX12_just_67 rfl (nI_1 _) (by decide) ?_
              refine X_goto 34 dX12_just_70 (by decide) ?_
              refine X_L [(3, .int (nI (i + 1))), (2, .int (nI e)), (0, .ref 87), (1, .int (nI 0))] ⟨rfl, rfl, rfl, rfl, trivial⟩ ?_
              refine X_L [(3, .int (nI (i + 1))), (2, .int (oI (fE (juP A) (i + 1)))), (0, .ref 87), (1, .int (nI 0))] ⟨rfl, by first | (rw [fE_ss hq]; rfl), rfl, rfl, trivial⟩ ?_
              exact hn () trivial
            · refine X_iload_n dX12_just_55 rfl ?_
              refine X_iconst (v := -1) dX12_just_56 (by decide) ?_
              refine X_icmp_eq 65 dX12_just_57 (by decide) (fun h_8 => ?_) (fun h_8 => ?_)
              · exact absurd h_8 (nI_m1 (by first | omega | (have q9 := wantN_le (A := A) (p := nI i); omega)))
              · refine X_iload_n dX12_just_60 rfl ?_
                refine X_iconst (v := nI 1) dX12_just_61 (by decide) ?_
                refine X_icmp_neN (a := 0) (b := 1) 67 dX12_just_62 (by decide) (by first | omega | (have q9 := wantN_le (A := A) (p := nI i); omega)) (by first | omega | (have q9 := wantN_le (A := A) (p := nI i); omega)) (fun h_9 => ?_) (fun h_9 => ?_)
                · refine X_iinc (v := nI (i + 1)) dX12_just_67 rfl (nI_1 _) (by decide) ?_
                  refine X_goto 34 dX12_just_70 (by decide) ?_
                  refine X_L [(3, .int (nI (i + 1))), (2, .int (nI e)), (0, .ref 87), (1, .int (nI 0))] ⟨rfl, rfl, rfl, rfl, trivial⟩ ?_
                  refine X_L [(3, .int (nI (i + 1))), (2, .int (oI (fE (juP A) (i + 1)))), (0, .ref 87), (1, .int (nI 0))] ⟨rfl, by first | (rw [fE_ss hq]; rfl), rfl, rfl, trivial⟩ ?_
                  exact hn () trivial
                · exact absurd h_9 (by omega)
      · intro u hI
        refine X_iload_n dX12_just_34 rfl ?_
        refine X_sipush (v := nI 999) dX12_just_35 (by decide) ?_
        refine X_icmp_gtN (a := 1000) (b := 999) 73 dX12_just_38 (by decide) (by first | omega | (have q9 := wantN_le (A := A) (p := nI i); omega)) (by first | omega | (have q9 := wantN_le (A := A) (p := nI i); omega)) (fun h_10 => ?_) (fun h_10 => ?_)
        · refine X_iload_n dX12_just_73 rfl ?_
          exact X_iret dX12_just_74 rfl ⟨rfl, rfl, RW_I hA hR (show RW mi (up2 mi 87 0 (nI 0)) from RW_0), (show RW mi (up2 mi 87 0 (nI 0)) from RW_0).2.1, _, rfl, rfl, (show RW mi (up2 mi 87 0 (nI 0)) from RW_0).2.2⟩
        · exact absurd h_10 (by omega)
    · exact absurd h_2 (by omega)
  · exact absurd h_1 (by omega)
set_option maxRecDepth 100000 in
set_option maxHeartbeats 4000000 in
theorem k_just_1 (Γ : pTG) (g : pGG) (mi : pMI) (ml : pML) (A : AS) (hA : okAS A) (hC : CI A g mi ml)  : CT Γ 60 20 5000 mX11_just [.ref 0, .int (nI 1)] g mi ml (CQ A (.inl (oI (laN (juP A) 1000))) mi ml) := by
  refine CT_of (by decide +kernel) (Nat.le_of_ble_eq_true rfl) ?_
  have hSh := CI_Sh hC
  have hcl := CI_cl hC
  have hP := hA.1
  have hG8 : aG A ≤ 8 := hP.2.1
  have hC8 : (aP A).1 ≤ 8 := hP.1
  refine X_aload_n dX11_just_0 rfl ?_
  refine X_iload_n dX11_just_1 rfl ?_
  refine X_iconst (v := nI 0) dX11_just_2 (by decide) ?_
  refine X_iconst (v := nI 1) dX11_just_3 (by decide) ?_
  refine X_need dX11_just_4 mkX11_116 (k_0 hSh) (c_needWithin Γ g mi ml hSh (nI 1) (nI 0) (nI 1)) rfl rfl (by decide) (by decide) (by decide) (by decide) (fun h => absurd (by decide) h) (fun _ => ?_)
  refine X_aload_n dX11_just_7 rfl ?_
  refine X_getr (a := 77) dX11_just_8 fkX11_84 rfl (k_0 hSh) (r_0_11 hSh) ?_
  refine X_callVrV dX11_just_11 mkX11_307 (k_77 hSh) (c_learnK Γ g mi ml A hA hC) rfl rfl (by decide) (Nat.le_of_ble_eq_true rfl) (fun m2 l2 hm2 => ?_)
  obtain ⟨hC2, hgo, hg4, hfG, hl2⟩ := hm2
  rw [hl2] at hC2 ⊢
  refine X_iconst (v := nI 0) dX11_just_14 (by decide) ?_
  refine X_istore_n dX11_just_15 (by decide) ?_
  refine X_L [(2, .int (nI 0)), (0, .ref 0), (1, .int (nI 1))] ⟨rfl, rfl, rfl, trivial⟩ ?_
  refine X_forE 16 (fun i => [(2, .int (nI i)), (0, .ref 0), (1, .int (nI 1))]) (fun i => juP A (999 - i)) 1000 (fun i hi h0 => ⟨fun hp => ?_, fun hp hk => ?_⟩) (fun hz => ?_) 1000 0 (by omega) (fun b hb => absurd hb (by omega))
  · skip
    refine X_iload_n dX11_just_16 rfl ?_
    refine X_sipush (v := nI 999) dX11_just_17 (by decide) ?_
    refine X_icmp_gtN (a := i) (b := 999) 63 dX11_just_20 (by decide) (by first | omega | (have q9 := wantN_le (A := A) (p := nI (999 - i)); omega)) (by first | omega | (have q9 := wantN_le (A := A) (p := nI (999 - i)); omega)) (fun h_1 => ?_) (fun h_1 => ?_)
    · exact absurd h_1 (by omega)
    · refine X_iload_n dX11_just_23 rfl ?_
      refine X_if_neN (a := 1) 31 dX11_just_24 (by decide) (by first | omega | (have q9 := wantN_le (A := A) (p := nI (999 - i)); omega)) (fun h_2 => ?_) (fun h_2 => ?_)
      · refine X_sipush (v := nI 999) dX11_just_31 (by decide) ?_
        refine X_iload_n dX11_just_34 rfl ?_
        refine X_isub dX11_just_35 ?_
        refine X_topi (pk_sub (a := 999) (b := i) (by first | omega | (have q9 := wantN_le (A := A) (p := nI (999 - i)); omega))) ?_
        refine X_istore_n dX11_just_36 (by decide) ?_
        refine X_aload_n dX11_just_37 rfl ?_
        refine X_getr (a := 77) dX11_just_38 fkX11_84 rfl (k_0 hSh) (r_0_11 hSh) ?_
        refine X_iload_n dX11_just_41 rfl ?_
        refine X_callVI dX11_just_42 mkX11_319 (k_77 hSh) (c_takersAt Γ g m2 ml hSh (aP A) hP (CI_cl hC2) hgo.1 (nI (999 - i)) (m1_lt (by omega))) rfl rfl (by decide) (Nat.le_of_ble_eq_true rfl) ?_
        refine X_aload_n dX11_just_45 rfl ?_
        refine X_getr (a := 3) dX11_just_46 fkX11_25 rfl (k_0 hSh) (r_0_2 hSh) ?_
        refine X_geti dX11_just_49 fkX11_172 rfl (k_3 hSh) ?_
        rw [(CI_cl hC2).1]
        refine X_icmp_neN (a := wantN (aP A) (nI (999 - i))) (b := (aP A).1) 57 dX11_just_52 (by decide) (by first | omega | (have q9 := wantN_le (A := A) (p := nI (999 - i)); omega)) (by first | omega | (have q9 := wantN_le (A := A) (p := nI (999 - i)); omega)) (fun h_3 => ?_) (fun h_3 => ?_)
        · exact absurd (of_decide_eq_true hp) h_3
        · refine X_iload_n dX11_just_55 rfl ?_
          exact X_iret dX11_just_56 rfl ⟨congrArg (fun z => Sum.inl (some (Value.int z))) ((by rw [la_s (p := juP A) (j := 999 - i) hp 1000 (by omega) (fun q h1 h2 => by have := h0 (999 - q) (by omega); rwa [show 999 - (999 - q) = q by omega] at this)]; rfl)), hC2, frG_K hfG, rfl⟩
      · exact absurd h_2 (by omega)
  · skip
    refine X_iload_n dX11_just_16 rfl ?_
    refine X_sipush (v := nI 999) dX11_just_17 (by decide) ?_
    refine X_icmp_gtN (a := i) (b := 999) 63 dX11_just_20 (by decide) (by first | omega | (have q9 := wantN_le (A := A) (p := nI (999 - i)); omega)) (by first | omega | (have q9 := wantN_le (A := A) (p := nI (999 - i)); omega)) (fun h_4 => ?_) (fun h_4 => ?_)
    · exact absurd h_4 (by omega)
    · refine X_iload_n dX11_just_23 rfl ?_
      refine X_if_neN (a := 1) 31 dX11_just_24 (by decide) (by first | omega | (have q9 := wantN_le (A := A) (p := nI (999 - i)); omega)) (fun h_5 => ?_) (fun h_5 => ?_)
      · refine X_sipush (v := nI 999) dX11_just_31 (by decide) ?_
        refine X_iload_n dX11_just_34 rfl ?_
        refine X_isub dX11_just_35 ?_
        refine X_topi (pk_sub (a := 999) (b := i) (by first | omega | (have q9 := wantN_le (A := A) (p := nI (999 - i)); omega))) ?_
        refine X_istore_n dX11_just_36 (by decide) ?_
        refine X_aload_n dX11_just_37 rfl ?_
        refine X_getr (a := 77) dX11_just_38 fkX11_84 rfl (k_0 hSh) (r_0_11 hSh) ?_
        refine X_iload_n dX11_just_41 rfl ?_
        refine X_callVI dX11_just_42 mkX11_319 (k_77 hSh) (c_takersAt Γ g m2 ml hSh (aP A) hP (CI_cl hC2) hgo.1 (nI (999 - i)) (m1_lt (by omega))) rfl rfl (by decide) (Nat.le_of_ble_eq_true rfl) ?_
        refine X_aload_n dX11_just_45 rfl ?_
        refine X_getr (a := 3) dX11_just_46 fkX11_25 rfl (k_0 hSh) (r_0_2 hSh) ?_
        refine X_geti dX11_just_49 fkX11_172 rfl (k_3 hSh) ?_
        rw [(CI_cl hC2).1]
        refine X_icmp_neN (a := wantN (aP A) (nI (999 - i))) (b := (aP A).1) 57 dX11_just_52 (by decide) (by first | omega | (have q9 := wantN_le (A := A) (p := nI (999 - i)); omega)) (by first | omega | (have q9 := wantN_le (A := A) (p := nI (999 - i)); omega)) (fun h_6 => ?_) (fun h_6 => ?_)
        · refine X_iinc (v := nI (i + 1)) dX11_just_57 rfl (nI_1 _) (by decide) ?_
          refine X_goto 16 dX11_just_60 (by decide) ?_
          refine X_L [(2, .int (nI (i + 1))), (0, .ref 0), (1, .int (nI 1))] ⟨rfl, rfl, rfl, trivial⟩ ?_
          exact hk
        · exact absurd h_6 (of_decide_eq_false hp)
      · exact absurd h_5 (by omega)
  · skip
    refine X_iload_n dX11_just_16 rfl ?_
    refine X_sipush (v := nI 999) dX11_just_17 (by decide) ?_
    refine X_icmp_gtN (a := 1000) (b := 999) 63 dX11_just_20 (by decide) (by first | omega | (have q9 := wantN_le (A := A) (p := nI (999 - i)); omega)) (by first | omega | (have q9 := wantN_le (A := A) (p := nI (999 - i)); omega)) (fun h_7 => ?_) (fun h_7 => ?_)
    · refine X_iconst (v := -1) dX11_just_63 (by decide) ?_
      exact X_iret dX11_just_64 rfl ⟨congrArg (fun z => Sum.inl (some (Value.int z))) ((by rw [la_n 1000 (fun q h2 => by have := hz (999 - q) (by omega); rwa [show 999 - (999 - q) = q by omega] at this)]; rfl)), hC2, frG_K hfG, rfl⟩
    · exact absurd h_7 (by omega)
set_option maxRecDepth 100000 in
set_option maxHeartbeats 4000000 in
theorem r_just_1 (Γ : pTG) (g : pGG) (mi : pMI) (ml : pML) (A : AS) (hA : okAS A) (hSh : Sh g) (hR : RI A mi)  : CT Γ 60 0 0 mX12_just [.ref 87, .int (nI 1)] g mi ml (RQ A (.inl (oI (laN (juP A) 1000))) cd1 g mi ml) := by
  refine CT_of (by decide +kernel) (Nat.le_of_ble_eq_true rfl) ?_
  have hP := hA.1
  have hG8 : aG A ≤ 8 := hP.2.1
  have hC8 : (aP A).1 ≤ 8 := hP.1
  refine X_aload_n dX12_just_0 rfl ?_
  refine X_iconst (v := nI 0) dX12_just_1 (by decide) ?_
  refine X_puti dX12_just_2 fkX12_158 rfl rfl (k_87 hSh) ?_
  refine X_aload_n dX12_just_5 rfl ?_
  refine X_iload_n dX12_just_6 rfl ?_
  refine X_iconst (v := nI 0) dX12_just_7 (by decide) ?_
  refine X_iconst (v := nI 1) dX12_just_8 (by decide) ?_
  refine X_callSI dX12_just_9 mkX12_192 (c_in Γ g (up2 mi 87 0 (nI 0)) ml (nI 1) (nI 0) (nI 1)) rfl rfl (by decide) (Nat.le_of_ble_eq_true rfl) ?_
  refine X_topi (show bI (decide (nI 0 ≤ nI 1) && decide (nI 1 ≤ nI 1)) = nI 1 from congrArg bI (show (decide (nI 0 ≤ nI 1) && decide (nI 1 ≤ nI 1)) = true from by decide)) ?_
  refine X_if_neN (a := 1) 19 dX12_just_12 (by decide) (by first | omega | (have q9 := wantN_le (A := A) (p := nI i); omega)) (fun h_1 => ?_) (fun h_1 => ?_)
  · refine X_iconst (v := nI 0) dX12_just_19 (by decide) ?_
    refine X_iconst (v := nI 1) dX12_just_20 (by decide) ?_
    refine X_iconst (v := nI 1) dX12_just_21 (by decide) ?_
    refine X_callVI dX12_just_22 mkX12_228 (k_87 hSh) (c_bad0 Γ g (up2 mi 87 0 (nI 0)) ml hSh 1 1 up2_s) rfl rfl (by decide) (Nat.le_of_ble_eq_true rfl) ?_
    refine X_if_eqN (a := 0) 30 dX12_just_25 (by decide) (by first | omega | (have q9 := wantN_le (A := A) (p := nI i); omega)) (fun h_2 => ?_) (fun h_2 => ?_)
    · refine X_iconst (v := -1) dX12_just_30 (by decide) ?_
      refine X_istore_n dX12_just_31 (by decide) ?_
      refine X_iconst (v := nI 0) dX12_just_32 (by decide) ?_
      refine X_istore_n dX12_just_33 (by decide) ?_
      refine X_L [(3, .int (nI 0)), (2, .int (-1)), (0, .ref 87), (1, .int (nI 1))] ⟨rfl, rfl, rfl, rfl, trivial⟩ ?_
      refine X_L [(3, .int (nI (0))), (2, .int (oI (laN (juP A) (0)))), (0, .ref 87), (1, .int (nI 1))] ⟨rfl, rfl, rfl, rfl, trivial⟩ ?_
      refine X_forR (σ := Unit) 34 (fun i u => [(3, .int (nI (i))), (2, .int (oI (laN (juP A) (i)))), (0, .ref 87), (1, .int (nI 1))]) (fun u => (up2 mi 87 0 (nI 0))) (fun u => ml) (fun i u => True) 1000 ?_ ?_ 1000 0 () (by omega) trivial
      · intro i u hi hI hn
        refine X_iload_n dX12_just_34 rfl ?_
        refine X_sipush (v := nI 999) dX12_just_35 (by decide) ?_
        refine X_icmp_gtN (a := i) (b := 999) 73 dX12_just_38 (by decide) (by first | omega | (have q9 := wantN_le (A := A) (p := nI i); omega)) (by first | omega | (have q9 := wantN_le (A := A) (p := nI i); omega)) (fun h_3 => ?_) (fun h_3 => ?_)
        · exact absurd h_3 (by omega)
        · refine X_aload_n dX12_just_41 rfl ?_
          refine X_iload_n dX12_just_42 rfl ?_
          refine X_callVI dX12_just_43 mkX12_381 (k_87 hSh) (c_wantAt Γ g (up2 mi 87 0 (nI 0)) ml hSh A hA (RW_I hA hR RW_0).1 (nI i)) rfl rfl (by decide) (Nat.le_of_ble_eq_true rfl) ?_
          refine X_aload_n dX12_just_46 rfl ?_
          refine X_getr (a := 91) dX12_just_47 fkX12_23 rfl (k_87 hSh) (r_87_12 hSh) ?_
          refine X_iconst (v := nI 0) dX12_just_50 (by decide) ?_
          refine X_iald 0 dX12_just_51 (k_91 hSh) rfl (by first | omega | (have q9 := wantN_le (A := A) (p := nI i); omega)) ?_
          rw [((congrFun (up2_row (by omega)) _).trans hR.1.1)]
          refine X_icmp_neN (a := wantN (aP A) (nI i)) (b := (aP A).1) 67 dX12_just_52 (by decide) (by first | omega | (have q9 := wantN_le (A := A) (p := nI i); omega)) (by first | omega | (have q9 := wantN_le (A := A) (p := nI i); omega)) (fun h_4 => ?_) (fun h_4 => ?_)
          · refine X_iinc (v := nI (i + 1)) dX12_just_67 rfl (nI_1 _) (by decide) ?_
            refine X_goto 34 dX12_just_70 (by decide) ?_
            refine X_L [(3, .int (nI (i + 1))), (2, .int (oI (laN (juP A) i))), (0, .ref 87), (1, .int (nI 1))] ⟨rfl, rfl, rfl, rfl, trivial⟩ ?_
            refine X_L [(3, .int (nI (i + 1))), (2, .int (oI (laN (juP A) (i + 1)))), (0, .ref 87), (1, .int (nI 1))] ⟨rfl, by first | (rw [show laN (juP A) (i + 1) = some i from if_pos (decide_eq_true (by assumption) : juP A i = true)]; rfl) | (rw [show laN (juP A) (i + 1) = laN (juP A) i from if_neg (Bool.eq_false_iff.mp (decide_eq_false (by assumption) : juP A i = false))]; rfl), rfl, rfl, trivial⟩ ?_
            exact hn () trivial
          · refine X_iload_n dX12_just_55 rfl ?_
            refine X_iconst (v := -1) dX12_just_56 (by decide) ?_
            refine X_icmp_eq 65 dX12_just_57 (by decide) (fun h_5 => ?_) (fun h_5 => ?_)
            · refine X_iload_n dX12_just_65 rfl ?_
              refine X_istore_n dX12_just_66 (by decide) ?_
              refine X_iinc (v := nI (i + 1)) dX12_just_67 rfl (nI_1 _) (by decide) ?_
              refine X_goto 34 dX12_just_70 (by decide) ?_
              refine X_L [(3, .int (nI (i + 1))), (2, .int (nI i)), (0, .ref 87), (1, .int (nI 1))] ⟨rfl, rfl, rfl, rfl, trivial⟩ ?_
              refine X_L [(3, .int (nI (i + 1))), (2, .int (oI (laN (juP A) (i + 1)))), (0, .ref 87), (1, .int (nI 1))] ⟨rfl, by first | (rw [show laN (juP A) (i + 1) = some i from if_pos (decide_eq_true (by assumption) : juP A i = true)]; rfl) | (rw [show laN (juP A) (i + 1) = laN (juP A) i from if_neg (Bool.eq_false_iff.mp (decide_eq_false (by assumption) : juP A i = false))]; rfl), rfl, rfl, trivial⟩ ?_
              exact hn () trivial
            · refine X_iload_n dX12_just_60 rfl ?_
              refine X_iconst (v := nI 1) dX12_just_61 (by decide) ?_
              refine X_icmp_neN (a := 1) (b := 1) 67 dX12_just_62 (by decide) (by first | omega | (have q9 := wantN_le (A := A) (p := nI i); omega)) (by first | omega | (have q9 := wantN_le (A := A) (p := nI i); omega)) (fun h_6 => ?_) (fun h_6 => ?_)
              · exact absurd h_6 (by omega)
              · refine X_iload_n dX12_just_65 rfl ?_
                refine X_istore_n dX12_just_66 (by decide) ?_
                refine X_iinc (v := nI (i + 1)) dX12_just_67 rfl (nI_1 _) (by decide) ?_
                refine X_goto 34 dX12_just_70 (by decide) ?_
                refine X_L [(3, .int (nI (i + 1))), (2, .int (nI i)), (0, .ref 87), (1, .int (nI 1))] ⟨rfl, rfl, rfl, rfl, trivial⟩ ?_
                refine X_L [(3, .int (nI (i + 1))), (2, .int (oI (laN (juP A) (i + 1)))), (0, .ref 87), (1, .int (nI 1))] ⟨rfl, by first | (rw [show laN (juP A) (i + 1) = some i from if_pos (decide_eq_true (by assumption) : juP A i = true)]; rfl) | (rw [show laN (juP A) (i + 1) = laN (juP A) i from if_neg (Bool.eq_false_iff.mp (decide_eq_false (by assumption) : juP A i = false))]; rfl), rfl, rfl, trivial⟩ ?_
                exact hn () trivial
      · intro u hI
        refine X_iload_n dX12_just_34 rfl ?_
        refine X_sipush (v := nI 999) dX12_just_35 (by decide) ?_
        refine X_icmp_gtN (a := 1000) (b := 999) 73 dX12_just_38 (by decide) (by first | omega | (have q9 := wantN_le (A := A) (p := nI i); omega)) (by first | omega | (have q9 := wantN_le (A := A) (p := nI i); omega)) (fun h_7 => ?_) (fun h_7 => ?_)
        · refine X_iload_n dX12_just_73 rfl ?_
          exact X_iret dX12_just_74 rfl ⟨rfl, rfl, RW_I hA hR (show RW mi (up2 mi 87 0 (nI 0)) from RW_0), (show RW mi (up2 mi 87 0 (nI 0)) from RW_0).2.1, _, rfl, rfl, (show RW mi (up2 mi 87 0 (nI 0)) from RW_0).2.2⟩
        · exact absurd h_7 (by omega)
    · exact absurd h_2 (by omega)
  · exact absurd h_1 (by omega)
theorem m_just (A : AS) (hA : okAS A) (w : Int32) : MOK mX11_just mX12_just cd1 [.int w] A := by
  by_cases hg0 : nI 0 ≤ w ∧ w ≤ nI 1
  · obtain ⟨k, hka, hk, rfl⟩ := (wi_iff (by decide) (by decide)).mp hg0
    have hkk : k < 2 := by omega
    match k, hkk with
    | 0, _ => exact ⟨.inl (oI (fE (juP A) 1000)), A, hA, fun j h => (by cases h), fun Γ g m l hC => k_just_0 Γ g m l A hA hC, fun Γ g m l hSh hR => r_just_0 Γ g m l A hA hSh hR⟩
    | 1, _ => exact ⟨.inl (oI (laN (juP A) 1000)), A, hA, fun j h => (by cases h), fun Γ g m l hC => k_just_1 Γ g m l A hA hC, fun Γ g m l hSh hR => r_just_1 Γ g m l A hA hSh hR⟩
  · exact ⟨.inr 1, rfA A 1, ok_rf hA, fun j h => by cases h; decide, fun Γ g m l hC => k_just_f0 Γ g m l A hA hC w hg0, fun Γ g m l hSh hR => r_just_f0 Γ g m l A hA hSh hR w hg0⟩

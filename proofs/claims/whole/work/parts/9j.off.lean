/-! ===== off, lot, lucky, summer ===== -/
def ofT (A : AS) (u : Nat) : Int32 := sumN (fun b => (DY (aP A) (mrn (aP A) (aH A) (aD A)) id id u).1 200 b) (aG A)
def ofP (A : AS) : Nat → Int32 × Int32
  | 0 => (-1, -1)
  | n + 1 => if (ofP A n).2 < ofT A (n + 1) then (nI (n + 1), ofT A (n + 1)) else ofP A n
theorem ofT_ok {A : AS} (hA : okAS A) (u : Nat) : ∃ q, q < 100000 ∧ ofT A u = nI q := by
  have hG8 : aG A ≤ 8 := hA.1.2.1
  obtain ⟨q, h1, h2⟩ := sum_ok (f := fun b => (DY (aP A) (mrn (aP A) (aH A) (aD A)) id id u).1 200 b) (K := 1728) (aG A) (fun b hb => got_ok hA.1 b (by omega))
  have := Nat.mul_le_mul_left 1728 hG8
  exact ⟨q, by omega, h2⟩
theorem of_1 {A : AS} (hA : okAS A) : ofP A 1 = (nI 1, ofT A 1) := by
  obtain ⟨q, h1, h2⟩ := ofT_ok hA 1
  refine if_pos ?_
  show (-1 : Int32) < ofT A 1
  rw [h2]
  exact Int32.lt_iff_toInt_lt.mpr (by rw [nI_toInt (by omega)]; show (-1 : Int) < _; omega)
theorem of_i {A : AS} (hA : okAS A) : ∀ n, ∃ q, q < n + 2 ∧ (ofP A (n + 1)).1 = nI q
  | 0 => ⟨1, by omega, by rw [of_1 hA]⟩
  | n + 1 => by
    obtain ⟨q, h1, h2⟩ := of_i hA n
    show ∃ q, q < n + 1 + 2 ∧ (if (ofP A (n + 1)).2 < ofT A (n + 2) then (nI (n + 2), ofT A (n + 2)) else ofP A (n + 1)).1 = nI q
    by_cases h : (ofP A (n + 1)).2 < ofT A (n + 2)
    · rw [if_pos h]; exact ⟨n + 2, by omega, rfl⟩
    · rw [if_neg h]; exact ⟨q, by omega, h2⟩
theorem of_up {A : AS} {j : Nat} (h : (ofP A j).2 < ofT A (j + 1)) : ofP A (j + 1) = (nI (j + 1), ofT A (j + 1)) := if_pos h
theorem of_no {A : AS} {j : Nat} (h : ¬ (ofP A j).2 < ofT A (j + 1)) : ofP A (j + 1) = ofP A j := if_neg h
set_option maxRecDepth 100000 in
set_option maxHeartbeats 4000000 in
theorem k_off_f0 (Γ : pTG) (g : pGG) (mi : pMI) (ml : pML) (A : AS) (hA : okAS A) (hC : CI A g mi ml) (w : Int32) (hf : ¬ (nI 0 ≤ w ∧ w ≤ nI 1)) : CT Γ 60 20 5000 mX11_off [.ref 0, .int w] g mi ml (CQ (rfA A 1) (.inr 1) mi ml) := by
  refine CT_of (by decide +kernel) (Nat.le_of_ble_eq_true rfl) ?_
  have hSh := CI_Sh hC
  have hcl := CI_cl hC
  have hP := hA.1
  have hG8 : aG A ≤ 8 := hP.2.1
  have hC8 : (aP A).1 ≤ 8 := hP.1
  refine X_aload_n dX11_off_0 rfl ?_
  refine X_iload_n dX11_off_1 rfl ?_
  refine X_iconst (v := nI 0) dX11_off_2 (by decide) ?_
  refine X_iconst (v := nI 1) dX11_off_3 (by decide) ?_
  exact X_need dX11_off_4 mkX11_116 (k_0 hSh) (c_needWithin Γ g mi ml hSh w (nI 0) (nI 1)) rfl rfl (by decide) (by decide) (by decide) (by decide) (fun _ => ⟨rfl, CI_rf (by decide) hC, frK_86, rfl⟩) (fun h => absurd h hf)
set_option maxRecDepth 100000 in
set_option maxHeartbeats 4000000 in
theorem r_off_f0 (Γ : pTG) (g : pGG) (mi : pMI) (ml : pML) (A : AS) (hA : okAS A) (hSh : Sh g) (hR : RI A mi) (w : Int32) (hf : ¬ (nI 0 ≤ w ∧ w ≤ nI 1)) : CT Γ 60 0 0 mX12_off [.ref 87, .int w] g mi ml (RQ (rfA A 1) (.inr 1) cd1 g mi ml) := by
  refine CT_of (by decide +kernel) (Nat.le_of_ble_eq_true rfl) ?_
  have hP := hA.1
  have hG8 : aG A ≤ 8 := hP.2.1
  have hC8 : (aP A).1 ≤ 8 := hP.1
  refine X_aload_n dX12_off_0 rfl ?_
  refine X_iconst (v := nI 0) dX12_off_1 (by decide) ?_
  refine X_puti dX12_off_2 fkX12_158 rfl rfl (k_87 hSh) ?_
  refine X_aload_n dX12_off_5 rfl ?_
  refine X_iload_n dX12_off_6 rfl ?_
  refine X_iconst (v := nI 0) dX12_off_7 (by decide) ?_
  refine X_iconst (v := nI 1) dX12_off_8 (by decide) ?_
  refine X_callSI dX12_off_9 mkX12_192 (c_in Γ g (up2 mi 87 0 (nI 0)) ml w (nI 0) (nI 1)) rfl rfl (by decide) (Nat.le_of_ble_eq_true rfl) ?_
  refine X_topi (show bI (decide (nI 0 ≤ w) && decide (w ≤ nI 1)) = nI 0 from congrArg bI (show (decide (nI 0 ≤ w) && decide (w ≤ nI 1)) = false from Bool.eq_false_iff.mpr (fun q => hf (by rw [Bool.and_eq_true, decide_eq_true_eq, decide_eq_true_eq] at q; exact q)))) ?_
  refine X_if_neN (a := 0) 19 dX12_off_12 (by decide) (by omega) (fun h_1 => ?_) (fun h_1 => ?_)
  · exact absurd h_1 (by omega)
  · refine X_iconst (v := nI 1) dX12_off_15 (by decide) ?_
    refine X_goto 20 dX12_off_16 (by decide) ?_
    refine X_iconst (v := nI 1) dX12_off_20 (by decide) ?_
    refine X_iconst (v := nI 1) dX12_off_21 (by decide) ?_
    refine X_callVI dX12_off_22 mkX12_228 (k_87 hSh) (c_bad1 Γ g (up2 mi 87 0 (nI 0)) ml hSh 1 1 (by decide) (by decide) (by decide) up2_s) rfl rfl (by decide) (Nat.le_of_ble_eq_true rfl) ?_
    refine X_mi (show _ = mB mi 1 1 from rfl) ?_
    refine X_if_eqN (a := 1) 30 dX12_off_25 (by decide) (by omega) (fun h_2 => ?_) (fun h_2 => ?_)
    · exact absurd h_2 (by omega)
    · refine X_iconst (v := nI 0) dX12_off_28 (by decide) ?_
      exact X_iret dX12_off_29 rfl ⟨rfl, rfl, RI_rf hA (by decide) hR, fr2_B, _, rfl, mB_0⟩
set_option maxRecDepth 100000 in
set_option maxHeartbeats 4000000 in
theorem k_off_0 (Γ : pTG) (g : pGG) (mi : pMI) (ml : pML) (A : AS) (hA : okAS A) (hC : CI A g mi ml)  : CT Γ 60 20 5000 mX11_off [.ref 0, .int (nI 0)] g mi ml (CQ A (.inl (ofP A 23).1) mi ml) := by
  refine CT_of (by decide +kernel) (Nat.le_of_ble_eq_true rfl) ?_
  have hSh := CI_Sh hC
  have hcl := CI_cl hC
  have hP := hA.1
  have hG8 : aG A ≤ 8 := hP.2.1
  have hC8 : (aP A).1 ≤ 8 := hP.1
  refine X_aload_n dX11_off_0 rfl ?_
  refine X_iload_n dX11_off_1 rfl ?_
  refine X_iconst (v := nI 0) dX11_off_2 (by decide) ?_
  refine X_iconst (v := nI 1) dX11_off_3 (by decide) ?_
  refine X_need dX11_off_4 mkX11_116 (k_0 hSh) (c_needWithin Γ g mi ml hSh (nI 0) (nI 0) (nI 1)) rfl rfl (by decide) (by decide) (by decide) (by decide) (fun h => absurd (by decide) h) (fun _ => ?_)
  refine X_aload_n dX11_off_7 rfl ?_
  refine X_getr (a := 27) dX11_off_8 fkX11_60 rfl (k_0 hSh) (r_0_7 hSh) ?_
  refine X_aload_n dX11_off_11 rfl ?_
  refine X_geti dX11_off_12 fkX11_138 rfl (k_0 hSh) ?_
  rw [(CI_k hC).2.1]
  refine X_callVrV dX11_off_15 mkX11_262 (k_27 hSh) (c_reachK Γ g mi ml A hA hC (aD A) hA.2.2.2.2.1) rfl rfl (by decide) (Nat.le_of_ble_eq_true rfl) (fun m1 l1 hm1 => ?_)
  obtain ⟨⟨r, hrd, hr⟩, hk1, hl1⟩ := hm1
  have hC1 := CIr_CI hr
  refine X_aload_n dX11_off_18 rfl ?_
  refine X_getr (a := 27) dX11_off_19 fkX11_60 rfl (k_0 hSh) (r_0_7 hSh) ?_
  refine X_aload_n dX11_off_22 rfl ?_
  refine X_geti dX11_off_23 fkX11_138 rfl (k_0 hSh) ?_
  rw [(CI_k hC1).2.1]
  refine X_aload_n dX11_off_26 rfl ?_
  refine X_getr (a := 84) dX11_off_27 fkX11_95 rfl (k_0 hSh) (r_0_13 hSh) ?_
  refine X_callVrV dX11_off_30 mkX11_322 (k_27 hSh) (c_tellK Γ g m1 l1 A hA r hr (aD A) hrd) rfl rfl (by decide) (Nat.le_of_ble_eq_true rfl) (fun m2 l2 hm2 => ?_)
  obtain ⟨hr2, hmo, hk2, hl2⟩ := hm2
  rw [hl2] at hr2 ⊢
  have hC2 := CIr_CI hr2
  have hkm : frK mi m2 := frK_t hk1 (fun i h1 h2 => hk2 i (by omega))
  refine X_aload_n dX11_off_33 rfl ?_
  refine X_getr (a := 67) dX11_off_34 fkX11_76 rfl (k_0 hSh) (r_0_10 hSh) ?_
  refine X_callVrV dX11_off_37 mkX11_300 (k_67 hSh) (c_numK Γ g m2 l1 A hC2) rfl rfl (by decide) (Nat.le_of_ble_eq_true rfl) (fun m3 l3 hm3 => ?_)
  obtain ⟨hC3, ho3, he3, hl3⟩ := hm3
  rw [hl3] at hC3 ⊢
  refine X_iconst (v := -1) dX11_off_40 (by decide) ?_
  refine X_istore_n dX11_off_41 (by decide) ?_
  refine X_iconst (v := -1) dX11_off_42 (by decide) ?_
  refine X_istore_n dX11_off_43 (by decide) ?_
  refine X_iconst (v := nI 1) dX11_off_44 (by decide) ?_
  refine X_istore dX11_off_45 (by decide) ?_
  refine X_L [(4, .int (nI 1)), (3, .int (-1)), (2, .int (-1)), (0, .ref 0), (1, .int (nI 0))] ⟨rfl, rfl, rfl, rfl, rfl, trivial⟩ ?_
  refine X_L [(4, .int (nI (1))), (3, .int (ofP A (1 - 1)).2), (2, .int (ofP A (1 - 1)).1), (0, .ref 0), (1, .int (nI 0))] ⟨rfl, rfl, rfl, rfl, rfl, trivial⟩ ?_
  refine X_forR (σ := pMI) 47 (fun i y => [(4, .int (nI (i))), (3, .int (ofP A (i - 1)).2), (2, .int (ofP A (i - 1)).1), (0, .ref 0), (1, .int (nI 0))]) (fun y => y) (fun y => l1) (fun i y => 1 ≤ i ∧ CI A g y l1 ∧ (∀ b, b < aG A → y 84 b = nI ((mrn (aP A) (aH A) (aD A)) b)) ∧ (∀ q, q < 8 → y 73 q = nI q) ∧ frK mi y) 24 ?_ ?_ 23 1 m3 (by omega) ⟨Nat.le_refl _, hC3, fun b hb => by rw [he3 84 (by omega)]; exact hmo b hb, ho3, frK_t hkm (fun i h1 h2 => he3 i (by omega))⟩
  · intro i y hi hI hn
    obtain ⟨hI1, hyC, hyc, hyo, hyK⟩ := hI
    obtain ⟨j, rfl⟩ : ∃ j, i = j + 1 := ⟨i - 1, by omega⟩
    refine X_iload dX11_off_47 rfl ?_
    refine X_bipush (v := nI 23) dX11_off_49 (by decide) ?_
    refine X_icmp_gtN (a := j + 1) (b := 23) 95 dX11_off_51 (by decide) (by omega) (by omega) (fun h_1 => ?_) (fun h_1 => ?_)
    · exact absurd h_1 (by omega)
    · refine X_aload_n dX11_off_54 rfl ?_
      refine X_getr (a := 67) dX11_off_55 fkX11_76 rfl (k_0 hSh) (r_0_10 hSh) ?_
      refine X_aload_n dX11_off_58 rfl ?_
      refine X_getr (a := 84) dX11_off_59 fkX11_95 rfl (k_0 hSh) (r_0_13 hSh) ?_
      refine X_iload dX11_off_62 rfl ?_
      refine X_callVrV dX11_off_64 mkX11_303 (k_67 hSh) (c_tryK Γ g y l1 A hA hyC (mrn (aP A) (aH A) (aD A)) id id (j + 1) (okO_id hG8) (fun b hb => ⟨hyc b hb, sqd_lt hA.1 _ _⟩) hyo ⟨by omega, by omega⟩) rfl rfl (by decide) (Nat.le_of_ble_eq_true rfl) (fun u1 ul hu1 => ?_)
      obtain ⟨huC, hcd, huT, hul⟩ := hu1
      rw [hul] at huC ⊢
      refine X_aload_n dX11_off_67 rfl ?_
      refine X_getr (a := 67) dX11_off_68 fkX11_76 rfl (k_0 hSh) (r_0_10 hSh) ?_
      refine X_iconst (v := nI 3) dX11_off_71 (by decide) ?_
      refine X_callVI dX11_off_72 mkX11_224 (k_67 hSh) (c_total Γ g u1 l1 hSh 67 (shC_67 hSh) (aG A) (CI_cl huC).2.1 hG8 3 (by decide)) rfl rfl (by decide) (Nat.le_of_ble_eq_true rfl) ?_
      refine X_topi (show _ = ofT A (j + 1) from sumN_eq _ (fun b hb => (hcd.1 b hb).2.2.2.1)) ?_
      refine X_istore dX11_off_75 (by decide) ?_
      refine X_iload dX11_off_77 rfl ?_
      refine X_iload_n dX11_off_79 rfl ?_
      refine X_icmp_le 89 dX11_off_80 (by decide) (fun h_2 => ?_) (fun h_2 => ?_)
      · refine X_iinc (v := nI (j + 1 + 1)) dX11_off_89 rfl (nI_1 _) (by decide) ?_
        refine X_goto 47 dX11_off_92 (by decide) ?_
        refine X_L [(4, .int (nI (j + 1 + 1))), (3, .int ((ofP A j).2)), (2, .int ((ofP A j).1)), (0, .ref 0), (1, .int (nI 0))] ⟨rfl, rfl, rfl, rfl, rfl, trivial⟩ ?_
        refine X_L [(4, .int (nI (j + 1 + 1))), (3, .int (ofP A (j + 1 + 1 - 1)).2), (2, .int (ofP A (j + 1 + 1 - 1)).1), (0, .ref 0), (1, .int (nI 0))] ⟨rfl, by rw [show ofP A (j + 1 + 1 - 1) = _ from of_no (Int32.not_lt.mpr (by assumption))]; rfl, by rw [show ofP A (j + 1 + 1 - 1) = _ from of_no (Int32.not_lt.mpr (by assumption))]; rfl, rfl, rfl, trivial⟩ ?_
        exact hn u1 ⟨by omega, huC, fun b hb => by rw [frT_row huT (by omega)]; exact hyc b hb, fun q hq => by rw [frT_row huT (by omega)]; exact hyo q hq, frK_t hyK (frT_K (Or.inr rfl) huT)⟩
      · refine X_iload dX11_off_83 rfl ?_
        refine X_istore_n dX11_off_85 (by decide) ?_
        refine X_iload dX11_off_86 rfl ?_
        refine X_istore_n dX11_off_88 (by decide) ?_
        refine X_iinc (v := nI (j + 1 + 1)) dX11_off_89 rfl (nI_1 _) (by decide) ?_
        refine X_goto 47 dX11_off_92 (by decide) ?_
        refine X_L [(4, .int (nI (j + 1 + 1))), (3, .int (ofT A (j + 1))), (2, .int (nI (j + 1))), (0, .ref 0), (1, .int (nI 0))] ⟨rfl, rfl, rfl, rfl, rfl, trivial⟩ ?_
        refine X_L [(4, .int (nI (j + 1 + 1))), (3, .int (ofP A (j + 1 + 1 - 1)).2), (2, .int (ofP A (j + 1 + 1 - 1)).1), (0, .ref 0), (1, .int (nI 0))] ⟨rfl, by rw [show ofP A (j + 1 + 1 - 1) = _ from of_up (Int32.not_le.mp (by assumption))]; rfl, by rw [show ofP A (j + 1 + 1 - 1) = _ from of_up (Int32.not_le.mp (by assumption))]; rfl, rfl, rfl, trivial⟩ ?_
        exact hn u1 ⟨by omega, huC, fun b hb => by rw [frT_row huT (by omega)]; exact hyc b hb, fun q hq => by rw [frT_row huT (by omega)]; exact hyo q hq, frK_t hyK (frT_K (Or.inr rfl) huT)⟩
  · intro y hI
    refine X_iload dX11_off_47 rfl ?_
    refine X_bipush (v := nI 23) dX11_off_49 (by decide) ?_
    refine X_icmp_gtN (a := 24) (b := 23) 95 dX11_off_51 (by decide) (by omega) (by omega) (fun h_3 => ?_) (fun h_3 => ?_)
    · refine X_iload_n dX11_off_95 rfl ?_
      refine X_if_neN (a := 0) 103 dX11_off_96 (by decide) (by omega) (fun h_4 => ?_) (fun h_4 => ?_)
      · exact absurd h_4 (by omega)
      · refine X_iload_n dX11_off_99 rfl ?_
        refine X_goto 104 dX11_off_100 (by decide) ?_
        exact X_iret dX11_off_104 rfl ⟨rfl, hI.2.1, hI.2.2.2.2, hl1⟩
    · exact absurd h_3 (by omega)
set_option maxRecDepth 100000 in
set_option maxHeartbeats 4000000 in
theorem r_off_0 (Γ : pTG) (g : pGG) (mi : pMI) (ml : pML) (A : AS) (hA : okAS A) (hSh : Sh g) (hR : RI A mi)  : CT Γ 60 0 0 mX12_off [.ref 87, .int (nI 0)] g mi ml (RQ A (.inl (ofP A 23).1) cd1 g mi ml) := by
  refine CT_of (by decide +kernel) (Nat.le_of_ble_eq_true rfl) ?_
  have hP := hA.1
  have hG8 : aG A ≤ 8 := hP.2.1
  have hC8 : (aP A).1 ≤ 8 := hP.1
  refine X_aload_n dX12_off_0 rfl ?_
  refine X_iconst (v := nI 0) dX12_off_1 (by decide) ?_
  refine X_puti dX12_off_2 fkX12_158 rfl rfl (k_87 hSh) ?_
  refine X_aload_n dX12_off_5 rfl ?_
  refine X_iload_n dX12_off_6 rfl ?_
  refine X_iconst (v := nI 0) dX12_off_7 (by decide) ?_
  refine X_iconst (v := nI 1) dX12_off_8 (by decide) ?_
  refine X_callSI dX12_off_9 mkX12_192 (c_in Γ g (up2 mi 87 0 (nI 0)) ml (nI 0) (nI 0) (nI 1)) rfl rfl (by decide) (Nat.le_of_ble_eq_true rfl) ?_
  refine X_topi (show bI (decide (nI 0 ≤ nI 0) && decide (nI 0 ≤ nI 1)) = nI 1 from congrArg bI (show (decide (nI 0 ≤ nI 0) && decide (nI 0 ≤ nI 1)) = true from by decide)) ?_
  refine X_if_neN (a := 1) 19 dX12_off_12 (by decide) (by omega) (fun h_1 => ?_) (fun h_1 => ?_)
  · refine X_iconst (v := nI 0) dX12_off_19 (by decide) ?_
    refine X_iconst (v := nI 1) dX12_off_20 (by decide) ?_
    refine X_iconst (v := nI 1) dX12_off_21 (by decide) ?_
    refine X_callVI dX12_off_22 mkX12_228 (k_87 hSh) (c_bad0 Γ g (up2 mi 87 0 (nI 0)) ml hSh 1 1 up2_s) rfl rfl (by decide) (Nat.le_of_ble_eq_true rfl) ?_
    refine X_if_eqN (a := 0) 30 dX12_off_25 (by decide) (by omega) (fun h_2 => ?_) (fun h_2 => ?_)
    · refine X_aload_n dX12_off_30 rfl ?_
      refine X_callVrV dX12_off_31 mkX12_353 (k_87 hSh) (r_dayW Γ g (up2 mi 87 0 (nI 0)) ml A hA hSh mi hR RW_0) rfl rfl (by decide) (Nat.le_of_ble_eq_true rfl) (fun b1 bl hb1 => ?_)
      obtain ⟨hbD, hbS, hbW, hbl⟩ := hb1
      rw [hbl]
      have hbc : ∀ b, b < aG A → b1 194 b = nI (mrn (aP A) (aH A) (aD A) b) ∧ mrn (aP A) (aH A) (aD A) b < 24 := fun b hb => ⟨(hbD.1 b hb).1, (hbD.1 b hb).2.1⟩
      refine X_iconst (v := -1) dX12_off_34 (by decide) ?_
      refine X_istore_n dX12_off_35 (by decide) ?_
      refine X_iconst (v := nI 0) dX12_off_36 (by decide) ?_
      refine X_istore_n dX12_off_37 (by decide) ?_
      refine X_iconst (v := nI 1) dX12_off_38 (by decide) ?_
      refine X_istore dX12_off_39 (by decide) ?_
      refine X_L [(4, .int (nI 1)), (3, .int (nI 0)), (2, .int (-1)), (0, .ref 87), (1, .int (nI 0))] ⟨rfl, rfl, rfl, rfl, rfl, trivial⟩ ?_
      refine X_forR (σ := pMI × Int32 × Int32) 41 (fun i y => [(4, .int (nI i)), (3, .int y.2.2), (2, .int y.2.1), (0, .ref 87), (1, .int (nI 0))]) (fun y => y.1) (fun y => ml) (fun i y => 1 ≤ i ∧ (∃ q, rS y.1 (aP A) (aH A) id id q) ∧ (∀ b, b < aG A → y.1 194 b = nI ((mrn (aP A) (aH A) (aD A)) b) ∧ (mrn (aP A) (aH A) (aD A)) b < 24) ∧ RW mi y.1 ∧ ((i = 1 ∧ y.2 = (-1, nI 0)) ∨ (1 < i ∧ y.2 = ofP A (i - 1)))) 24 ?_ ?_ 23 1 (b1, -1, nI 0) (by omega) ⟨Nat.le_refl _, ⟨_, hbS⟩, hbc, hbW, Or.inl ⟨rfl, rfl⟩⟩
      · intro i y hi hI hn
        obtain ⟨hI1, hyS, hyc, hyW, hyP⟩ := hI
        obtain ⟨j, rfl⟩ : ∃ j, i = j + 1 := ⟨i - 1, by omega⟩
        refine X_iload dX12_off_41 rfl ?_
        refine X_bipush (v := nI 24) dX12_off_43 (by decide) ?_
        refine X_icmp_geN (a := j + 1) (b := 24) 88 dX12_off_45 (by decide) (by omega) (by omega) (fun h_3 => ?_) (fun h_3 => ?_)
        · exact absurd h_3 (by omega)
        · refine X_aload_n dX12_off_48 rfl ?_
          refine X_iload dX12_off_49 rfl ?_
          refine X_puti dX12_off_51 fkX12_313 rfl rfl (k_87 hSh) ?_
          refine X_aload_n dX12_off_54 rfl ?_
          obtain ⟨q9, hyS⟩ := hyS
          refine X_callVrV dX12_off_55 mkX12_341 (k_87 hSh) (r_run Γ g (up2 y.1 87 53 (nI (j + 1))) ml A hA hSh mi (RW_f hyW (by unfold rsF; omega) (by omega)) id id id (mrn (aP A) (aH A) (aD A)) (j + 1) ⟨by omega, by omega⟩ (rS_off hA.1 hyS) (okO_id hG8) (fun b hb => by rw [up2_row (by omega)]; exact hyc b hb)) rfl rfl (by decide) (Nat.le_of_ble_eq_true rfl) (fun u1 ul hu1 => ?_)
          obtain ⟨huR, huS, huW, huF, hul⟩ := hu1
          rw [hul]
          refine X_iload_n dX12_off_58 rfl ?_
          refine X_iconst (v := -1) dX12_off_59 (by decide) ?_
          refine X_icmp_eq 74 dX12_off_60 (by decide) (fun h_4 => ?_) (fun h_4 => ?_)
          · refine X_iload dX12_off_74 rfl ?_
            refine X_istore_n dX12_off_76 (by decide) ?_
            refine X_aload_n dX12_off_77 rfl ?_
            refine X_callVI dX12_off_78 mkX12_359 (k_87 hSh) (c_allGot Γ g u1 ml hSh (aG A) (RW_I hA hR huW).1.2.1 hG8) rfl rfl (by decide) (Nat.le_of_ble_eq_true rfl) ?_
            refine X_topi (show _ = ofT A (j + 1) from sumN_eq _ (fun b hb => (huR.1 b hb).2.2.2.2.1)) ?_
            refine X_istore_n dX12_off_81 (by decide) ?_
            refine X_iinc (v := nI (j + 1 + 1)) dX12_off_82 rfl (nI_1 _) (by decide) ?_
            refine X_goto 41 dX12_off_85 (by decide) ?_
            refine X_L [(4, .int (nI (j + 1 + 1))), (3, .int (ofT A (j + 1))), (2, .int (nI (j + 1))), (0, .ref 87), (1, .int (nI 0))] ⟨rfl, rfl, rfl, rfl, rfl, trivial⟩ ?_
            refine hn (u1, nI (j + 1), ofT A (j + 1)) ⟨by omega, ⟨_, huS⟩, fun b hb => ⟨(huR.1 b hb).1, (huR.1 b hb).2.1⟩, huW, Or.inr ⟨by omega, ?_⟩⟩
            rcases hyP with ⟨a1, a2⟩ | ⟨a1, a2⟩
            · have a3 : j = 0 := by omega
              subst a3; exact (of_1 hA).symm
            · have a2 : y.2 = ofP A j := a2
              obtain ⟨q, q1, q2⟩ := of_i hA (j - 1)
              rw [show j - 1 + 1 = j by omega, ← a2] at q2
              first | exact absurd (q2.symm.trans (by assumption)) (nI_m1 (by omega)) | exact (of_up (by rw [← a2]; exact Int32.not_le.mp (by assumption))).symm | exact (of_up (by rw [← a2]; assumption)).symm
          · refine X_aload_n dX12_off_63 rfl ?_
            refine X_callVI dX12_off_64 mkX12_359 (k_87 hSh) (c_allGot Γ g u1 ml hSh (aG A) (RW_I hA hR huW).1.2.1 hG8) rfl rfl (by decide) (Nat.le_of_ble_eq_true rfl) ?_
            refine X_topi (show _ = ofT A (j + 1) from sumN_eq _ (fun b hb => (huR.1 b hb).2.2.2.2.1)) ?_
            refine X_iload_n dX12_off_67 rfl ?_
            refine X_icmp_gt 74 dX12_off_68 (by decide) (fun h_5 => ?_) (fun h_5 => ?_)
            · refine X_iload dX12_off_74 rfl ?_
              refine X_istore_n dX12_off_76 (by decide) ?_
              refine X_aload_n dX12_off_77 rfl ?_
              refine X_callVI dX12_off_78 mkX12_359 (k_87 hSh) (c_allGot Γ g u1 ml hSh (aG A) (RW_I hA hR huW).1.2.1 hG8) rfl rfl (by decide) (Nat.le_of_ble_eq_true rfl) ?_
              refine X_topi (show _ = ofT A (j + 1) from sumN_eq _ (fun b hb => (huR.1 b hb).2.2.2.2.1)) ?_
              refine X_istore_n dX12_off_81 (by decide) ?_
              refine X_iinc (v := nI (j + 1 + 1)) dX12_off_82 rfl (nI_1 _) (by decide) ?_
              refine X_goto 41 dX12_off_85 (by decide) ?_
              refine X_L [(4, .int (nI (j + 1 + 1))), (3, .int (ofT A (j + 1))), (2, .int (nI (j + 1))), (0, .ref 87), (1, .int (nI 0))] ⟨rfl, rfl, rfl, rfl, rfl, trivial⟩ ?_
              refine hn (u1, nI (j + 1), ofT A (j + 1)) ⟨by omega, ⟨_, huS⟩, fun b hb => ⟨(huR.1 b hb).1, (huR.1 b hb).2.1⟩, huW, Or.inr ⟨by omega, ?_⟩⟩
              rcases hyP with ⟨a1, a2⟩ | ⟨a1, a2⟩
              · have a3 : j = 0 := by omega
                subst a3; exact (of_1 hA).symm
              · have a2 : y.2 = ofP A j := a2
                obtain ⟨q, q1, q2⟩ := of_i hA (j - 1)
                rw [show j - 1 + 1 = j by omega, ← a2] at q2
                first | exact absurd (q2.symm.trans (by assumption)) (nI_m1 (by omega)) | exact (of_up (by rw [← a2]; exact Int32.not_le.mp (by assumption))).symm | exact (of_up (by rw [← a2]; assumption)).symm
            · refine X_goto 82 dX12_off_71 (by decide) ?_
              refine X_iinc (v := nI (j + 1 + 1)) dX12_off_82 rfl (nI_1 _) (by decide) ?_
              refine X_goto 41 dX12_off_85 (by decide) ?_
              refine X_L [(4, .int (nI (j + 1 + 1))), (3, .int y.2.2), (2, .int y.2.1), (0, .ref 87), (1, .int (nI 0))] ⟨rfl, rfl, rfl, rfl, rfl, trivial⟩ ?_
              refine hn (u1, y.2) ⟨by omega, ⟨_, huS⟩, fun b hb => ⟨(huR.1 b hb).1, (huR.1 b hb).2.1⟩, huW, Or.inr ⟨by omega, ?_⟩⟩
              rcases hyP with ⟨a1, a2⟩ | ⟨a1, a2⟩
              · exact absurd (show y.2.1 = -1 by rw [a2]) (by assumption)
              · have a2 : y.2 = ofP A j := a2
                exact a2.trans (of_no (by rw [← a2]; first | assumption | exact Int32.not_lt.mpr (by assumption))).symm
      · intro y hI
        have hv : y.2 = ofP A 23 := by rcases hI.2.2.2.2 with ⟨a1, a2⟩ | ⟨a1, a2⟩; (omega); exact a2
        refine X_iload dX12_off_41 rfl ?_
        refine X_bipush (v := nI 24) dX12_off_43 (by decide) ?_
        refine X_icmp_geN (a := 24) (b := 24) 88 dX12_off_45 (by decide) (by omega) (by omega) (fun h_6 => ?_) (fun h_6 => ?_)
        · refine X_iload_n dX12_off_88 rfl ?_
          refine X_if_neN (a := 0) 96 dX12_off_89 (by decide) (by omega) (fun h_7 => ?_) (fun h_7 => ?_)
          · exact absurd h_7 (by omega)
          · refine X_iload_n dX12_off_92 rfl ?_
            refine X_goto 97 dX12_off_93 (by decide) ?_
            exact X_iret dX12_off_97 rfl ⟨rfl, rfl, RW_I hA hR hI.2.2.2.1, hI.2.2.2.1.2.1, _, rfl, congrArg Prod.fst hv, hI.2.2.2.1.2.2⟩
        · exact absurd h_6 (by omega)
    · exact absurd h_2 (by omega)
  · exact absurd h_1 (by omega)
set_option maxRecDepth 100000 in
set_option maxHeartbeats 4000000 in
theorem k_off_1 (Γ : pTG) (g : pGG) (mi : pMI) (ml : pML) (A : AS) (hA : okAS A) (hC : CI A g mi ml)  : CT Γ 60 20 5000 mX11_off [.ref 0, .int (nI 1)] g mi ml (CQ A (.inl (ofP A 23).2) mi ml) := by
  refine CT_of (by decide +kernel) (Nat.le_of_ble_eq_true rfl) ?_
  have hSh := CI_Sh hC
  have hcl := CI_cl hC
  have hP := hA.1
  have hG8 : aG A ≤ 8 := hP.2.1
  have hC8 : (aP A).1 ≤ 8 := hP.1
  refine X_aload_n dX11_off_0 rfl ?_
  refine X_iload_n dX11_off_1 rfl ?_
  refine X_iconst (v := nI 0) dX11_off_2 (by decide) ?_
  refine X_iconst (v := nI 1) dX11_off_3 (by decide) ?_
  refine X_need dX11_off_4 mkX11_116 (k_0 hSh) (c_needWithin Γ g mi ml hSh (nI 1) (nI 0) (nI 1)) rfl rfl (by decide) (by decide) (by decide) (by decide) (fun h => absurd (by decide) h) (fun _ => ?_)
  refine X_aload_n dX11_off_7 rfl ?_
  refine X_getr (a := 27) dX11_off_8 fkX11_60 rfl (k_0 hSh) (r_0_7 hSh) ?_
  refine X_aload_n dX11_off_11 rfl ?_
  refine X_geti dX11_off_12 fkX11_138 rfl (k_0 hSh) ?_
  rw [(CI_k hC).2.1]
  refine X_callVrV dX11_off_15 mkX11_262 (k_27 hSh) (c_reachK Γ g mi ml A hA hC (aD A) hA.2.2.2.2.1) rfl rfl (by decide) (Nat.le_of_ble_eq_true rfl) (fun m1 l1 hm1 => ?_)
  obtain ⟨⟨r, hrd, hr⟩, hk1, hl1⟩ := hm1
  have hC1 := CIr_CI hr
  refine X_aload_n dX11_off_18 rfl ?_
  refine X_getr (a := 27) dX11_off_19 fkX11_60 rfl (k_0 hSh) (r_0_7 hSh) ?_
  refine X_aload_n dX11_off_22 rfl ?_
  refine X_geti dX11_off_23 fkX11_138 rfl (k_0 hSh) ?_
  rw [(CI_k hC1).2.1]
  refine X_aload_n dX11_off_26 rfl ?_
  refine X_getr (a := 84) dX11_off_27 fkX11_95 rfl (k_0 hSh) (r_0_13 hSh) ?_
  refine X_callVrV dX11_off_30 mkX11_322 (k_27 hSh) (c_tellK Γ g m1 l1 A hA r hr (aD A) hrd) rfl rfl (by decide) (Nat.le_of_ble_eq_true rfl) (fun m2 l2 hm2 => ?_)
  obtain ⟨hr2, hmo, hk2, hl2⟩ := hm2
  rw [hl2] at hr2 ⊢
  have hC2 := CIr_CI hr2
  have hkm : frK mi m2 := frK_t hk1 (fun i h1 h2 => hk2 i (by omega))
  refine X_aload_n dX11_off_33 rfl ?_
  refine X_getr (a := 67) dX11_off_34 fkX11_76 rfl (k_0 hSh) (r_0_10 hSh) ?_
  refine X_callVrV dX11_off_37 mkX11_300 (k_67 hSh) (c_numK Γ g m2 l1 A hC2) rfl rfl (by decide) (Nat.le_of_ble_eq_true rfl) (fun m3 l3 hm3 => ?_)
  obtain ⟨hC3, ho3, he3, hl3⟩ := hm3
  rw [hl3] at hC3 ⊢
  refine X_iconst (v := -1) dX11_off_40 (by decide) ?_
  refine X_istore_n dX11_off_41 (by decide) ?_
  refine X_iconst (v := -1) dX11_off_42 (by decide) ?_
  refine X_istore_n dX11_off_43 (by decide) ?_
  refine X_iconst (v := nI 1) dX11_off_44 (by decide) ?_
  refine X_istore dX11_off_45 (by decide) ?_
  refine X_L [(4, .int (nI 1)), (3, .int (-1)), (2, .int (-1)), (0, .ref 0), (1, .int (nI 1))] ⟨rfl, rfl, rfl, rfl, rfl, trivial⟩ ?_
  refine X_L [(4, .int (nI (1))), (3, .int (ofP A (1 - 1)).2), (2, .int (ofP A (1 - 1)).1), (0, .ref 0), (1, .int (nI 1))] ⟨rfl, rfl, rfl, rfl, rfl, trivial⟩ ?_
  refine X_forR (σ := pMI) 47 (fun i y => [(4, .int (nI (i))), (3, .int (ofP A (i - 1)).2), (2, .int (ofP A (i - 1)).1), (0, .ref 0), (1, .int (nI 1))]) (fun y => y) (fun y => l1) (fun i y => 1 ≤ i ∧ CI A g y l1 ∧ (∀ b, b < aG A → y 84 b = nI ((mrn (aP A) (aH A) (aD A)) b)) ∧ (∀ q, q < 8 → y 73 q = nI q) ∧ frK mi y) 24 ?_ ?_ 23 1 m3 (by omega) ⟨Nat.le_refl _, hC3, fun b hb => by rw [he3 84 (by omega)]; exact hmo b hb, ho3, frK_t hkm (fun i h1 h2 => he3 i (by omega))⟩
  · intro i y hi hI hn
    obtain ⟨hI1, hyC, hyc, hyo, hyK⟩ := hI
    obtain ⟨j, rfl⟩ : ∃ j, i = j + 1 := ⟨i - 1, by omega⟩
    refine X_iload dX11_off_47 rfl ?_
    refine X_bipush (v := nI 23) dX11_off_49 (by decide) ?_
    refine X_icmp_gtN (a := j + 1) (b := 23) 95 dX11_off_51 (by decide) (by omega) (by omega) (fun h_1 => ?_) (fun h_1 => ?_)
    · exact absurd h_1 (by omega)
    · refine X_aload_n dX11_off_54 rfl ?_
      refine X_getr (a := 67) dX11_off_55 fkX11_76 rfl (k_0 hSh) (r_0_10 hSh) ?_
      refine X_aload_n dX11_off_58 rfl ?_
      refine X_getr (a := 84) dX11_off_59 fkX11_95 rfl (k_0 hSh) (r_0_13 hSh) ?_
      refine X_iload dX11_off_62 rfl ?_
      refine X_callVrV dX11_off_64 mkX11_303 (k_67 hSh) (c_tryK Γ g y l1 A hA hyC (mrn (aP A) (aH A) (aD A)) id id (j + 1) (okO_id hG8) (fun b hb => ⟨hyc b hb, sqd_lt hA.1 _ _⟩) hyo ⟨by omega, by omega⟩) rfl rfl (by decide) (Nat.le_of_ble_eq_true rfl) (fun u1 ul hu1 => ?_)
      obtain ⟨huC, hcd, huT, hul⟩ := hu1
      rw [hul] at huC ⊢
      refine X_aload_n dX11_off_67 rfl ?_
      refine X_getr (a := 67) dX11_off_68 fkX11_76 rfl (k_0 hSh) (r_0_10 hSh) ?_
      refine X_iconst (v := nI 3) dX11_off_71 (by decide) ?_
      refine X_callVI dX11_off_72 mkX11_224 (k_67 hSh) (c_total Γ g u1 l1 hSh 67 (shC_67 hSh) (aG A) (CI_cl huC).2.1 hG8 3 (by decide)) rfl rfl (by decide) (Nat.le_of_ble_eq_true rfl) ?_
      refine X_topi (show _ = ofT A (j + 1) from sumN_eq _ (fun b hb => (hcd.1 b hb).2.2.2.1)) ?_
      refine X_istore dX11_off_75 (by decide) ?_
      refine X_iload dX11_off_77 rfl ?_
      refine X_iload_n dX11_off_79 rfl ?_
      refine X_icmp_le 89 dX11_off_80 (by decide) (fun h_2 => ?_) (fun h_2 => ?_)
      · refine X_iinc (v := nI (j + 1 + 1)) dX11_off_89 rfl (nI_1 _) (by decide) ?_
        refine X_goto 47 dX11_off_92 (by decide) ?_
        refine X_L [(4, .int (nI (j + 1 + 1))), (3, .int ((ofP A j).2)), (2, .int ((ofP A j).1)), (0, .ref 0), (1, .int (nI 1))] ⟨rfl, rfl, rfl, rfl, rfl, trivial⟩ ?_
        refine X_L [(4, .int (nI (j + 1 + 1))), (3, .int (ofP A (j + 1 + 1 - 1)).2), (2, .int (ofP A (j + 1 + 1 - 1)).1), (0, .ref 0), (1, .int (nI 1))] ⟨rfl, by rw [show ofP A (j + 1 + 1 - 1) = _ from of_no (Int32.not_lt.mpr (by assumption))]; rfl, by rw [show ofP A (j + 1 + 1 - 1) = _ from of_no (Int32.not_lt.mpr (by assumption))]; rfl, rfl, rfl, trivial⟩ ?_
        exact hn u1 ⟨by omega, huC, fun b hb => by rw [frT_row huT (by omega)]; exact hyc b hb, fun q hq => by rw [frT_row huT (by omega)]; exact hyo q hq, frK_t hyK (frT_K (Or.inr rfl) huT)⟩
      · refine X_iload dX11_off_83 rfl ?_
        refine X_istore_n dX11_off_85 (by decide) ?_
        refine X_iload dX11_off_86 rfl ?_
        refine X_istore_n dX11_off_88 (by decide) ?_
        refine X_iinc (v := nI (j + 1 + 1)) dX11_off_89 rfl (nI_1 _) (by decide) ?_
        refine X_goto 47 dX11_off_92 (by decide) ?_
        refine X_L [(4, .int (nI (j + 1 + 1))), (3, .int (ofT A (j + 1))), (2, .int (nI (j + 1))), (0, .ref 0), (1, .int (nI 1))] ⟨rfl, rfl, rfl, rfl, rfl, trivial⟩ ?_
        refine X_L [(4, .int (nI (j + 1 + 1))), (3, .int (ofP A (j + 1 + 1 - 1)).2), (2, .int (ofP A (j + 1 + 1 - 1)).1), (0, .ref 0), (1, .int (nI 1))] ⟨rfl, by rw [show ofP A (j + 1 + 1 - 1) = _ from of_up (Int32.not_le.mp (by assumption))]; rfl, by rw [show ofP A (j + 1 + 1 - 1) = _ from of_up (Int32.not_le.mp (by assumption))]; rfl, rfl, rfl, trivial⟩ ?_
        exact hn u1 ⟨by omega, huC, fun b hb => by rw [frT_row huT (by omega)]; exact hyc b hb, fun q hq => by rw [frT_row huT (by omega)]; exact hyo q hq, frK_t hyK (frT_K (Or.inr rfl) huT)⟩
  · intro y hI
    refine X_iload dX11_off_47 rfl ?_
    refine X_bipush (v := nI 23) dX11_off_49 (by decide) ?_
    refine X_icmp_gtN (a := 24) (b := 23) 95 dX11_off_51 (by decide) (by omega) (by omega) (fun h_3 => ?_) (fun h_3 => ?_)
    · refine X_iload_n dX11_off_95 rfl ?_
      refine X_if_neN (a := 1) 103 dX11_off_96 (by decide) (by omega) (fun h_4 => ?_) (fun h_4 => ?_)
      · refine X_iload_n dX11_off_103 rfl ?_
        exact X_iret dX11_off_104 rfl ⟨rfl, hI.2.1, hI.2.2.2.2, hl1⟩
      · exact absurd h_4 (by omega)
    · exact absurd h_3 (by omega)
set_option maxRecDepth 100000 in
set_option maxHeartbeats 4000000 in
theorem r_off_1 (Γ : pTG) (g : pGG) (mi : pMI) (ml : pML) (A : AS) (hA : okAS A) (hSh : Sh g) (hR : RI A mi)  : CT Γ 60 0 0 mX12_off [.ref 87, .int (nI 1)] g mi ml (RQ A (.inl (ofP A 23).2) cd1 g mi ml) := by
  refine CT_of (by decide +kernel) (Nat.le_of_ble_eq_true rfl) ?_
  have hP := hA.1
  have hG8 : aG A ≤ 8 := hP.2.1
  have hC8 : (aP A).1 ≤ 8 := hP.1
  refine X_aload_n dX12_off_0 rfl ?_
  refine X_iconst (v := nI 0) dX12_off_1 (by decide) ?_
  refine X_puti dX12_off_2 fkX12_158 rfl rfl (k_87 hSh) ?_
  refine X_aload_n dX12_off_5 rfl ?_
  refine X_iload_n dX12_off_6 rfl ?_
  refine X_iconst (v := nI 0) dX12_off_7 (by decide) ?_
  refine X_iconst (v := nI 1) dX12_off_8 (by decide) ?_
  refine X_callSI dX12_off_9 mkX12_192 (c_in Γ g (up2 mi 87 0 (nI 0)) ml (nI 1) (nI 0) (nI 1)) rfl rfl (by decide) (Nat.le_of_ble_eq_true rfl) ?_
  refine X_topi (show bI (decide (nI 0 ≤ nI 1) && decide (nI 1 ≤ nI 1)) = nI 1 from congrArg bI (show (decide (nI 0 ≤ nI 1) && decide (nI 1 ≤ nI 1)) = true from by decide)) ?_
  refine X_if_neN (a := 1) 19 dX12_off_12 (by decide) (by omega) (fun h_1 => ?_) (fun h_1 => ?_)
  · refine X_iconst (v := nI 0) dX12_off_19 (by decide) ?_
    refine X_iconst (v := nI 1) dX12_off_20 (by decide) ?_
    refine X_iconst (v := nI 1) dX12_off_21 (by decide) ?_
    refine X_callVI dX12_off_22 mkX12_228 (k_87 hSh) (c_bad0 Γ g (up2 mi 87 0 (nI 0)) ml hSh 1 1 up2_s) rfl rfl (by decide) (Nat.le_of_ble_eq_true rfl) ?_
    refine X_if_eqN (a := 0) 30 dX12_off_25 (by decide) (by omega) (fun h_2 => ?_) (fun h_2 => ?_)
    · refine X_aload_n dX12_off_30 rfl ?_
      refine X_callVrV dX12_off_31 mkX12_353 (k_87 hSh) (r_dayW Γ g (up2 mi 87 0 (nI 0)) ml A hA hSh mi hR RW_0) rfl rfl (by decide) (Nat.le_of_ble_eq_true rfl) (fun b1 bl hb1 => ?_)
      obtain ⟨hbD, hbS, hbW, hbl⟩ := hb1
      rw [hbl]
      have hbc : ∀ b, b < aG A → b1 194 b = nI (mrn (aP A) (aH A) (aD A) b) ∧ mrn (aP A) (aH A) (aD A) b < 24 := fun b hb => ⟨(hbD.1 b hb).1, (hbD.1 b hb).2.1⟩
      refine X_iconst (v := -1) dX12_off_34 (by decide) ?_
      refine X_istore_n dX12_off_35 (by decide) ?_
      refine X_iconst (v := nI 0) dX12_off_36 (by decide) ?_
      refine X_istore_n dX12_off_37 (by decide) ?_
      refine X_iconst (v := nI 1) dX12_off_38 (by decide) ?_
      refine X_istore dX12_off_39 (by decide) ?_
      refine X_L [(4, .int (nI 1)), (3, .int (nI 0)), (2, .int (-1)), (0, .ref 87), (1, .int (nI 1))] ⟨rfl, rfl, rfl, rfl, rfl, trivial⟩ ?_
      refine X_forR (σ := pMI × Int32 × Int32) 41 (fun i y => [(4, .int (nI i)), (3, .int y.2.2), (2, .int y.2.1), (0, .ref 87), (1, .int (nI 1))]) (fun y => y.1) (fun y => ml) (fun i y => 1 ≤ i ∧ (∃ q, rS y.1 (aP A) (aH A) id id q) ∧ (∀ b, b < aG A → y.1 194 b = nI ((mrn (aP A) (aH A) (aD A)) b) ∧ (mrn (aP A) (aH A) (aD A)) b < 24) ∧ RW mi y.1 ∧ ((i = 1 ∧ y.2 = (-1, nI 0)) ∨ (1 < i ∧ y.2 = ofP A (i - 1)))) 24 ?_ ?_ 23 1 (b1, -1, nI 0) (by omega) ⟨Nat.le_refl _, ⟨_, hbS⟩, hbc, hbW, Or.inl ⟨rfl, rfl⟩⟩
      · intro i y hi hI hn
        obtain ⟨hI1, hyS, hyc, hyW, hyP⟩ := hI
        obtain ⟨j, rfl⟩ : ∃ j, i = j + 1 := ⟨i - 1, by omega⟩
        refine X_iload dX12_off_41 rfl ?_
        refine X_bipush (v := nI 24) dX12_off_43 (by decide) ?_
        refine X_icmp_geN (a := j + 1) (b := 24) 88 dX12_off_45 (by decide) (by omega) (by omega) (fun h_3 => ?_) (fun h_3 => ?_)
        · exact absurd h_3 (by omega)
        · refine X_aload_n dX12_off_48 rfl ?_
          refine X_iload dX12_off_49 rfl ?_
          refine X_puti dX12_off_51 fkX12_313 rfl rfl (k_87 hSh) ?_
          refine X_aload_n dX12_off_54 rfl ?_
          obtain ⟨q9, hyS⟩ := hyS
          refine X_callVrV dX12_off_55 mkX12_341 (k_87 hSh) (r_run Γ g (up2 y.1 87 53 (nI (j + 1))) ml A hA hSh mi (RW_f hyW (by unfold rsF; omega) (by omega)) id id id (mrn (aP A) (aH A) (aD A)) (j + 1) ⟨by omega, by omega⟩ (rS_off hA.1 hyS) (okO_id hG8) (fun b hb => by rw [up2_row (by omega)]; exact hyc b hb)) rfl rfl (by decide) (Nat.le_of_ble_eq_true rfl) (fun u1 ul hu1 => ?_)
          obtain ⟨huR, huS, huW, huF, hul⟩ := hu1
          rw [hul]
          refine X_iload_n dX12_off_58 rfl ?_
          refine X_iconst (v := -1) dX12_off_59 (by decide) ?_
          refine X_icmp_eq 74 dX12_off_60 (by decide) (fun h_4 => ?_) (fun h_4 => ?_)
          · refine X_iload dX12_off_74 rfl ?_
            refine X_istore_n dX12_off_76 (by decide) ?_
            refine X_aload_n dX12_off_77 rfl ?_
            refine X_callVI dX12_off_78 mkX12_359 (k_87 hSh) (c_allGot Γ g u1 ml hSh (aG A) (RW_I hA hR huW).1.2.1 hG8) rfl rfl (by decide) (Nat.le_of_ble_eq_true rfl) ?_
            refine X_topi (show _ = ofT A (j + 1) from sumN_eq _ (fun b hb => (huR.1 b hb).2.2.2.2.1)) ?_
            refine X_istore_n dX12_off_81 (by decide) ?_
            refine X_iinc (v := nI (j + 1 + 1)) dX12_off_82 rfl (nI_1 _) (by decide) ?_
            refine X_goto 41 dX12_off_85 (by decide) ?_
            refine X_L [(4, .int (nI (j + 1 + 1))), (3, .int (ofT A (j + 1))), (2, .int (nI (j + 1))), (0, .ref 87), (1, .int (nI 1))] ⟨rfl, rfl, rfl, rfl, rfl, trivial⟩ ?_
            refine hn (u1, nI (j + 1), ofT A (j + 1)) ⟨by omega, ⟨_, huS⟩, fun b hb => ⟨(huR.1 b hb).1, (huR.1 b hb).2.1⟩, huW, Or.inr ⟨by omega, ?_⟩⟩
            rcases hyP with ⟨a1, a2⟩ | ⟨a1, a2⟩
            · have a3 : j = 0 := by omega
              subst a3; exact (of_1 hA).symm
            · have a2 : y.2 = ofP A j := a2
              obtain ⟨q, q1, q2⟩ := of_i hA (j - 1)
              rw [show j - 1 + 1 = j by omega, ← a2] at q2
              first | exact absurd (q2.symm.trans (by assumption)) (nI_m1 (by omega)) | exact (of_up (by rw [← a2]; exact Int32.not_le.mp (by assumption))).symm | exact (of_up (by rw [← a2]; assumption)).symm
          · refine X_aload_n dX12_off_63 rfl ?_
            refine X_callVI dX12_off_64 mkX12_359 (k_87 hSh) (c_allGot Γ g u1 ml hSh (aG A) (RW_I hA hR huW).1.2.1 hG8) rfl rfl (by decide) (Nat.le_of_ble_eq_true rfl) ?_
            refine X_topi (show _ = ofT A (j + 1) from sumN_eq _ (fun b hb => (huR.1 b hb).2.2.2.2.1)) ?_
            refine X_iload_n dX12_off_67 rfl ?_
            refine X_icmp_gt 74 dX12_off_68 (by decide) (fun h_5 => ?_) (fun h_5 => ?_)
            · refine X_iload dX12_off_74 rfl ?_
              refine X_istore_n dX12_off_76 (by decide) ?_
              refine X_aload_n dX12_off_77 rfl ?_
              refine X_callVI dX12_off_78 mkX12_359 (k_87 hSh) (c_allGot Γ g u1 ml hSh (aG A) (RW_I hA hR huW).1.2.1 hG8) rfl rfl (by decide) (Nat.le_of_ble_eq_true rfl) ?_
              refine X_topi (show _ = ofT A (j + 1) from sumN_eq _ (fun b hb => (huR.1 b hb).2.2.2.2.1)) ?_
              refine X_istore_n dX12_off_81 (by decide) ?_
              refine X_iinc (v := nI (j + 1 + 1)) dX12_off_82 rfl (nI_1 _) (by decide) ?_
              refine X_goto 41 dX12_off_85 (by decide) ?_
              refine X_L [(4, .int (nI (j + 1 + 1))), (3, .int (ofT A (j + 1))), (2, .int (nI (j + 1))), (0, .ref 87), (1, .int (nI 1))] ⟨rfl, rfl, rfl, rfl, rfl, trivial⟩ ?_
              refine hn (u1, nI (j + 1), ofT A (j + 1)) ⟨by omega, ⟨_, huS⟩, fun b hb => ⟨(huR.1 b hb).1, (huR.1 b hb).2.1⟩, huW, Or.inr ⟨by omega, ?_⟩⟩
              rcases hyP with ⟨a1, a2⟩ | ⟨a1, a2⟩
              · have a3 : j = 0 := by omega
                subst a3; exact (of_1 hA).symm
              · have a2 : y.2 = ofP A j := a2
                obtain ⟨q, q1, q2⟩ := of_i hA (j - 1)
                rw [show j - 1 + 1 = j by omega, ← a2] at q2
                first | exact absurd (q2.symm.trans (by assumption)) (nI_m1 (by omega)) | exact (of_up (by rw [← a2]; exact Int32.not_le.mp (by assumption))).symm | exact (of_up (by rw [← a2]; assumption)).symm
            · refine X_goto 82 dX12_off_71 (by decide) ?_
              refine X_iinc (v := nI (j + 1 + 1)) dX12_off_82 rfl (nI_1 _) (by decide) ?_
              refine X_goto 41 dX12_off_85 (by decide) ?_
              refine X_L [(4, .int (nI (j + 1 + 1))), (3, .int y.2.2), (2, .int y.2.1), (0, .ref 87), (1, .int (nI 1))] ⟨rfl, rfl, rfl, rfl, rfl, trivial⟩ ?_
              refine hn (u1, y.2) ⟨by omega, ⟨_, huS⟩, fun b hb => ⟨(huR.1 b hb).1, (huR.1 b hb).2.1⟩, huW, Or.inr ⟨by omega, ?_⟩⟩
              rcases hyP with ⟨a1, a2⟩ | ⟨a1, a2⟩
              · exact absurd (show y.2.1 = -1 by rw [a2]) (by assumption)
              · have a2 : y.2 = ofP A j := a2
                exact a2.trans (of_no (by rw [← a2]; first | assumption | exact Int32.not_lt.mpr (by assumption))).symm
      · intro y hI
        have hv : y.2 = ofP A 23 := by rcases hI.2.2.2.2 with ⟨a1, a2⟩ | ⟨a1, a2⟩; (omega); exact a2
        refine X_iload dX12_off_41 rfl ?_
        refine X_bipush (v := nI 24) dX12_off_43 (by decide) ?_
        refine X_icmp_geN (a := 24) (b := 24) 88 dX12_off_45 (by decide) (by omega) (by omega) (fun h_6 => ?_) (fun h_6 => ?_)
        · refine X_iload_n dX12_off_88 rfl ?_
          refine X_if_neN (a := 1) 96 dX12_off_89 (by decide) (by omega) (fun h_7 => ?_) (fun h_7 => ?_)
          · refine X_iload_n dX12_off_96 rfl ?_
            exact X_iret dX12_off_97 rfl ⟨rfl, rfl, RW_I hA hR hI.2.2.2.1, hI.2.2.2.1.2.1, _, rfl, congrArg Prod.snd hv, hI.2.2.2.1.2.2⟩
          · exact absurd h_7 (by omega)
        · exact absurd h_6 (by omega)
    · exact absurd h_2 (by omega)
  · exact absurd h_1 (by omega)
theorem m_off (A : AS) (hA : okAS A) (w : Int32) : MOK mX11_off mX12_off cd1 [.int w] A := by
  by_cases hg0 : nI 0 ≤ w ∧ w ≤ nI 1
  · obtain ⟨k, hka, hk, rfl⟩ := (wi_iff (by decide) (by decide)).mp hg0
    have hkk : k < 2 := by omega
    match k, hkk with
    | 0, _ => exact ⟨.inl (ofP A 23).1, A, hA, fun j h => (by cases h), fun Γ g m l hC => k_off_0 Γ g m l A hA hC, fun Γ g m l hSh hR => r_off_0 Γ g m l A hA hSh hR⟩
    | 1, _ => exact ⟨.inl (ofP A 23).2, A, hA, fun j h => (by cases h), fun Γ g m l hC => k_off_1 Γ g m l A hA hC, fun Γ g m l hSh hR => r_off_1 Γ g m l A hA hSh hR⟩
  · exact ⟨.inr 1, rfA A 1, ok_rf hA, fun j h => by cases h; decide, fun Γ g m l hC => k_off_f0 Γ g m l A hA hC w hg0, fun Γ g m l hSh hR => r_off_f0 Γ g m l A hA hSh hR w hg0⟩

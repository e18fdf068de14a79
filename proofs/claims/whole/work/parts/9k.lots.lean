/-! ===== lot, lucky ===== -/
abbrev lDw (A : AS) (s : Int32) : Int32 × (Nat → Nat) × (Nat → Nat) := dwN (aG A) s (aG A - 1)
def lDD (A : AS) (cm : Nat → Nat) (s : Int32) : DS := DY (aP A) cm (lDw A s).2.2 (lDw A s).2.1 (aP A).2.2.2.1
theorem lDw_ok {A : AS} (hA : okAS A) (s : Int32) : okO2 (aG A) (lDw A s).2.2 (lDw A s).2.1 := dw_ok hA.1.2.1 s _ (Nat.le_refl _)
theorem rS_f {m : pMI} {P : PD} {H : Nat → HBt} {wh rk : Nat → Nat} {un j : Nat} {v : Int32} (hP : okPD P) (hj : j ≠ 53) (h : rS m P H wh rk un) : rS (up2 m 87 j v) P H wh rk un := ⟨rfP_w hP h.1 (fun i hi => up2_row (by omega)), rfHb_w h.2.1 (fun i hi => up2_row (by omega)), fun b hb => by rw [up2_row (by omega)]; exact h.2.2.1 b hb, fun b hb => by rw [up2_row (by omega)]; exact h.2.2.2.1 b hb, (up2_n (by omega)).trans h.2.2.2.2⟩
theorem sea_c {A : AS} {m : pMI} {cm : Nat → Nat} {D : DS} {b : Nat} (h : CDY m 67 (aP A) cm D) (hb : b < aG A) : ∃ n, n < 1000 ∧ m 68 (b * 8 + 5) = nI n ∧ seaB D b = decide (0 < n) := by
  obtain ⟨_, _, _, _, _, h1, _, _, n, h2, h3⟩ := h.1 b hb
  refine ⟨n, h2, h1.trans h3, ?_⟩
  unfold seaB
  rw [h3]
  by_cases q : 0 < n
  · rw [decide_eq_true q, decide_eq_false (nI_nle q (by omega))]; rfl
  · rw [decide_eq_false q, show n = 0 by omega]; decide
theorem sea_m {A : AS} {m : pMI} {cm : Nat → Nat} {D : DS} (h : CDY m 67 (aP A) cm D) : mkN (fun b => !decide (m (67 + 1) (b * 8 + 5) ≤ 0)) (aG A) = mkN (seaB D) (aG A) := mkN_eq (fun b hb => by rw [(h.1 b hb).2.2.2.2.2.1]; rfl)
set_option maxRecDepth 100000 in
set_option maxHeartbeats 4000000 in
theorem r_lotN (Γ : pTG) (g : pGG) (mi : pMI) (ml : pML) (hSh : Sh g) (A : AS) (hA : okAS A) (m0 : pMI) (hR : RI A m0) (hW : RW m0 mi) (rk cm : Nat → Nat) (un : Nat) (hu : 1 ≤ un ∧ un < 24) (hS : rS mi (aP A) (aH A) id rk un) (hcm : ∀ b, b < aG A → mi 194 b = nI (cm b) ∧ cm b < 24) (s : Int32) : rV Γ 6 mX12_lotNow [.ref 87, .int s] g mi ml (fun m l => RDY m (aP A) cm (DY (aP A) cm (lDw A s).2.2 (lDw A s).2.1 un) ∧ rS m (aP A) (aH A) id (lDw A s).2.2 un ∧ RW m0 m ∧ l = ml) := by
  refine rV_of (by decide +kernel) (Nat.le_of_ble_eq_true rfl) ?_
  refine X_aload_n dX12_lotNow_0 rfl ?_
  refine X_iload_n dX12_lotNow_1 rfl ?_
  refine X_puti dX12_lotNow_2 fkX12_384 rfl rfl (k_87 hSh) ?_
  refine X_aload_n dX12_lotNow_5 rfl ?_
  refine X_callVrV dX12_lotNow_6 mkX12_391 (k_87 hSh) (r_draw Γ g (up2 mi 87 60 s) ml A hA hSh m0 hR (RW_f hW (by unfold rsF; omega) (by omega)) rk un (rS_f hA.1 (by omega) hS)) rfl rfl (by decide) (Nat.le_of_ble_eq_true rfl) (fun x1 xl hx1 => ?_)
  obtain ⟨hxS, hxW, hx60, hxF, hxl⟩ := hx1
  rw [hxl]
  rw [show (up2 mi 87 60 s) 87 60 = s from up2_s] at hxS hx60
  refine X_aload_n dX12_lotNow_9 rfl ?_
  refine X_callVrV dX12_lotNow_10 mkX12_341 (k_87 hSh) (r_run Γ g x1 ml A hA hSh m0 hxW id (lDw A s).2.2 (lDw A s).2.1 cm un hu hxS (lDw_ok hA s) (fun b hb => by rw [hxF 194 (by omega) (by omega) (by omega), up2_row (by omega)]; exact hcm b hb)) rfl rfl (by decide) (Nat.le_of_ble_eq_true rfl) (fun u1 ul hu1 => ?_)
  obtain ⟨huR, huS, huW, huF, hul⟩ := hu1
  rw [hul]
  exact X_vret dX12_lotNow_13 rfl ⟨rfl, rfl, huR, huS, huW, rfl⟩
set_option maxRecDepth 100000 in
set_option maxHeartbeats 4000000 in
theorem k_lot_f0 (Γ : pTG) (g : pGG) (mi : pMI) (ml : pML) (A : AS) (hA : okAS A) (hC : CI A g mi ml) (w : Int32) (hf : ¬ (nI 0 ≤ w ∧ w ≤ nI 2)) (s : Int32) : CT Γ 60 20 5000 mX11_lot [.ref 0, .int s, .int w] g mi ml (CQ (rfA A 1) (.inr 1) mi ml) := by
  refine CT_of (by decide +kernel) (Nat.le_of_ble_eq_true rfl) ?_
  have hSh := CI_Sh hC
  have hcl := CI_cl hC
  have hP := hA.1
  have hG8 : aG A ≤ 8 := hP.2.1
  have hC8 : (aP A).1 ≤ 8 := hP.1
  refine X_aload_n dX11_lot_0 rfl ?_
  refine X_iload_n dX11_lot_1 rfl ?_
  refine X_iconst (v := nI 0) dX11_lot_2 (by decide) ?_
  refine X_iconst (v := nI 2) dX11_lot_3 (by decide) ?_
  exact X_need dX11_lot_4 mkX11_116 (k_0 hSh) (c_needWithin Γ g mi ml hSh w (nI 0) (nI 2)) rfl rfl (by decide) (by decide) (by decide) (by decide) (fun _ => ⟨rfl, CI_rf (by decide) hC, frK_86, rfl⟩) (fun h => absurd h hf)
set_option maxRecDepth 100000 in
set_option maxHeartbeats 4000000 in
theorem r_lot_f0 (Γ : pTG) (g : pGG) (mi : pMI) (ml : pML) (A : AS) (hA : okAS A) (hSh : Sh g) (hR : RI A mi) (w : Int32) (hf : ¬ (nI 0 ≤ w ∧ w ≤ nI 2)) (s : Int32) : CT Γ 60 0 0 mX12_lot [.ref 87, .int s, .int w] g mi ml (RQ (rfA A 1) (.inr 1) cd1 g mi ml) := by
  refine CT_of (by decide +kernel) (Nat.le_of_ble_eq_true rfl) ?_
  have hP := hA.1
  have hG8 : aG A ≤ 8 := hP.2.1
  have hC8 : (aP A).1 ≤ 8 := hP.1
  refine X_aload_n dX12_lot_0 rfl ?_
  refine X_iconst (v := nI 0) dX12_lot_1 (by decide) ?_
  refine X_puti dX12_lot_2 fkX12_158 rfl rfl (k_87 hSh) ?_
  refine X_aload_n dX12_lot_5 rfl ?_
  refine X_iload_n dX12_lot_6 rfl ?_
  refine X_iconst (v := nI 0) dX12_lot_7 (by decide) ?_
  refine X_iconst (v := nI 2) dX12_lot_8 (by decide) ?_
  refine X_callSI dX12_lot_9 mkX12_192 (c_in Γ g (up2 mi 87 0 (nI 0)) ml w (nI 0) (nI 2)) rfl rfl (by decide) (Nat.le_of_ble_eq_true rfl) ?_
  refine X_topi (show bI (decide (nI 0 ≤ w) && decide (w ≤ nI 2)) = nI 0 from congrArg bI (show (decide (nI 0 ≤ w) && decide (w ≤ nI 2)) = false from Bool.eq_false_iff.mpr (fun q => hf (by rw [Bool.and_eq_true, decide_eq_true_eq, decide_eq_true_eq] at q; exact q)))) ?_
  refine X_if_neN (a := 0) 19 dX12_lot_12 (by decide) (by omega) (fun h_1 => ?_) (fun h_1 => ?_)
  · exact absurd h_1 (by omega)
  · refine X_iconst (v := nI 1) dX12_lot_15 (by decide) ?_
    refine X_goto 20 dX12_lot_16 (by decide) ?_
    refine X_iconst (v := nI 1) dX12_lot_20 (by decide) ?_
    refine X_iconst (v := nI 1) dX12_lot_21 (by decide) ?_
    refine X_callVI dX12_lot_22 mkX12_228 (k_87 hSh) (c_bad1 Γ g (up2 mi 87 0 (nI 0)) ml hSh 1 1 (by decide) (by decide) (by decide) up2_s) rfl rfl (by decide) (Nat.le_of_ble_eq_true rfl) ?_
    refine X_mi (show _ = mB mi 1 1 from rfl) ?_
    refine X_if_eqN (a := 1) 30 dX12_lot_25 (by decide) (by omega) (fun h_2 => ?_) (fun h_2 => ?_)
    · exact absurd h_2 (by omega)
    · refine X_iconst (v := nI 0) dX12_lot_28 (by decide) ?_
      exact X_iret dX12_lot_29 rfl ⟨rfl, rfl, RI_rf hA (by decide) hR, fr2_B, _, rfl, mB_0⟩
set_option maxRecDepth 100000 in
set_option maxHeartbeats 4000000 in
theorem k_lot_0 (Γ : pTG) (g : pGG) (mi : pMI) (ml : pML) (A : AS) (hA : okAS A) (hC : CI A g mi ml)  (s : Int32) : CT Γ 60 20 5000 mX11_lot [.ref 0, .int s, .int (nI 0)] g mi ml (CQ A (.inl (sumN (fun b => (lDD A (mrn (aP A) (aH A) (aD A)) s).1 200 b) (aG A))) mi ml) := by
  refine CT_of (by decide +kernel) (Nat.le_of_ble_eq_true rfl) ?_
  have hSh := CI_Sh hC
  have hcl := CI_cl hC
  have hP := hA.1
  have hG8 : aG A ≤ 8 := hP.2.1
  have hC8 : (aP A).1 ≤ 8 := hP.1
  refine X_aload_n dX11_lot_0 rfl ?_
  refine X_iload_n dX11_lot_1 rfl ?_
  refine X_iconst (v := nI 0) dX11_lot_2 (by decide) ?_
  refine X_iconst (v := nI 2) dX11_lot_3 (by decide) ?_
  refine X_need dX11_lot_4 mkX11_116 (k_0 hSh) (c_needWithin Γ g mi ml hSh (nI 0) (nI 0) (nI 2)) rfl rfl (by decide) (by decide) (by decide) (by decide) (fun h => absurd (by decide) h) (fun _ => ?_)
  refine X_aload_n dX11_lot_7 rfl ?_
  refine X_getr (a := 27) dX11_lot_8 fkX11_60 rfl (k_0 hSh) (r_0_7 hSh) ?_
  refine X_aload_n dX11_lot_11 rfl ?_
  refine X_geti dX11_lot_12 fkX11_138 rfl (k_0 hSh) ?_
  rw [(CI_k hC).2.1]
  refine X_callVrV dX11_lot_15 mkX11_262 (k_27 hSh) (c_reachK Γ g mi ml A hA hC (aD A) hA.2.2.2.2.1) rfl rfl (by decide) (Nat.le_of_ble_eq_true rfl) (fun m1 l1 hm1 => ?_)
  obtain ⟨⟨r, hrd, hr⟩, hk1, hl1⟩ := hm1
  have hC1 := CIr_CI hr
  refine X_aload_n dX11_lot_18 rfl ?_
  refine X_getr (a := 27) dX11_lot_19 fkX11_60 rfl (k_0 hSh) (r_0_7 hSh) ?_
  refine X_aload_n dX11_lot_22 rfl ?_
  refine X_geti dX11_lot_23 fkX11_138 rfl (k_0 hSh) ?_
  rw [(CI_k hC1).2.1]
  refine X_aload_n dX11_lot_26 rfl ?_
  refine X_getr (a := 84) dX11_lot_27 fkX11_95 rfl (k_0 hSh) (r_0_13 hSh) ?_
  refine X_callVrV dX11_lot_30 mkX11_322 (k_27 hSh) (c_tellK Γ g m1 l1 A hA r hr (aD A) hrd) rfl rfl (by decide) (Nat.le_of_ble_eq_true rfl) (fun m2 l2 hm2 => ?_)
  obtain ⟨hr2, hmo, hk2, hl2⟩ := hm2
  rw [hl2] at hr2 ⊢
  have hC2 := CIr_CI hr2
  have hkm : frK mi m2 := frK_t hk1 (fun i h1 h2 => hk2 i (by omega))
  refine X_aload_n dX11_lot_33 rfl ?_
  refine X_getr (a := 67) dX11_lot_34 fkX11_76 rfl (k_0 hSh) (r_0_10 hSh) ?_
  refine X_iload_n dX11_lot_37 rfl ?_
  refine X_callVrI dX11_lot_38 mkX11_332 (k_67 hSh) (c_lotK Γ g m2 l1 A hA hC2 s) rfl rfl (by decide) (Nat.le_of_ble_eq_true rfl) (fun v3 m3 l3 hm3 => ?_)
  obtain ⟨hv3, hC3, ho3, he3, hl3⟩ := hm3
  rw [hl3] at hC3 ⊢
  refine X_pop dX11_lot_41 rfl ?_
  refine X_aload_n dX11_lot_42 rfl ?_
  refine X_getr (a := 67) dX11_lot_43 fkX11_76 rfl (k_0 hSh) (r_0_10 hSh) ?_
  refine X_aload_n dX11_lot_46 rfl ?_
  refine X_getr (a := 84) dX11_lot_47 fkX11_95 rfl (k_0 hSh) (r_0_13 hSh) ?_
  refine X_aload_n dX11_lot_50 rfl ?_
  refine X_getr (a := 3) dX11_lot_51 fkX11_25 rfl (k_0 hSh) (r_0_2 hSh) ?_
  refine X_geti dX11_lot_54 fkX11_178 rfl (k_3 hSh) ?_
  rw [(CI_cl hC3).2.2.2.1]
  refine X_callVrV dX11_lot_57 mkX11_303 (k_67 hSh) (c_tryK Γ g m3 l1 A hA hC3 (mrn (aP A) (aH A) (aD A)) (lDw A s).2.2 (lDw A s).2.1 (aP A).2.2.2.1 (lDw_ok hA s) (fun b hb => ⟨(congrFun (he3 84 (by omega)) b).trans (hmo b hb), sqd_lt hA.1 _ _⟩) ho3 ⟨hA.1.2.2.2.1, hA.1.2.2.2.2.1⟩) rfl rfl (by decide) (Nat.le_of_ble_eq_true rfl) (fun u1 ul hu1 => ?_)
  obtain ⟨huC, hcd, huT, hul⟩ := hu1
  rw [hul] at huC ⊢
  refine X_iload_n dX11_lot_60 rfl ?_
  refine X_if_neN (a := 0) 73 dX11_lot_61 (by decide) (by omega) (fun h_1 => ?_) (fun h_1 => ?_)
  · exact absurd h_1 (by omega)
  · refine X_aload_n dX11_lot_64 rfl ?_
    refine X_getr (a := 67) dX11_lot_65 fkX11_76 rfl (k_0 hSh) (r_0_10 hSh) ?_
    refine X_iconst (v := nI 3) dX11_lot_68 (by decide) ?_
    refine X_callVI dX11_lot_69 mkX11_224 (k_67 hSh) (c_total Γ g u1 l1 hSh 67 (shC_67 hSh) (aG A) (CI_cl huC).2.1 hG8 3 (by decide)) rfl rfl (by decide) (Nat.le_of_ble_eq_true rfl) ?_
    exact X_iret dX11_lot_72 rfl ⟨congrArg (fun z => Sum.inl (some (Value.int z))) (sumN_eq _ (fun b hb => (hcd.1 b hb).2.2.2.1)), huC, frK_t hkm (frK_t (fun i h1 h2 => he3 i (by omega)) (frT_K (Or.inr rfl) huT)), hl1⟩
set_option maxRecDepth 100000 in
set_option maxHeartbeats 4000000 in
theorem r_lot_0 (Γ : pTG) (g : pGG) (mi : pMI) (ml : pML) (A : AS) (hA : okAS A) (hSh : Sh g) (hR : RI A mi)  (s : Int32) : CT Γ 60 0 0 mX12_lot [.ref 87, .int s, .int (nI 0)] g mi ml (RQ A (.inl (sumN (fun b => (lDD A (mrn (aP A) (aH A) (aD A)) s).1 200 b) (aG A))) cd1 g mi ml) := by
  refine CT_of (by decide +kernel) (Nat.le_of_ble_eq_true rfl) ?_
  have hP := hA.1
  have hG8 : aG A ≤ 8 := hP.2.1
  have hC8 : (aP A).1 ≤ 8 := hP.1
  refine X_aload_n dX12_lot_0 rfl ?_
  refine X_iconst (v := nI 0) dX12_lot_1 (by decide) ?_
  refine X_puti dX12_lot_2 fkX12_158 rfl rfl (k_87 hSh) ?_
  refine X_aload_n dX12_lot_5 rfl ?_
  refine X_iload_n dX12_lot_6 rfl ?_
  refine X_iconst (v := nI 0) dX12_lot_7 (by decide) ?_
  refine X_iconst (v := nI 2) dX12_lot_8 (by decide) ?_
  refine X_callSI dX12_lot_9 mkX12_192 (c_in Γ g (up2 mi 87 0 (nI 0)) ml (nI 0) (nI 0) (nI 2)) rfl rfl (by decide) (Nat.le_of_ble_eq_true rfl) ?_
  refine X_topi (show bI (decide (nI 0 ≤ nI 0) && decide (nI 0 ≤ nI 2)) = nI 1 from congrArg bI (show (decide (nI 0 ≤ nI 0) && decide (nI 0 ≤ nI 2)) = true from by decide)) ?_
  refine X_if_neN (a := 1) 19 dX12_lot_12 (by decide) (by omega) (fun h_1 => ?_) (fun h_1 => ?_)
  · refine X_iconst (v := nI 0) dX12_lot_19 (by decide) ?_
    refine X_iconst (v := nI 1) dX12_lot_20 (by decide) ?_
    refine X_iconst (v := nI 1) dX12_lot_21 (by decide) ?_
    refine X_callVI dX12_lot_22 mkX12_228 (k_87 hSh) (c_bad0 Γ g (up2 mi 87 0 (nI 0)) ml hSh 1 1 up2_s) rfl rfl (by decide) (Nat.le_of_ble_eq_true rfl) ?_
    refine X_if_eqN (a := 0) 30 dX12_lot_25 (by decide) (by omega) (fun h_2 => ?_) (fun h_2 => ?_)
    · refine X_aload_n dX12_lot_30 rfl ?_
      refine X_callVrV dX12_lot_31 mkX12_353 (k_87 hSh) (r_dayW Γ g (up2 mi 87 0 (nI 0)) ml A hA hSh mi hR RW_0) rfl rfl (by decide) (Nat.le_of_ble_eq_true rfl) (fun b1 bl hb1 => ?_)
      obtain ⟨hbD, hbS, hbW, hbl⟩ := hb1
      rw [hbl]
      have hbc : ∀ b, b < aG A → b1 194 b = nI (mrn (aP A) (aH A) (aD A) b) ∧ mrn (aP A) (aH A) (aD A) b < 24 := fun b hb => ⟨(hbD.1 b hb).1, (hbD.1 b hb).2.1⟩
      refine X_aload_n dX12_lot_34 rfl ?_
      refine X_iload_n dX12_lot_35 rfl ?_
      refine X_callVrV dX12_lot_36 mkX12_394 (k_87 hSh) (r_lotN Γ g b1 ml hSh A hA mi hR hbW id (mrn (aP A) (aH A) (aD A)) (aP A).2.2.2.1 ⟨hA.1.2.2.2.1, hA.1.2.2.2.2.1⟩ hbS hbc s) rfl rfl (by decide) (Nat.le_of_ble_eq_true rfl) (fun u1 ul hu1 => ?_)
      obtain ⟨huR, huS, huW, hul⟩ := hu1
      rw [hul]
      have huI := RW_I hA hR huW
      refine X_iconst (v := nI 0) dX12_lot_39 (by decide) ?_
      refine X_istore_n dX12_lot_40 (by decide) ?_
      refine X_iconst (v := nI 0) dX12_lot_41 (by decide) ?_
      refine X_istore dX12_lot_42 (by decide) ?_
      refine X_L [(4, .int (nI 0)), (3, .int (nI 0)), (0, .ref 87), (1, .int s), (2, .int (nI 0))] ⟨rfl, rfl, rfl, rfl, rfl, trivial⟩ ?_
      refine X_for2 (σ := Unit) 44 (fun i x => [(4, .int (nI i)), (3, .int (mkN (seaB (lDD A (mrn (aP A) (aH A) (aD A)) s)) i)), (0, .ref 87), (1, .int s), (2, .int (nI 0))]) (fun x => u1) (fun x => ml) (fun _ x => x) (fun _ _ => True) (aG A) ?_ (aG A) 0 () (by omega) trivial ?_
      · intro i x hi hI
        obtain ⟨n9, hn9, hn8, hse⟩ := sea_r huR hi
        refine ⟨trivial, fun hn => ?_⟩
        refine X_iload dX12_lot_44 rfl ?_
        refine X_aload_n dX12_lot_46 rfl ?_
        refine X_getr (a := 91) dX12_lot_47 fkX12_23 rfl (k_87 hSh) (r_87_12 hSh) ?_
        refine X_iconst (v := nI 1) dX12_lot_50 (by decide) ?_
        refine X_iald 1 dX12_lot_51 (k_91 hSh) rfl (by omega) ?_
        rw [huI.1.2.1]
        refine X_icmp_geN (a := i) (b := aG A) 82 dX12_lot_52 (by decide) (by omega) (by omega) (fun h_3 => ?_) (fun h_3 => ?_)
        · exact absurd hi (by omega)
        · refine X_iload_n dX12_lot_55 rfl ?_
          refine X_aload_n dX12_lot_56 rfl ?_
          refine X_getr (a := 201) dX12_lot_57 fkX12_92 rfl (k_87 hSh) (r_87_41 hSh) ?_
          refine X_iload dX12_lot_60 rfl ?_
          refine X_iald i dX12_lot_62 (k_201 hSh) rfl (by omega) ?_
          rw [hn8]
          refine X_if_leN (a := n9) 73 dX12_lot_63 (by decide) (by omega) (fun h_4 => ?_) (fun h_4 => ?_)
          · refine X_iconst (v := nI 0) dX12_lot_73 (by decide) ?_
            refine X_ior dX12_lot_74 ?_
            refine X_istore_n dX12_lot_75 (by decide) ?_
            refine X_iinc (v := nI (i + 1)) dX12_lot_76 rfl (nI_1 _) (by decide) ?_
            refine X_goto 44 dX12_lot_79 (by decide) ?_
            refine X_L [(4, .int (nI (i + 1))), (3, .int ((mkN (seaB (lDD A (mrn (aP A) (aH A) (aD A)) s)) i) ||| (nI 0))), (0, .ref 87), (1, .int s), (2, .int (nI 0))] ⟨rfl, rfl, rfl, rfl, rfl, trivial⟩ ?_
            rw [show mkN (seaB (lDD A (mrn (aP A) (aH A) (aD A)) s)) (i + 1) = (mkN (seaB (lDD A (mrn (aP A) (aH A) (aD A)) s)) i) ||| (nI 0) from (if_neg (by rw [show seaB (lDD A (mrn (aP A) (aH A) (aD A)) s) i = _ from hse, decide_eq_true_eq]; omega)).trans (i_or0 _).symm] at hn
            exact hn
          · refine X_iconst (v := nI 1) dX12_lot_66 (by decide) ?_
            refine X_iload dX12_lot_67 rfl ?_
            refine X_ishl dX12_lot_69 ?_
            refine X_goto 74 dX12_lot_70 (by decide) ?_
            refine X_ior dX12_lot_74 ?_
            refine X_istore_n dX12_lot_75 (by decide) ?_
            refine X_iinc (v := nI (i + 1)) dX12_lot_76 rfl (nI_1 _) (by decide) ?_
            refine X_goto 44 dX12_lot_79 (by decide) ?_
            refine X_L [(4, .int (nI (i + 1))), (3, .int ((mkN (seaB (lDD A (mrn (aP A) (aH A) (aD A)) s)) i) ||| ((nI 1) <<< ((nI i) &&& 31)))), (0, .ref 87), (1, .int s), (2, .int (nI 0))] ⟨rfl, rfl, rfl, rfl, rfl, trivial⟩ ?_
            rw [show mkN (seaB (lDD A (mrn (aP A) (aH A) (aD A)) s)) (i + 1) = (mkN (seaB (lDD A (mrn (aP A) (aH A) (aD A)) s)) i) ||| ((nI 1) <<< ((nI i) &&& 31)) from if_pos (by rw [show seaB (lDD A (mrn (aP A) (aH A) (aD A)) s) i = _ from hse, decide_eq_true_eq]; omega)] at hn
            exact hn
      · intro x hI
        refine X_iload dX12_lot_44 rfl ?_
        refine X_aload_n dX12_lot_46 rfl ?_
        refine X_getr (a := 91) dX12_lot_47 fkX12_23 rfl (k_87 hSh) (r_87_12 hSh) ?_
        refine X_iconst (v := nI 1) dX12_lot_50 (by decide) ?_
        refine X_iald 1 dX12_lot_51 (k_91 hSh) rfl (by omega) ?_
        rw [huI.1.2.1]
        refine X_icmp_geN (a := (aG A)) (b := aG A) 82 dX12_lot_52 (by decide) (by omega) (by omega) (fun h_5 => ?_) (fun h_5 => ?_)
        · refine X_iload_n dX12_lot_82 rfl ?_
          refine X_if_neN (a := 0) 93 dX12_lot_83 (by decide) (by omega) (fun h_6 => ?_) (fun h_6 => ?_)
          · exact absurd h_6 (by omega)
          · refine X_aload_n dX12_lot_86 rfl ?_
            refine X_callVI dX12_lot_87 mkX12_359 (k_87 hSh) (c_allGot Γ g u1 ml hSh (aG A) (RW_I hA hR huW).1.2.1 hG8) rfl rfl (by decide) (Nat.le_of_ble_eq_true rfl) ?_
            refine X_topi (show _ = sumN (fun b => (lDD A (mrn (aP A) (aH A) (aD A)) s).1 200 b) (aG A) from sumN_eq _ (fun b hb => (huR.1 b hb).2.2.2.2.1)) ?_
            refine X_goto 106 dX12_lot_90 (by decide) ?_
            exact X_iret dX12_lot_106 rfl ⟨rfl, rfl, RW_I hA hR huW, huW.2.1, _, rfl, rfl, huW.2.2⟩
        · exact absurd h_5 (by omega)
    · exact absurd h_2 (by omega)
  · exact absurd h_1 (by omega)
set_option maxRecDepth 100000 in
set_option maxHeartbeats 4000000 in
theorem k_lot_1 (Γ : pTG) (g : pGG) (mi : pMI) (ml : pML) (A : AS) (hA : okAS A) (hC : CI A g mi ml)  (s : Int32) : CT Γ 60 20 5000 mX11_lot [.ref 0, .int s, .int (nI 1)] g mi ml (CQ A (.inl (mkN (seaB (lDD A (mrn (aP A) (aH A) (aD A)) s)) (aG A))) mi ml) := by
  refine CT_of (by decide +kernel) (Nat.le_of_ble_eq_true rfl) ?_
  have hSh := CI_Sh hC
  have hcl := CI_cl hC
  have hP := hA.1
  have hG8 : aG A ≤ 8 := hP.2.1
  have hC8 : (aP A).1 ≤ 8 := hP.1
  refine X_aload_n dX11_lot_0 rfl ?_
  refine X_iload_n dX11_lot_1 rfl ?_
  refine X_iconst (v := nI 0) dX11_lot_2 (by decide) ?_
  refine X_iconst (v := nI 2) dX11_lot_3 (by decide) ?_
  refine X_need dX11_lot_4 mkX11_116 (k_0 hSh) (c_needWithin Γ g mi ml hSh (nI 1) (nI 0) (nI 2)) rfl rfl (by decide) (by decide) (by decide) (by decide) (fun h => absurd (by decide) h) (fun _ => ?_)
  refine X_aload_n dX11_lot_7 rfl ?_
  refine X_getr (a := 27) dX11_lot_8 fkX11_60 rfl (k_0 hSh) (r_0_7 hSh) ?_
  refine X_aload_n dX11_lot_11 rfl ?_
  refine X_geti dX11_lot_12 fkX11_138 rfl (k_0 hSh) ?_
  rw [(CI_k hC).2.1]
  refine X_callVrV dX11_lot_15 mkX11_262 (k_27 hSh) (c_reachK Γ g mi ml A hA hC (aD A) hA.2.2.2.2.1) rfl rfl (by decide) (Nat.le_of_ble_eq_true rfl) (fun m1 l1 hm1 => ?_)
  obtain ⟨⟨r, hrd, hr⟩, hk1, hl1⟩ := hm1
  have hC1 := CIr_CI hr
  refine X_aload_n dX11_lot_18 rfl ?_
  refine X_getr (a := 27) dX11_lot_19 fkX11_60 rfl (k_0 hSh) (r_0_7 hSh) ?_
  refine X_aload_n dX11_lot_22 rfl ?_
  refine X_geti dX11_lot_23 fkX11_138 rfl (k_0 hSh) ?_
  rw [(CI_k hC1).2.1]
  refine X_aload_n dX11_lot_26 rfl ?_
  refine X_getr (a := 84) dX11_lot_27 fkX11_95 rfl (k_0 hSh) (r_0_13 hSh) ?_
  refine X_callVrV dX11_lot_30 mkX11_322 (k_27 hSh) (c_tellK Γ g m1 l1 A hA r hr (aD A) hrd) rfl rfl (by decide) (Nat.le_of_ble_eq_true rfl) (fun m2 l2 hm2 => ?_)
  obtain ⟨hr2, hmo, hk2, hl2⟩ := hm2
  rw [hl2] at hr2 ⊢
  have hC2 := CIr_CI hr2
  have hkm : frK mi m2 := frK_t hk1 (fun i h1 h2 => hk2 i (by omega))
  refine X_aload_n dX11_lot_33 rfl ?_
  refine X_getr (a := 67) dX11_lot_34 fkX11_76 rfl (k_0 hSh) (r_0_10 hSh) ?_
  refine X_iload_n dX11_lot_37 rfl ?_
  refine X_callVrI dX11_lot_38 mkX11_332 (k_67 hSh) (c_lotK Γ g m2 l1 A hA hC2 s) rfl rfl (by decide) (Nat.le_of_ble_eq_true rfl) (fun v3 m3 l3 hm3 => ?_)
  obtain ⟨hv3, hC3, ho3, he3, hl3⟩ := hm3
  rw [hl3] at hC3 ⊢
  refine X_pop dX11_lot_41 rfl ?_
  refine X_aload_n dX11_lot_42 rfl ?_
  refine X_getr (a := 67) dX11_lot_43 fkX11_76 rfl (k_0 hSh) (r_0_10 hSh) ?_
  refine X_aload_n dX11_lot_46 rfl ?_
  refine X_getr (a := 84) dX11_lot_47 fkX11_95 rfl (k_0 hSh) (r_0_13 hSh) ?_
  refine X_aload_n dX11_lot_50 rfl ?_
  refine X_getr (a := 3) dX11_lot_51 fkX11_25 rfl (k_0 hSh) (r_0_2 hSh) ?_
  refine X_geti dX11_lot_54 fkX11_178 rfl (k_3 hSh) ?_
  rw [(CI_cl hC3).2.2.2.1]
  refine X_callVrV dX11_lot_57 mkX11_303 (k_67 hSh) (c_tryK Γ g m3 l1 A hA hC3 (mrn (aP A) (aH A) (aD A)) (lDw A s).2.2 (lDw A s).2.1 (aP A).2.2.2.1 (lDw_ok hA s) (fun b hb => ⟨(congrFun (he3 84 (by omega)) b).trans (hmo b hb), sqd_lt hA.1 _ _⟩) ho3 ⟨hA.1.2.2.2.1, hA.1.2.2.2.2.1⟩) rfl rfl (by decide) (Nat.le_of_ble_eq_true rfl) (fun u1 ul hu1 => ?_)
  obtain ⟨huC, hcd, huT, hul⟩ := hu1
  rw [hul] at huC ⊢
  refine X_iload_n dX11_lot_60 rfl ?_
  refine X_if_neN (a := 1) 73 dX11_lot_61 (by decide) (by omega) (fun h_1 => ?_) (fun h_1 => ?_)
  · refine X_iload_n dX11_lot_73 rfl ?_
    refine X_iconst (v := nI 1) dX11_lot_74 (by decide) ?_
    refine X_icmp_neN (a := 1) (b := 1) 88 dX11_lot_75 (by decide) (by omega) (by omega) (fun h_2 => ?_) (fun h_2 => ?_)
    · exact absurd h_2 (by omega)
    · refine X_aload_n dX11_lot_78 rfl ?_
      refine X_getr (a := 67) dX11_lot_79 fkX11_76 rfl (k_0 hSh) (r_0_10 hSh) ?_
      refine X_callVI dX11_lot_82 mkX11_235 (k_67 hSh) (c_seated Γ g u1 l1 hSh 67 (shC_67 hSh) (aG A) (CI_cl huC).2.1 hG8) rfl rfl (by decide) (Nat.le_of_ble_eq_true rfl) ?_
      refine X_goto 95 dX11_lot_85 (by decide) ?_
      exact X_iret dX11_lot_95 rfl ⟨congrArg (fun z => Sum.inl (some (Value.int z))) (sea_m hcd), huC, frK_t hkm (frK_t (fun i h1 h2 => he3 i (by omega)) (frT_K (Or.inr rfl) huT)), hl1⟩
  · exact absurd h_1 (by omega)
set_option maxRecDepth 100000 in
set_option maxHeartbeats 4000000 in
theorem r_lot_1 (Γ : pTG) (g : pGG) (mi : pMI) (ml : pML) (A : AS) (hA : okAS A) (hSh : Sh g) (hR : RI A mi)  (s : Int32) : CT Γ 60 0 0 mX12_lot [.ref 87, .int s, .int (nI 1)] g mi ml (RQ A (.inl (mkN (seaB (lDD A (mrn (aP A) (aH A) (aD A)) s)) (aG A))) cd1 g mi ml) := by
  refine CT_of (by decide +kernel) (Nat.le_of_ble_eq_true rfl) ?_
  have hP := hA.1
  have hG8 : aG A ≤ 8 := hP.2.1
  have hC8 : (aP A).1 ≤ 8 := hP.1
  refine X_aload_n dX12_lot_0 rfl ?_
  refine X_iconst (v := nI 0) dX12_lot_1 (by decide) ?_
  refine X_puti dX12_lot_2 fkX12_158 rfl rfl (k_87 hSh) ?_
  refine X_aload_n dX12_lot_5 rfl ?_
  refine X_iload_n dX12_lot_6 rfl ?_
  refine X_iconst (v := nI 0) dX12_lot_7 (by decide) ?_
  refine X_iconst (v := nI 2) dX12_lot_8 (by decide) ?_
  refine X_callSI dX12_lot_9 mkX12_192 (c_in Γ g (up2 mi 87 0 (nI 0)) ml (nI 1) (nI 0) (nI 2)) rfl rfl (by decide) (Nat.le_of_ble_eq_true rfl) ?_
  refine X_topi (show bI (decide (nI 0 ≤ nI 1) && decide (nI 1 ≤ nI 2)) = nI 1 from congrArg bI (show (decide (nI 0 ≤ nI 1) && decide (nI 1 ≤ nI 2)) = true from by decide)) ?_
  refine X_if_neN (a := 1) 19 dX12_lot_12 (by decide) (by omega) (fun h_1 => ?_) (fun h_1 => ?_)
  · refine X_iconst (v := nI 0) dX12_lot_19 (by decide) ?_
    refine X_iconst (v := nI 1) dX12_lot_20 (by decide) ?_
    refine X_iconst (v := nI 1) dX12_lot_21 (by decide) ?_
    refine X_callVI dX12_lot_22 mkX12_228 (k_87 hSh) (c_bad0 Γ g (up2 mi 87 0 (nI 0)) ml hSh 1 1 up2_s) rfl rfl (by decide) (Nat.le_of_ble_eq_true rfl) ?_
    refine X_if_eqN (a := 0) 30 dX12_lot_25 (by decide) (by omega) (fun h_2 => ?_) (fun h_2 => ?_)
    · refine X_aload_n dX12_lot_30 rfl ?_
      refine X_callVrV dX12_lot_31 mkX12_353 (k_87 hSh) (r_dayW Γ g (up2 mi 87 0 (nI 0)) ml A hA hSh mi hR RW_0) rfl rfl (by decide) (Nat.le_of_ble_eq_true rfl) (fun b1 bl hb1 => ?_)
      obtain ⟨hbD, hbS, hbW, hbl⟩ := hb1
      rw [hbl]
      have hbc : ∀ b, b < aG A → b1 194 b = nI (mrn (aP A) (aH A) (aD A) b) ∧ mrn (aP A) (aH A) (aD A) b < 24 := fun b hb => ⟨(hbD.1 b hb).1, (hbD.1 b hb).2.1⟩
      refine X_aload_n dX12_lot_34 rfl ?_
      refine X_iload_n dX12_lot_35 rfl ?_
      refine X_callVrV dX12_lot_36 mkX12_394 (k_87 hSh) (r_lotN Γ g b1 ml hSh A hA mi hR hbW id (mrn (aP A) (aH A) (aD A)) (aP A).2.2.2.1 ⟨hA.1.2.2.2.1, hA.1.2.2.2.2.1⟩ hbS hbc s) rfl rfl (by decide) (Nat.le_of_ble_eq_true rfl) (fun u1 ul hu1 => ?_)
      obtain ⟨huR, huS, huW, hul⟩ := hu1
      rw [hul]
      have huI := RW_I hA hR huW
      refine X_iconst (v := nI 0) dX12_lot_39 (by decide) ?_
      refine X_istore_n dX12_lot_40 (by decide) ?_
      refine X_iconst (v := nI 0) dX12_lot_41 (by decide) ?_
      refine X_istore dX12_lot_42 (by decide) ?_
      refine X_L [(4, .int (nI 0)), (3, .int (nI 0)), (0, .ref 87), (1, .int s), (2, .int (nI 1))] ⟨rfl, rfl, rfl, rfl, rfl, trivial⟩ ?_
      refine X_for2 (σ := Unit) 44 (fun i x => [(4, .int (nI i)), (3, .int (mkN (seaB (lDD A (mrn (aP A) (aH A) (aD A)) s)) i)), (0, .ref 87), (1, .int s), (2, .int (nI 1))]) (fun x => u1) (fun x => ml) (fun _ x => x) (fun _ _ => True) (aG A) ?_ (aG A) 0 () (by omega) trivial ?_
      · intro i x hi hI
        obtain ⟨n9, hn9, hn8, hse⟩ := sea_r huR hi
        refine ⟨trivial, fun hn => ?_⟩
        refine X_iload dX12_lot_44 rfl ?_
        refine X_aload_n dX12_lot_46 rfl ?_
        refine X_getr (a := 91) dX12_lot_47 fkX12_23 rfl (k_87 hSh) (r_87_12 hSh) ?_
        refine X_iconst (v := nI 1) dX12_lot_50 (by decide) ?_
        refine X_iald 1 dX12_lot_51 (k_91 hSh) rfl (by omega) ?_
        rw [huI.1.2.1]
        refine X_icmp_geN (a := i) (b := aG A) 82 dX12_lot_52 (by decide) (by omega) (by omega) (fun h_3 => ?_) (fun h_3 => ?_)
        · exact absurd hi (by omega)
        · refine X_iload_n dX12_lot_55 rfl ?_
          refine X_aload_n dX12_lot_56 rfl ?_
          refine X_getr (a := 201) dX12_lot_57 fkX12_92 rfl (k_87 hSh) (r_87_41 hSh) ?_
          refine X_iload dX12_lot_60 rfl ?_
          refine X_iald i dX12_lot_62 (k_201 hSh) rfl (by omega) ?_
          rw [hn8]
          refine X_if_leN (a := n9) 73 dX12_lot_63 (by decide) (by omega) (fun h_4 => ?_) (fun h_4 => ?_)
          · refine X_iconst (v := nI 0) dX12_lot_73 (by decide) ?_
            refine X_ior dX12_lot_74 ?_
            refine X_istore_n dX12_lot_75 (by decide) ?_
            refine X_iinc (v := nI (i + 1)) dX12_lot_76 rfl (nI_1 _) (by decide) ?_
            refine X_goto 44 dX12_lot_79 (by decide) ?_
            refine X_L [(4, .int (nI (i + 1))), (3, .int ((mkN (seaB (lDD A (mrn (aP A) (aH A) (aD A)) s)) i) ||| (nI 0))), (0, .ref 87), (1, .int s), (2, .int (nI 1))] ⟨rfl, rfl, rfl, rfl, rfl, trivial⟩ ?_
            rw [show mkN (seaB (lDD A (mrn (aP A) (aH A) (aD A)) s)) (i + 1) = (mkN (seaB (lDD A (mrn (aP A) (aH A) (aD A)) s)) i) ||| (nI 0) from (if_neg (by rw [show seaB (lDD A (mrn (aP A) (aH A) (aD A)) s) i = _ from hse, decide_eq_true_eq]; omega)).trans (i_or0 _).symm] at hn
            exact hn
          · refine X_iconst (v := nI 1) dX12_lot_66 (by decide) ?_
            refine X_iload dX12_lot_67 rfl ?_
            refine X_ishl dX12_lot_69 ?_
            refine X_goto 74 dX12_lot_70 (by decide) ?_
            refine X_ior dX12_lot_74 ?_
            refine X_istore_n dX12_lot_75 (by decide) ?_
            refine X_iinc (v := nI (i + 1)) dX12_lot_76 rfl (nI_1 _) (by decide) ?_
            refine X_goto 44 dX12_lot_79 (by decide) ?_
            refine X_L [(4, .int (nI (i + 1))), (3, .int ((mkN (seaB (lDD A (mrn (aP A) (aH A) (aD A)) s)) i) ||| ((nI 1) <<< ((nI i) &&& 31)))), (0, .ref 87), (1, .int s), (2, .int (nI 1))] ⟨rfl, rfl, rfl, rfl, rfl, trivial⟩ ?_
            rw [show mkN (seaB (lDD A (mrn (aP A) (aH A) (aD A)) s)) (i + 1) = (mkN (seaB (lDD A (mrn (aP A) (aH A) (aD A)) s)) i) ||| ((nI 1) <<< ((nI i) &&& 31)) from if_pos (by rw [show seaB (lDD A (mrn (aP A) (aH A) (aD A)) s) i = _ from hse, decide_eq_true_eq]; omega)] at hn
            exact hn
      · intro x hI
        refine X_iload dX12_lot_44 rfl ?_
        refine X_aload_n dX12_lot_46 rfl ?_
        refine X_getr (a := 91) dX12_lot_47 fkX12_23 rfl (k_87 hSh) (r_87_12 hSh) ?_
        refine X_iconst (v := nI 1) dX12_lot_50 (by decide) ?_
        refine X_iald 1 dX12_lot_51 (k_91 hSh) rfl (by omega) ?_
        rw [huI.1.2.1]
        refine X_icmp_geN (a := (aG A)) (b := aG A) 82 dX12_lot_52 (by decide) (by omega) (by omega) (fun h_5 => ?_) (fun h_5 => ?_)
        · refine X_iload_n dX12_lot_82 rfl ?_
          refine X_if_neN (a := 1) 93 dX12_lot_83 (by decide) (by omega) (fun h_6 => ?_) (fun h_6 => ?_)
          · refine X_iload_n dX12_lot_93 rfl ?_
            refine X_iconst (v := nI 1) dX12_lot_94 (by decide) ?_
            refine X_icmp_neN (a := 1) (b := 1) 102 dX12_lot_95 (by decide) (by omega) (by omega) (fun h_7 => ?_) (fun h_7 => ?_)
            · exact absurd h_7 (by omega)
            · refine X_iload_n dX12_lot_98 rfl ?_
              refine X_goto 106 dX12_lot_99 (by decide) ?_
              exact X_iret dX12_lot_106 rfl ⟨rfl, rfl, RW_I hA hR huW, huW.2.1, _, rfl, rfl, huW.2.2⟩
          · exact absurd h_6 (by omega)
        · exact absurd h_5 (by omega)
    · exact absurd h_2 (by omega)
  · exact absurd h_1 (by omega)
set_option maxRecDepth 100000 in
set_option maxHeartbeats 4000000 in
theorem k_lot_2 (Γ : pTG) (g : pGG) (mi : pMI) (ml : pML) (A : AS) (hA : okAS A) (hC : CI A g mi ml)  (s : Int32) : CT Γ 60 20 5000 mX11_lot [.ref 0, .int s, .int (nI 2)] g mi ml (CQ A (.inl (sumN (fun c => (lDD A (mrn (aP A) (aH A) (aD A)) s).1 207 c) (aP A).1)) mi ml) := by
  refine CT_of (by decide +kernel) (Nat.le_of_ble_eq_true rfl) ?_
  have hSh := CI_Sh hC
  have hcl := CI_cl hC
  have hP := hA.1
  have hG8 : aG A ≤ 8 := hP.2.1
  have hC8 : (aP A).1 ≤ 8 := hP.1
  refine X_aload_n dX11_lot_0 rfl ?_
  refine X_iload_n dX11_lot_1 rfl ?_
  refine X_iconst (v := nI 0) dX11_lot_2 (by decide) ?_
  refine X_iconst (v := nI 2) dX11_lot_3 (by decide) ?_
  refine X_need dX11_lot_4 mkX11_116 (k_0 hSh) (c_needWithin Γ g mi ml hSh (nI 2) (nI 0) (nI 2)) rfl rfl (by decide) (by decide) (by decide) (by decide) (fun h => absurd (by decide) h) (fun _ => ?_)
  refine X_aload_n dX11_lot_7 rfl ?_
  refine X_getr (a := 27) dX11_lot_8 fkX11_60 rfl (k_0 hSh) (r_0_7 hSh) ?_
  refine X_aload_n dX11_lot_11 rfl ?_
  refine X_geti dX11_lot_12 fkX11_138 rfl (k_0 hSh) ?_
  rw [(CI_k hC).2.1]
  refine X_callVrV dX11_lot_15 mkX11_262 (k_27 hSh) (c_reachK Γ g mi ml A hA hC (aD A) hA.2.2.2.2.1) rfl rfl (by decide) (Nat.le_of_ble_eq_true rfl) (fun m1 l1 hm1 => ?_)
  obtain ⟨⟨r, hrd, hr⟩, hk1, hl1⟩ := hm1
  have hC1 := CIr_CI hr
  refine X_aload_n dX11_lot_18 rfl ?_
  refine X_getr (a := 27) dX11_lot_19 fkX11_60 rfl (k_0 hSh) (r_0_7 hSh) ?_
  refine X_aload_n dX11_lot_22 rfl ?_
  refine X_geti dX11_lot_23 fkX11_138 rfl (k_0 hSh) ?_
  rw [(CI_k hC1).2.1]
  refine X_aload_n dX11_lot_26 rfl ?_
  refine X_getr (a := 84) dX11_lot_27 fkX11_95 rfl (k_0 hSh) (r_0_13 hSh) ?_
  refine X_callVrV dX11_lot_30 mkX11_322 (k_27 hSh) (c_tellK Γ g m1 l1 A hA r hr (aD A) hrd) rfl rfl (by decide) (Nat.le_of_ble_eq_true rfl) (fun m2 l2 hm2 => ?_)
  obtain ⟨hr2, hmo, hk2, hl2⟩ := hm2
  rw [hl2] at hr2 ⊢
  have hC2 := CIr_CI hr2
  have hkm : frK mi m2 := frK_t hk1 (fun i h1 h2 => hk2 i (by omega))
  refine X_aload_n dX11_lot_33 rfl ?_
  refine X_getr (a := 67) dX11_lot_34 fkX11_76 rfl (k_0 hSh) (r_0_10 hSh) ?_
  refine X_iload_n dX11_lot_37 rfl ?_
  refine X_callVrI dX11_lot_38 mkX11_332 (k_67 hSh) (c_lotK Γ g m2 l1 A hA hC2 s) rfl rfl (by decide) (Nat.le_of_ble_eq_true rfl) (fun v3 m3 l3 hm3 => ?_)
  obtain ⟨hv3, hC3, ho3, he3, hl3⟩ := hm3
  rw [hl3] at hC3 ⊢
  refine X_pop dX11_lot_41 rfl ?_
  refine X_aload_n dX11_lot_42 rfl ?_
  refine X_getr (a := 67) dX11_lot_43 fkX11_76 rfl (k_0 hSh) (r_0_10 hSh) ?_
  refine X_aload_n dX11_lot_46 rfl ?_
  refine X_getr (a := 84) dX11_lot_47 fkX11_95 rfl (k_0 hSh) (r_0_13 hSh) ?_
  refine X_aload_n dX11_lot_50 rfl ?_
  refine X_getr (a := 3) dX11_lot_51 fkX11_25 rfl (k_0 hSh) (r_0_2 hSh) ?_
  refine X_geti dX11_lot_54 fkX11_178 rfl (k_3 hSh) ?_
  rw [(CI_cl hC3).2.2.2.1]
  refine X_callVrV dX11_lot_57 mkX11_303 (k_67 hSh) (c_tryK Γ g m3 l1 A hA hC3 (mrn (aP A) (aH A) (aD A)) (lDw A s).2.2 (lDw A s).2.1 (aP A).2.2.2.1 (lDw_ok hA s) (fun b hb => ⟨(congrFun (he3 84 (by omega)) b).trans (hmo b hb), sqd_lt hA.1 _ _⟩) ho3 ⟨hA.1.2.2.2.1, hA.1.2.2.2.2.1⟩) rfl rfl (by decide) (Nat.le_of_ble_eq_true rfl) (fun u1 ul hu1 => ?_)
  obtain ⟨huC, hcd, huT, hul⟩ := hu1
  rw [hul] at huC ⊢
  refine X_iload_n dX11_lot_60 rfl ?_
  refine X_if_neN (a := 2) 73 dX11_lot_61 (by decide) (by omega) (fun h_1 => ?_) (fun h_1 => ?_)
  · refine X_iload_n dX11_lot_73 rfl ?_
    refine X_iconst (v := nI 1) dX11_lot_74 (by decide) ?_
    refine X_icmp_neN (a := 2) (b := 1) 88 dX11_lot_75 (by decide) (by omega) (by omega) (fun h_2 => ?_) (fun h_2 => ?_)
    · refine X_aload_n dX11_lot_88 rfl ?_
      refine X_getr (a := 67) dX11_lot_89 fkX11_76 rfl (k_0 hSh) (r_0_10 hSh) ?_
      refine X_callVI dX11_lot_92 mkX11_228 (k_67 hSh) (c_idle Γ g u1 l1 hSh 67 (shC_67 hSh) (aP A).1 (CI_cl huC).1 hC8) rfl rfl (by decide) (Nat.le_of_ble_eq_true rfl) ?_
      exact X_iret dX11_lot_95 rfl ⟨congrArg (fun z => Sum.inl (some (Value.int z))) (sumN_eq _ (fun c hc => (hcd.2.1 c hc).2.1)), huC, frK_t hkm (frK_t (fun i h1 h2 => he3 i (by omega)) (frT_K (Or.inr rfl) huT)), hl1⟩
    · exact absurd h_2 (by omega)
  · exact absurd h_1 (by omega)
set_option maxRecDepth 100000 in
set_option maxHeartbeats 4000000 in
theorem r_lot_2 (Γ : pTG) (g : pGG) (mi : pMI) (ml : pML) (A : AS) (hA : okAS A) (hSh : Sh g) (hR : RI A mi)  (s : Int32) : CT Γ 60 0 0 mX12_lot [.ref 87, .int s, .int (nI 2)] g mi ml (RQ A (.inl (sumN (fun c => (lDD A (mrn (aP A) (aH A) (aD A)) s).1 207 c) (aP A).1)) cd1 g mi ml) := by
  refine CT_of (by decide +kernel) (Nat.le_of_ble_eq_true rfl) ?_
  have hP := hA.1
  have hG8 : aG A ≤ 8 := hP.2.1
  have hC8 : (aP A).1 ≤ 8 := hP.1
  refine X_aload_n dX12_lot_0 rfl ?_
  refine X_iconst (v := nI 0) dX12_lot_1 (by decide) ?_
  refine X_puti dX12_lot_2 fkX12_158 rfl rfl (k_87 hSh) ?_
  refine X_aload_n dX12_lot_5 rfl ?_
  refine X_iload_n dX12_lot_6 rfl ?_
  refine X_iconst (v := nI 0) dX12_lot_7 (by decide) ?_
  refine X_iconst (v := nI 2) dX12_lot_8 (by decide) ?_
  refine X_callSI dX12_lot_9 mkX12_192 (c_in Γ g (up2 mi 87 0 (nI 0)) ml (nI 2) (nI 0) (nI 2)) rfl rfl (by decide) (Nat.le_of_ble_eq_true rfl) ?_
  refine X_topi (show bI (decide (nI 0 ≤ nI 2) && decide (nI 2 ≤ nI 2)) = nI 1 from congrArg bI (show (decide (nI 0 ≤ nI 2) && decide (nI 2 ≤ nI 2)) = true from by decide)) ?_
  refine X_if_neN (a := 1) 19 dX12_lot_12 (by decide) (by omega) (fun h_1 => ?_) (fun h_1 => ?_)
  · refine X_iconst (v := nI 0) dX12_lot_19 (by decide) ?_
    refine X_iconst (v := nI 1) dX12_lot_20 (by decide) ?_
    refine X_iconst (v := nI 1) dX12_lot_21 (by decide) ?_
    refine X_callVI dX12_lot_22 mkX12_228 (k_87 hSh) (c_bad0 Γ g (up2 mi 87 0 (nI 0)) ml hSh 1 1 up2_s) rfl rfl (by decide) (Nat.le_of_ble_eq_true rfl) ?_
    refine X_if_eqN (a := 0) 30 dX12_lot_25 (by decide) (by omega) (fun h_2 => ?_) (fun h_2 => ?_)
    · refine X_aload_n dX12_lot_30 rfl ?_
      refine X_callVrV dX12_lot_31 mkX12_353 (k_87 hSh) (r_dayW Γ g (up2 mi 87 0 (nI 0)) ml A hA hSh mi hR RW_0) rfl rfl (by decide) (Nat.le_of_ble_eq_true rfl) (fun b1 bl hb1 => ?_)
      obtain ⟨hbD, hbS, hbW, hbl⟩ := hb1
      rw [hbl]
      have hbc : ∀ b, b < aG A → b1 194 b = nI (mrn (aP A) (aH A) (aD A) b) ∧ mrn (aP A) (aH A) (aD A) b < 24 := fun b hb => ⟨(hbD.1 b hb).1, (hbD.1 b hb).2.1⟩
      refine X_aload_n dX12_lot_34 rfl ?_
      refine X_iload_n dX12_lot_35 rfl ?_
      refine X_callVrV dX12_lot_36 mkX12_394 (k_87 hSh) (r_lotN Γ g b1 ml hSh A hA mi hR hbW id (mrn (aP A) (aH A) (aD A)) (aP A).2.2.2.1 ⟨hA.1.2.2.2.1, hA.1.2.2.2.2.1⟩ hbS hbc s) rfl rfl (by decide) (Nat.le_of_ble_eq_true rfl) (fun u1 ul hu1 => ?_)
      obtain ⟨huR, huS, huW, hul⟩ := hu1
      rw [hul]
      have huI := RW_I hA hR huW
      refine X_iconst (v := nI 0) dX12_lot_39 (by decide) ?_
      refine X_istore_n dX12_lot_40 (by decide) ?_
      refine X_iconst (v := nI 0) dX12_lot_41 (by decide) ?_
      refine X_istore dX12_lot_42 (by decide) ?_
      refine X_L [(4, .int (nI 0)), (3, .int (nI 0)), (0, .ref 87), (1, .int s), (2, .int (nI 2))] ⟨rfl, rfl, rfl, rfl, rfl, trivial⟩ ?_
      refine X_for2 (σ := Unit) 44 (fun i x => [(4, .int (nI i)), (3, .int (mkN (seaB (lDD A (mrn (aP A) (aH A) (aD A)) s)) i)), (0, .ref 87), (1, .int s), (2, .int (nI 2))]) (fun x => u1) (fun x => ml) (fun _ x => x) (fun _ _ => True) (aG A) ?_ (aG A) 0 () (by omega) trivial ?_
      · intro i x hi hI
        obtain ⟨n9, hn9, hn8, hse⟩ := sea_r huR hi
        refine ⟨trivial, fun hn => ?_⟩
        refine X_iload dX12_lot_44 rfl ?_
        refine X_aload_n dX12_lot_46 rfl ?_
        refine X_getr (a := 91) dX12_lot_47 fkX12_23 rfl (k_87 hSh) (r_87_12 hSh) ?_
        refine X_iconst (v := nI 1) dX12_lot_50 (by decide) ?_
        refine X_iald 1 dX12_lot_51 (k_91 hSh) rfl (by omega) ?_
        rw [huI.1.2.1]
        refine X_icmp_geN (a := i) (b := aG A) 82 dX12_lot_52 (by decide) (by omega) (by omega) (fun h_3 => ?_) (fun h_3 => ?_)
        · exact absurd hi (by omega)
        · refine X_iload_n dX12_lot_55 rfl ?_
          refine X_aload_n dX12_lot_56 rfl ?_
          refine X_getr (a := 201) dX12_lot_57 fkX12_92 rfl (k_87 hSh) (r_87_41 hSh) ?_
          refine X_iload dX12_lot_60 rfl ?_
          refine X_iald i dX12_lot_62 (k_201 hSh) rfl (by omega) ?_
          rw [hn8]
          refine X_if_leN (a := n9) 73 dX12_lot_63 (by decide) (by omega) (fun h_4 => ?_) (fun h_4 => ?_)
          · refine X_iconst (v := nI 0) dX12_lot_73 (by decide) ?_
            refine X_ior dX12_lot_74 ?_
            refine X_istore_n dX12_lot_75 (by decide) ?_
            refine X_iinc (v := nI (i + 1)) dX12_lot_76 rfl (nI_1 _) (by decide) ?_
            refine X_goto 44 dX12_lot_79 (by decide) ?_
            refine X_L [(4, .int (nI (i + 1))), (3, .int ((mkN (seaB (lDD A (mrn (aP A) (aH A) (aD A)) s)) i) ||| (nI 0))), (0, .ref 87), (1, .int s), (2, .int (nI 2))] ⟨rfl, rfl, rfl, rfl, rfl, trivial⟩ ?_
            rw [show mkN (seaB (lDD A (mrn (aP A) (aH A) (aD A)) s)) (i + 1) = (mkN (seaB (lDD A (mrn (aP A) (aH A) (aD A)) s)) i) ||| (nI 0) from (if_neg (by rw [show seaB (lDD A (mrn (aP A) (aH A) (aD A)) s) i = _ from hse, decide_eq_true_eq]; omega)).trans (i_or0 _).symm] at hn
            exact hn
          · refine X_iconst (v := nI 1) dX12_lot_66 (by decide) ?_
            refine X_iload dX12_lot_67 rfl ?_
            refine X_ishl dX12_lot_69 ?_
            refine X_goto 74 dX12_lot_70 (by decide) ?_
            refine X_ior dX12_lot_74 ?_
            refine X_istore_n dX12_lot_75 (by decide) ?_
            refine X_iinc (v := nI (i + 1)) dX12_lot_76 rfl (nI_1 _) (by decide) ?_
            refine X_goto 44 dX12_lot_79 (by decide) ?_
            refine X_L [(4, .int (nI (i + 1))), (3, .int ((mkN (seaB (lDD A (mrn (aP A) (aH A) (aD A)) s)) i) ||| ((nI 1) <<< ((nI i) &&& 31)))), (0, .ref 87), (1, .int s), (2, .int (nI 2))] ⟨rfl, rfl, rfl, rfl, rfl, trivial⟩ ?_
            rw [show mkN (seaB (lDD A (mrn (aP A) (aH A) (aD A)) s)) (i + 1) = (mkN (seaB (lDD A (mrn (aP A) (aH A) (aD A)) s)) i) ||| ((nI 1) <<< ((nI i) &&& 31)) from if_pos (by rw [show seaB (lDD A (mrn (aP A) (aH A) (aD A)) s) i = _ from hse, decide_eq_true_eq]; omega)] at hn
            exact hn
      · intro x hI
        refine X_iload dX12_lot_44 rfl ?_
        refine X_aload_n dX12_lot_46 rfl ?_
        refine X_getr (a := 91) dX12_lot_47 fkX12_23 rfl (k_87 hSh) (r_87_12 hSh) ?_
        refine X_iconst (v := nI 1) dX12_lot_50 (by decide) ?_
        refine X_iald 1 dX12_lot_51 (k_91 hSh) rfl (by omega) ?_
        rw [huI.1.2.1]
        refine X_icmp_geN (a := (aG A)) (b := aG A) 82 dX12_lot_52 (by decide) (by omega) (by omega) (fun h_5 => ?_) (fun h_5 => ?_)
        · refine X_iload_n dX12_lot_82 rfl ?_
          refine X_if_neN (a := 2) 93 dX12_lot_83 (by decide) (by omega) (fun h_6 => ?_) (fun h_6 => ?_)
          · refine X_iload_n dX12_lot_93 rfl ?_
            refine X_iconst (v := nI 1) dX12_lot_94 (by decide) ?_
            refine X_icmp_neN (a := 2) (b := 1) 102 dX12_lot_95 (by decide) (by omega) (by omega) (fun h_7 => ?_) (fun h_7 => ?_)
            · refine X_aload_n dX12_lot_102 rfl ?_
              refine X_callVI dX12_lot_103 mkX12_362 (k_87 hSh) (c_allIdle Γ g u1 ml hSh (aP A).1 (RW_I hA hR huW).1.1 hC8) rfl rfl (by decide) (Nat.le_of_ble_eq_true rfl) ?_
              refine X_topi (show _ = sumN (fun c => (lDD A (mrn (aP A) (aH A) (aD A)) s).1 207 c) (aP A).1 from sumN_eq _ (fun c hc => (huR.2.1 c hc).2.1)) ?_
              exact X_iret dX12_lot_106 rfl ⟨rfl, rfl, RW_I hA hR huW, huW.2.1, _, rfl, rfl, huW.2.2⟩
            · exact absurd h_7 (by omega)
          · exact absurd h_6 (by omega)
        · exact absurd h_5 (by omega)
    · exact absurd h_2 (by omega)
  · exact absurd h_1 (by omega)
theorem m_lot (A : AS) (hA : okAS A) (s : Int32) (w : Int32) : MOK mX11_lot mX12_lot cd1 [.int s, .int w] A := by
  by_cases hg0 : nI 0 ≤ w ∧ w ≤ nI 2
  · obtain ⟨k, hka, hk, rfl⟩ := (wi_iff (by decide) (by decide)).mp hg0
    have hkk : k < 3 := by omega
    match k, hkk with
    | 0, _ => exact ⟨.inl (sumN (fun b => (lDD A (mrn (aP A) (aH A) (aD A)) s).1 200 b) (aG A)), A, hA, fun j h => (by cases h), fun Γ g m l hC => k_lot_0 Γ g m l A hA hC s, fun Γ g m l hSh hR => r_lot_0 Γ g m l A hA hSh hR s⟩
    | 1, _ => exact ⟨.inl (mkN (seaB (lDD A (mrn (aP A) (aH A) (aD A)) s)) (aG A)), A, hA, fun j h => (by cases h), fun Γ g m l hC => k_lot_1 Γ g m l A hA hC s, fun Γ g m l hSh hR => r_lot_1 Γ g m l A hA hSh hR s⟩
    | 2, _ => exact ⟨.inl (sumN (fun c => (lDD A (mrn (aP A) (aH A) (aD A)) s).1 207 c) (aP A).1), A, hA, fun j h => (by cases h), fun Γ g m l hC => k_lot_2 Γ g m l A hA hC s, fun Γ g m l hSh hR => r_lot_2 Γ g m l A hA hSh hR s⟩
  · exact ⟨.inr 1, rfA A 1, ok_rf hA, fun j h => by cases h; decide, fun Γ g m l hC => k_lot_f0 Γ g m l A hA hC w hg0 s, fun Γ g m l hSh hR => r_lot_f0 Γ g m l A hA hSh hR w hg0 s⟩
set_option maxRecDepth 100000 in
set_option maxHeartbeats 4000000 in
theorem k_lucky_f0 (Γ : pTG) (g : pGG) (mi : pMI) (ml : pML) (A : AS) (hA : okAS A) (hC : CI A g mi ml) (v : Int32) (hf : ¬ ∃ b, b < aG A ∧ v = nI b) (s : Int32) (w : Int32) : CT Γ 60 20 5000 mX11_lucky [.ref 0, .int v, .int s, .int w] g mi ml (CQ (rfA A 0) (.inr 0) mi ml) := by
  refine CT_of (by decide +kernel) (Nat.le_of_ble_eq_true rfl) ?_
  have hSh := CI_Sh hC
  have hcl := CI_cl hC
  have hP := hA.1
  have hG8 : aG A ≤ 8 := hP.2.1
  have hC8 : (aP A).1 ≤ 8 := hP.1
  refine X_aload_n dX11_lucky_0 rfl ?_
  refine X_iload_n dX11_lucky_1 rfl ?_
  exact X_need dX11_lucky_2 mkX11_147 (k_0 hSh) (c_needGuest Γ g mi ml hSh v) rfl rfl (by decide) (by decide) (by decide) (by decide) (fun _ => ⟨rfl, CI_rf (by decide) hC, frK_86, rfl⟩) (fun h => absurd ((gd_iff hG8).mp (by rw [← hcl.2.1]; exact h)) hf)
set_option maxRecDepth 100000 in
set_option maxHeartbeats 4000000 in
theorem r_lucky_f0 (Γ : pTG) (g : pGG) (mi : pMI) (ml : pML) (A : AS) (hA : okAS A) (hSh : Sh g) (hR : RI A mi) (v : Int32) (hf : ¬ ∃ b, b < aG A ∧ v = nI b) (s : Int32) (w : Int32) : CT Γ 60 0 0 mX12_lucky [.ref 87, .int v, .int s, .int w] g mi ml (RQ (rfA A 0) (.inr 0) cd2 g mi ml) := by
  refine CT_of (by decide +kernel) (Nat.le_of_ble_eq_true rfl) ?_
  have hP := hA.1
  have hG8 : aG A ≤ 8 := hP.2.1
  have hC8 : (aP A).1 ≤ 8 := hP.1
  refine X_aload_n dX12_lucky_0 rfl ?_
  refine X_iconst (v := nI 0) dX12_lucky_1 (by decide) ?_
  refine X_puti dX12_lucky_2 fkX12_158 rfl rfl (k_87 hSh) ?_
  refine X_aload_n dX12_lucky_5 rfl ?_
  refine X_aload_n dX12_lucky_6 rfl ?_
  refine X_iload_n dX12_lucky_7 rfl ?_
  refine X_callVI dX12_lucky_8 mkX12_285 (k_87 hSh) (c_isGuest Γ g (up2 mi 87 0 (nI 0)) ml hSh v) rfl rfl (by decide) (Nat.le_of_ble_eq_true rfl) ?_
  refine X_topi (show bI (decide (nI 0 ≤ v) && decide (v ≤ (up2 mi 87 0 (nI 0)) 91 1 - nI 1)) = nI 0 from congrArg bI (show (decide (nI 0 ≤ v) && decide (v ≤ (up2 mi 87 0 (nI 0)) 91 1 - nI 1)) = false from Bool.eq_false_iff.mpr (fun q => hf ((gd_ref hG8).mp (by rw [(show (up2 mi 87 0 (nI 0)) 91 1 = nI (aG A) from ((congrFun (up2_row (by omega)) _).trans hR.1.2.1))] at q; exact q))))) ?_
  refine X_if_neN (a := 0) 18 dX12_lucky_11 (by decide) (by omega) (fun h_1 => ?_) (fun h_1 => ?_)
  · exact absurd h_1 (by omega)
  · refine X_iconst (v := nI 1) dX12_lucky_14 (by decide) ?_
    refine X_goto 19 dX12_lucky_15 (by decide) ?_
    refine X_iconst (v := nI 1) dX12_lucky_19 (by decide) ?_
    refine X_iconst (v := nI 0) dX12_lucky_20 (by decide) ?_
    refine X_callVI dX12_lucky_21 mkX12_228 (k_87 hSh) (c_bad1 Γ g (up2 mi 87 0 (nI 0)) ml hSh 1 0 (by decide) (by decide) (by decide) up2_s) rfl rfl (by decide) (Nat.le_of_ble_eq_true rfl) ?_
    refine X_mi (show _ = mB mi 1 0 from rfl) ?_
    refine X_if_neN (a := 1) 51 dX12_lucky_24 (by decide) (by omega) (fun h_2 => ?_) (fun h_2 => ?_)
    · refine X_iconst (v := nI 0) dX12_lucky_51 (by decide) ?_
      exact X_iret dX12_lucky_52 rfl ⟨rfl, rfl, RI_rf hA (by decide) hR, fr2_B, _, rfl, mB_0⟩
    · exact absurd h_2 (by omega)
set_option maxRecDepth 100000 in
set_option maxHeartbeats 4000000 in
theorem k_lucky_f1 (Γ : pTG) (g : pGG) (mi : pMI) (ml : pML) (A : AS) (hA : okAS A) (hC : CI A g mi ml) (b : Nat) (hb : b < aG A) (w : Int32) (hf : ¬ (nI 1 ≤ w ∧ w ≤ nI 40)) (s : Int32) : CT Γ 60 20 5000 mX11_lucky [.ref 0, .int (nI b), .int s, .int w] g mi ml (CQ (rfA A 1) (.inr 1) mi ml) := by
  refine CT_of (by decide +kernel) (Nat.le_of_ble_eq_true rfl) ?_
  have hSh := CI_Sh hC
  have hcl := CI_cl hC
  have hP := hA.1
  have hG8 : aG A ≤ 8 := hP.2.1
  have hC8 : (aP A).1 ≤ 8 := hP.1
  refine X_aload_n dX11_lucky_0 rfl ?_
  refine X_iload_n dX11_lucky_1 rfl ?_
  refine X_need dX11_lucky_2 mkX11_147 (k_0 hSh) (c_needGuest Γ g mi ml hSh (nI b)) rfl rfl (by decide) (by decide) (by decide) (by decide) (fun h => absurd (by rw [hcl.2.1]; exact (gd_iff hG8).mpr ⟨b, hb, rfl⟩) h) (fun _ => ?_)
  refine X_aload_n dX11_lucky_5 rfl ?_
  refine X_iload_n dX11_lucky_6 rfl ?_
  refine X_iconst (v := nI 1) dX11_lucky_7 (by decide) ?_
  refine X_bipush (v := nI 40) dX11_lucky_8 (by decide) ?_
  exact X_need dX11_lucky_10 mkX11_116 (k_0 hSh) (c_needWithin Γ g mi ml hSh w (nI 1) (nI 40)) rfl rfl (by decide) (by decide) (by decide) (by decide) (fun _ => ⟨rfl, CI_rf (by decide) hC, frK_86, rfl⟩) (fun h => absurd h hf)
set_option maxRecDepth 100000 in
set_option maxHeartbeats 4000000 in
theorem r_lucky_f1 (Γ : pTG) (g : pGG) (mi : pMI) (ml : pML) (A : AS) (hA : okAS A) (hSh : Sh g) (hR : RI A mi) (b : Nat) (hb : b < aG A) (w : Int32) (hf : ¬ (nI 1 ≤ w ∧ w ≤ nI 40)) (s : Int32) : CT Γ 60 0 0 mX12_lucky [.ref 87, .int (nI b), .int s, .int w] g mi ml (RQ (rfA A 1) (.inr 1) cd2 g mi ml) := by
  refine CT_of (by decide +kernel) (Nat.le_of_ble_eq_true rfl) ?_
  have hP := hA.1
  have hG8 : aG A ≤ 8 := hP.2.1
  have hC8 : (aP A).1 ≤ 8 := hP.1
  refine X_aload_n dX12_lucky_0 rfl ?_
  refine X_iconst (v := nI 0) dX12_lucky_1 (by decide) ?_
  refine X_puti dX12_lucky_2 fkX12_158 rfl rfl (k_87 hSh) ?_
  refine X_aload_n dX12_lucky_5 rfl ?_
  refine X_aload_n dX12_lucky_6 rfl ?_
  refine X_iload_n dX12_lucky_7 rfl ?_
  refine X_callVI dX12_lucky_8 mkX12_285 (k_87 hSh) (c_isGuest Γ g (up2 mi 87 0 (nI 0)) ml hSh (nI b)) rfl rfl (by decide) (Nat.le_of_ble_eq_true rfl) ?_
  refine X_topi (show bI (decide (nI 0 ≤ nI b) && decide (nI b ≤ (up2 mi 87 0 (nI 0)) 91 1 - nI 1)) = nI 1 from congrArg bI (show (decide (nI 0 ≤ nI b) && decide (nI b ≤ (up2 mi 87 0 (nI 0)) 91 1 - nI 1)) = true from by rw [(show (up2 mi 87 0 (nI 0)) 91 1 = nI (aG A) from ((congrFun (up2_row (by omega)) _).trans hR.1.2.1))]; exact (gd_ref hG8).mpr ⟨b, hb, rfl⟩)) ?_
  refine X_if_neN (a := 1) 18 dX12_lucky_11 (by decide) (by omega) (fun h_1 => ?_) (fun h_1 => ?_)
  · refine X_iconst (v := nI 0) dX12_lucky_18 (by decide) ?_
    refine X_iconst (v := nI 1) dX12_lucky_19 (by decide) ?_
    refine X_iconst (v := nI 0) dX12_lucky_20 (by decide) ?_
    refine X_callVI dX12_lucky_21 mkX12_228 (k_87 hSh) (c_bad0 Γ g (up2 mi 87 0 (nI 0)) ml hSh 1 0 up2_s) rfl rfl (by decide) (Nat.le_of_ble_eq_true rfl) ?_
    refine X_if_neN (a := 0) 51 dX12_lucky_24 (by decide) (by omega) (fun h_2 => ?_) (fun h_2 => ?_)
    · exact absurd h_2 (by omega)
    · refine X_aload_n dX12_lucky_27 rfl ?_
      refine X_iload_n dX12_lucky_28 rfl ?_
      refine X_iconst (v := nI 1) dX12_lucky_29 (by decide) ?_
      refine X_bipush (v := nI 40) dX12_lucky_30 (by decide) ?_
      refine X_callSI dX12_lucky_32 mkX12_192 (c_in Γ g (up2 mi 87 0 (nI 0)) ml w (nI 1) (nI 40)) rfl rfl (by decide) (Nat.le_of_ble_eq_true rfl) ?_
      refine X_topi (show bI (decide (nI 1 ≤ w) && decide (w ≤ nI 40)) = nI 0 from congrArg bI (show (decide (nI 1 ≤ w) && decide (w ≤ nI 40)) = false from Bool.eq_false_iff.mpr (fun q => hf (by rw [Bool.and_eq_true, decide_eq_true_eq, decide_eq_true_eq] at q; exact q)))) ?_
      refine X_if_neN (a := 0) 42 dX12_lucky_35 (by decide) (by omega) (fun h_3 => ?_) (fun h_3 => ?_)
      · exact absurd h_3 (by omega)
      · refine X_iconst (v := nI 1) dX12_lucky_38 (by decide) ?_
        refine X_goto 43 dX12_lucky_39 (by decide) ?_
        refine X_iconst (v := nI 2) dX12_lucky_43 (by decide) ?_
        refine X_iconst (v := nI 1) dX12_lucky_44 (by decide) ?_
        refine X_callVI dX12_lucky_45 mkX12_228 (k_87 hSh) (c_bad1 Γ g (up2 mi 87 0 (nI 0)) ml hSh 2 1 (by decide) (by decide) (by decide) up2_s) rfl rfl (by decide) (Nat.le_of_ble_eq_true rfl) ?_
        refine X_mi (show _ = mB mi 2 1 from rfl) ?_
        refine X_if_eqN (a := 1) 53 dX12_lucky_48 (by decide) (by omega) (fun h_4 => ?_) (fun h_4 => ?_)
        · exact absurd h_4 (by omega)
        · refine X_iconst (v := nI 0) dX12_lucky_51 (by decide) ?_
          exact X_iret dX12_lucky_52 rfl ⟨rfl, rfl, RI_rf hA (by decide) hR, fr2_B, _, rfl, mB_0⟩
  · exact absurd h_1 (by omega)
set_option maxRecDepth 100000 in
set_option maxHeartbeats 4000000 in
theorem k_lucky (Γ : pTG) (g : pGG) (mi : pMI) (ml : pML) (A : AS) (hA : okAS A) (hC : CI A g mi ml) (b : Nat) (hb : b < aG A) (k : Nat) (hka : 1 ≤ k) (hk : k ≤ 40) (s : Int32) : CT Γ 60 20 5000 mX11_lucky [.ref 0, .int (nI b), .int s, .int (nI k)] g mi ml (CQ A (.inl (nI (cN (fun i => seaB (lDD A (mrn (aP A) (aH A) (aD A)) (s + nI i)) b) k))) mi ml) := by
  refine CT_of (by decide +kernel) (Nat.le_of_ble_eq_true rfl) ?_
  have hSh := CI_Sh hC
  have hcl := CI_cl hC
  have hP := hA.1
  have hG8 : aG A ≤ 8 := hP.2.1
  have hC8 : (aP A).1 ≤ 8 := hP.1
  refine X_aload_n dX11_lucky_0 rfl ?_
  refine X_iload_n dX11_lucky_1 rfl ?_
  refine X_need dX11_lucky_2 mkX11_147 (k_0 hSh) (c_needGuest Γ g mi ml hSh (nI b)) rfl rfl (by decide) (by decide) (by decide) (by decide) (fun h => absurd (by rw [hcl.2.1]; exact (gd_iff hG8).mpr ⟨b, hb, rfl⟩) h) (fun _ => ?_)
  refine X_aload_n dX11_lucky_5 rfl ?_
  refine X_iload_n dX11_lucky_6 rfl ?_
  refine X_iconst (v := nI 1) dX11_lucky_7 (by decide) ?_
  refine X_bipush (v := nI 40) dX11_lucky_8 (by decide) ?_
  refine X_need dX11_lucky_10 mkX11_116 (k_0 hSh) (c_needWithin Γ g mi ml hSh (nI k) (nI 1) (nI 40)) rfl rfl (by decide) (by decide) (by decide) (by decide) (fun h => absurd (⟨nI_le (by omega) (by omega), nI_le (by omega) (by omega)⟩) h) (fun _ => ?_)
  refine X_aload_n dX11_lucky_13 rfl ?_
  refine X_getr (a := 27) dX11_lucky_14 fkX11_60 rfl (k_0 hSh) (r_0_7 hSh) ?_
  refine X_aload_n dX11_lucky_17 rfl ?_
  refine X_geti dX11_lucky_18 fkX11_138 rfl (k_0 hSh) ?_
  rw [(CI_k hC).2.1]
  refine X_callVrV dX11_lucky_21 mkX11_262 (k_27 hSh) (c_reachK Γ g mi ml A hA hC (aD A) hA.2.2.2.2.1) rfl rfl (by decide) (Nat.le_of_ble_eq_true rfl) (fun m1 l1 hm1 => ?_)
  obtain ⟨⟨r, hrd, hr⟩, hk1, hl1⟩ := hm1
  have hC1 := CIr_CI hr
  refine X_aload_n dX11_lucky_24 rfl ?_
  refine X_getr (a := 27) dX11_lucky_25 fkX11_60 rfl (k_0 hSh) (r_0_7 hSh) ?_
  refine X_aload_n dX11_lucky_28 rfl ?_
  refine X_geti dX11_lucky_29 fkX11_138 rfl (k_0 hSh) ?_
  rw [(CI_k hC1).2.1]
  refine X_aload_n dX11_lucky_32 rfl ?_
  refine X_getr (a := 84) dX11_lucky_33 fkX11_95 rfl (k_0 hSh) (r_0_13 hSh) ?_
  refine X_callVrV dX11_lucky_36 mkX11_322 (k_27 hSh) (c_tellK Γ g m1 l1 A hA r hr (aD A) hrd) rfl rfl (by decide) (Nat.le_of_ble_eq_true rfl) (fun m2 l2 hm2 => ?_)
  obtain ⟨hr2, hmo, hk2, hl2⟩ := hm2
  rw [hl2] at hr2 ⊢
  have hC2 := CIr_CI hr2
  have hkm : frK mi m2 := frK_t hk1 (fun i h1 h2 => hk2 i (by omega))
  refine X_iconst (v := nI 0) dX11_lucky_39 (by decide) ?_
  refine X_istore dX11_lucky_40 (by decide) ?_
  refine X_iconst (v := nI 0) dX11_lucky_42 (by decide) ?_
  refine X_istore dX11_lucky_43 (by decide) ?_
  refine X_L [(5, .int (nI 0)), (4, .int (nI 0)), (0, .ref 0), (1, .int (nI b)), (2, .int s), (3, .int (nI k))] ⟨rfl, rfl, rfl, rfl, rfl, rfl, trivial⟩ ?_
  refine X_forR (σ := pMI) 45 (fun i y => [(5, .int (nI i)), (4, .int (nI (cN (fun i => seaB (lDD A (mrn (aP A) (aH A) (aD A)) (s + nI i)) b) i))), (0, .ref 0), (1, .int (nI b)), (2, .int s), (3, .int (nI k))]) (fun y => y) (fun y => l1) (fun i y => CI A g y l1 ∧ (∀ b, b < aG A → y 84 b = nI ((mrn (aP A) (aH A) (aD A)) b)) ∧ frK mi y) k ?_ ?_ k 0 m2 (by first | omega | (have := cN_le (fun i => seaB (lDD A (mrn (aP A) (aH A) (aD A)) (s + nI i)) b) i; omega)) ⟨hC2, hmo, hkm⟩
  · intro i y hi hI hn
    obtain ⟨hyC, hyc, hyK⟩ := hI
    refine X_iload dX11_lucky_45 rfl ?_
    refine X_iload_n dX11_lucky_47 rfl ?_
    refine X_icmp_geN (a := i) (b := k) 107 dX11_lucky_48 (by decide) (by first | omega | (have := cN_le (fun i => seaB (lDD A (mrn (aP A) (aH A) (aD A)) (s + nI i)) b) i; omega)) (by first | omega | (have := cN_le (fun i => seaB (lDD A (mrn (aP A) (aH A) (aD A)) (s + nI i)) b) i; omega)) (fun h_1 => ?_) (fun h_1 => ?_)
    · exact absurd hi (by omega)
    · refine X_aload_n dX11_lucky_51 rfl ?_
      refine X_getr (a := 67) dX11_lucky_52 fkX11_76 rfl (k_0 hSh) (r_0_10 hSh) ?_
      refine X_iload_n dX11_lucky_55 rfl ?_
      refine X_iload dX11_lucky_56 rfl ?_
      refine X_iadd dX11_lucky_58 ?_
      refine X_callVrI dX11_lucky_59 mkX11_332 (k_67 hSh) (c_lotK Γ g y l1 A hA hyC (s + nI i)) rfl rfl (by decide) (Nat.le_of_ble_eq_true rfl) (fun v3 m3 l3 hm3 => ?_)
      obtain ⟨hv3, hC3, ho3, he3, hl3⟩ := hm3
      rw [hl3] at hC3 ⊢
      refine X_pop dX11_lucky_62 rfl ?_
      refine X_aload_n dX11_lucky_63 rfl ?_
      refine X_getr (a := 67) dX11_lucky_64 fkX11_76 rfl (k_0 hSh) (r_0_10 hSh) ?_
      refine X_aload_n dX11_lucky_67 rfl ?_
      refine X_getr (a := 84) dX11_lucky_68 fkX11_95 rfl (k_0 hSh) (r_0_13 hSh) ?_
      refine X_aload_n dX11_lucky_71 rfl ?_
      refine X_getr (a := 3) dX11_lucky_72 fkX11_25 rfl (k_0 hSh) (r_0_2 hSh) ?_
      refine X_geti dX11_lucky_75 fkX11_178 rfl (k_3 hSh) ?_
      rw [(CI_cl hC3).2.2.2.1]
      refine X_callVrV dX11_lucky_78 mkX11_303 (k_67 hSh) (c_tryK Γ g m3 l1 A hA hC3 (mrn (aP A) (aH A) (aD A)) (lDw A (s + nI i)).2.2 (lDw A (s + nI i)).2.1 (aP A).2.2.2.1 (lDw_ok hA _) (fun b hb => ⟨(congrFun (he3 84 (by omega)) b).trans (hyc b hb), sqd_lt hA.1 _ _⟩) ho3 ⟨hA.1.2.2.2.1, hA.1.2.2.2.2.1⟩) rfl rfl (by decide) (Nat.le_of_ble_eq_true rfl) (fun u1 ul hu1 => ?_)
      obtain ⟨huC, hcd, huT, hul⟩ := hu1
      rw [hul] at huC ⊢
      obtain ⟨n9, hn9, hn8, hse⟩ := sea_c hcd hb
      have hse : seaB (lDD A (mrn (aP A) (aH A) (aD A)) (s + nI i)) b = decide (0 < n9) := hse
      refine X_aload_n dX11_lucky_81 rfl ?_
      refine X_getr (a := 67) dX11_lucky_82 fkX11_76 rfl (k_0 hSh) (r_0_10 hSh) ?_
      refine X_getr (a := 68) dX11_lucky_85 fkX11_215 rfl (k_67 hSh) (r_67_1 hSh) ?_
      refine X_iload_n dX11_lucky_88 rfl ?_
      refine X_bipush (v := nI 8) dX11_lucky_89 (by decide) ?_
      refine X_imul dX11_lucky_91 ?_
      refine X_topi (pk_mul b 8) ?_
      refine X_iconst (v := nI 5) dX11_lucky_92 (by decide) ?_
      refine X_iadd dX11_lucky_93 ?_
      refine X_topi (nI_add (b * 8) 5) ?_
      refine X_iald ((b * 8) + 5) dX11_lucky_94 (k_68 hSh) rfl (by first | omega | (have := cN_le (fun i => seaB (lDD A (mrn (aP A) (aH A) (aD A)) (s + nI i)) b) i; omega)) ?_
      rw [hn8]
      refine X_if_leN (a := n9) 101 dX11_lucky_95 (by decide) (by first | omega | (have := cN_le (fun i => seaB (lDD A (mrn (aP A) (aH A) (aD A)) (s + nI i)) b) i; omega)) (fun h_2 => ?_) (fun h_2 => ?_)
      · refine X_iinc (v := nI (i + 1)) dX11_lucky_101 rfl (nI_1 _) (by decide) ?_
        refine X_goto 45 dX11_lucky_104 (by decide) ?_
        refine X_L [(5, .int (nI (i + 1))), (4, .int (nI (cN (fun i => seaB (lDD A (mrn (aP A) (aH A) (aD A)) (s + nI i)) b) i))), (0, .ref 0), (1, .int (nI b)), (2, .int s), (3, .int (nI k))] ⟨rfl, rfl, rfl, rfl, rfl, rfl, trivial⟩ ?_
        refine X_L [(5, .int (nI (i + 1))), (4, .int (nI (cN (fun i => seaB (lDD A (mrn (aP A) (aH A) (aD A)) (s + nI i)) b) (i + 1)))), (0, .ref 0), (1, .int (nI b)), (2, .int s), (3, .int (nI k))] ⟨rfl, by first | (rw [show cN (fun i => seaB (lDD A (mrn (aP A) (aH A) (aD A)) (s + nI i)) b) (i + 1) = cN (fun i => seaB (lDD A (mrn (aP A) (aH A) (aD A)) (s + nI i)) b) i + 1 from congrArg (cN (fun i => seaB (lDD A (mrn (aP A) (aH A) (aD A)) (s + nI i)) b) i + ·) (if_pos (by show seaB _ b = true; rw [hse]; exact decide_eq_true (by omega)))]; rfl) | (rw [show cN (fun i => seaB (lDD A (mrn (aP A) (aH A) (aD A)) (s + nI i)) b) (i + 1) = cN (fun i => seaB (lDD A (mrn (aP A) (aH A) (aD A)) (s + nI i)) b) i + 0 from congrArg (cN (fun i => seaB (lDD A (mrn (aP A) (aH A) (aD A)) (s + nI i)) b) i + ·) (if_neg (by show ¬ seaB _ b = true; rw [hse, decide_eq_false (by omega)]; decide))]; rfl), rfl, rfl, rfl, rfl, trivial⟩ ?_
        exact hn u1 ⟨huC, fun b hb => by rw [frT_row huT (by omega), he3 84 (by omega)]; exact hyc b hb, frK_t hyK (frK_t (fun i h1 h2 => he3 i (by omega)) (frT_K (Or.inr rfl) huT))⟩
      · refine X_iinc (v := nI (cN (fun i => seaB (lDD A (mrn (aP A) (aH A) (aD A)) (s + nI i)) b) i + 1)) dX11_lucky_98 rfl (nI_1 _) (by decide) ?_
        refine X_iinc (v := nI (i + 1)) dX11_lucky_101 rfl (nI_1 _) (by decide) ?_
        refine X_goto 45 dX11_lucky_104 (by decide) ?_
        refine X_L [(5, .int (nI (i + 1))), (4, .int (nI (cN (fun i => seaB (lDD A (mrn (aP A) (aH A) (aD A)) (s + nI i)) b) i + 1))), (0, .ref 0), (1, .int (nI b)), (2, .int s), (3, .int (nI k))] ⟨rfl, rfl, rfl, rfl, rfl, rfl, trivial⟩ ?_
        refine X_L [(5, .int (nI (i + 1))), (4, .int (nI (cN (fun i => seaB (lDD A (mrn (aP A) (aH A) (aD A)) (s + nI i)) b) (i + 1)))), (0, .ref 0), (1, .int (nI b)), (2, .int s), (3, .int (nI k))] ⟨rfl, by first | (rw [show cN (fun i => seaB (lDD A (mrn (aP A) (aH A) (aD A)) (s + nI i)) b) (i + 1) = cN (fun i => seaB (lDD A (mrn (aP A) (aH A) (aD A)) (s + nI i)) b) i + 1 from congrArg (cN (fun i => seaB (lDD A (mrn (aP A) (aH A) (aD A)) (s + nI i)) b) i + ·) (if_pos (by show seaB _ b = true; rw [hse]; exact decide_eq_true (by omega)))]; rfl) | (rw [show cN (fun i => seaB (lDD A (mrn (aP A) (aH A) (aD A)) (s + nI i)) b) (i + 1) = cN (fun i => seaB (lDD A (mrn (aP A) (aH A) (aD A)) (s + nI i)) b) i + 0 from congrArg (cN (fun i => seaB (lDD A (mrn (aP A) (aH A) (aD A)) (s + nI i)) b) i + ·) (if_neg (by show ¬ seaB _ b = true; rw [hse, decide_eq_false (by omega)]; decide))]; rfl), rfl, rfl, rfl, rfl, trivial⟩ ?_
        exact hn u1 ⟨huC, fun b hb => by rw [frT_row huT (by omega), he3 84 (by omega)]; exact hyc b hb, frK_t hyK (frK_t (fun i h1 h2 => he3 i (by omega)) (frT_K (Or.inr rfl) huT))⟩
  · intro y hI
    refine X_iload dX11_lucky_45 rfl ?_
    refine X_iload_n dX11_lucky_47 rfl ?_
    refine X_icmp_geN (a := k) (b := k) 107 dX11_lucky_48 (by decide) (by first | omega | (have := cN_le (fun i => seaB (lDD A (mrn (aP A) (aH A) (aD A)) (s + nI i)) b) i; omega)) (by first | omega | (have := cN_le (fun i => seaB (lDD A (mrn (aP A) (aH A) (aD A)) (s + nI i)) b) i; omega)) (fun h_3 => ?_) (fun h_3 => ?_)
    · refine X_iload dX11_lucky_107 rfl ?_
      exact X_iret dX11_lucky_109 rfl ⟨rfl, hI.1, hI.2.2, hl1⟩
    · exact absurd h_3 (by omega)
set_option maxRecDepth 100000 in
set_option maxHeartbeats 4000000 in
theorem r_lucky (Γ : pTG) (g : pGG) (mi : pMI) (ml : pML) (A : AS) (hA : okAS A) (hSh : Sh g) (hR : RI A mi) (b : Nat) (hb : b < aG A) (k : Nat) (hka : 1 ≤ k) (hk : k ≤ 40) (s : Int32) : CT Γ 60 0 0 mX12_lucky [.ref 87, .int (nI b), .int s, .int (nI k)] g mi ml (RQ A (.inl (nI (cN (fun i => seaB (lDD A (mrn (aP A) (aH A) (aD A)) (s + nI i)) b) k))) cd2 g mi ml) := by
  refine CT_of (by decide +kernel) (Nat.le_of_ble_eq_true rfl) ?_
  have hP := hA.1
  have hG8 : aG A ≤ 8 := hP.2.1
  have hC8 : (aP A).1 ≤ 8 := hP.1
  refine X_aload_n dX12_lucky_0 rfl ?_
  refine X_iconst (v := nI 0) dX12_lucky_1 (by decide) ?_
  refine X_puti dX12_lucky_2 fkX12_158 rfl rfl (k_87 hSh) ?_
  refine X_aload_n dX12_lucky_5 rfl ?_
  refine X_aload_n dX12_lucky_6 rfl ?_
  refine X_iload_n dX12_lucky_7 rfl ?_
  refine X_callVI dX12_lucky_8 mkX12_285 (k_87 hSh) (c_isGuest Γ g (up2 mi 87 0 (nI 0)) ml hSh (nI b)) rfl rfl (by decide) (Nat.le_of_ble_eq_true rfl) ?_
  refine X_topi (show bI (decide (nI 0 ≤ nI b) && decide (nI b ≤ (up2 mi 87 0 (nI 0)) 91 1 - nI 1)) = nI 1 from congrArg bI (show (decide (nI 0 ≤ nI b) && decide (nI b ≤ (up2 mi 87 0 (nI 0)) 91 1 - nI 1)) = true from by rw [(show (up2 mi 87 0 (nI 0)) 91 1 = nI (aG A) from ((congrFun (up2_row (by omega)) _).trans hR.1.2.1))]; exact (gd_ref hG8).mpr ⟨b, hb, rfl⟩)) ?_
  refine X_if_neN (a := 1) 18 dX12_lucky_11 (by decide) (by first | omega | (have := cN_le (fun i => seaB (lDD A (mrn (aP A) (aH A) (aD A)) (s + nI i)) b) i; omega)) (fun h_1 => ?_) (fun h_1 => ?_)
  · refine X_iconst (v := nI 0) dX12_lucky_18 (by decide) ?_
    refine X_iconst (v := nI 1) dX12_lucky_19 (by decide) ?_
    refine X_iconst (v := nI 0) dX12_lucky_20 (by decide) ?_
    refine X_callVI dX12_lucky_21 mkX12_228 (k_87 hSh) (c_bad0 Γ g (up2 mi 87 0 (nI 0)) ml hSh 1 0 up2_s) rfl rfl (by decide) (Nat.le_of_ble_eq_true rfl) ?_
    refine X_if_neN (a := 0) 51 dX12_lucky_24 (by decide) (by first | omega | (have := cN_le (fun i => seaB (lDD A (mrn (aP A) (aH A) (aD A)) (s + nI i)) b) i; omega)) (fun h_2 => ?_) (fun h_2 => ?_)
    · exact absurd h_2 (by omega)
    · refine X_aload_n dX12_lucky_27 rfl ?_
      refine X_iload_n dX12_lucky_28 rfl ?_
      refine X_iconst (v := nI 1) dX12_lucky_29 (by decide) ?_
      refine X_bipush (v := nI 40) dX12_lucky_30 (by decide) ?_
      refine X_callSI dX12_lucky_32 mkX12_192 (c_in Γ g (up2 mi 87 0 (nI 0)) ml (nI k) (nI 1) (nI 40)) rfl rfl (by decide) (Nat.le_of_ble_eq_true rfl) ?_
      refine X_topi (show bI (decide (nI 1 ≤ nI k) && decide (nI k ≤ nI 40)) = nI 1 from congrArg bI (show (decide (nI 1 ≤ nI k) && decide (nI k ≤ nI 40)) = true from by rw [decide_eq_true (nI_le (by omega) (by omega)), decide_eq_true (nI_le (by omega) (by omega))]; rfl)) ?_
      refine X_if_neN (a := 1) 42 dX12_lucky_35 (by decide) (by first | omega | (have := cN_le (fun i => seaB (lDD A (mrn (aP A) (aH A) (aD A)) (s + nI i)) b) i; omega)) (fun h_3 => ?_) (fun h_3 => ?_)
      · refine X_iconst (v := nI 0) dX12_lucky_42 (by decide) ?_
        refine X_iconst (v := nI 2) dX12_lucky_43 (by decide) ?_
        refine X_iconst (v := nI 1) dX12_lucky_44 (by decide) ?_
        refine X_callVI dX12_lucky_45 mkX12_228 (k_87 hSh) (c_bad0 Γ g (up2 mi 87 0 (nI 0)) ml hSh 2 1 up2_s) rfl rfl (by decide) (Nat.le_of_ble_eq_true rfl) ?_
        refine X_if_eqN (a := 0) 53 dX12_lucky_48 (by decide) (by first | omega | (have := cN_le (fun i => seaB (lDD A (mrn (aP A) (aH A) (aD A)) (s + nI i)) b) i; omega)) (fun h_4 => ?_) (fun h_4 => ?_)
        · refine X_iconst (v := nI 0) dX12_lucky_53 (by decide) ?_
          refine X_istore dX12_lucky_54 (by decide) ?_
          refine X_aload_n dX12_lucky_56 rfl ?_
          refine X_callVrV dX12_lucky_57 mkX12_353 (k_87 hSh) (r_dayW Γ g (up2 mi 87 0 (nI 0)) ml A hA hSh mi hR RW_0) rfl rfl (by decide) (Nat.le_of_ble_eq_true rfl) (fun b1 bl hb1 => ?_)
          obtain ⟨hbD, hbS, hbW, hbl⟩ := hb1
          rw [hbl]
          have hbc : ∀ b, b < aG A → b1 194 b = nI (mrn (aP A) (aH A) (aD A) b) ∧ mrn (aP A) (aH A) (aD A) b < 24 := fun b hb => ⟨(hbD.1 b hb).1, (hbD.1 b hb).2.1⟩
          refine X_iconst (v := nI 0) dX12_lucky_60 (by decide) ?_
          refine X_istore dX12_lucky_61 (by decide) ?_
          refine X_L [(5, .int (nI 0)), (4, .int (nI 0)), (0, .ref 87), (1, .int (nI b)), (2, .int s), (3, .int (nI k))] ⟨rfl, rfl, rfl, rfl, rfl, rfl, trivial⟩ ?_
          refine X_forR (σ := pMI) 63 (fun i y => [(5, .int (nI i)), (4, .int (nI (cN (fun i => seaB (lDD A (mrn (aP A) (aH A) (aD A)) (s + nI i)) b) i))), (0, .ref 87), (1, .int (nI b)), (2, .int s), (3, .int (nI k))]) (fun y => y) (fun y => ml) (fun i y => RW mi y ∧ (∃ rk, rS y (aP A) (aH A) id rk (aP A).2.2.2.1) ∧ (∀ b, b < aG A → y 194 b = nI ((mrn (aP A) (aH A) (aD A)) b) ∧ (mrn (aP A) (aH A) (aD A)) b < 24)) k ?_ ?_ k 0 b1 (by first | omega | (have := cN_le (fun i => seaB (lDD A (mrn (aP A) (aH A) (aD A)) (s + nI i)) b) i; omega)) ⟨hbW, ⟨_, hbS⟩, hbc⟩
          · intro i y hi hI hn
            obtain ⟨hyW, ⟨rk9, hyS⟩, hyc⟩ := hI
            refine X_iload dX12_lucky_63 rfl ?_
            refine X_iload_n dX12_lucky_65 rfl ?_
            refine X_icmp_geN (a := i) (b := k) 102 dX12_lucky_66 (by decide) (by first | omega | (have := cN_le (fun i => seaB (lDD A (mrn (aP A) (aH A) (aD A)) (s + nI i)) b) i; omega)) (by first | omega | (have := cN_le (fun i => seaB (lDD A (mrn (aP A) (aH A) (aD A)) (s + nI i)) b) i; omega)) (fun h_5 => ?_) (fun h_5 => ?_)
            · exact absurd hi (by omega)
            · refine X_aload_n dX12_lucky_69 rfl ?_
              refine X_iload_n dX12_lucky_70 rfl ?_
              refine X_iload dX12_lucky_71 rfl ?_
              refine X_iadd dX12_lucky_73 ?_
              refine X_callVrV dX12_lucky_74 mkX12_394 (k_87 hSh) (r_lotN Γ g y ml hSh A hA mi hR hyW rk9 (mrn (aP A) (aH A) (aD A)) (aP A).2.2.2.1 ⟨hA.1.2.2.2.1, hA.1.2.2.2.2.1⟩ hyS hyc (s + nI i)) rfl rfl (by decide) (Nat.le_of_ble_eq_true rfl) (fun u1 ul hu1 => ?_)
              obtain ⟨huR, huS, huW, hul⟩ := hu1
              rw [hul]
              obtain ⟨n9, hn9, hn8, hse⟩ := sea_r huR hb
              have hse : seaB (lDD A (mrn (aP A) (aH A) (aD A)) (s + nI i)) b = decide (0 < n9) := hse
              refine X_iload dX12_lucky_77 rfl ?_
              refine X_aload_n dX12_lucky_79 rfl ?_
              refine X_getr (a := 201) dX12_lucky_80 fkX12_92 rfl (k_87 hSh) (r_87_41 hSh) ?_
              refine X_iload_n dX12_lucky_83 rfl ?_
              refine X_iald b dX12_lucky_84 (k_201 hSh) rfl (by first | omega | (have := cN_le (fun i => seaB (lDD A (mrn (aP A) (aH A) (aD A)) (s + nI i)) b) i; omega)) ?_
              rw [hn8]
              refine X_if_leN (a := n9) 92 dX12_lucky_85 (by decide) (by first | omega | (have := cN_le (fun i => seaB (lDD A (mrn (aP A) (aH A) (aD A)) (s + nI i)) b) i; omega)) (fun h_6 => ?_) (fun h_6 => ?_)
              · refine X_iconst (v := nI 0) dX12_lucky_92 (by decide) ?_
                refine X_iadd dX12_lucky_93 ?_
                refine X_topi (nI_add (cN (fun i => seaB (lDD A (mrn (aP A) (aH A) (aD A)) (s + nI i)) b) i) 0) ?_
                refine X_istore dX12_lucky_94 (by decide) ?_
                refine X_iinc (v := nI (i + 1)) dX12_lucky_96 rfl (nI_1 _) (by decide) ?_
                refine X_goto 63 dX12_lucky_99 (by decide) ?_
                refine X_L [(5, .int (nI (i + 1))), (4, .int (nI ((cN (fun i => seaB (lDD A (mrn (aP A) (aH A) (aD A)) (s + nI i)) b) i) + 0))), (0, .ref 87), (1, .int (nI b)), (2, .int s), (3, .int (nI k))] ⟨rfl, rfl, rfl, rfl, rfl, rfl, trivial⟩ ?_
                refine X_L [(5, .int (nI (i + 1))), (4, .int (nI (cN (fun i => seaB (lDD A (mrn (aP A) (aH A) (aD A)) (s + nI i)) b) (i + 1)))), (0, .ref 87), (1, .int (nI b)), (2, .int s), (3, .int (nI k))] ⟨rfl, by first | (rw [show cN (fun i => seaB (lDD A (mrn (aP A) (aH A) (aD A)) (s + nI i)) b) (i + 1) = cN (fun i => seaB (lDD A (mrn (aP A) (aH A) (aD A)) (s + nI i)) b) i + 1 from congrArg (cN (fun i => seaB (lDD A (mrn (aP A) (aH A) (aD A)) (s + nI i)) b) i + ·) (if_pos (by show seaB _ b = true; rw [hse]; exact decide_eq_true (by omega)))]; rfl) | (rw [show cN (fun i => seaB (lDD A (mrn (aP A) (aH A) (aD A)) (s + nI i)) b) (i + 1) = cN (fun i => seaB (lDD A (mrn (aP A) (aH A) (aD A)) (s + nI i)) b) i + 0 from congrArg (cN (fun i => seaB (lDD A (mrn (aP A) (aH A) (aD A)) (s + nI i)) b) i + ·) (if_neg (by show ¬ seaB _ b = true; rw [hse, decide_eq_false (by omega)]; decide))]; rfl), rfl, rfl, rfl, rfl, trivial⟩ ?_
                exact hn u1 ⟨huW, ⟨_, huS⟩, fun b hb => ⟨(huR.1 b hb).1, (huR.1 b hb).2.1⟩⟩
              · refine X_iconst (v := nI 1) dX12_lucky_88 (by decide) ?_
                refine X_goto 93 dX12_lucky_89 (by decide) ?_
                refine X_iadd dX12_lucky_93 ?_
                refine X_topi (nI_add (cN (fun i => seaB (lDD A (mrn (aP A) (aH A) (aD A)) (s + nI i)) b) i) 1) ?_
                refine X_istore dX12_lucky_94 (by decide) ?_
                refine X_iinc (v := nI (i + 1)) dX12_lucky_96 rfl (nI_1 _) (by decide) ?_
                refine X_goto 63 dX12_lucky_99 (by decide) ?_
                refine X_L [(5, .int (nI (i + 1))), (4, .int (nI ((cN (fun i => seaB (lDD A (mrn (aP A) (aH A) (aD A)) (s + nI i)) b) i) + 1))), (0, .ref 87), (1, .int (nI b)), (2, .int s), (3, .int (nI k))] ⟨rfl, rfl, rfl, rfl, rfl, rfl, trivial⟩ ?_
                refine X_L [(5, .int (nI (i + 1))), (4, .int (nI (cN (fun i => seaB (lDD A (mrn (aP A) (aH A) (aD A)) (s + nI i)) b) (i + 1)))), (0, .ref 87), (1, .int (nI b)), (2, .int s), (3, .int (nI k))] ⟨rfl, by first | (rw [show cN (fun i => seaB (lDD A (mrn (aP A) (aH A) (aD A)) (s + nI i)) b) (i + 1) = cN (fun i => seaB (lDD A (mrn (aP A) (aH A) (aD A)) (s + nI i)) b) i + 1 from congrArg (cN (fun i => seaB (lDD A (mrn (aP A) (aH A) (aD A)) (s + nI i)) b) i + ·) (if_pos (by show seaB _ b = true; rw [hse]; exact decide_eq_true (by omega)))]; rfl) | (rw [show cN (fun i => seaB (lDD A (mrn (aP A) (aH A) (aD A)) (s + nI i)) b) (i + 1) = cN (fun i => seaB (lDD A (mrn (aP A) (aH A) (aD A)) (s + nI i)) b) i + 0 from congrArg (cN (fun i => seaB (lDD A (mrn (aP A) (aH A) (aD A)) (s + nI i)) b) i + ·) (if_neg (by show ¬ seaB _ b = true; rw [hse, decide_eq_false (by omega)]; decide))]; rfl), rfl, rfl, rfl, rfl, trivial⟩ ?_
                exact hn u1 ⟨huW, ⟨_, huS⟩, fun b hb => ⟨(huR.1 b hb).1, (huR.1 b hb).2.1⟩⟩
          · intro y hI
            refine X_iload dX12_lucky_63 rfl ?_
            refine X_iload_n dX12_lucky_65 rfl ?_
            refine X_icmp_geN (a := k) (b := k) 102 dX12_lucky_66 (by decide) (by first | omega | (have := cN_le (fun i => seaB (lDD A (mrn (aP A) (aH A) (aD A)) (s + nI i)) b) i; omega)) (by first | omega | (have := cN_le (fun i => seaB (lDD A (mrn (aP A) (aH A) (aD A)) (s + nI i)) b) i; omega)) (fun h_7 => ?_) (fun h_7 => ?_)
            · refine X_iload dX12_lucky_102 rfl ?_
              exact X_iret dX12_lucky_104 rfl ⟨rfl, rfl, RW_I hA hR hI.1, hI.1.2.1, _, rfl, rfl, hI.1.2.2⟩
            · exact absurd h_7 (by omega)
        · exact absurd h_4 (by omega)
      · exact absurd h_3 (by omega)
  · exact absurd h_1 (by omega)
theorem m_lucky (A : AS) (hA : okAS A) (v : Int32) (s : Int32) (w : Int32) : MOK mX11_lucky mX12_lucky cd2 [.int v, .int s, .int w] A := by
  by_cases hg0 : ∃ b, b < aG A ∧ v = nI b
  · obtain ⟨b, hb, rfl⟩ := hg0
    by_cases hg1 : nI 1 ≤ w ∧ w ≤ nI 40
    · obtain ⟨k, hka, hk, rfl⟩ := (wi_iff (by decide) (by decide)).mp hg1
      exact ⟨.inl (nI (cN (fun i => seaB (lDD A (mrn (aP A) (aH A) (aD A)) (s + nI i)) b) k)), A, hA, fun j h => (by cases h), fun Γ g m l hC => k_lucky Γ g m l A hA hC b hb k hka hk s, fun Γ g m l hSh hR => r_lucky Γ g m l A hA hSh hR b hb k hka hk s⟩
    · exact ⟨.inr 1, rfA A 1, ok_rf hA, fun j h => by cases h; decide, fun Γ g m l hC => k_lucky_f1 Γ g m l A hA hC b hb w hg1 s, fun Γ g m l hSh hR => r_lucky_f1 Γ g m l A hA hSh hR b hb w hg1 s⟩
  · exact ⟨.inr 0, rfA A 0, ok_rf hA, fun j h => by cases h; decide, fun Γ g m l hC => k_lucky_f0 Γ g m l A hA hC v hg0 s w, fun Γ g m l hSh hR => r_lucky_f0 Γ g m l A hA hSh hR v hg0 s w⟩

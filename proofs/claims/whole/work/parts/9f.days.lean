/-! ===== days one behind the other ===== -/
def RW (m0 m : pMI) : Prop := frW m0 m ∧ frM2 m0 m ∧ m 87 0 = nI 0
theorem RW_0 {m : pMI} : RW m (up2 m 87 0 (nI 0)) := ⟨frW_u frW_r (by unfold rsF; omega), frM2_u frM2_r (by omega), up2_s⟩
theorem RW_R {m0 x y : pMI} (h : RW m0 x) (hy : frR x y) : RW m0 y := by
  obtain ⟨h1, h2, h3⟩ := h
  refine ⟨frW_t h1 ⟨fun i a b c => hy i ?_ ?_ ?_ ?_ ?_, fun j hj => by rw [hy 87 (by omega) (by omega) (by omega) (by omega) (by omega)]⟩, frM2_t h2 (fun i hi => hy i (by omega) (by omega) (by omega) (by omega) (by omega)), by rw [hy 87 (by omega) (by omega) (by omega) (by omega) (by omega)]; exact h3⟩
  all_goals (unfold rsR at c; omega)
theorem RW_B {m0 x y : pMI} (h : RW m0 x) (hy : frB x y) : RW m0 y := by
  obtain ⟨h1, h2, h3⟩ := h
  refine ⟨frW_t h1 ⟨fun i a b c => hy.1 i ?_ ?_ ?_ (by omega), fun j hj => hy.2 j (by rintro rfl; exact hj (by unfold rsF; omega))⟩, frM2_t h2 (fun i hi => hy.1 i (by omega) (by omega) (by omega) (by omega)), (hy.2 0 (by omega)).trans h3⟩
  all_goals (unfold rsR at c; omega)
theorem RW_u {m0 x : pMI} {a j : Nat} {v : Int32} (h : RW m0 x) (ha : rsR a) : RW m0 (up2 x a j v) := by
  have h8 : 88 ≤ a ∧ a < 450 := by unfold rsR at ha; omega
  exact ⟨frW_u h.1 (Or.inr ⟨by omega, Or.inl ha⟩), frM2_u h.2.1 (by omega), by rw [up2_row (by omega)]; exact h.2.2⟩
theorem RW_I {A : AS} {m0 m : pMI} (hA : okAS A) (h : RI A m0) (hw : RW m0 m) : RI A m := RI_fr hA h hw.1
theorem r_beg (Γ : pTG) (g : pGG) (mi : pMI) (ml : pML) (A : AS) (hA : okAS A) (hSh : Sh g) (m0 : pMI) (hR : RI A m0) (hW : RW m0 mi) : rV Γ 2 mX12_begins [.ref 87] g mi ml (fun m l => rS m (aP A) (aH A) id id (aP A).2.2.2.1 ∧ (∀ b, b < aG A → m 194 b = nI (pU (aP A) b) ∧ pU (aP A) b < 24) ∧ RW m0 m ∧ frB mi m ∧ l = ml) := by
  have hI := RW_I hA hR hW
  refine rV_w (rV_c (c_begins Γ g mi ml hSh (aG A) hI.1.2.1 hA.1.2.1)) (fun m l hm => ?_)
  obtain ⟨rfl, rfl⟩ := hm
  obtain ⟨a1, a2, a3⟩ := bg_r (P := aP A) (H := aH A) hA.1 hI.1 hI.2.1
  exact ⟨a1, pU_i a2, RW_B hW a3, a3, rfl⟩
theorem r_run (Γ : pTG) (g : pGG) (mi : pMI) (ml : pML) (A : AS) (hA : okAS A) (hSh : Sh g) (m0 : pMI) (hW : RW m0 mi) (wh rk ord cm : Nat → Nat) (un : Nat) (hu : 1 ≤ un ∧ un < 24) (hS : rS mi (aP A) (aH A) wh rk un) (hO : okO2 (aG A) rk ord) (hcm : ∀ b, b < aG A → mi 194 b = nI (cm b) ∧ cm b < 24) : rV Γ 5 mX12_runs [.ref 87] g mi ml (fun m l => RDY m (aP A) cm (DY (aP A) cm rk ord un) ∧ rS m (aP A) (aH A) wh rk un ∧ RW m0 m ∧ frR mi m ∧ l = ml) := by
  obtain ⟨a1, a2, a3⟩ := runs_R Γ g mi ml hSh (aP A) hA.1 (aH A) wh rk ord cm un hu hS hO hcm
  exact rV_w (rV_c a1) (fun m l hm => by obtain ⟨rfl, rfl⟩ := hm; exact ⟨a2, rS_row hA.1 a3 hS, RW_R hW a3, a3, rfl⟩)
theorem r_ask (Γ : pTG) (g : pGG) (mi : pMI) (ml : pML) (A : AS) (hA : okAS A) (hSh : Sh g) (m0 : pMI) (hW : RW m0 mi) (wh rk cm : Nat → Nat) (un d : Nat) (D : DS) (hS : rS mi (aP A) (aH A) wh rk un) (hD : RDY mi (aP A) cm D) : rV Γ 4 mX12_asks [.ref 87, .int (nI d)] g mi ml (fun m l => (∀ b, b < aG A → m 194 b = nI (nxN (aP A) (aH A) wh cm D d b) ∧ nxN (aP A) (aH A) wh cm D d b < 24) ∧ rS m (aP A) (aH A) wh rk un ∧ RW m0 m ∧ frR mi m ∧ l = ml) := by
  obtain ⟨a1, a2, a3⟩ := asks_R Γ g mi ml hSh (aP A) hA.1 (aH A) hA.2.1 wh rk cm un D d hS hD
  exact rV_w (rV_c a1) (fun m l hm => by obtain ⟨rfl, rfl⟩ := hm; exact ⟨fun b hb => ⟨a2 b hb, nxN_lt⟩, rS_row hA.1 a3 hS, RW_R hW a3, a3, rfl⟩)
theorem sqd_nx {A : AS} {wh : Nat → Nat} {m : pMI} {d : Nat} (hd : 1 ≤ d) (h : ∀ b, b < aG A → m 194 b = nI (nxN (aP A) (aH A) wh (sqd (aP A) (aH A) wh (d - 1)) (DDd (aP A) (aH A) wh (d - 1)) d b) ∧ nxN (aP A) (aH A) wh (sqd (aP A) (aH A) wh (d - 1)) (DDd (aP A) (aH A) wh (d - 1)) d b < 24) : ∀ b, b < aG A → m 194 b = nI (sqd (aP A) (aH A) wh d b) ∧ sqd (aP A) (aH A) wh d b < 24 := fun b hb => by
  obtain ⟨e, rfl⟩ : ∃ e, d = e + 1 := ⟨d - 1, by omega⟩
  rw [sqd_s hb]
  exact h b hb
theorem sea_r {m : pMI} {P : PD} {cm : Nat → Nat} {D : DS} {b : Nat} (h : RDY m P cm D) (hb : b < P.2.1) : ∃ n, n < 1000 ∧ m 201 b = nI n ∧ seaB D b = decide (0 < n) := by
  obtain ⟨_, _, _, _, _, _, h1, _, _, n, h2, h3⟩ := h.1 b hb
  refine ⟨n, h2, h1.trans h3, ?_⟩
  unfold seaB
  rw [h3]
  by_cases q : 0 < n
  · rw [decide_eq_true q, decide_eq_false (nI_nle q (by omega))]; rfl
  · rw [decide_eq_false q, show n = 0 by omega]; decide
theorem sea_k {A : AS} {m : pMI} {l : pML} {r d b : Nat} (hG : aG A ≤ 8) (h : DOK (aP A) (aH A) id (aK A) 27 r m l) (hd : d < r) (hb : b < aG A) : bt (m 31 d) b = seaB (DDd (aP A) (aH A) id d) b := by
  have := (h.2.2.2.2.2.2.2.2.1 d hd).2
  have : m 31 d = mkN (seaB (DDd (aP A) (aH A) id d)) (aG A) := this
  rw [this, bt_mkN _ (by omega) _ (by omega), decide_eq_true hb, Bool.true_and]
set_option maxRecDepth 100000 in
set_option maxHeartbeats 4000000 in
theorem k_out_f0 (Γ : pTG) (g : pGG) (mi : pMI) (ml : pML) (A : AS) (hA : okAS A) (hC : CI A g mi ml) (v : Int32) (hf : ¬ ∃ b, b < aG A ∧ v = nI b) : CT Γ 60 20 5000 mX11_out [.ref 0, .int v] g mi ml (CQ (rfA A 0) (.inr 0) mi ml) := by
  refine CT_of (by decide +kernel) (Nat.le_of_ble_eq_true rfl) ?_
  have hSh := CI_Sh hC
  have hcl := CI_cl hC
  have hP := hA.1
  have hG8 : aG A ≤ 8 := hP.2.1
  have hC8 : (aP A).1 ≤ 8 := hP.1
  refine X_aload_n dX11_out_0 rfl ?_
  refine X_iload_n dX11_out_1 rfl ?_
  exact X_need dX11_out_2 mkX11_147 (k_0 hSh) (c_needGuest Γ g mi ml hSh v) rfl rfl (by decide) (by decide) (by decide) (by decide) (fun _ => ⟨rfl, CI_rf (by decide) hC, frK_86, rfl⟩) (fun h => absurd ((gd_iff hG8).mp (by rw [← hcl.2.1]; exact h)) hf)
set_option maxRecDepth 100000 in
set_option maxHeartbeats 4000000 in
theorem r_out_f0 (Γ : pTG) (g : pGG) (mi : pMI) (ml : pML) (A : AS) (hA : okAS A) (hSh : Sh g) (hR : RI A mi) (v : Int32) (hf : ¬ ∃ b, b < aG A ∧ v = nI b) : CT Γ 60 0 0 mX12_out [.ref 87, .int v] g mi ml (RQ (rfA A 0) (.inr 0) cd0 g mi ml) := by
  refine CT_of (by decide +kernel) (Nat.le_of_ble_eq_true rfl) ?_
  have hP := hA.1
  have hG8 : aG A ≤ 8 := hP.2.1
  have hC8 : (aP A).1 ≤ 8 := hP.1
  refine X_aload_n dX12_out_0 rfl ?_
  refine X_iconst (v := nI 0) dX12_out_1 (by decide) ?_
  refine X_puti dX12_out_2 fkX12_158 rfl rfl (k_87 hSh) ?_
  refine X_aload_n dX12_out_5 rfl ?_
  refine X_aload_n dX12_out_6 rfl ?_
  refine X_iload_n dX12_out_7 rfl ?_
  refine X_callVI dX12_out_8 mkX12_285 (k_87 hSh) (c_isGuest Γ g (up2 mi 87 0 (nI 0)) ml hSh v) rfl rfl (by decide) (Nat.le_of_ble_eq_true rfl) ?_
  refine X_topi (show bI (decide (nI 0 ≤ v) && decide (v ≤ (up2 mi 87 0 (nI 0)) 91 1 - nI 1)) = nI 0 from congrArg bI (show (decide (nI 0 ≤ v) && decide (v ≤ (up2 mi 87 0 (nI 0)) 91 1 - nI 1)) = false from Bool.eq_false_iff.mpr (fun q => hf ((gd_ref hG8).mp (by rw [(show (up2 mi 87 0 (nI 0)) 91 1 = nI (aG A) from ((congrFun (up2_row (by omega)) _).trans hR.1.2.1))] at q; exact q))))) ?_
  refine X_if_neN (a := 0) 18 dX12_out_11 (by decide) (by omega) (fun h_1 => ?_) (fun h_1 => ?_)
  · exact absurd h_1 (by omega)
  · refine X_iconst (v := nI 1) dX12_out_14 (by decide) ?_
    refine X_goto 19 dX12_out_15 (by decide) ?_
    refine X_iconst (v := nI 1) dX12_out_19 (by decide) ?_
    refine X_iconst (v := nI 0) dX12_out_20 (by decide) ?_
    refine X_callVI dX12_out_21 mkX12_228 (k_87 hSh) (c_bad1 Γ g (up2 mi 87 0 (nI 0)) ml hSh 1 0 (by decide) (by decide) (by decide) up2_s) rfl rfl (by decide) (Nat.le_of_ble_eq_true rfl) ?_
    refine X_mi (show _ = mB mi 1 0 from rfl) ?_
    refine X_if_eqN (a := 1) 29 dX12_out_24 (by decide) (by omega) (fun h_2 => ?_) (fun h_2 => ?_)
    · exact absurd h_2 (by omega)
    · refine X_iconst (v := nI 0) dX12_out_27 (by decide) ?_
      exact X_iret dX12_out_28 rfl ⟨rfl, rfl, RI_rf hA (by decide) hR, fr2_B, _, rfl, mB_0⟩
set_option maxRecDepth 100000 in
set_option maxHeartbeats 4000000 in
theorem k_out (Γ : pTG) (g : pGG) (mi : pMI) (ml : pML) (A : AS) (hA : okAS A) (hC : CI A g mi ml) (b : Nat) (hb : b < aG A) : CT Γ 60 20 5000 mX11_out [.ref 0, .int (nI b)] g mi ml (CQ A (.inl (oI ((fE (fun i => !seaB (DDd (aP A) (aH A) id (i + 1)) b) 199).map (· + 1)))) mi ml) := by
  refine CT_of (by decide +kernel) (Nat.le_of_ble_eq_true rfl) ?_
  have hSh := CI_Sh hC
  have hcl := CI_cl hC
  have hP := hA.1
  have hG8 : aG A ≤ 8 := hP.2.1
  have hC8 : (aP A).1 ≤ 8 := hP.1
  refine X_aload_n dX11_out_0 rfl ?_
  refine X_iload_n dX11_out_1 rfl ?_
  refine X_need dX11_out_2 mkX11_147 (k_0 hSh) (c_needGuest Γ g mi ml hSh (nI b)) rfl rfl (by decide) (by decide) (by decide) (by decide) (fun h => absurd (by rw [hcl.2.1]; exact (gd_iff hG8).mpr ⟨b, hb, rfl⟩) h) (fun _ => ?_)
  refine X_aload_n dX11_out_5 rfl ?_
  refine X_getr (a := 27) dX11_out_6 fkX11_60 rfl (k_0 hSh) (r_0_7 hSh) ?_
  refine X_sipush (v := nI 199) dX11_out_9 (by decide) ?_
  refine X_callVrV dX11_out_12 mkX11_262 (k_27 hSh) (c_reachK Γ g mi ml A hA hC 199 (by omega)) rfl rfl (by decide) (Nat.le_of_ble_eq_true rfl) (fun m1 l1 hm1 => ?_)
  obtain ⟨⟨r, hrd, hr⟩, hk1, hl1⟩ := hm1
  have hC1 := CIr_CI hr
  have hcl1 := CI_cl hC1
  have hD1 := CIr_D hr
  refine X_iconst (v := nI 1) dX11_out_15 (by decide) ?_
  refine X_istore_n dX11_out_16 (by decide) ?_
  refine X_L [(2, .int (nI 1)), (0, .ref 0), (1, .int (nI b))] ⟨rfl, rfl, rfl, trivial⟩ ?_
  refine X_forR (σ := Unit) 17 (fun i y => [(2, .int (nI i)), (0, .ref 0), (1, .int (nI b))]) (fun y => m1) (fun y => l1) (fun i y => 1 ≤ i ∧ ∀ e, e + 1 < i → seaB (DDd (aP A) (aH A) id (e + 1)) b = true) 200 ?_ ?_ 199 1 () (by omega) ⟨Nat.le_refl _, fun e he => absurd he (by omega)⟩
  · intro i y hi hI hn
    obtain ⟨hI1, hI⟩ := hI
    obtain ⟨j, rfl⟩ : ∃ j, i = j + 1 := ⟨i - 1, by omega⟩
    refine X_iload_n dX11_out_17 rfl ?_
    refine X_sipush (v := nI 200) dX11_out_18 (by decide) ?_
    refine X_icmp_geN (a := j + 1) (b := 200) 44 dX11_out_21 (by decide) (by omega) (by omega) (fun h_1 => ?_) (fun h_1 => ?_)
    · exact absurd h_1 (by omega)
    · refine X_aload_n dX11_out_24 rfl ?_
      refine X_getr (a := 27) dX11_out_25 fkX11_60 rfl (k_0 hSh) (r_0_7 hSh) ?_
      refine X_iload_n dX11_out_28 rfl ?_
      refine X_iload_n dX11_out_29 rfl ?_
      refine X_callVI dX11_out_30 mkX11_271 (k_27 hSh) (c_wasSeated27 Γ g m1 l1 hSh (j + 1) b (by omega) (by omega)) rfl rfl (by decide) (Nat.le_of_ble_eq_true rfl) ?_
      refine X_topi (show bI (bt (m1 31 (j + 1)) b) = bI (seaB (DDd (aP A) (aH A) id (j + 1)) b) by rw [sea_k hG8 hD1 (by omega) hb]) ?_
      refine X_if_ne 38 dX11_out_33 (by decide) (fun h_2 => ?_) (fun h_2 => ?_)
      · refine X_iinc (v := nI (j + 1 + 1)) dX11_out_38 rfl (nI_1 _) (by decide) ?_
        refine X_goto 17 dX11_out_41 (by decide) ?_
        refine X_L [(2, .int (nI (j + 1 + 1))), (0, .ref 0), (1, .int (nI b))] ⟨rfl, rfl, rfl, trivial⟩ ?_
        refine hn () ⟨by omega, fun e he => ?_⟩
        by_cases q : e = j
        · rw [q]; exact bI_n0.mp (by assumption)
        · exact hI e (by omega)
      · refine X_iload_n dX11_out_36 rfl ?_
        exact X_iret dX11_out_37 rfl ⟨congrArg (fun z => Sum.inl (some (Value.int z))) (by rw [fE_s (i := j) (fun e he => by rw [hI e (by omega)]; rfl) (by rw [(bI_0 (b := seaB (DDd (aP A) (aH A) id (j + 1)) b)).mp (by assumption)]; rfl) (by omega)]; rfl), hC1, hk1, hl1⟩
  · intro y hI
    refine X_iload_n dX11_out_17 rfl ?_
    refine X_sipush (v := nI 200) dX11_out_18 (by decide) ?_
    refine X_icmp_geN (a := 200) (b := 200) 44 dX11_out_21 (by decide) (by omega) (by omega) (fun h_3 => ?_) (fun h_3 => ?_)
    · refine X_iconst (v := -1) dX11_out_44 (by decide) ?_
      exact X_iret dX11_out_45 rfl ⟨congrArg (fun z => Sum.inl (some (Value.int z))) (by rw [fE_n.mpr (fun e he => by rw [hI.2 e (by omega)]; rfl)]; rfl), hC1, hk1, hl1⟩
    · exact absurd h_3 (by omega)
set_option maxRecDepth 100000 in
set_option maxHeartbeats 4000000 in
theorem r_out (Γ : pTG) (g : pGG) (mi : pMI) (ml : pML) (A : AS) (hA : okAS A) (hSh : Sh g) (hR : RI A mi) (b : Nat) (hb : b < aG A) : CT Γ 60 0 0 mX12_out [.ref 87, .int (nI b)] g mi ml (RQ A (.inl (oI ((fE (fun i => !seaB (DDd (aP A) (aH A) id (i + 1)) b) 199).map (· + 1)))) cd0 g mi ml) := by
  refine CT_of (by decide +kernel) (Nat.le_of_ble_eq_true rfl) ?_
  have hP := hA.1
  have hG8 : aG A ≤ 8 := hP.2.1
  have hC8 : (aP A).1 ≤ 8 := hP.1
  refine X_aload_n dX12_out_0 rfl ?_
  refine X_iconst (v := nI 0) dX12_out_1 (by decide) ?_
  refine X_puti dX12_out_2 fkX12_158 rfl rfl (k_87 hSh) ?_
  refine X_aload_n dX12_out_5 rfl ?_
  refine X_aload_n dX12_out_6 rfl ?_
  refine X_iload_n dX12_out_7 rfl ?_
  refine X_callVI dX12_out_8 mkX12_285 (k_87 hSh) (c_isGuest Γ g (up2 mi 87 0 (nI 0)) ml hSh (nI b)) rfl rfl (by decide) (Nat.le_of_ble_eq_true rfl) ?_
  refine X_topi (show bI (decide (nI 0 ≤ nI b) && decide (nI b ≤ (up2 mi 87 0 (nI 0)) 91 1 - nI 1)) = nI 1 from congrArg bI (show (decide (nI 0 ≤ nI b) && decide (nI b ≤ (up2 mi 87 0 (nI 0)) 91 1 - nI 1)) = true from by rw [(show (up2 mi 87 0 (nI 0)) 91 1 = nI (aG A) from ((congrFun (up2_row (by omega)) _).trans hR.1.2.1))]; exact (gd_ref hG8).mpr ⟨b, hb, rfl⟩)) ?_
  refine X_if_neN (a := 1) 18 dX12_out_11 (by decide) (by omega) (fun h_1 => ?_) (fun h_1 => ?_)
  · refine X_iconst (v := nI 0) dX12_out_18 (by decide) ?_
    refine X_iconst (v := nI 1) dX12_out_19 (by decide) ?_
    refine X_iconst (v := nI 0) dX12_out_20 (by decide) ?_
    refine X_callVI dX12_out_21 mkX12_228 (k_87 hSh) (c_bad0 Γ g (up2 mi 87 0 (nI 0)) ml hSh 1 0 up2_s) rfl rfl (by decide) (Nat.le_of_ble_eq_true rfl) ?_
    refine X_if_eqN (a := 0) 29 dX12_out_24 (by decide) (by omega) (fun h_2 => ?_) (fun h_2 => ?_)
    · refine X_aload_n dX12_out_29 rfl ?_
      refine X_callVrV dX12_out_30 mkX12_347 (k_87 hSh) (r_beg Γ g (up2 mi 87 0 (nI 0)) ml A hA hSh mi hR RW_0) rfl rfl (by decide) (Nat.le_of_ble_eq_true rfl) (fun b1 bl hb1 => ?_)
      obtain ⟨hbS, hbc, hbW, hbB, hbl⟩ := hb1
      rw [hbl]
      refine X_aload_n dX12_out_33 rfl ?_
      refine X_callVrV dX12_out_34 mkX12_341 (k_87 hSh) (r_run Γ g b1 ml A hA hSh mi hbW id id id (pU (aP A)) (aP A).2.2.2.1 ⟨hA.1.2.2.2.1, hA.1.2.2.2.2.1⟩ hbS (okO_id hG8) hbc) rfl rfl (by decide) (Nat.le_of_ble_eq_true rfl) (fun x1 xl hx1 => ?_)
      obtain ⟨hxR, hxS, hxW, hxF, hxl⟩ := hx1
      rw [hxl]
      refine X_iconst (v := nI 1) dX12_out_37 (by decide) ?_
      refine X_istore_n dX12_out_38 (by decide) ?_
      refine X_L [(2, .int (nI 1)), (0, .ref 87), (1, .int (nI b))] ⟨rfl, rfl, rfl, trivial⟩ ?_
      refine X_forR (σ := pMI) 39 (fun i y => [(2, .int (nI i)), (0, .ref 87), (1, .int (nI b))]) (fun y => y) (fun y => ml) (fun i y => 1 ≤ i ∧ RDY y (aP A) (sqd (aP A) (aH A) id (i - 1)) (DDd (aP A) (aH A) id (i - 1)) ∧ rS y (aP A) (aH A) id id (aP A).2.2.2.1 ∧ RW mi y ∧ ∀ e, e + 1 < i → seaB (DDd (aP A) (aH A) id (e + 1)) b = true) 200 ?_ ?_ 199 1 x1 (by omega) ⟨Nat.le_refl _, hxR, hxS, hxW, fun e he => absurd he (by omega)⟩
      · intro i y hi hI hn
        obtain ⟨hI1, hyR, hyS, hyW, hI⟩ := hI
        obtain ⟨j, rfl⟩ : ∃ j, i = j + 1 := ⟨i - 1, by omega⟩
        refine X_iload_n dX12_out_39 rfl ?_
        refine X_sipush (v := nI 200) dX12_out_40 (by decide) ?_
        refine X_icmp_geN (a := j + 1) (b := 200) 72 dX12_out_43 (by decide) (by omega) (by omega) (fun h_3 => ?_) (fun h_3 => ?_)
        · exact absurd h_3 (by omega)
        · refine X_aload_n dX12_out_46 rfl ?_
          refine X_iload_n dX12_out_47 rfl ?_
          refine X_callVrV dX12_out_48 mkX12_344 (k_87 hSh) (r_ask Γ g y ml A hA hSh mi hyW id id _ _ (j + 1) _ hyS hyR) rfl rfl (by decide) (Nat.le_of_ble_eq_true rfl) (fun z1 zl hz1 => ?_)
          obtain ⟨hzc, hzS, hzW, hzF, hzl⟩ := hz1
          rw [hzl]
          have hzc := sqd_nx (by omega) hzc
          refine X_aload_n dX12_out_51 rfl ?_
          refine X_callVrV dX12_out_52 mkX12_341 (k_87 hSh) (r_run Γ g z1 ml A hA hSh mi hzW id id id (sqd (aP A) (aH A) id (j + 1)) (aP A).2.2.2.1 ⟨hA.1.2.2.2.1, hA.1.2.2.2.2.1⟩ hzS (okO_id hG8) hzc) rfl rfl (by decide) (Nat.le_of_ble_eq_true rfl) (fun u1 ul hu1 => ?_)
          obtain ⟨huR, huS, huW, huF, hul⟩ := hu1
          rw [hul]
          obtain ⟨n9, hn9, hn8, hse⟩ := sea_r huR hb
          have hse : seaB (DDd (aP A) (aH A) id (j + 1)) b = decide (0 < n9) := hse
          refine X_aload_n dX12_out_55 rfl ?_
          refine X_getr (a := 201) dX12_out_56 fkX12_92 rfl (k_87 hSh) (r_87_41 hSh) ?_
          refine X_iload_n dX12_out_59 rfl ?_
          refine X_iald b dX12_out_60 (k_201 hSh) rfl (by omega) ?_
          rw [hn8]
          refine X_if_neN (a := n9) 66 dX12_out_61 (by decide) (by omega) (fun h_4 => ?_) (fun h_4 => ?_)
          · refine X_iinc (v := nI (j + 1 + 1)) dX12_out_66 rfl (nI_1 _) (by decide) ?_
            refine X_goto 39 dX12_out_69 (by decide) ?_
            refine X_L [(2, .int (nI (j + 1 + 1))), (0, .ref 87), (1, .int (nI b))] ⟨rfl, rfl, rfl, trivial⟩ ?_
            refine hn u1 ⟨by omega, huR, huS, huW, fun e he => ?_⟩
            by_cases q : e = j
            · rw [q, hse]; exact decide_eq_true (by omega)
            · exact hI e (by omega)
          · refine X_iload_n dX12_out_64 rfl ?_
            exact X_iret dX12_out_65 rfl ⟨rfl, rfl, RW_I hA hR huW, huW.2.1, _, rfl, by rw [fE_s (i := j) (fun e he => by rw [hI e (by omega)]; rfl) (by rw [hse, decide_eq_false (by omega)]; rfl) (by omega)]; rfl, huW.2.2⟩
      · intro y hI
        refine X_iload_n dX12_out_39 rfl ?_
        refine X_sipush (v := nI 200) dX12_out_40 (by decide) ?_
        refine X_icmp_geN (a := 200) (b := 200) 72 dX12_out_43 (by decide) (by omega) (by omega) (fun h_5 => ?_) (fun h_5 => ?_)
        · refine X_iconst (v := -1) dX12_out_72 (by decide) ?_
          exact X_iret dX12_out_73 rfl ⟨rfl, rfl, RW_I hA hR hI.2.2.2.1, hI.2.2.2.1.2.1, _, rfl, by rw [fE_n.mpr (fun e he => by rw [hI.2.2.2.2 e (by omega)]; rfl)]; rfl, hI.2.2.2.1.2.2⟩
        · exact absurd h_5 (by omega)
    · exact absurd h_2 (by omega)
  · exact absurd h_1 (by omega)
theorem m_out (A : AS) (hA : okAS A) (v : Int32) : MOK mX11_out mX12_out cd0 [.int v] A := by
  by_cases hg0 : ∃ b, b < aG A ∧ v = nI b
  · obtain ⟨b, hb, rfl⟩ := hg0
    exact ⟨.inl (oI ((fE (fun i => !seaB (DDd (aP A) (aH A) id (i + 1)) b) 199).map (· + 1))), A, hA, fun j h => (by cases h), fun Γ g m l hC => k_out Γ g m l A hA hC b hb, fun Γ g m l hSh hR => r_out Γ g m l A hA hSh hR b hb⟩
  · exact ⟨.inr 0, rfA A 0, ok_rf hA, fun j h => by cases h; decide, fun Γ g m l hC => k_out_f0 Γ g m l A hA hC v hg0, fun Γ g m l hSh hR => r_out_f0 Γ g m l A hA hSh hR v hg0⟩
set_option maxRecDepth 100000 in
set_option maxHeartbeats 4000000 in
theorem k_had_f0 (Γ : pTG) (g : pGG) (mi : pMI) (ml : pML) (A : AS) (hA : okAS A) (hC : CI A g mi ml) (v : Int32) (hf : ¬ ∃ b, b < aG A ∧ v = nI b) (n : Int32) : CT Γ 60 20 5000 mX11_had [.ref 0, .int v, .int n] g mi ml (CQ (rfA A 0) (.inr 0) mi ml) := by
  refine CT_of (by decide +kernel) (Nat.le_of_ble_eq_true rfl) ?_
  have hSh := CI_Sh hC
  have hcl := CI_cl hC
  have hP := hA.1
  have hG8 : aG A ≤ 8 := hP.2.1
  have hC8 : (aP A).1 ≤ 8 := hP.1
  refine X_aload_n dX11_had_0 rfl ?_
  refine X_iload_n dX11_had_1 rfl ?_
  exact X_need dX11_had_2 mkX11_147 (k_0 hSh) (c_needGuest Γ g mi ml hSh v) rfl rfl (by decide) (by decide) (by decide) (by decide) (fun _ => ⟨rfl, CI_rf (by decide) hC, frK_86, rfl⟩) (fun h => absurd ((gd_iff hG8).mp (by rw [← hcl.2.1]; exact h)) hf)
set_option maxRecDepth 100000 in
set_option maxHeartbeats 4000000 in
theorem r_had_f0 (Γ : pTG) (g : pGG) (mi : pMI) (ml : pML) (A : AS) (hA : okAS A) (hSh : Sh g) (hR : RI A mi) (v : Int32) (hf : ¬ ∃ b, b < aG A ∧ v = nI b) (n : Int32) : CT Γ 60 0 0 mX12_had [.ref 87, .int v, .int n] g mi ml (RQ (rfA A 0) (.inr 0) cd2 g mi ml) := by
  refine CT_of (by decide +kernel) (Nat.le_of_ble_eq_true rfl) ?_
  have hP := hA.1
  have hG8 : aG A ≤ 8 := hP.2.1
  have hC8 : (aP A).1 ≤ 8 := hP.1
  refine X_aload_n dX12_had_0 rfl ?_
  refine X_iconst (v := nI 0) dX12_had_1 (by decide) ?_
  refine X_puti dX12_had_2 fkX12_158 rfl rfl (k_87 hSh) ?_
  refine X_aload_n dX12_had_5 rfl ?_
  refine X_aload_n dX12_had_6 rfl ?_
  refine X_iload_n dX12_had_7 rfl ?_
  refine X_callVI dX12_had_8 mkX12_285 (k_87 hSh) (c_isGuest Γ g (up2 mi 87 0 (nI 0)) ml hSh v) rfl rfl (by decide) (Nat.le_of_ble_eq_true rfl) ?_
  refine X_topi (show bI (decide (nI 0 ≤ v) && decide (v ≤ (up2 mi 87 0 (nI 0)) 91 1 - nI 1)) = nI 0 from congrArg bI (show (decide (nI 0 ≤ v) && decide (v ≤ (up2 mi 87 0 (nI 0)) 91 1 - nI 1)) = false from Bool.eq_false_iff.mpr (fun q => hf ((gd_ref hG8).mp (by rw [(show (up2 mi 87 0 (nI 0)) 91 1 = nI (aG A) from ((congrFun (up2_row (by omega)) _).trans hR.1.2.1))] at q; exact q))))) ?_
  refine X_if_neN (a := 0) 18 dX12_had_11 (by decide) (by omega) (fun h_1 => ?_) (fun h_1 => ?_)
  · exact absurd h_1 (by omega)
  · refine X_iconst (v := nI 1) dX12_had_14 (by decide) ?_
    refine X_goto 19 dX12_had_15 (by decide) ?_
    refine X_iconst (v := nI 1) dX12_had_19 (by decide) ?_
    refine X_iconst (v := nI 0) dX12_had_20 (by decide) ?_
    refine X_callVI dX12_had_21 mkX12_228 (k_87 hSh) (c_bad1 Γ g (up2 mi 87 0 (nI 0)) ml hSh 1 0 (by decide) (by decide) (by decide) up2_s) rfl rfl (by decide) (Nat.le_of_ble_eq_true rfl) ?_
    refine X_mi (show _ = mB mi 1 0 from rfl) ?_
    refine X_if_neN (a := 1) 52 dX12_had_24 (by decide) (by omega) (fun h_2 => ?_) (fun h_2 => ?_)
    · refine X_iconst (v := nI 0) dX12_had_52 (by decide) ?_
      exact X_iret dX12_had_53 rfl ⟨rfl, rfl, RI_rf hA (by decide) hR, fr2_B, _, rfl, mB_0⟩
    · exact absurd h_2 (by omega)
set_option maxRecDepth 100000 in
set_option maxHeartbeats 4000000 in
theorem k_had_f1 (Γ : pTG) (g : pGG) (mi : pMI) (ml : pML) (A : AS) (hA : okAS A) (hC : CI A g mi ml) (b : Nat) (hb : b < aG A) (n : Int32) (hf : ¬ (nI 1 ≤ n ∧ n ≤ nI 200)) : CT Γ 60 20 5000 mX11_had [.ref 0, .int (nI b), .int n] g mi ml (CQ (rfA A 1) (.inr 1) mi ml) := by
  refine CT_of (by decide +kernel) (Nat.le_of_ble_eq_true rfl) ?_
  have hSh := CI_Sh hC
  have hcl := CI_cl hC
  have hP := hA.1
  have hG8 : aG A ≤ 8 := hP.2.1
  have hC8 : (aP A).1 ≤ 8 := hP.1
  refine X_aload_n dX11_had_0 rfl ?_
  refine X_iload_n dX11_had_1 rfl ?_
  refine X_need dX11_had_2 mkX11_147 (k_0 hSh) (c_needGuest Γ g mi ml hSh (nI b)) rfl rfl (by decide) (by decide) (by decide) (by decide) (fun h => absurd (by rw [hcl.2.1]; exact (gd_iff hG8).mpr ⟨b, hb, rfl⟩) h) (fun _ => ?_)
  refine X_aload_n dX11_had_5 rfl ?_
  refine X_iload_n dX11_had_6 rfl ?_
  refine X_iconst (v := nI 1) dX11_had_7 (by decide) ?_
  refine X_sipush (v := nI 200) dX11_had_8 (by decide) ?_
  exact X_need dX11_had_11 mkX11_116 (k_0 hSh) (c_needWithin Γ g mi ml hSh n (nI 1) (nI 200)) rfl rfl (by decide) (by decide) (by decide) (by decide) (fun _ => ⟨rfl, CI_rf (by decide) hC, frK_86, rfl⟩) (fun h => absurd h hf)
set_option maxRecDepth 100000 in
set_option maxHeartbeats 4000000 in
theorem r_had_f1 (Γ : pTG) (g : pGG) (mi : pMI) (ml : pML) (A : AS) (hA : okAS A) (hSh : Sh g) (hR : RI A mi) (b : Nat) (hb : b < aG A) (n : Int32) (hf : ¬ (nI 1 ≤ n ∧ n ≤ nI 200)) : CT Γ 60 0 0 mX12_had [.ref 87, .int (nI b), .int n] g mi ml (RQ (rfA A 1) (.inr 1) cd2 g mi ml) := by
  refine CT_of (by decide +kernel) (Nat.le_of_ble_eq_true rfl) ?_
  have hP := hA.1
  have hG8 : aG A ≤ 8 := hP.2.1
  have hC8 : (aP A).1 ≤ 8 := hP.1
  refine X_aload_n dX12_had_0 rfl ?_
  refine X_iconst (v := nI 0) dX12_had_1 (by decide) ?_
  refine X_puti dX12_had_2 fkX12_158 rfl rfl (k_87 hSh) ?_
  refine X_aload_n dX12_had_5 rfl ?_
  refine X_aload_n dX12_had_6 rfl ?_
  refine X_iload_n dX12_had_7 rfl ?_
  refine X_callVI dX12_had_8 mkX12_285 (k_87 hSh) (c_isGuest Γ g (up2 mi 87 0 (nI 0)) ml hSh (nI b)) rfl rfl (by decide) (Nat.le_of_ble_eq_true rfl) ?_
  refine X_topi (show bI (decide (nI 0 ≤ nI b) && decide (nI b ≤ (up2 mi 87 0 (nI 0)) 91 1 - nI 1)) = nI 1 from congrArg bI (show (decide (nI 0 ≤ nI b) && decide (nI b ≤ (up2 mi 87 0 (nI 0)) 91 1 - nI 1)) = true from by rw [(show (up2 mi 87 0 (nI 0)) 91 1 = nI (aG A) from ((congrFun (up2_row (by omega)) _).trans hR.1.2.1))]; exact (gd_ref hG8).mpr ⟨b, hb, rfl⟩)) ?_
  refine X_if_neN (a := 1) 18 dX12_had_11 (by decide) (by omega) (fun h_1 => ?_) (fun h_1 => ?_)
  · refine X_iconst (v := nI 0) dX12_had_18 (by decide) ?_
    refine X_iconst (v := nI 1) dX12_had_19 (by decide) ?_
    refine X_iconst (v := nI 0) dX12_had_20 (by decide) ?_
    refine X_callVI dX12_had_21 mkX12_228 (k_87 hSh) (c_bad0 Γ g (up2 mi 87 0 (nI 0)) ml hSh 1 0 up2_s) rfl rfl (by decide) (Nat.le_of_ble_eq_true rfl) ?_
    refine X_if_neN (a := 0) 52 dX12_had_24 (by decide) (by omega) (fun h_2 => ?_) (fun h_2 => ?_)
    · exact absurd h_2 (by omega)
    · refine X_aload_n dX12_had_27 rfl ?_
      refine X_iload_n dX12_had_28 rfl ?_
      refine X_iconst (v := nI 1) dX12_had_29 (by decide) ?_
      refine X_sipush (v := nI 200) dX12_had_30 (by decide) ?_
      refine X_callSI dX12_had_33 mkX12_192 (c_in Γ g (up2 mi 87 0 (nI 0)) ml n (nI 1) (nI 200)) rfl rfl (by decide) (Nat.le_of_ble_eq_true rfl) ?_
      refine X_topi (show bI (decide (nI 1 ≤ n) && decide (n ≤ nI 200)) = nI 0 from congrArg bI (show (decide (nI 1 ≤ n) && decide (n ≤ nI 200)) = false from Bool.eq_false_iff.mpr (fun q => hf (by rw [Bool.and_eq_true, decide_eq_true_eq, decide_eq_true_eq] at q; exact q)))) ?_
      refine X_if_neN (a := 0) 43 dX12_had_36 (by decide) (by omega) (fun h_3 => ?_) (fun h_3 => ?_)
      · exact absurd h_3 (by omega)
      · refine X_iconst (v := nI 1) dX12_had_39 (by decide) ?_
        refine X_goto 44 dX12_had_40 (by decide) ?_
        refine X_iconst (v := nI 2) dX12_had_44 (by decide) ?_
        refine X_iconst (v := nI 1) dX12_had_45 (by decide) ?_
        refine X_callVI dX12_had_46 mkX12_228 (k_87 hSh) (c_bad1 Γ g (up2 mi 87 0 (nI 0)) ml hSh 2 1 (by decide) (by decide) (by decide) up2_s) rfl rfl (by decide) (Nat.le_of_ble_eq_true rfl) ?_
        refine X_mi (show _ = mB mi 2 1 from rfl) ?_
        refine X_if_eqN (a := 1) 54 dX12_had_49 (by decide) (by omega) (fun h_4 => ?_) (fun h_4 => ?_)
        · exact absurd h_4 (by omega)
        · refine X_iconst (v := nI 0) dX12_had_52 (by decide) ?_
          exact X_iret dX12_had_53 rfl ⟨rfl, rfl, RI_rf hA (by decide) hR, fr2_B, _, rfl, mB_0⟩
  · exact absurd h_1 (by omega)
set_option maxRecDepth 100000 in
set_option maxHeartbeats 4000000 in
theorem k_had (Γ : pTG) (g : pGG) (mi : pMI) (ml : pML) (A : AS) (hA : okAS A) (hC : CI A g mi ml) (b : Nat) (hb : b < aG A) (k : Nat) (hka : 1 ≤ k) (hk : k ≤ 200) : CT Γ 60 20 5000 mX11_had [.ref 0, .int (nI b), .int (nI k)] g mi ml (CQ A (.inl (nI (cN (fun d => seaB (DDd (aP A) (aH A) id d) b) k))) mi ml) := by
  refine CT_of (by decide +kernel) (Nat.le_of_ble_eq_true rfl) ?_
  have hSh := CI_Sh hC
  have hcl := CI_cl hC
  have hP := hA.1
  have hG8 : aG A ≤ 8 := hP.2.1
  have hC8 : (aP A).1 ≤ 8 := hP.1
  refine X_aload_n dX11_had_0 rfl ?_
  refine X_iload_n dX11_had_1 rfl ?_
  refine X_need dX11_had_2 mkX11_147 (k_0 hSh) (c_needGuest Γ g mi ml hSh (nI b)) rfl rfl (by decide) (by decide) (by decide) (by decide) (fun h => absurd (by rw [hcl.2.1]; exact (gd_iff hG8).mpr ⟨b, hb, rfl⟩) h) (fun _ => ?_)
  refine X_aload_n dX11_had_5 rfl ?_
  refine X_iload_n dX11_had_6 rfl ?_
  refine X_iconst (v := nI 1) dX11_had_7 (by decide) ?_
  refine X_sipush (v := nI 200) dX11_had_8 (by decide) ?_
  refine X_need dX11_had_11 mkX11_116 (k_0 hSh) (c_needWithin Γ g mi ml hSh (nI k) (nI 1) (nI 200)) rfl rfl (by decide) (by decide) (by decide) (by decide) (fun h => absurd (⟨nI_le (by omega) (by omega), nI_le (by omega) (by omega)⟩) h) (fun _ => ?_)
  refine X_aload_n dX11_had_14 rfl ?_
  refine X_getr (a := 27) dX11_had_15 fkX11_60 rfl (k_0 hSh) (r_0_7 hSh) ?_
  refine X_iload_n dX11_had_18 rfl ?_
  refine X_iconst (v := nI 1) dX11_had_19 (by decide) ?_
  refine X_isub dX11_had_20 ?_
  refine X_topi (pk_sub (a := k) (b := 1) (by first | omega | (have := cN_le (fun d => seaB (DDd (aP A) (aH A) id d) b) i; omega))) ?_
  refine X_callVrV dX11_had_21 mkX11_262 (k_27 hSh) (c_reachK Γ g mi ml A hA hC (k - 1) (by omega)) rfl rfl (by decide) (Nat.le_of_ble_eq_true rfl) (fun m1 l1 hm1 => ?_)
  obtain ⟨⟨r, hrd, hr⟩, hk1, hl1⟩ := hm1
  have hC1 := CIr_CI hr
  have hcl1 := CI_cl hC1
  have hD1 := CIr_D hr
  refine X_iconst (v := nI 0) dX11_had_24 (by decide) ?_
  refine X_istore_n dX11_had_25 (by decide) ?_
  refine X_iconst (v := nI 0) dX11_had_26 (by decide) ?_
  refine X_istore dX11_had_27 (by decide) ?_
  refine X_L [(4, .int (nI 0)), (3, .int (nI 0)), (0, .ref 0), (1, .int (nI b)), (2, .int (nI k))] ⟨rfl, rfl, rfl, rfl, rfl, trivial⟩ ?_
  refine X_for2 (σ := Unit) 29 (fun i x => [(4, .int (nI i)), (3, .int (nI (cN (fun d => seaB (DDd (aP A) (aH A) id d) b) i))), (0, .ref 0), (1, .int (nI b)), (2, .int (nI k))]) (fun x => m1) (fun x => l1) (fun _ x => x) (fun _ _ => True) k ?_ k 0 () (by first | omega | (have := cN_le (fun d => seaB (DDd (aP A) (aH A) id d) b) i; omega)) trivial ?_
  · intro i x hi hI
    refine ⟨trivial, fun hn => ?_⟩
    refine X_iload dX11_had_29 rfl ?_
    refine X_iload_n dX11_had_31 rfl ?_
    refine X_icmp_geN (a := i) (b := k) 57 dX11_had_32 (by decide) (by first | omega | (have := cN_le (fun d => seaB (DDd (aP A) (aH A) id d) b) i; omega)) (by first | omega | (have := cN_le (fun d => seaB (DDd (aP A) (aH A) id d) b) i; omega)) (fun h_1 => ?_) (fun h_1 => ?_)
    · exact absurd hi (by omega)
    · refine X_aload_n dX11_had_35 rfl ?_
      refine X_getr (a := 27) dX11_had_36 fkX11_60 rfl (k_0 hSh) (r_0_7 hSh) ?_
      refine X_iload dX11_had_39 rfl ?_
      refine X_iload_n dX11_had_41 rfl ?_
      refine X_callVI dX11_had_42 mkX11_271 (k_27 hSh) (c_wasSeated27 Γ g m1 l1 hSh i b (by omega) (by omega)) rfl rfl (by decide) (Nat.le_of_ble_eq_true rfl) ?_
      refine X_topi (show bI (bt (m1 31 i) b) = bI (seaB (DDd (aP A) (aH A) id i) b) by rw [sea_k hG8 hD1 (by omega) hb]) ?_
      refine X_if_eq 51 dX11_had_45 (by decide) (fun h_2 => ?_) (fun h_2 => ?_)
      · refine X_iinc (v := nI (i + 1)) dX11_had_51 rfl (nI_1 _) (by decide) ?_
        refine X_goto 29 dX11_had_54 (by decide) ?_
        refine X_L [(4, .int (nI (i + 1))), (3, .int (nI (cN (fun d => seaB (DDd (aP A) (aH A) id d) b) i))), (0, .ref 0), (1, .int (nI b)), (2, .int (nI k))] ⟨rfl, rfl, rfl, rfl, rfl, trivial⟩ ?_
        rw [show cN (fun d => seaB (DDd (aP A) (aH A) id d) b) (i + 1) = cN (fun d => seaB (DDd (aP A) (aH A) id d) b) i from congrArg (cN (fun d => seaB (DDd (aP A) (aH A) id d) b) i + ·) (if_neg (by show ¬ seaB (DDd (aP A) (aH A) id i) b = true; rw [(bI_0 (b := seaB (DDd (aP A) (aH A) id i) b)).mp (by assumption)]; decide))] at hn
        exact hn
      · refine X_iinc (v := nI (cN (fun d => seaB (DDd (aP A) (aH A) id d) b) i + 1)) dX11_had_48 rfl (nI_1 _) (by decide) ?_
        refine X_iinc (v := nI (i + 1)) dX11_had_51 rfl (nI_1 _) (by decide) ?_
        refine X_goto 29 dX11_had_54 (by decide) ?_
        refine X_L [(4, .int (nI (i + 1))), (3, .int (nI (cN (fun d => seaB (DDd (aP A) (aH A) id d) b) i + 1))), (0, .ref 0), (1, .int (nI b)), (2, .int (nI k))] ⟨rfl, rfl, rfl, rfl, rfl, trivial⟩ ?_
        rw [show cN (fun d => seaB (DDd (aP A) (aH A) id d) b) (i + 1) = cN (fun d => seaB (DDd (aP A) (aH A) id d) b) i + 1 from congrArg (cN (fun d => seaB (DDd (aP A) (aH A) id d) b) i + ·) (if_pos (bI_n0.mp (by assumption)))] at hn
        exact hn
  · intro x hI
    refine X_iload dX11_had_29 rfl ?_
    refine X_iload_n dX11_had_31 rfl ?_
    refine X_icmp_geN (a := k) (b := k) 57 dX11_had_32 (by decide) (by first | omega | (have := cN_le (fun d => seaB (DDd (aP A) (aH A) id d) b) i; omega)) (by first | omega | (have := cN_le (fun d => seaB (DDd (aP A) (aH A) id d) b) i; omega)) (fun h_3 => ?_) (fun h_3 => ?_)
    · refine X_iload_n dX11_had_57 rfl ?_
      exact X_iret dX11_had_58 rfl ⟨rfl, hC1, hk1, hl1⟩
    · exact absurd h_3 (by omega)
set_option maxRecDepth 100000 in
set_option maxHeartbeats 4000000 in
theorem r_had (Γ : pTG) (g : pGG) (mi : pMI) (ml : pML) (A : AS) (hA : okAS A) (hSh : Sh g) (hR : RI A mi) (b : Nat) (hb : b < aG A) (k : Nat) (hka : 1 ≤ k) (hk : k ≤ 200) : CT Γ 60 0 0 mX12_had [.ref 87, .int (nI b), .int (nI k)] g mi ml (RQ A (.inl (nI (cN (fun d => seaB (DDd (aP A) (aH A) id d) b) k))) cd2 g mi ml) := by
  refine CT_of (by decide +kernel) (Nat.le_of_ble_eq_true rfl) ?_
  have hP := hA.1
  have hG8 : aG A ≤ 8 := hP.2.1
  have hC8 : (aP A).1 ≤ 8 := hP.1
  refine X_aload_n dX12_had_0 rfl ?_
  refine X_iconst (v := nI 0) dX12_had_1 (by decide) ?_
  refine X_puti dX12_had_2 fkX12_158 rfl rfl (k_87 hSh) ?_
  refine X_aload_n dX12_had_5 rfl ?_
  refine X_aload_n dX12_had_6 rfl ?_
  refine X_iload_n dX12_had_7 rfl ?_
  refine X_callVI dX12_had_8 mkX12_285 (k_87 hSh) (c_isGuest Γ g (up2 mi 87 0 (nI 0)) ml hSh (nI b)) rfl rfl (by decide) (Nat.le_of_ble_eq_true rfl) ?_
  refine X_topi (show bI (decide (nI 0 ≤ nI b) && decide (nI b ≤ (up2 mi 87 0 (nI 0)) 91 1 - nI 1)) = nI 1 from congrArg bI (show (decide (nI 0 ≤ nI b) && decide (nI b ≤ (up2 mi 87 0 (nI 0)) 91 1 - nI 1)) = true from by rw [(show (up2 mi 87 0 (nI 0)) 91 1 = nI (aG A) from ((congrFun (up2_row (by omega)) _).trans hR.1.2.1))]; exact (gd_ref hG8).mpr ⟨b, hb, rfl⟩)) ?_
  refine X_if_neN (a := 1) 18 dX12_had_11 (by decide) (by first | omega | (have := cN_le (fun d => seaB (DDd (aP A) (aH A) id d) b) j; omega)) (fun h_1 => ?_) (fun h_1 => ?_)
  · refine X_iconst (v := nI 0) dX12_had_18 (by decide) ?_
    refine X_iconst (v := nI 1) dX12_had_19 (by decide) ?_
    refine X_iconst (v := nI 0) dX12_had_20 (by decide) ?_
    refine X_callVI dX12_had_21 mkX12_228 (k_87 hSh) (c_bad0 Γ g (up2 mi 87 0 (nI 0)) ml hSh 1 0 up2_s) rfl rfl (by decide) (Nat.le_of_ble_eq_true rfl) ?_
    refine X_if_neN (a := 0) 52 dX12_had_24 (by decide) (by first | omega | (have := cN_le (fun d => seaB (DDd (aP A) (aH A) id d) b) j; omega)) (fun h_2 => ?_) (fun h_2 => ?_)
    · exact absurd h_2 (by omega)
    · refine X_aload_n dX12_had_27 rfl ?_
      refine X_iload_n dX12_had_28 rfl ?_
      refine X_iconst (v := nI 1) dX12_had_29 (by decide) ?_
      refine X_sipush (v := nI 200) dX12_had_30 (by decide) ?_
      refine X_callSI dX12_had_33 mkX12_192 (c_in Γ g (up2 mi 87 0 (nI 0)) ml (nI k) (nI 1) (nI 200)) rfl rfl (by decide) (Nat.le_of_ble_eq_true rfl) ?_
      refine X_topi (show bI (decide (nI 1 ≤ nI k) && decide (nI k ≤ nI 200)) = nI 1 from congrArg bI (show (decide (nI 1 ≤ nI k) && decide (nI k ≤ nI 200)) = true from by rw [decide_eq_true (nI_le (by omega) (by omega)), decide_eq_true (nI_le (by omega) (by omega))]; rfl)) ?_
      refine X_if_neN (a := 1) 43 dX12_had_36 (by decide) (by first | omega | (have := cN_le (fun d => seaB (DDd (aP A) (aH A) id d) b) j; omega)) (fun h_3 => ?_) (fun h_3 => ?_)
      · refine X_iconst (v := nI 0) dX12_had_43 (by decide) ?_
        refine X_iconst (v := nI 2) dX12_had_44 (by decide) ?_
        refine X_iconst (v := nI 1) dX12_had_45 (by decide) ?_
        refine X_callVI dX12_had_46 mkX12_228 (k_87 hSh) (c_bad0 Γ g (up2 mi 87 0 (nI 0)) ml hSh 2 1 up2_s) rfl rfl (by decide) (Nat.le_of_ble_eq_true rfl) ?_
        refine X_if_eqN (a := 0) 54 dX12_had_49 (by decide) (by first | omega | (have := cN_le (fun d => seaB (DDd (aP A) (aH A) id d) b) j; omega)) (fun h_4 => ?_) (fun h_4 => ?_)
        · refine X_aload_n dX12_had_54 rfl ?_
          refine X_callVrV dX12_had_55 mkX12_347 (k_87 hSh) (r_beg Γ g (up2 mi 87 0 (nI 0)) ml A hA hSh mi hR RW_0) rfl rfl (by decide) (Nat.le_of_ble_eq_true rfl) (fun b1 bl hb1 => ?_)
          obtain ⟨hbS, hbc, hbW, hbB, hbl⟩ := hb1
          rw [hbl]
          refine X_aload_n dX12_had_58 rfl ?_
          refine X_callVrV dX12_had_59 mkX12_341 (k_87 hSh) (r_run Γ g b1 ml A hA hSh mi hbW id id id (pU (aP A)) (aP A).2.2.2.1 ⟨hA.1.2.2.2.1, hA.1.2.2.2.2.1⟩ hbS (okO_id hG8) hbc) rfl rfl (by decide) (Nat.le_of_ble_eq_true rfl) (fun x1 xl hx1 => ?_)
          obtain ⟨hxR, hxS, hxW, hxF, hxl⟩ := hx1
          rw [hxl]
          refine X_aload_n dX12_had_62 rfl ?_
          obtain ⟨n8, hn8a, hn8, hse0⟩ := sea_r hxR hb
          have hse0 : seaB (DDd (aP A) (aH A) id 0) b = decide (0 < n8) := hse0
          refine X_getr (a := 201) dX12_had_63 fkX12_92 rfl (k_87 hSh) (r_87_41 hSh) ?_
          refine X_iload_n dX12_had_66 rfl ?_
          refine X_iald b dX12_had_67 (k_201 hSh) rfl (by first | omega | (have := cN_le (fun d => seaB (DDd (aP A) (aH A) id d) b) j; omega)) ?_
          rw [hn8]
          refine X_join (S := []) 76 (fun v => v = nI (cN (fun d => seaB (DDd (aP A) (aH A) id d) b) 1)) (fun vJ hvJ => ?_) (fun hJ_5 => ?_)
          · rw [hvJ]
            refine X_istore_n dX12_had_76 (by decide) ?_
            refine X_iconst (v := nI 1) dX12_had_77 (by decide) ?_
            refine X_istore dX12_had_78 (by decide) ?_
            refine X_L [(4, .int (nI 1)), (3, .int (nI (cN (fun d => seaB (DDd (aP A) (aH A) id d) b) 1))), (0, .ref 87), (1, .int (nI b)), (2, .int (nI k))] ⟨rfl, rfl, rfl, rfl, rfl, trivial⟩ ?_
            refine X_forR (σ := pMI) 80 (fun i y => [(4, .int (nI i)), (3, .int (nI (cN (fun d => seaB (DDd (aP A) (aH A) id d) b) i))), (0, .ref 87), (1, .int (nI b)), (2, .int (nI k))]) (fun y => y) (fun y => ml) (fun i y => 1 ≤ i ∧ RDY y (aP A) (sqd (aP A) (aH A) id (i - 1)) (DDd (aP A) (aH A) id (i - 1)) ∧ rS y (aP A) (aH A) id id (aP A).2.2.2.1 ∧ RW mi y) k ?_ ?_ (k - 1) 1 x1 (by omega) ⟨Nat.le_refl _, hxR, hxS, hxW⟩
            · intro i y hi hI hn
              obtain ⟨hI1, hyR, hyS, hyW⟩ := hI
              obtain ⟨j, rfl⟩ : ∃ j, i = j + 1 := ⟨i - 1, by omega⟩
              refine X_iload dX12_had_80 rfl ?_
              refine X_iload_n dX12_had_82 rfl ?_
              refine X_icmp_geN (a := j + 1) (b := k) 119 dX12_had_83 (by decide) (by first | omega | (have := cN_le (fun d => seaB (DDd (aP A) (aH A) id d) b) j; omega)) (by first | omega | (have := cN_le (fun d => seaB (DDd (aP A) (aH A) id d) b) j; omega)) (fun h_6 => ?_) (fun h_6 => ?_)
              · exact absurd h_6 (by omega)
              · refine X_aload_n dX12_had_86 rfl ?_
                refine X_iload dX12_had_87 rfl ?_
                refine X_callVrV dX12_had_89 mkX12_344 (k_87 hSh) (r_ask Γ g y ml A hA hSh mi hyW id id _ _ (j + 1) _ hyS hyR) rfl rfl (by decide) (Nat.le_of_ble_eq_true rfl) (fun z1 zl hz1 => ?_)
                obtain ⟨hzc, hzS, hzW, hzF, hzl⟩ := hz1
                rw [hzl]
                have hzc := sqd_nx (by omega) hzc
                refine X_aload_n dX12_had_92 rfl ?_
                refine X_callVrV dX12_had_93 mkX12_341 (k_87 hSh) (r_run Γ g z1 ml A hA hSh mi hzW id id id (sqd (aP A) (aH A) id (j + 1)) (aP A).2.2.2.1 ⟨hA.1.2.2.2.1, hA.1.2.2.2.2.1⟩ hzS (okO_id hG8) hzc) rfl rfl (by decide) (Nat.le_of_ble_eq_true rfl) (fun u1 ul hu1 => ?_)
                obtain ⟨huR, huS, huW, huF, hul⟩ := hu1
                rw [hul]
                obtain ⟨n9, hn9, hn8', hse⟩ := sea_r huR hb
                have hse : seaB (DDd (aP A) (aH A) id (j + 1)) b = decide (0 < n9) := hse
                refine X_iload_n dX12_had_96 rfl ?_
                refine X_aload_n dX12_had_97 rfl ?_
                refine X_getr (a := 201) dX12_had_98 fkX12_92 rfl (k_87 hSh) (r_87_41 hSh) ?_
                refine X_iload_n dX12_had_101 rfl ?_
                refine X_iald b dX12_had_102 (k_201 hSh) rfl (by first | omega | (have := cN_le (fun d => seaB (DDd (aP A) (aH A) id d) b) j; omega)) ?_
                rw [hn8']
                refine X_if_leN (a := n9) 110 dX12_had_103 (by decide) (by first | omega | (have := cN_le (fun d => seaB (DDd (aP A) (aH A) id d) b) j; omega)) (fun h_7 => ?_) (fun h_7 => ?_)
                · refine X_iconst (v := nI 0) dX12_had_110 (by decide) ?_
                  refine X_iadd dX12_had_111 ?_
                  refine X_topi (nI_add (cN (fun d => seaB (DDd (aP A) (aH A) id d) b) (j + 1)) 0) ?_
                  refine X_istore_n dX12_had_112 (by decide) ?_
                  refine X_iinc (v := nI (j + 1 + 1)) dX12_had_113 rfl (nI_1 _) (by decide) ?_
                  refine X_goto 80 dX12_had_116 (by decide) ?_
                  refine X_L [(4, .int (nI (j + 1 + 1))), (3, .int (nI ((cN (fun d => seaB (DDd (aP A) (aH A) id d) b) (j + 1)) + 0))), (0, .ref 87), (1, .int (nI b)), (2, .int (nI k))] ⟨rfl, rfl, rfl, rfl, rfl, trivial⟩ ?_
                  refine X_L [(4, .int (nI (j + 1 + 1))), (3, .int (nI (cN (fun d => seaB (DDd (aP A) (aH A) id d) b) (j + 1 + 1)))), (0, .ref 87), (1, .int (nI b)), (2, .int (nI k))] ⟨rfl, by first | (rw [show cN (fun d => seaB (DDd (aP A) (aH A) id d) b) (j + 1 + 1) = cN (fun d => seaB (DDd (aP A) (aH A) id d) b) (j + 1) + 1 from congrArg (cN (fun d => seaB (DDd (aP A) (aH A) id d) b) (j + 1) + ·) (if_pos (by show seaB _ b = true; rw [hse]; exact decide_eq_true (by omega)))]; rfl) | (rw [show cN (fun d => seaB (DDd (aP A) (aH A) id d) b) (j + 1 + 1) = cN (fun d => seaB (DDd (aP A) (aH A) id d) b) (j + 1) + 0 from congrArg (cN (fun d => seaB (DDd (aP A) (aH A) id d) b) (j + 1) + ·) (if_neg (by show ¬ seaB _ b = true; rw [hse, decide_eq_false (by omega)]; decide))]; rfl), rfl, rfl, rfl, trivial⟩ ?_
                  exact hn u1 ⟨by omega, huR, huS, huW⟩
                · refine X_iconst (v := nI 1) dX12_had_106 (by decide) ?_
                  refine X_goto 111 dX12_had_107 (by decide) ?_
                  refine X_iadd dX12_had_111 ?_
                  refine X_topi (nI_add (cN (fun d => seaB (DDd (aP A) (aH A) id d) b) (j + 1)) 1) ?_
                  refine X_istore_n dX12_had_112 (by decide) ?_
                  refine X_iinc (v := nI (j + 1 + 1)) dX12_had_113 rfl (nI_1 _) (by decide) ?_
                  refine X_goto 80 dX12_had_116 (by decide) ?_
                  refine X_L [(4, .int (nI (j + 1 + 1))), (3, .int (nI ((cN (fun d => seaB (DDd (aP A) (aH A) id d) b) (j + 1)) + 1))), (0, .ref 87), (1, .int (nI b)), (2, .int (nI k))] ⟨rfl, rfl, rfl, rfl, rfl, trivial⟩ ?_
                  refine X_L [(4, .int (nI (j + 1 + 1))), (3, .int (nI (cN (fun d => seaB (DDd (aP A) (aH A) id d) b) (j + 1 + 1)))), (0, .ref 87), (1, .int (nI b)), (2, .int (nI k))] ⟨rfl, by first | (rw [show cN (fun d => seaB (DDd (aP A) (aH A) id d) b) (j + 1 + 1) = cN (fun d => seaB (DDd (aP A) (aH A) id d) b) (j + 1) + 1 from congrArg (cN (fun d => seaB (DDd (aP A) (aH A) id d) b) (j + 1) + ·) (if_pos (by show seaB _ b = true; rw [hse]; exact decide_eq_true (by omega)))]; rfl) | (rw [show cN (fun d => seaB (DDd (aP A) (aH A) id d) b) (j + 1 + 1) = cN (fun d => seaB (DDd (aP A) (aH A) id d) b) (j + 1) + 0 from congrArg (cN (fun d => seaB (DDd (aP A) (aH A) id d) b) (j + 1) + ·) (if_neg (by show ¬ seaB _ b = true; rw [hse, decide_eq_false (by omega)]; decide))]; rfl), rfl, rfl, rfl, trivial⟩ ?_
                  exact hn u1 ⟨by omega, huR, huS, huW⟩
            · intro y hI
              refine X_iload dX12_had_80 rfl ?_
              refine X_iload_n dX12_had_82 rfl ?_
              refine X_icmp_geN (a := k) (b := k) 119 dX12_had_83 (by decide) (by first | omega | (have := cN_le (fun d => seaB (DDd (aP A) (aH A) id d) b) j; omega)) (by first | omega | (have := cN_le (fun d => seaB (DDd (aP A) (aH A) id d) b) j; omega)) (fun h_8 => ?_) (fun h_8 => ?_)
              · refine X_iload_n dX12_had_119 rfl ?_
                exact X_iret dX12_had_120 rfl ⟨rfl, rfl, RW_I hA hR hI.2.2.2, hI.2.2.2.2.1, _, rfl, rfl, hI.2.2.2.2.2⟩
              · exact absurd h_8 (by omega)
          · refine X_if_leN (a := n8) 75 dX12_had_68 (by decide) (by first | omega | (have := cN_le (fun d => seaB (DDd (aP A) (aH A) id d) b) j; omega)) (fun h_9 => ?_) (fun h_9 => ?_)
            · refine X_iconst (v := nI 0) dX12_had_75 (by decide) ?_
              exact hJ_5 _ (by first | (show nI 1 = nI (0 + (if _ then 1 else 0)); rw [if_pos (by show seaB (DDd (aP A) (aH A) id 0) b = true; rw [hse0]; exact decide_eq_true (by omega))]) | (show nI 0 = nI (0 + (if _ then 1 else 0)); rw [if_neg (by show ¬ seaB (DDd (aP A) (aH A) id 0) b = true; rw [hse0, decide_eq_false (by omega)]; decide)]))
            · refine X_iconst (v := nI 1) dX12_had_71 (by decide) ?_
              refine X_goto 76 dX12_had_72 (by decide) ?_
              exact hJ_5 _ (by first | (show nI 1 = nI (0 + (if _ then 1 else 0)); rw [if_pos (by show seaB (DDd (aP A) (aH A) id 0) b = true; rw [hse0]; exact decide_eq_true (by omega))]) | (show nI 0 = nI (0 + (if _ then 1 else 0)); rw [if_neg (by show ¬ seaB (DDd (aP A) (aH A) id 0) b = true; rw [hse0, decide_eq_false (by omega)]; decide)]))
        · exact absurd h_4 (by omega)
      · exact absurd h_3 (by omega)
  · exact absurd h_1 (by omega)
theorem m_had (A : AS) (hA : okAS A) (v : Int32) (n : Int32) : MOK mX11_had mX12_had cd2 [.int v, .int n] A := by
  by_cases hg0 : ∃ b, b < aG A ∧ v = nI b
  · obtain ⟨b, hb, rfl⟩ := hg0
    by_cases hg1 : nI 1 ≤ n ∧ n ≤ nI 200
    · obtain ⟨k, hka, hk, rfl⟩ := (wi_iff (by decide) (by decide)).mp hg1
      exact ⟨.inl (nI (cN (fun d => seaB (DDd (aP A) (aH A) id d) b) k)), A, hA, fun j h => (by cases h), fun Γ g m l hC => k_had Γ g m l A hA hC b hb k hka hk, fun Γ g m l hSh hR => r_had Γ g m l A hA hSh hR b hb k hka hk⟩
    · exact ⟨.inr 1, rfA A 1, ok_rf hA, fun j h => by cases h; decide, fun Γ g m l hC => k_had_f1 Γ g m l A hA hC b hb n hg1, fun Γ g m l hSh hR => r_had_f1 Γ g m l A hA hSh hR b hb n hg1⟩
  · exact ⟨.inr 0, rfA A 0, ok_rf hA, fun j h => by cases h; decide, fun Γ g m l hC => k_had_f0 Γ g m l A hA hC v hg0 n, fun Γ g m l hSh hR => r_had_f0 Γ g m l A hA hSh hR v hg0 n⟩

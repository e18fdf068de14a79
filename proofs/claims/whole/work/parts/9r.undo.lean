/-! ===== undo ===== -/
def unA (A : AS) : AS := (stP (aP A) (aC A (aCn A - 1)), A.2.1, A.2.2.1, A.2.2.2.1, A.2.2.2.2.1, (aCn A - 1, aC A), A.2.2.2.2.2.2)
theorem ok_un {A : AS} (hA : okAS A) (hn : 0 < aCn A) : okAS (unA A) := by
  obtain ⟨h1, h2, h3, h4, h5, h6, h7, h8, h9, h10⟩ := hA
  refine ⟨okP_st h1 (h7 _ (by omega)), h2, h3, h4, h5, ?_, fun k hk => ?_, h8, h9, h10⟩
  · show aCn A - 1 ≤ 20; omega
  · have hk : k < aCn A - 1 := hk
    exact h7 k (by omega)
theorem sn_st (P : PD) (s : SNP) : snP (stP P s) = s := rfl
theorem CI_un {A : AS} {g : pGG} {m y x : pMI} {l : pML} {r im st : Nat} {qi : Nat → Nat} {si : Nat} (h : CIx A g m l r im st qi si) (hn : 0 < aCn A) (hy : ∀ i, i ≠ 3 → i ≠ 6 → i ≠ 81 → y i = m i) (hcl : clP y (stP (aP A) (aC A (aCn A - 1)))) (h812 : y 81 2 = nI (aCn A - 1)) (h813 : y 81 3 = m 81 3) (hx : FGD st si y x) : CI (unA A) g x l := by
  have hh := h
  obtain ⟨c1, c2, c3, c4, c5, c6, c7, c8, c9, c10, c11, c12, c13⟩ := hh
  have hs4 : st = 1 → 451 ≤ si := fun q => (c12.2.2.2.2.2.2.2.2 q).2.2.1
  have ne : ∀ i, i < 451 → (st = 1 → i ≠ si) := fun i hi q => by have := hs4 q; omega
  have e : ∀ i, i < 451 → i ≠ 0 → i ≠ 27 → x i = y i := fun i hi h1 h2 => hx.1 i h1 h2 (ne i hi)
  refine CI_new h c1 c12 rfl rfl rfl rfl (clP_row (fun i h1 h2 => e i (by omega) (by omega) (by omega)) hcl) (fun i h1 h2 h3 h4 h5 h6 h7 => (e i (by omega) h2 h5).trans (hy i h3 h4 h6)) ((hx.2.1 17 (by omega)).trans (by rw [hy 0 (by omega) (by omega) (by omega)])) ⟨hx.2.2.2.1, hx.2.2.2.2.1⟩ ?_ hx.2.2.1 ⟨?_, ?_⟩ ⟨?_, c6.2.1, fun k hk2 => ?_⟩ (fun z hz => GOK_st hz) hx.2.2.2.2.2
  · rw [hx.2.1 18 (by omega), hy 0 (by omega) (by omega) (by omega)]; exact c4
  · rw [e 81 (by omega) (by omega) (by omega)]; exact h812
  · refine chR_row ?_ ((e 82 (by omega) (by omega) (by omega)).trans (hy 82 (by omega) (by omega) (by omega)))
    obtain ⟨n, hnn⟩ : ∃ n, aCn A = n + 1 := ⟨aCn A - 1, by omega⟩
    have c52 := c5.2
    rw [hnn] at c52
    show chR m 82 (aG A) (aCn A - 1) (aC A) (aC A (aCn A - 1))
    rw [hnn]
    exact ch_pop c52
  · rw [e 81 (by omega) (by omega) (by omega), h813]; exact c6.1
  · have hk2 : k < aIn A := hk2
    have hq := c12.2.2.2.2.2.1 k (Nat.lt_of_lt_of_le hk2 c6.2.1)
    have hq3 := hq.2.2.1
    have hsi : ∀ i, qi k ≤ i → i < qi k + 3 → (st = 1 → i ≠ si) := fun i h1 h2 q => by
      have := (c12.2.2.2.2.2.2.2.2 q).2.2.2.2 k (Nat.lt_of_lt_of_le hk2 c6.2.1)
      omega
    have e2 : ∀ i, qi k ≤ i → i < qi k + 3 → x i = m i := fun i h1 h2 => (hx.1 i (by omega) (by omega) (hsi i h1 h2)).trans (hy i (by omega) (by omega) (by omega))
    exact imC_row (c6.2.2 k hk2) (e2 _ (by omega) (by omega)) (e2 _ (by omega) (by omega)) (e2 _ (by omega) (by omega))
set_option maxRecDepth 100000 in
set_option maxHeartbeats 4000000 in
theorem k_undo_n (Γ : pTG) (g : pGG) (mi : pMI) (ml : pML) (A : AS) (hA : okAS A) (hC : CI A g mi ml)  (h00 : aCn A = 0) : CT Γ 60 20 5000 mX11_undo [.ref 0] g mi ml (CQ A (.inl (-1)) mi ml) := by
  refine CT_of (by decide +kernel) (Nat.le_of_ble_eq_true rfl) ?_
  have hSh := CI_Sh hC
  have hcl := CI_cl hC
  have hP := hA.1
  have hG8 : aG A ≤ 8 := hP.2.1
  have hC8 : (aP A).1 ≤ 8 := hP.1
  refine X_aload_n dX11_undo_0 rfl ?_
  refine X_getr (a := 81) dX11_undo_1 fkX11_91 rfl (k_0 hSh) (r_0_12 hSh) ?_
  refine X_geti dX11_undo_4 fkX11_360 rfl (k_81 hSh) ?_
  rw [((CI_k hC).2.2.1.trans (by rw [h00]))]
  refine X_if_neN (a := 0) 12 dX11_undo_7 (by decide) (by omega) (fun h_1 => ?_) (fun h_1 => ?_)
  · exact absurd h_1 (by omega)
  · refine X_iconst (v := -1) dX11_undo_10 (by decide) ?_
    exact X_iret dX11_undo_11 rfl ⟨rfl, hC, frK_r, rfl⟩
set_option maxRecDepth 100000 in
set_option maxHeartbeats 4000000 in
theorem r_undo_n (Γ : pTG) (g : pGG) (mi : pMI) (ml : pML) (A : AS) (hA : okAS A) (hSh : Sh g) (hR : RI A mi)  (h00 : aCn A = 0) : CT Γ 60 0 0 mX12_undo [.ref 87] g mi ml (RQ A (.inl (-1)) cdN g mi ml) := by
  refine CT_of (by decide +kernel) (Nat.le_of_ble_eq_true rfl) ?_
  have hP := hA.1
  have hG8 : aG A ≤ 8 := hP.2.1
  have hC8 : (aP A).1 ≤ 8 := hP.1
  refine X_aload_n dX12_undo_0 rfl ?_
  refine X_iconst (v := nI 0) dX12_undo_1 (by decide) ?_
  refine X_puti dX12_undo_2 fkX12_158 rfl rfl (k_87 hSh) ?_
  refine X_aload_n dX12_undo_5 rfl ?_
  refine X_geti dX12_undo_6 fkX12_247 rfl (k_87 hSh) ?_
  rw [((up2_n (by omega)).trans (hR.2.2.2.2.2.1.1.trans (by rw [h00])))]
  refine X_if_neN (a := 0) 14 dX12_undo_9 (by decide) (by omega) (fun h_1 => ?_) (fun h_1 => ?_)
  · exact absurd h_1 (by omega)
  · refine X_iconst (v := -1) dX12_undo_12 (by decide) ?_
    exact X_iret dX12_undo_13 rfl ⟨rfl, rfl, RI_fr hA hR (frW_u frW_r (by unfold rsF rsR; omega)), (frM2_u frM2_r (by omega)), _, rfl, rfl, (show (up2 mi 87 0 (nI 0)) 87 0 = nI 0 by rw [up2_s])⟩
set_option maxRecDepth 100000 in
set_option maxHeartbeats 4000000 in
theorem k_undo_0 (Γ : pTG) (g : pGG) (mi : pMI) (ml : pML) (A : AS) (hA : okAS A) (hC : CI A g mi ml)  (h00 : 0 < aCn A) (hk : mi 82 ((aCn A - 1) * 3) = nI 0) (ha : mi 82 ((aCn A - 1) * 3 + 1) = nI (aC A (aCn A - 1)).1) (hb : mi 82 ((aCn A - 1) * 3 + 2) = nI (aC A (aCn A - 1)).2.1) (he1 : (snP (aP A)).2.2.1 = (aC A (aCn A - 1)).2.2.1) (he2 : ∀ c, c < aG A → (snP (aP A)).2.2.2 c = (aC A (aCn A - 1)).2.2.2 c) : CT Γ 60 20 5000 mX11_undo [.ref 0] g mi ml (CQ (unA A) (.inl (nI (aCn A - 1))) mi ml) := by
  refine CT_of (by decide +kernel) (Nat.le_of_ble_eq_true rfl) ?_
  have hSh := CI_Sh hC
  have hcl := CI_cl hC
  have hP := hA.1
  have hG8 : aG A ≤ 8 := hP.2.1
  have hC8 : (aP A).1 ≤ 8 := hP.1
  obtain ⟨r, im, st, qi, si, hx⟩ := CI_dyn hC
  have hc20 := hA.2.2.2.2.2.1
  refine X_aload_n dX11_undo_0 rfl ?_
  refine X_getr (a := 81) dX11_undo_1 fkX11_91 rfl (k_0 hSh) (r_0_12 hSh) ?_
  refine X_geti dX11_undo_4 fkX11_360 rfl (k_81 hSh) ?_
  rw [(CI_k hC).2.2.1]
  refine X_if_neN (a := aCn A) 12 dX11_undo_7 (by decide) (by omega) (fun h_1 => ?_) (fun h_1 => ?_)
  · refine X_aload_n dX11_undo_12 rfl ?_
    refine X_getr (a := 81) dX11_undo_13 fkX11_91 rfl (k_0 hSh) (r_0_12 hSh) ?_
    refine X_aload_n dX11_undo_16 rfl ?_
    refine X_getr (a := 3) dX11_undo_17 fkX11_25 rfl (k_0 hSh) (r_0_2 hSh) ?_
    refine X_callVV dX11_undo_20 mkX11_361 (k_81 hSh) (c_takeBack0 Γ g mi ml hSh (aCn A) (aC A (aCn A - 1)).1 (aC A (aCn A - 1)).2.1 (CI_k hC).2.2.1 h00 hA.2.2.2.2.2.1 hk ha hb) rfl rfl (by decide) (Nat.le_of_ble_eq_true rfl) ?_
    refine X_aload_n dX11_undo_23 rfl ?_
    refine X_callVrV dX11_undo_24 mkX11_141 (k_0 hSh) (c_forgetD Γ g (up2 (up2 (up2 mi 81 2 (nI (aCn A - 1))) 3 6 (nI (aC A (aCn A - 1)).1)) 3 7 (nI (aC A (aCn A - 1)).2.1)) ml hSh im st si qi hx.2.2.2.2.2.2.2.2.2.2.2.1) rfl rfl (by decide) (Nat.le_of_ble_eq_true rfl) (fun m2 l2 hm2 => ?_)
    obtain ⟨hF2, hl2⟩ := hm2
    rw [hl2]
    have hs4 : st = 1 → 451 ≤ si := fun q => (hx.2.2.2.2.2.2.2.2.2.2.2.1.2.2.2.2.2.2.2.2 q).2.2.1
    have h812 : (up2 (up2 (up2 mi 81 2 (nI (aCn A - 1))) 3 6 (nI (aC A (aCn A - 1)).1)) 3 7 (nI (aC A (aCn A - 1)).2.1)) 81 2 = nI (aCn A - 1) := by rw [up2_row (by omega), up2_row (by omega), up2_s]
    refine X_aload_n dX11_undo_27 rfl ?_
    refine X_getr (a := 81) dX11_undo_28 fkX11_91 rfl (k_0 hSh) (r_0_12 hSh) ?_
    refine X_geti dX11_undo_31 fkX11_360 rfl (k_81 hSh) ?_
    rw [((congrFun (hF2.1 81 (by omega) (by omega) (fun q => by have := hs4 q; omega)) 2).trans h812)]
    exact X_iret dX11_undo_34 rfl ⟨rfl, CI_un hx h00 (fun i h1 h2 h3 => by rw [up2_row h1, up2_row h1, up2_row h3]) ⟨(by rw [up2_n (by omega), up2_n (by omega), up2_row (by omega)]; exact hcl.1), (by rw [up2_n (by omega), up2_n (by omega), up2_row (by omega)]; exact hcl.2.1), ((up2_n (by omega)).trans up2_s), up2_s, (by rw [up2_n (by omega), up2_n (by omega), up2_row (by omega)]; exact (hcl.2.2.2.2.1.trans (congrArg nI he1))), fun c hc => ⟨by rw [up2_row (by omega), up2_row (by omega), up2_row (by omega)]; exact (hcl.2.2.2.2.2.1 c hc).1, by rw [up2_row (by omega), up2_row (by omega), up2_row (by omega)]; exact (hcl.2.2.2.2.2.1 c hc).2⟩, fun d hd => ⟨(by rw [up2_row (by omega), up2_row (by omega), up2_row (by omega)]; exact (hcl.2.2.2.2.2.2 d hd).1.trans (congrArg nI (he2 d hd))), by rw [up2_row (by omega), up2_row (by omega), up2_row (by omega)]; exact (hcl.2.2.2.2.2.2 d hd).2.1, by rw [up2_row (by omega), up2_row (by omega), up2_row (by omega)]; exact (hcl.2.2.2.2.2.2 d hd).2.2.1, by rw [up2_row (by omega), up2_row (by omega), up2_row (by omega)]; exact (hcl.2.2.2.2.2.2 d hd).2.2.2⟩⟩ h812 (by rw [up2_row (by omega), up2_row (by omega), up2_n (by omega)]) hF2, frK_t (fun i h1 h2 => by rw [up2_row (by omega), up2_row (by omega), up2_row (by omega)]) (FGD_K hF2 hs4), rfl⟩
  · exact absurd h_1 (by omega)
set_option maxRecDepth 100000 in
set_option maxHeartbeats 4000000 in
theorem k_undo_1 (Γ : pTG) (g : pGG) (mi : pMI) (ml : pML) (A : AS) (hA : okAS A) (hC : CI A g mi ml)  (h00 : 0 < aCn A) (hk : mi 82 ((aCn A - 1) * 3) = nI 1) (ha : mi 82 ((aCn A - 1) * 3 + 1) = nI (aC A (aCn A - 1)).2.2.1) (hb : mi 82 ((aCn A - 1) * 3 + 2) = nI 0) (he1 : (snP (aP A)).1 = (aC A (aCn A - 1)).1) (he2 : (snP (aP A)).2.1 = (aC A (aCn A - 1)).2.1) (he3 : ∀ c, c < aG A → (snP (aP A)).2.2.2 c = (aC A (aCn A - 1)).2.2.2 c) : CT Γ 60 20 5000 mX11_undo [.ref 0] g mi ml (CQ (unA A) (.inl (nI (aCn A - 1))) mi ml) := by
  refine CT_of (by decide +kernel) (Nat.le_of_ble_eq_true rfl) ?_
  have hSh := CI_Sh hC
  have hcl := CI_cl hC
  have hP := hA.1
  have hG8 : aG A ≤ 8 := hP.2.1
  have hC8 : (aP A).1 ≤ 8 := hP.1
  obtain ⟨r, im, st, qi, si, hx⟩ := CI_dyn hC
  have hc20 := hA.2.2.2.2.2.1
  refine X_aload_n dX11_undo_0 rfl ?_
  refine X_getr (a := 81) dX11_undo_1 fkX11_91 rfl (k_0 hSh) (r_0_12 hSh) ?_
  refine X_geti dX11_undo_4 fkX11_360 rfl (k_81 hSh) ?_
  rw [(CI_k hC).2.2.1]
  refine X_if_neN (a := aCn A) 12 dX11_undo_7 (by decide) (by omega) (fun h_1 => ?_) (fun h_1 => ?_)
  · refine X_aload_n dX11_undo_12 rfl ?_
    refine X_getr (a := 81) dX11_undo_13 fkX11_91 rfl (k_0 hSh) (r_0_12 hSh) ?_
    refine X_aload_n dX11_undo_16 rfl ?_
    refine X_getr (a := 3) dX11_undo_17 fkX11_25 rfl (k_0 hSh) (r_0_2 hSh) ?_
    refine X_callVV dX11_undo_20 mkX11_361 (k_81 hSh) (c_takeBack1 Γ g mi ml hSh (aCn A) (aC A (aCn A - 1)).2.2.1 0 (CI_k hC).2.2.1 h00 hA.2.2.2.2.2.1 hk ha hb) rfl rfl (by decide) (Nat.le_of_ble_eq_true rfl) ?_
    refine X_aload_n dX11_undo_23 rfl ?_
    refine X_callVrV dX11_undo_24 mkX11_141 (k_0 hSh) (c_forgetD Γ g (up2 (up2 mi 81 2 (nI (aCn A - 1))) 3 8 (nI (aC A (aCn A - 1)).2.2.1)) ml hSh im st si qi hx.2.2.2.2.2.2.2.2.2.2.2.1) rfl rfl (by decide) (Nat.le_of_ble_eq_true rfl) (fun m2 l2 hm2 => ?_)
    obtain ⟨hF2, hl2⟩ := hm2
    rw [hl2]
    have hs4 : st = 1 → 451 ≤ si := fun q => (hx.2.2.2.2.2.2.2.2.2.2.2.1.2.2.2.2.2.2.2.2 q).2.2.1
    have h812 : (up2 (up2 mi 81 2 (nI (aCn A - 1))) 3 8 (nI (aC A (aCn A - 1)).2.2.1)) 81 2 = nI (aCn A - 1) := by rw [up2_row (by omega), up2_s]
    refine X_aload_n dX11_undo_27 rfl ?_
    refine X_getr (a := 81) dX11_undo_28 fkX11_91 rfl (k_0 hSh) (r_0_12 hSh) ?_
    refine X_geti dX11_undo_31 fkX11_360 rfl (k_81 hSh) ?_
    rw [((congrFun (hF2.1 81 (by omega) (by omega) (fun q => by have := hs4 q; omega)) 2).trans h812)]
    exact X_iret dX11_undo_34 rfl ⟨rfl, CI_un hx h00 (fun i h1 h2 h3 => by rw [up2_row h1, up2_row h3]) ⟨(by rw [up2_n (by omega), up2_row (by omega)]; exact hcl.1), (by rw [up2_n (by omega), up2_row (by omega)]; exact hcl.2.1), (by rw [up2_n (by omega), up2_row (by omega)]; exact (hcl.2.2.1.trans (congrArg nI he1))), (by rw [up2_n (by omega), up2_row (by omega)]; exact (hcl.2.2.2.1.trans (congrArg nI he2))), up2_s, fun c hc => ⟨by rw [up2_row (by omega), up2_row (by omega)]; exact (hcl.2.2.2.2.2.1 c hc).1, by rw [up2_row (by omega), up2_row (by omega)]; exact (hcl.2.2.2.2.2.1 c hc).2⟩, fun d hd => ⟨(by rw [up2_row (by omega), up2_row (by omega)]; exact (hcl.2.2.2.2.2.2 d hd).1.trans (congrArg nI (he3 d hd))), by rw [up2_row (by omega), up2_row (by omega)]; exact (hcl.2.2.2.2.2.2 d hd).2.1, by rw [up2_row (by omega), up2_row (by omega)]; exact (hcl.2.2.2.2.2.2 d hd).2.2.1, by rw [up2_row (by omega), up2_row (by omega)]; exact (hcl.2.2.2.2.2.2 d hd).2.2.2⟩⟩ h812 (by rw [up2_row (by omega), up2_n (by omega)]) hF2, frK_t (fun i h1 h2 => by rw [up2_row (by omega), up2_row (by omega)]) (FGD_K hF2 hs4), rfl⟩
  · exact absurd h_1 (by omega)
set_option maxRecDepth 100000 in
set_option maxHeartbeats 4000000 in
theorem k_undo_2 (Γ : pTG) (g : pGG) (mi : pMI) (ml : pML) (A : AS) (hA : okAS A) (hC : CI A g mi ml)  (h00 : 0 < aCn A) (x9 : Nat) (hx9 : x9 < aG A) (hk : mi 82 ((aCn A - 1) * 3) = nI 2) (ha : mi 82 ((aCn A - 1) * 3 + 1) = nI x9) (hb : mi 82 ((aCn A - 1) * 3 + 2) = nI ((aC A (aCn A - 1)).2.2.2 x9)) (he1 : (snP (aP A)).1 = (aC A (aCn A - 1)).1) (he2 : (snP (aP A)).2.1 = (aC A (aCn A - 1)).2.1) (he3 : (snP (aP A)).2.2.1 = (aC A (aCn A - 1)).2.2.1) (he4 : ∀ c, c < aG A → c ≠ x9 → (snP (aP A)).2.2.2 c = (aC A (aCn A - 1)).2.2.2 c) : CT Γ 60 20 5000 mX11_undo [.ref 0] g mi ml (CQ (unA A) (.inl (nI (aCn A - 1))) mi ml) := by
  refine CT_of (by decide +kernel) (Nat.le_of_ble_eq_true rfl) ?_
  have hSh := CI_Sh hC
  have hcl := CI_cl hC
  have hP := hA.1
  have hG8 : aG A ≤ 8 := hP.2.1
  have hC8 : (aP A).1 ≤ 8 := hP.1
  obtain ⟨r, im, st, qi, si, hx⟩ := CI_dyn hC
  have hc20 := hA.2.2.2.2.2.1
  refine X_aload_n dX11_undo_0 rfl ?_
  refine X_getr (a := 81) dX11_undo_1 fkX11_91 rfl (k_0 hSh) (r_0_12 hSh) ?_
  refine X_geti dX11_undo_4 fkX11_360 rfl (k_81 hSh) ?_
  rw [(CI_k hC).2.2.1]
  refine X_if_neN (a := aCn A) 12 dX11_undo_7 (by decide) (by omega) (fun h_1 => ?_) (fun h_1 => ?_)
  · refine X_aload_n dX11_undo_12 rfl ?_
    refine X_getr (a := 81) dX11_undo_13 fkX11_91 rfl (k_0 hSh) (r_0_12 hSh) ?_
    refine X_aload_n dX11_undo_16 rfl ?_
    refine X_getr (a := 3) dX11_undo_17 fkX11_25 rfl (k_0 hSh) (r_0_2 hSh) ?_
    refine X_callVV dX11_undo_20 mkX11_361 (k_81 hSh) (c_takeBack2 Γ g mi ml hSh (aCn A) x9 ((aC A (aCn A - 1)).2.2.2 x9) (CI_k hC).2.2.1 h00 hA.2.2.2.2.2.1 hk ha hb (by omega)) rfl rfl (by decide) (Nat.le_of_ble_eq_true rfl) ?_
    refine X_aload_n dX11_undo_23 rfl ?_
    refine X_callVrV dX11_undo_24 mkX11_141 (k_0 hSh) (c_forgetD Γ g (up2 (up2 mi 81 2 (nI (aCn A - 1))) 6 x9 (nI ((aC A (aCn A - 1)).2.2.2 x9))) ml hSh im st si qi hx.2.2.2.2.2.2.2.2.2.2.2.1) rfl rfl (by decide) (Nat.le_of_ble_eq_true rfl) (fun m2 l2 hm2 => ?_)
    obtain ⟨hF2, hl2⟩ := hm2
    rw [hl2]
    have hs4 : st = 1 → 451 ≤ si := fun q => (hx.2.2.2.2.2.2.2.2.2.2.2.1.2.2.2.2.2.2.2.2 q).2.2.1
    have h812 : (up2 (up2 mi 81 2 (nI (aCn A - 1))) 6 x9 (nI ((aC A (aCn A - 1)).2.2.2 x9))) 81 2 = nI (aCn A - 1) := by rw [up2_row (by omega), up2_s]
    refine X_aload_n dX11_undo_27 rfl ?_
    refine X_getr (a := 81) dX11_undo_28 fkX11_91 rfl (k_0 hSh) (r_0_12 hSh) ?_
    refine X_geti dX11_undo_31 fkX11_360 rfl (k_81 hSh) ?_
    rw [((congrFun (hF2.1 81 (by omega) (by omega) (fun q => by have := hs4 q; omega)) 2).trans h812)]
    exact X_iret dX11_undo_34 rfl ⟨rfl, CI_un hx h00 (fun i h1 h2 h3 => by rw [up2_row h2, up2_row h3]) ⟨(by rw [up2_row (by omega), up2_row (by omega)]; exact hcl.1), (by rw [up2_row (by omega), up2_row (by omega)]; exact hcl.2.1), (by rw [up2_row (by omega), up2_row (by omega)]; exact (hcl.2.2.1.trans (congrArg nI he1))), (by rw [up2_row (by omega), up2_row (by omega)]; exact (hcl.2.2.2.1.trans (congrArg nI he2))), (by rw [up2_row (by omega), up2_row (by omega)]; exact (hcl.2.2.2.2.1.trans (congrArg nI he3))), fun c hc => ⟨by rw [up2_row (by omega), up2_row (by omega)]; exact (hcl.2.2.2.2.2.1 c hc).1, by rw [up2_row (by omega), up2_row (by omega)]; exact (hcl.2.2.2.2.2.1 c hc).2⟩, fun d hd => ⟨(show (up2 (up2 mi 81 2 (nI (aCn A - 1))) 6 x9 (nI ((aC A (aCn A - 1)).2.2.2 x9))) 6 d = nI ((aC A (aCn A - 1)).2.2.2 d) by by_cases q : d = x9; (rw [q, up2_s]); rw [up2_n q, up2_row (by omega)]; exact (hcl.2.2.2.2.2.2 d hd).1.trans (congrArg nI (he4 d hd q))), by rw [up2_row (by omega), up2_row (by omega)]; exact (hcl.2.2.2.2.2.2 d hd).2.1, by rw [up2_row (by omega), up2_row (by omega)]; exact (hcl.2.2.2.2.2.2 d hd).2.2.1, by rw [up2_row (by omega), up2_row (by omega)]; exact (hcl.2.2.2.2.2.2 d hd).2.2.2⟩⟩ h812 (by rw [up2_row (by omega), up2_n (by omega)]) hF2, frK_t (fun i h1 h2 => by rw [up2_row (by omega), up2_row (by omega)]) (FGD_K hF2 hs4), rfl⟩
  · exact absurd h_1 (by omega)
theorem k_undo (Γ : pTG) (g : pGG) (mi : pMI) (ml : pML) (A : AS) (hA : okAS A) (hC : CI A g mi ml) (h00 : 0 < aCn A) : CT Γ 60 20 5000 mX11_undo [.ref 0] g mi ml (CQ (unA A) (.inl (nI (aCn A - 1))) mi ml) := by
  obtain ⟨r, im, st, qi, si, hx⟩ := CI_dyn hC
  have h1 := hx.2.2.2.2.1.2 (aCn A - 1) (by omega)
  rw [if_pos (by omega)] at h1
  rcases h1 with ⟨a1, a2, a3, a4, a5⟩ | ⟨a1, a2, a3, a4, a5, a6⟩ | ⟨a1, x9, a2, a3, a4, a5, a6, a7, a8⟩
  · exact k_undo_0 Γ g mi ml A hA hC h00 a1 a2 a3 a4 a5
  · exact k_undo_1 Γ g mi ml A hA hC h00 a1 a2 a3 a4 a5 a6
  · exact k_undo_2 Γ g mi ml A hA hC h00 x9 a2 a1 a3 a4 a5 a6 a7 a8
theorem pb_91 {m : pMI} {t0 k j : Nat} (h1 : 2 ≤ j) (h2 : j < 5) (hk : 3 ≤ k) : pbF m t0 0 k 91 j = m t0 (j - 2) := by
  unfold pbF
  rw [if_pos ⟨rfl, h1, h2, by omega⟩, Nat.zero_add]
theorem pb_g {m : pMI} {t0 k b : Nat} (hb : b < 8) (hk : 11 ≤ k) : pbF m t0 0 k (121 + b) 0 = m t0 (3 + b) := by
  unfold pbF
  rw [if_neg (by omega), if_pos ⟨by omega, by omega, rfl, by omega⟩, Nat.zero_add, show 121 + b - 121 = b by omega]
theorem pb_o {m : pMI} {t0 k a j : Nat} (h1 : ¬ (a = 91 ∧ 2 ≤ j ∧ j < 5)) (h2 : ¬ (121 ≤ a ∧ a < 129 ∧ j = 0)) (h3 : a ≠ 87) (h4 : ¬ (169 ≤ a ∧ a < 189)) : pbF m t0 0 k a j = m a j := by
  unfold pbF
  rw [if_neg (by omega), if_neg (by omega), if_neg (by omega), if_neg (by omega), if_neg (by omega), if_neg (by omega)]
theorem pb_11 {m : pMI} {t0 a j : Nat} (h4 : 169 ≤ a ∧ a < 189) : pbF m t0 0 11 a j = m a j := by
  unfold pbF
  rw [if_neg (by omega), if_neg (by omega), if_neg (by omega), if_neg (by omega), if_neg (by omega), if_neg (by omega)]
theorem pb_7 {m : pMI} {t0 k j : Nat} (h : j ≠ 32) (h2 : j ≠ 29) (h3 : j ≠ 30) : pbF m t0 0 k 87 j = m 87 j := by
  unfold pbF
  rw [if_neg (by omega), if_neg (by omega), if_neg (by omega), if_neg (by omega), if_neg (by omega), if_neg (by omega)]
theorem pb_7b {m : pMI} {t0 j : Nat} (h : j ≠ 32) : pbF m t0 0 11 87 j = m 87 j := by
  unfold pbF
  rw [if_neg (by omega), if_neg (by omega), if_neg (by omega), if_neg (by omega), if_neg (by omega), if_neg (by omega)]
theorem pb_P {P : PD} {m : pMI} {t0 k : Nat} {s : SNP} (hP : okPD P) (h : rfP m P) (hs : rfSn m t0 0 P.2.1 s) (hk : 11 ≤ k) : rfP (pbF m t0 0 k) (stP P s) := by
  have h8 := hP.2.1
  have h9 := hP.1
  refine ⟨(pb_o (by omega) (by omega) (by omega) (by omega)).trans h.1, (pb_o (by omega) (by omega) (by omega) (by omega)).trans h.2.1, (pb_91 (by omega) (by omega) (by omega)).trans hs.1, (pb_91 (by omega) (by omega) (by omega)).trans hs.2.1, (pb_91 (by omega) (by omega) (by omega)).trans hs.2.2.1, fun c hc => ?_, fun d hd => ?_⟩
  · have hc : c < P.1 := hc
    exact ⟨(pb_o (by omega) (by omega) (by omega) (by omega)).trans (h.2.2.2.2.2.1 c hc).1, (pb_o (by omega) (by omega) (by omega) (by omega)).trans (h.2.2.2.2.2.1 c hc).2⟩
  · have hd : d < P.2.1 := hd
    refine ⟨(pb_g (by omega) hk).trans ?_, (pb_o (by omega) (by omega) (by omega) (by omega)).trans (h.2.2.2.2.2.2 d hd).2.1, (pb_o (by omega) (by omega) (by omega) (by omega)).trans (h.2.2.2.2.2.2 d hd).2.2.1, (pb_o (by omega) (by omega) (by omega) (by omega)).trans (h.2.2.2.2.2.2 d hd).2.2.2⟩
    have := hs.2.2.2 d hd
    rwa [show 0 + 3 + d = 3 + d by omega] at this
theorem rc_undo {A : AS} {m : pMI} (hA : okAS A) (hR : RI A m) (hn : 0 < aCn A) : RI (unA A) (pbF (up2 (up2 (up2 m 87 0 (nI 0)) 87 30 (nI (aCn A - 1))) 87 32 (nI 0)) (169 + (aCn A - 1)) 0 11) := by
  have hc := hA.2.2.2.2.2.1
  have hi := hA.2.2.2.2.2.2.2.1
  have hb := hA.2.2.2.1.1
  obtain ⟨r1, r2, r3, r4, r5, r6, r7, r8, r9, r10⟩ := hR
  have e0 : ∀ i, i ≠ 87 → up2 (up2 (up2 m 87 0 (nI 0)) 87 30 (nI (aCn A - 1))) 87 32 (nI 0) i = m i := fun i h => by rw [up2_row h, up2_row h, up2_row h]
  have e7 : ∀ j, j ≠ 0 → j ≠ 30 → j ≠ 32 → pbF (up2 (up2 (up2 m 87 0 (nI 0)) 87 30 (nI (aCn A - 1))) 87 32 (nI 0)) (169 + (aCn A - 1)) 0 11 87 j = m 87 j := fun j h1 h2 h3 => by rw [pb_7b h3, up2_n h3, up2_n h2, up2_n h1]
  have e : ∀ i, i ≠ 87 → i ≠ 91 → ¬ (121 ≤ i ∧ i < 129) → pbF (up2 (up2 (up2 m 87 0 (nI 0)) 87 30 (nI (aCn A - 1))) 87 32 (nI 0)) (169 + (aCn A - 1)) 0 11 i = m i := fun i h1 h2 h3 => by
    funext j
    by_cases q : 169 ≤ i ∧ i < 189
    · rw [pb_11 q, e0 i h1]
    · rw [pb_o (by omega) (by omega) h1 q, e0 i h1]
  refine ⟨pb_P hA.1 (rfP_w hA.1 r1 (fun i hi => e0 i (by omega))) (rfSn_row (r6.2 (aCn A - 1) (by omega)) (e0 _ (by omega))) (by omega), rfHb_w r2 (fun i hi => e i (by omega) (by omega) (by omega)), fun b hb => by rw [e 193 (by omega) (by omega) (by omega)]; exact r3 b hb, ⟨(e7 28 (by omega) (by omega) (by omega)).trans r4.1, fun k hk q hq => by have hk : k < aBn A := hk; rw [e (143 + k) (by omega) (by omega) (by omega)]; exact r4.2 k hk q hq⟩, (e7 29 (by omega) (by omega) (by omega)).trans r5, ⟨?_, fun k hk => rfSn_row (r6.2 k ?_) (e _ ?_ ?_ ?_)⟩, ⟨(e7 31 (by omega) (by omega) (by omega)).trans r7.1, fun k hk => rfIm_row (r7.2 k hk) (e _ (by omega) (by omega) (by omega))⟩, ⟨(e7 1 (by omega) (by omega) (by omega)).trans r8.1, fun k hk => by rw [e 88 (by omega) (by omega) (by omega)]; exact r8.2 k hk⟩, (e7 3 (by omega) (by omega) (by omega)).trans r9, fun j hj => by rw [e 89 (by omega) (by omega) (by omega)]; exact r10 j hj⟩
  · rw [pb_7b (by omega), up2_n (by omega), up2_s]; rfl
  · have hk : k < aCn A - 1 := hk
    omega
  · omega
  · omega
  · omega
set_option maxRecDepth 100000 in
set_option maxHeartbeats 4000000 in
theorem r_undo (Γ : pTG) (g : pGG) (mi : pMI) (ml : pML) (A : AS) (hA : okAS A) (hSh : Sh g) (hR : RI A mi)  (h00 : 0 < aCn A) : CT Γ 60 0 0 mX12_undo [.ref 87] g mi ml (RQ (unA A) (.inl (nI (aCn A - 1))) cdN g mi ml) := by
  refine CT_of (by decide +kernel) (Nat.le_of_ble_eq_true rfl) ?_
  have hP := hA.1
  have hG8 : aG A ≤ 8 := hP.2.1
  have hC8 : (aP A).1 ≤ 8 := hP.1
  have hc20 := hA.2.2.2.2.2.1
  refine X_aload_n dX12_undo_0 rfl ?_
  refine X_iconst (v := nI 0) dX12_undo_1 (by decide) ?_
  refine X_puti dX12_undo_2 fkX12_158 rfl rfl (k_87 hSh) ?_
  refine X_aload_n dX12_undo_5 rfl ?_
  refine X_geti dX12_undo_6 fkX12_247 rfl (k_87 hSh) ?_
  rw [((up2_n (by omega)).trans hR.2.2.2.2.2.1.1)]
  refine X_if_neN (a := aCn A) 14 dX12_undo_9 (by decide) (by omega) (fun h_1 => ?_) (fun h_1 => ?_)
  · refine X_aload_n dX12_undo_14 rfl ?_
    refine X_dup dX12_undo_15 rfl ?_
    refine X_geti dX12_undo_16 fkX12_247 rfl (k_87 hSh) ?_
    rw [((up2_n (by omega)).trans hR.2.2.2.2.2.1.1)]
    refine X_iconst (v := nI 1) dX12_undo_19 (by decide) ?_
    refine X_isub dX12_undo_20 ?_
    refine X_topi (pk_sub (a := aCn A) (b := 1) (by omega)) ?_
    refine X_puti dX12_undo_21 fkX12_247 rfl rfl (k_87 hSh) ?_
    refine X_aload_n dX12_undo_24 rfl ?_
    refine X_iconst (v := nI 0) dX12_undo_25 (by decide) ?_
    refine X_puti dX12_undo_26 fkX12_400 rfl rfl (k_87 hSh) ?_
    refine X_aload_n dX12_undo_29 rfl ?_
    refine X_aload_n dX12_undo_30 rfl ?_
    refine X_getr (a := 168) dX12_undo_31 fkX12_61 rfl (k_87 hSh) (r_87_24 hSh) ?_
    refine X_aload_n dX12_undo_34 rfl ?_
    refine X_geti dX12_undo_35 fkX12_247 rfl (k_87 hSh) ?_
    refine X_topi (show (up2 (up2 (up2 mi 87 0 (nI 0)) 87 30 (nI ((aCn A) - 1))) 87 32 (nI 0)) 87 30 = nI ((aCn A) - 1) by rw [up2_n (by omega), up2_s]) ?_
    refine X_aaldr (b := 169 + ((aCn A) - 1)) ((aCn A) - 1) dX12_undo_38 (k_168 hSh) rfl (by omega) (o_168 hSh ((aCn A) - 1) (by omega)) ?_
    refine X_iconst (v := nI 1) dX12_undo_39 (by decide) ?_
    refine X_callVV dX12_undo_40 mkX12_407 (k_87 hSh) (c_putsChanged1 Γ g (up2 (up2 (up2 mi 87 0 (nI 0)) 87 30 (nI (aCn A - 1))) 87 32 (nI 0)) ml hSh (169 + (aCn A - 1)) 11 0 (kr_168 hSh (aCn A - 1) (by omega)) (by omega) up2_s (by omega) (by omega)) rfl rfl (by decide) (Nat.le_of_ble_eq_true rfl) ?_
    refine X_aload_n dX12_undo_43 rfl ?_
    refine X_geti dX12_undo_44 fkX12_247 rfl (k_87 hSh) ?_
    rw [((pb_7b (by omega)).trans ((up2_n (by omega)).trans up2_s))]
    exact X_iret dX12_undo_47 rfl ⟨rfl, rfl, rc_undo hA hR h00, fun i hi => by funext j; rw [pb_o (by omega) (by omega) (by omega) (by omega), up2_row (by omega), up2_row (by omega), up2_row (by omega)], _, rfl, rfl, by rw [pb_7b (by omega), up2_n (by omega), up2_n (by omega), up2_s]⟩
  · exact absurd h_1 (by omega)
theorem m_undo (A : AS) (hA : okAS A) : MOK mX11_undo mX12_undo cdN [] A := by
  by_cases h00 : aCn A = 0
  · exact ⟨.inl (-1), A, hA, fun j h => (by cases h), fun Γ g m l hC => k_undo_n Γ g m l A hA hC h00, fun Γ g m l hSh hR => r_undo_n Γ g m l A hA hSh hR h00⟩
  · exact ⟨.inl (nI (aCn A - 1)), unA A, ok_un hA (by omega), fun j h => (by cases h), fun Γ g m l hC => k_undo Γ g m l A hA hC (by omega), fun Γ g m l hSh hR => r_undo Γ g m l A hA hSh hR (by omega)⟩

/-! ===== days looked at ===== -/
def CIr (A : AS) (g : pGG) (m : pMI) (l : pML) (r : Nat) : Prop := ∃ im st qi si, CIx A g m l r im st qi si
theorem CIr_CI {A : AS} {g : pGG} {m : pMI} {l : pML} {r : Nat} (h : CIr A g m l r) : CI A g m l := ⟨r, h⟩
theorem CI_r {A : AS} {g : pGG} {m : pMI} {l : pML} (h : CI A g m l) : ∃ r, CIr A g m l r := h
theorem CIr_D {A : AS} {g : pGG} {m : pMI} {l : pML} {r : Nat} (h : CIr A g m l r) : DOK (aP A) (aH A) id (aK A) 27 r m l := by obtain ⟨_, _, _, _, _, h, _⟩ := h; exact h
theorem CI_st {A : AS} {g : pGG} {m : pMI} {l : pML} (h : CI A g m l) : m 57 10 = nI 1 ∧ (∀ i, i < 8 → m 63 i = nI i) ∧ m 67 10 = nI 0 ∧ (∀ b, b < 8 → m 43 b = nI b) ∧ m 47 10 = nI 0 ∧ (∀ i, i < 8 → m 53 i = nI i) := by obtain ⟨_, _, _, _, _, _, _, _, _, _, _, _, _, _, h, _⟩ := h; exact h
theorem CIr_fr {A : AS} {g : pGG} {m x : pMI} {l l' : pML} {r : Nat} (h : CIr A g m l r) (hx : frS m x) (hl : l' 30 = l 30) : CIr A g x l' r := by
  obtain ⟨im, st, qi, si, c1, c2, c3, c4, c5, c6, c7, c8, c9, c10, c11, c12, c13⟩ := h
  obtain ⟨f1, f2, f3, f4, f5⟩ := hx
  have e : ∀ i, (i < 87 ∨ 451 ≤ i) → ¬ scR i → i ≠ 17 → i ≠ 2 → i ≠ 47 → i ≠ 67 → x i = m i := f1
  have e0 : ∀ i, i = 0 ∨ i = 1 ∨ (3 ≤ i ∧ i ≤ 9) ∨ i = 18 ∨ i = 19 ∨ i = 24 ∨ i = 25 ∨ i = 27 ∨ i = 28 ∨ (30 ≤ i ∧ i ≤ 41) ∨ i = 43 ∨ i = 53 ∨ (57 ≤ i ∧ i ≤ 66) ∨ i = 77 ∨ i = 78 ∨ (80 ≤ i ∧ i ≤ 83) ∨ i = 86 ∨ 451 ≤ i → x i = m i := fun i hi => e i (by omega) (by unfold scR; omega) (by omega) (by omega) (by omega) (by omega)
  refine ⟨im, st, qi, si, c1, DOK_row c2 (fun i hi => e0 i (by omega)) (f2 5 (by omega)) hl, ?_, ?_, ?_, ?_, ?_, ?_, ?_, ?_, ?_, c12, ?_⟩
  · rw [e0 24 (by omega), e0 25 (by omega)]; exact c3
  · rw [e0 0 (by omega)]; exact c4
  · rw [e0 81 (by omega)]; exact ⟨c5.1, chR_row c5.2 (e0 82 (by omega))⟩
  · rw [e0 81 (by omega)]
    refine ⟨c6.1, c6.2.1, fun k hk => ?_⟩
    have := (c12.2.2.2.2.2.1 k (Nat.lt_of_lt_of_le hk c6.2.1)).2.2.1
    exact imC_row (c6.2.2 k hk) (e0 _ (by omega)) (e0 _ (by omega)) (e0 _ (by omega))
  · rw [e0 0 (by omega), e0 1 (by omega)]; exact c7
  · rw [f3, e0 86 (by omega)]; exact c8
  · rw [e0 0 (by omega)]
    rcases c9 with q | ⟨q1, q2⟩
    · exact Or.inl q
    · exact Or.inr ⟨q1, cdy_row (e0 58 (by omega)) (e0 59 (by omega)) (by rw [e0 57 (by omega)]) (e0 65 (by omega)) (e0 66 (by omega)) q2⟩
  · rw [e0 57 (by omega), e0 63 (by omega), f5, e0 43 (by omega), f4, e0 53 (by omega)]; exact c10
  · rw [e0 77 (by omega)]
    rcases c11 with q | ⟨q1, q2⟩
    · exact Or.inl q
    · exact Or.inr ⟨q1, GOK_row q2 (by rw [e0 77 (by omega)]) (e0 78 (by omega)) (e0 80 (by omega))⟩
  · intro hst
    have := (c12.2.2.2.2.2.2.2.2 hst).2.2.1
    rw [e0 si (by omega)]
    exact c13 hst
theorem CIr_X {A : AS} {g : pGG} {m x : pMI} {l l' : pML} {r r' : Nat} (h : CIr A g m l r) (hD : DOK (aP A) (aH A) id (aK A) 27 r' x l') (hx : frX 27 m x) : CIr A g x l' r' := by
  obtain ⟨im, st, qi, si, c1, c2, c3, c4, c5, c6, c7, c8, c9, c10, c11, c12, c13⟩ := h
  have e : ∀ i, i ≠ 17 → i ≠ 20 → i ≠ 21 → i ≠ 27 → i ≠ 29 → i ≠ 31 → (i < 32 ∨ 41 < i) → x i = m i := hx.1
  have e0 : ∀ i, i ≤ 16 ∨ i = 24 ∨ i = 25 ∨ 42 ≤ i → x i = m i := fun i hi => e i (by omega) (by omega) (by omega) (by omega) (by omega) (by omega) (by omega)
  refine ⟨im, st, qi, si, c1, hD, ?_, ?_, ?_, ?_, ?_, ?_, ?_, ?_, ?_, c12, ?_⟩
  · rw [e0 24 (by omega), e0 25 (by omega)]; exact c3
  · rw [e0 0 (by omega)]; exact c4
  · rw [e0 81 (by omega)]; exact ⟨c5.1, chR_row c5.2 (e0 82 (by omega))⟩
  · rw [e0 81 (by omega)]
    refine ⟨c6.1, c6.2.1, fun k hk => ?_⟩
    have := (c12.2.2.2.2.2.1 k (Nat.lt_of_lt_of_le hk c6.2.1)).2.2.1
    exact imC_row (c6.2.2 k hk) (e0 _ (by omega)) (e0 _ (by omega)) (e0 _ (by omega))
  · rw [e0 0 (by omega), e0 1 (by omega)]; exact c7
  · rw [e0 2 (by omega), e0 86 (by omega)]; exact c8
  · rw [e0 0 (by omega)]
    rcases c9 with q | ⟨q1, q2⟩
    · exact Or.inl q
    · exact Or.inr ⟨q1, cdy_row (e0 58 (by omega)) (e0 59 (by omega)) (by rw [e0 57 (by omega)]) (e0 65 (by omega)) (e0 66 (by omega)) q2⟩
  · rw [e0 57 (by omega), e0 63 (by omega), e0 67 (by omega), e0 43 (by omega), e0 47 (by omega), e0 53 (by omega)]; exact c10
  · rw [e0 77 (by omega)]
    rcases c11 with q | ⟨q1, q2⟩
    · exact Or.inl q
    · exact Or.inr ⟨q1, GOK_row q2 (by rw [e0 77 (by omega)]) (e0 78 (by omega)) (e0 80 (by omega))⟩
  · intro hst
    have := (c12.2.2.2.2.2.2.2.2 hst).2.2.1
    rw [e0 si (by omega)]
    exact c13 hst
theorem frX_K {m x : pMI} (h : frX 27 m x) : frK m x := fun i h1 h2 => h.1 i (by omega) (by omega) (by omega) (by omega) (by omega) (by omega) (by omega)
theorem c_reachK (Γ : pTG) (g : pGG) (mi : pMI) (ml : pML) (A : AS) (hA : okAS A) (hC : CI A g mi ml) (d : Nat) (hd : d < 200) : rV Γ 6 mX3_reach [.ref 27, .int (nI d)] g mi ml (fun m l => (∃ r, d < r ∧ CIr A g m l r) ∧ frK mi m ∧ l 450 = ml 450) := by
  obtain ⟨r, hr⟩ := CI_r hC
  have hD := CIr_D hr
  have hSh := CI_Sh hC
  have h8 := hD.2.2.2.2.2.2.2.1
  refine rV_w (rV_c (c_reach27 Γ g mi ml hSh (shC_32 hSh) (aP A) hA.1 (aH A) hA.2.1 id (aK A) hA.2.2.1 r d (max r (min (d + 1) 200)) (by omega) rfl hD)) (fun m l hm => ?_)
  obtain ⟨rfl, rfl⟩ := hm
  obtain ⟨i1, i2, i3⟩ := reach_r Γ g hSh (shC_32 hSh) (k_29 hSh) hA.1 hA.2.1 hA.2.2.1 (Or.inl rfl) hD (max r (min (d + 1) 200) - r) (by omega)
  exact ⟨⟨_, by omega, CIr_X hr i1 i2⟩, frX_K i2, by rw [i3 450 (by omega)]⟩
theorem c_tellK (Γ : pTG) (g : pGG) (mi : pMI) (ml : pML) (A : AS) (hA : okAS A) (r : Nat) (hC : CIr A g mi ml r) (d : Nat) (hd : d < r) : rV Γ 2 mX3_tell [.ref 27, .int (nI d), .ref 84] g mi ml (fun m l => CIr A g m l r ∧ (∀ b, b < aG A → m 84 b = nI (mrn (aP A) (aH A) d b)) ∧ (∀ i, i ≠ 84 → m i = mi i) ∧ l = ml) := by
  have hSh := CI_Sh (CIr_CI hC)
  have hD := CIr_D hC
  have h8 := hD.2.2.2.2.2.2.2.1
  refine rV_w (rV_c (c_tell27 Γ g mi ml hSh (aG A) (CI_cl (CIr_CI hC)).2.1 hA.1.2.1 d 84 (by omega) (k_84 hSh) (by omega))) (fun m l hm => ?_)
  obtain ⟨rfl, rfl⟩ := hm
  have e : ∀ i, i ≠ 84 → fillR mi 84 (aG A) (fun b => hfL (l 30 d) b) i = mi i := fun i hi => by funext j; exact fill_row hi
  refine ⟨CIr_fr hC ⟨fun i h1 h2 h3 h4 h5 h6 => e i (by rintro rfl; exact h2 (by unfold scR; omega)), fun j hj => by rw [e 17 (by omega)], by rw [e 2 (by omega)], by rw [e 47 (by omega)], by rw [e 67 (by omega)]⟩ rfl, fun b hb => ?_, e, rfl⟩
  rw [fill_at hb]
  have hpk := (hD.2.2.2.2.2.2.2.2.1 d hd).1
  have hpk : l 30 d = pkL (sqd (aP A) (aH A) id d) (aG A) := hpk
  rw [hpk]
  exact hf_pk hA.1.2.1 hb (fun b _ => sqd_lt hA.1 d b)
theorem c_runK (Γ : pTG) (g : pGG) (mi : pMI) (ml : pML) (hSh : Sh g) (t : Nat) (ht : t = 57 ∨ t = 67) (P : PD) (hP : okPD P) (hc : clP mi P) (un : Nat) (cm rk ord : Nat → Nat) (hO : okO2 P.2.1 rk ord) (hcm : ∀ b, b < P.2.1 → mi 84 b = nI (cm b) ∧ cm b < 24) (hpa : mi t 10 = bI (decide (t = 57))) (hod : ∀ i, i < P.2.1 → mi (t + 6) i = nI (ord i)) (hu : 1 ≤ un ∧ un < 24) : rV Γ 5 mX2_run [.ref t, .ref 84, .int (nI un)] g mi ml (fun m l => CDY m t P cm (DY P cm rk ord un) ∧ frT t mi m ∧ l = ml) := by
  have hC : ShC g t := hSh.C (by unfold isC; omega)
  obtain ⟨h1, h2, h3⟩ := c_runP Γ g mi ml hSh t hC (by omega) P hP hc 84 (if t = 57 then 192 else 0) (if t = 57 then 24 else 0) un cm rk ord hO rfl (k_84 hSh) (by omega) hcm hpa hod hu
  exact rV_w (rV_c h1) (fun m l hm => by obtain ⟨rfl, rfl⟩ := hm; exact ⟨cdy_of h2, frT_of h3, rfl⟩)
theorem frT_S {m x : pMI} (h : frT 67 m x) : frS m x := ⟨fun i h1 h2 h3 h4 h5 h6 => h.1 i (by by_cases q : i = 73; exact Or.inr (Or.inr q); unfold scR at h2; omega), fun j hj => by rw [h.1 17 (by omega)], by rw [h.1 2 (by omega)], by rw [h.1 47 (by omega)], h.2 10 (by omega)⟩
theorem frT_K {t : Nat} {m x : pMI} (ht : t = 57 ∨ t = 67) (h : frT t m x) : frK m x := fun i h1 h2 => h.1 i (by omega)
def LK (A : AS) (g : pGG) (m : pMI) (l : pML) : Prop := CI A g m l ∧ CDY m 57 (aP A) (mrn (aP A) (aH A) (aD A)) (DYd A)
theorem look_1 {A : AS} {g : pGG} {m : pMI} {l : pML} (h : CI A g m l) (hl : ¬ m 0 19 = 0) : LK A g m l := by
  refine ⟨h, ?_⟩
  obtain ⟨_, _, _, _, _, _, _, _, _, _, _, _, _, c9, _⟩ := h
  rcases c9 with q | ⟨_, q⟩
  · exact absurd q hl
  · exact q
theorem look_0 {A : AS} {g : pGG} {m x : pMI} {l : pML} {r : Nat} (h : CIr A g m l r) (hc : CDY x 57 (aP A) (mrn (aP A) (aH A) (aD A)) (DYd A)) (hx : frT 57 m x) : LK A g (up2 x 0 19 (nI 1)) l := by
  have hc' : CDY (up2 x 0 19 (nI 1)) 57 (aP A) (mrn (aP A) (aH A) (aD A)) (DYd A) := cdy_row (up2_row (by omega)) (up2_row (by omega)) (by rw [up2_row (by omega)]) (up2_row (by omega)) (up2_row (by omega)) hc
  refine ⟨?_, hc'⟩
  obtain ⟨im, st, qi, si, c1, c2, c3, c4, c5, c6, c7, c8, c9, c10, c11, c12, c13⟩ := h
  have e : ∀ i, i ≠ 0 → (i < 57 ∨ 66 < i ∨ i = 63) → up2 x 0 19 (nI 1) i = m i := fun i h0 h1 => by rw [up2_row h0]; exact hx.1 i (by omega)
  have z : ∀ j, j ≠ 19 → up2 x 0 19 (nI 1) 0 j = m 0 j := fun j hj => by rw [up2_n hj, hx.1 0 (by omega)]
  refine ⟨r, im, st, qi, si, c1, DOK_row c2 (fun i hi => e i (by omega) (by omega)) (by rw [e 17 (by omega) (by omega)]) rfl, ?_, ?_, ?_, ?_, ?_, ?_, Or.inr ⟨up2_s, hc'⟩, ?_, ?_, c12, ?_⟩
  · rw [e 24 (by omega) (by omega), e 25 (by omega) (by omega)]; exact c3
  · rw [z 18 (by omega)]; exact c4
  · rw [e 81 (by omega) (by omega)]; exact ⟨c5.1, chR_row c5.2 (e 82 (by omega) (by omega))⟩
  · rw [e 81 (by omega) (by omega)]
    refine ⟨c6.1, c6.2.1, fun k hk => ?_⟩
    have := (c12.2.2.2.2.2.1 k (Nat.lt_of_lt_of_le hk c6.2.1)).2.2.1
    exact imC_row (c6.2.2 k hk) (e _ (by omega) (by omega)) (e _ (by omega) (by omega)) (e _ (by omega) (by omega))
  · rw [z 17 (by omega), e 1 (by omega) (by omega)]; exact c7
  · rw [e 2 (by omega) (by omega), e 86 (by omega) (by omega)]; exact c8
  · rw [show up2 x 0 19 (nI 1) 57 10 = m 57 10 by rw [up2_row (by omega)]; exact hx.2 10 (by omega), e 63 (by omega) (by omega), e 67 (by omega) (by omega), e 43 (by omega) (by omega), e 47 (by omega) (by omega), e 53 (by omega) (by omega)]; exact c10
  · rw [e 77 (by omega) (by omega)]
    rcases c11 with q | ⟨q1, q2⟩
    · exact Or.inl q
    · exact Or.inr ⟨q1, GOK_row q2 (by rw [e 77 (by omega) (by omega)]) (e 78 (by omega) (by omega)) (e 80 (by omega) (by omega))⟩
  · intro hst
    have := (c12.2.2.2.2.2.2.2.2 hst).2.2.1
    rw [e si (by omega) (by omega)]
    exact c13 hst
set_option maxRecDepth 100000 in
set_option maxHeartbeats 4000000 in
theorem c_look (Γ : pTG) (g : pGG) (mi : pMI) (ml : pML) (A : AS) (hA : okAS A) (hC : CI A g mi ml) : rV Γ 8 mX11_look [.ref 0] g mi ml (fun m l => LK A g m l ∧ frK mi m ∧ l 450 = ml 450) := by
  refine rV_of (by decide +kernel) (Nat.le_of_ble_eq_true rfl) ?_
  have hSh := CI_Sh hC
  have hd2 := hA.2.2.2.2.1
  refine X_aload_n dX11_look_0 rfl ?_
  refine X_geti dX11_look_1 fkX11_211 rfl (k_0 hSh) ?_
  refine X_if_ne 56 dX11_look_4 (by decide) (fun h_1 => ?_) (fun h_1 => ?_)
  · exact X_vret dX11_look_56 rfl ⟨rfl, rfl, look_1 hC (by assumption), frK_r, rfl⟩
  · refine X_aload_n dX11_look_7 rfl ?_
    refine X_getr (a := 27) dX11_look_8 fkX11_60 rfl (k_0 hSh) (r_0_7 hSh) ?_
    refine X_aload_n dX11_look_11 rfl ?_
    refine X_geti dX11_look_12 fkX11_138 rfl (k_0 hSh) ?_
    rw [(CI_k hC).2.1]
    refine X_callVrV dX11_look_15 mkX11_262 (k_27 hSh) (c_reachK Γ g mi ml A hA hC (aD A) hd2) rfl rfl (by decide) (Nat.le_of_ble_eq_true rfl) (fun m1 l1 hm1 => ?_)
    obtain ⟨⟨r, hrd, hr⟩, hk1, hl1⟩ := hm1
    have hC1 := CIr_CI hr
    refine X_aload_n dX11_look_18 rfl ?_
    refine X_getr (a := 27) dX11_look_19 fkX11_60 rfl (k_0 hSh) (r_0_7 hSh) ?_
    refine X_aload_n dX11_look_22 rfl ?_
    refine X_geti dX11_look_23 fkX11_138 rfl (k_0 hSh) ?_
    rw [(CI_k hC1).2.1]
    refine X_aload_n dX11_look_26 rfl ?_
    refine X_getr (a := 84) dX11_look_27 fkX11_95 rfl (k_0 hSh) (r_0_13 hSh) ?_
    refine X_callVrV dX11_look_30 mkX11_322 (k_27 hSh) (c_tellK Γ g m1 l1 A hA r hr (aD A) hrd) rfl rfl (by decide) (Nat.le_of_ble_eq_true rfl) (fun m2 l2 hm2 => ?_)
    obtain ⟨hr2, hmo, hk2, hl2⟩ := hm2
    rw [hl2] at hr2 ⊢
    have hC2 := CIr_CI hr2
    refine X_aload_n dX11_look_33 rfl ?_
    refine X_getr (a := 57) dX11_look_34 fkX11_72 rfl (k_0 hSh) (r_0_9 hSh) ?_
    refine X_aload_n dX11_look_37 rfl ?_
    refine X_getr (a := 84) dX11_look_38 fkX11_95 rfl (k_0 hSh) (r_0_13 hSh) ?_
    refine X_aload_n dX11_look_41 rfl ?_
    refine X_getr (a := 3) dX11_look_42 fkX11_25 rfl (k_0 hSh) (r_0_2 hSh) ?_
    refine X_geti dX11_look_45 fkX11_178 rfl (k_3 hSh) ?_
    rw [(CI_cl hC2).2.2.2.1]
    refine X_callVrV dX11_look_48 mkX11_303 (k_57 hSh) (c_runK Γ g m2 l1 hSh 57 (Or.inl rfl) (aP A) hA.1 (CI_cl hC2) (aP A).2.2.2.1 (mrn (aP A) (aH A) (aD A)) id id (okO_id hA.1.2.1) (fun b hb => ⟨hmo b hb, sqd_lt hA.1 _ _⟩) ((CI_st hC2).1.trans rfl) (fun i hi => (CI_st hC2).2.1 i (by have h8 : aG A ≤ 8 := hA.1.2.1; have hi : i < aG A := hi; omega)) ⟨hA.1.2.2.2.1, hA.1.2.2.2.2.1⟩) rfl rfl (by decide) (Nat.le_of_ble_eq_true rfl) (fun m3 l3 hm3 => ?_)
    obtain ⟨hcd, hfT, hl3⟩ := hm3
    rw [hl3]
    refine X_aload_n dX11_look_51 rfl ?_
    refine X_iconst (v := nI 1) dX11_look_52 (by decide) ?_
    refine X_putz dX11_look_53 fkX11_211 rfl (by first | exact Or.inl rfl | exact Or.inr rfl | assumption) rfl (k_0 hSh) ?_
    exact X_vret dX11_look_56 rfl ⟨rfl, rfl, look_0 hr2 hcd hfT, frK_u (frK_t hk1 (frK_t (fun i h1 h2 => hk2 i (by omega)) (frT_K (Or.inl rfl) hfT))) (by omega), hl1⟩
theorem rfP_0 {A : AS} {m x : pMI} (hA : okAS A) (h : RI A m) (hx : frW m x) : rfP x (aP A) ∧ rfHb x (aH A) ∧ x 87 29 = nI (aD A) := by
  have := RI_fr hA h hx
  exact ⟨this.1, this.2.1, this.2.2.2.2.1⟩
theorem r_dayK (Γ : pTG) (g : pGG) (mi : pMI) (ml : pML) (A : AS) (hA : okAS A) (hSh : Sh g) (m0 : pMI) (hR : RI A m0) (hW : frW m0 mi) : rV Γ 7 mX12_dayNow [.ref 87] g mi ml (fun m l => RDY m (aP A) (mrn (aP A) (aH A) (aD A)) (DYd A) ∧ frW m0 m ∧ frM2 mi m ∧ m 87 0 = mi 87 0 ∧ rS m (aP A) (aH A) id id (aP A).2.2.2.1 ∧ l = ml) := by
  obtain ⟨a1, a2, a3⟩ := rfP_0 hA hR hW
  refine rV_w (rV_c (c_dayNow Γ g mi ml hSh (aP A) hA.1 (aH A) hA.2.1 a1 a2 (aD A) hA.2.2.2.2.1 a3)) (fun m l hm => ?_)
  obtain ⟨rfl, rfl⟩ := hm
  obtain ⟨b1, b2, b3, b4⟩ := dn_r Γ g mi l hSh (aP A) hA.1 (aH A) hA.2.1 a1 a2 (aD A)
  refine ⟨b1, frW_t hW ⟨fun i h1 h2 h3 => b2 i ?_ ?_ ?_ ?_ ?_ ?_ (by omega) ?_, fun j hj => b3 j (by rintro rfl; exact hj (by unfold rsF; omega))⟩, fun i hi => b2 i (by omega) (by omega) (by omega) (by omega) (by omega) (by omega) (by omega) (by omega), b3 0 (by omega), b4, rfl⟩
  all_goals (unfold rsR at h3; omega)

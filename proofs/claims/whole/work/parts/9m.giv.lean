/-! ===== given, gets, waste, more, want, just ===== -/
theorem CI_G {A : AS} {g : pGG} {m x : pMI} {l : pML} (h : CI A g m l) (hx : frG m x) (hg : x 77 4 = nI 1) (hk : GOK (aP A) x) : CI A g x l := by
  obtain ⟨r, im, st, qi, si, c1, c2, c3, c4, c5, c6, c7, c8, c9, c10, c11, c12, c13⟩ := h
  have e : ∀ i, i < 77 ∨ 80 < i → x i = m i := fun i hi => hx.1 i (by omega) (by omega) (by omega) (by omega)
  refine ⟨r, im, st, qi, si, c1, DOK_row c2 (fun i hi => e i (by omega)) (by rw [e 17 (by omega)]) rfl, ?_, ?_, ?_, ?_, ?_, ?_, ?_, ?_, Or.inr ⟨hg, hk⟩, c12, ?_⟩
  · rw [e 24 (by omega), e 25 (by omega)]; exact c3
  · rw [e 0 (by omega)]; exact c4
  · rw [e 81 (by omega)]; exact ⟨c5.1, chR_row c5.2 (e 82 (by omega))⟩
  · rw [e 81 (by omega)]
    refine ⟨c6.1, c6.2.1, fun k hk => ?_⟩
    have := (c12.2.2.2.2.2.1 k (Nat.lt_of_lt_of_le hk c6.2.1)).2.2.1
    exact imC_row (c6.2.2 k hk) (e _ (by omega)) (e _ (by omega)) (e _ (by omega))
  · rw [e 0 (by omega), e 1 (by omega)]; exact c7
  · rw [e 2 (by omega), e 86 (by omega)]; exact c8
  · rw [e 0 (by omega)]
    rcases c9 with q | ⟨q1, q2⟩
    · exact Or.inl q
    · exact Or.inr ⟨q1, cdy_row (e 58 (by omega)) (e 59 (by omega)) (by rw [e 57 (by omega)]) (e 65 (by omega)) (e 66 (by omega)) q2⟩
  · rw [e 57 (by omega), e 63 (by omega), e 67 (by omega), e 43 (by omega), e 47 (by omega), e 53 (by omega)]; exact c10
  · intro hst
    have := (c12.2.2.2.2.2.2.2.2 hst).2.2.1
    rw [e si (by omega)]
    exact c13 hst
theorem CI_gv {A : AS} {g : pGG} {m : pMI} {l : pML} (h : CI A g m l) : m 77 4 = nI 0 ∨ (m 77 4 = nI 1 ∧ GOK (aP A) m) := by obtain ⟨_, _, _, _, _, _, _, _, _, _, _, _, _, _, _, h, _⟩ := h; exact h
theorem frG_K {m x : pMI} (h : frG m x) : frK m x := fun i h1 h2 => h.1 i (by omega) (by omega) (by omega) (by omega)
theorem c_learnK (Γ : pTG) (g : pGG) (mi : pMI) (ml : pML) (A : AS) (hA : okAS A) (hC : CI A g mi ml) : rV Γ 3 mX4_learn [.ref 77] g mi ml (fun m l => CI A g m l ∧ GOK (aP A) m ∧ m 77 4 = nI 1 ∧ frG mi m ∧ l = ml) := by
  refine rV_w (c_learn Γ g mi ml (CI_Sh hC) (aP A) hA.1 (CI_cl hC) (CI_gv hC)) (fun m l hm => ?_)
  obtain ⟨h1, h2, h3, rfl⟩ := hm
  exact ⟨CI_G hC h1 h3 h2, h2, h3, h1, rfl⟩
theorem gtR_eq {V W : Nat → Nat → Int32} {nG c : Nat} (h : ∀ b, b < nG → ∀ i, i < c → V b i = W b i) : ∀ k, k ≤ nG → ∀ q, q < 2 ^ c → gtR V nG c k q = gtR W nG c k q
  | 0, _, _, _ => rfl
  | k + 1, hk, q, hq => by
    unfold gtR
    exact bfN_eq hq c (Nat.le_refl _) (fun i hi => h _ (by omega) i hi) (fun p hp => gtR_eq h k (by omega) p hp)
theorem vR_vP {P : PD} {m : pMI} (h : rfP m P) {b c : Nat} (hc : c < P.1) : vR P m b c = vP P b c := by
  unfold vR vP
  rw [(h.2.2.2.2.2.1 c hc).1, (h.2.2.2.2.2.1 c hc).2]
theorem RW_L {m0 x y : pMI} (h : RW m0 x) (hy : frL x y) : RW m0 y := by
  obtain ⟨h1, h2, h3⟩ := h
  refine ⟨frW_t h1 ⟨fun i a b c => hy i (fun z => c (by unfold rsR; omega)), fun j hj => by rw [hy 87 (by omega)]⟩, frM2_t h2 (fun i hi => hy i (by omega)), by rw [hy 87 (by omega)]; exact h3⟩
theorem r_lays (Γ : pTG) (g : pGG) (mi : pMI) (ml : pML) (A : AS) (hA : okAS A) (hSh : Sh g) (hP : rfP mi (aP A)) : rI Γ 3 mX12_laysGiven [.ref 87, .int (nI (aP A).1)] g mi ml (fun v m l => v = gtR (vP (aP A)) (aG A) (aP A).1 (aG A) 0 ∧ frL mi m ∧ (∀ k, k ≤ aG A → ∀ q, q < 2 ^ (aP A).1 → m (438 + (aG A - k)) q = gtR (vP (aP A)) (aG A) (aP A).1 k q) ∧ l = ml) := by
  have h8 : (aP A).1 ≤ 8 := hA.1.1
  refine CT_q (c_laysGiven Γ g mi ml hSh (aP A) hA.1 hP (aP A).1 (by omega)) (fun o g' m l hm => ?_)
  obtain ⟨rfl, v, rfl, h1, h2, h3, rfl⟩ := hm
  have he := gtR_eq (V := vR (aP A) mi) (W := vP (aP A)) (nG := aG A) (c := (aP A).1) (fun b hb i hi => vR_vP hP hi)
  exact ⟨rfl, _, rfl, h1.trans (he _ (Nat.le_refl _) _ (Nat.pow_pos (by omega))), h2, fun k hk q hq => (h3 k (Nat.lt_succ_of_le hk) q hq).trans (he k hk q hq), rfl⟩
set_option maxRecDepth 100000 in
set_option maxHeartbeats 4000000 in
theorem k_given (Γ : pTG) (g : pGG) (mi : pMI) (ml : pML) (A : AS) (hA : okAS A) (hC : CI A g mi ml)  : CT Γ 60 20 5000 mX11_given [.ref 0] g mi ml (CQ A (.inl (gtR (vP (aP A)) (aG A) (aP A).1 (aG A) 0)) mi ml) := by
  refine CT_of (by decide +kernel) (Nat.le_of_ble_eq_true rfl) ?_
  have hSh := CI_Sh hC
  have hcl := CI_cl hC
  have hP := hA.1
  have hG8 : aG A ≤ 8 := hP.2.1
  have hC8 : (aP A).1 ≤ 8 := hP.1
  refine X_aload_n dX11_given_0 rfl ?_
  refine X_getr (a := 77) dX11_given_1 fkX11_84 rfl (k_0 hSh) (r_0_11 hSh) ?_
  refine X_callVrV dX11_given_4 mkX11_307 (k_77 hSh) (c_learnK Γ g mi ml A hA hC) rfl rfl (by decide) (Nat.le_of_ble_eq_true rfl) (fun m2 l2 hm2 => ?_)
  obtain ⟨hC2, hgo, hg4, hfG, hl2⟩ := hm2
  rw [hl2] at hC2 ⊢
  refine X_aload_n dX11_given_7 rfl ?_
  refine X_getr (a := 77) dX11_given_8 fkX11_84 rfl (k_0 hSh) (r_0_11 hSh) ?_
  refine X_geti dX11_given_11 fkX11_310 rfl (k_77 hSh) ?_
  exact X_iret dX11_given_14 rfl ⟨congrArg (fun z => Sum.inl (some (Value.int z))) (hgo.2.1), hC2, frG_K hfG, rfl⟩
set_option maxRecDepth 100000 in
set_option maxHeartbeats 4000000 in
theorem r_given (Γ : pTG) (g : pGG) (mi : pMI) (ml : pML) (A : AS) (hA : okAS A) (hSh : Sh g) (hR : RI A mi)  : CT Γ 60 0 0 mX12_given [.ref 87] g mi ml (RQ A (.inl (gtR (vP (aP A)) (aG A) (aP A).1 (aG A) 0)) cdN g mi ml) := by
  refine CT_of (by decide +kernel) (Nat.le_of_ble_eq_true rfl) ?_
  have hP := hA.1
  have hG8 : aG A ≤ 8 := hP.2.1
  have hC8 : (aP A).1 ≤ 8 := hP.1
  refine X_aload_n dX12_given_0 rfl ?_
  refine X_iconst (v := nI 0) dX12_given_1 (by decide) ?_
  refine X_puti dX12_given_2 fkX12_158 rfl rfl (k_87 hSh) ?_
  refine X_aload_n dX12_given_5 rfl ?_
  refine X_aload_n dX12_given_6 rfl ?_
  refine X_getr (a := 91) dX12_given_7 fkX12_23 rfl (k_87 hSh) (r_87_12 hSh) ?_
  refine X_iconst (v := nI 0) dX12_given_10 (by decide) ?_
  refine X_iald 0 dX12_given_11 (k_91 hSh) rfl (by omega) ?_
  rw [((congrFun (up2_row (by omega)) _).trans hR.1.1)]
  refine X_callVrI dX12_given_12 mkX12_378 (k_87 hSh) (r_lays Γ g (up2 mi 87 0 (nI 0)) ml A hA hSh (RW_I hA hR RW_0).1) rfl rfl (by decide) (Nat.le_of_ble_eq_true rfl) (fun v2 m2 l2 hm2 => ?_)
  obtain ⟨hv2, hfL, htb, hl2⟩ := hm2
  rw [hl2]
  exact X_iret dX12_given_15 rfl ⟨rfl, rfl, RW_I hA hR (RW_L RW_0 hfL), (RW_L RW_0 hfL).2.1, _, rfl, hv2, (RW_L RW_0 hfL).2.2⟩
theorem m_given (A : AS) (hA : okAS A)  : MOK mX11_given mX12_given cdN [] A := by
  exact ⟨.inl (gtR (vP (aP A)) (aG A) (aP A).1 (aG A) 0), A, hA, fun j h => (by cases h), fun Γ g m l hC => k_given Γ g m l A hA hC , fun Γ g m l hSh hR => r_given Γ g m l A hA hSh hR ⟩
set_option maxRecDepth 100000 in
set_option maxHeartbeats 4000000 in
theorem k_waste (Γ : pTG) (g : pGG) (mi : pMI) (ml : pML) (A : AS) (hA : okAS A) (hC : CI A g mi ml)  : CT Γ 60 20 5000 mX11_waste [.ref 0] g mi ml (CQ A (.inl (gtR (vP (aP A)) (aG A) (aP A).1 (aG A) 0 - sumN (fun b => (DYd A).1 200 b) (aG A))) mi ml) := by
  refine CT_of (by decide +kernel) (Nat.le_of_ble_eq_true rfl) ?_
  have hSh := CI_Sh hC
  have hcl := CI_cl hC
  have hP := hA.1
  have hG8 : aG A ≤ 8 := hP.2.1
  have hC8 : (aP A).1 ≤ 8 := hP.1
  refine X_aload_n dX11_waste_0 rfl ?_
  refine X_callVrV dX11_waste_1 mkX11_193 (k_0 hSh) (c_look Γ g mi ml A hA hC) rfl rfl (by decide) (Nat.le_of_ble_eq_true rfl) (fun m1 l1 hm1 => ?_)
  obtain ⟨⟨hC1, hcd⟩, hk1, hl1⟩ := hm1
  have hcl1 := CI_cl hC1
  refine X_aload_n dX11_waste_4 rfl ?_
  refine X_getr (a := 77) dX11_waste_5 fkX11_84 rfl (k_0 hSh) (r_0_11 hSh) ?_
  refine X_callVrV dX11_waste_8 mkX11_307 (k_77 hSh) (c_learnK Γ g m1 l1 A hA hC1) rfl rfl (by decide) (Nat.le_of_ble_eq_true rfl) (fun m2 l2 hm2 => ?_)
  obtain ⟨hC2, hgo, hg4, hfG, hl2⟩ := hm2
  rw [hl2] at hC2 ⊢
  refine X_aload_n dX11_waste_11 rfl ?_
  refine X_getr (a := 77) dX11_waste_12 fkX11_84 rfl (k_0 hSh) (r_0_11 hSh) ?_
  refine X_geti dX11_waste_15 fkX11_310 rfl (k_77 hSh) ?_
  rw [hgo.2.1]
  refine X_aload_n dX11_waste_18 rfl ?_
  refine X_getr (a := 57) dX11_waste_19 fkX11_72 rfl (k_0 hSh) (r_0_9 hSh) ?_
  refine X_iconst (v := nI 3) dX11_waste_22 (by decide) ?_
  refine X_callVI dX11_waste_23 mkX11_224 (k_57 hSh) (c_total Γ g m2 l1 hSh 57 (shC_57 hSh) (aG A) (CI_cl hC2).2.1 hG8 3 (by decide)) rfl rfl (by decide) (Nat.le_of_ble_eq_true rfl) ?_
  refine X_topi (show _ = sumN (fun b => (DYd A).1 200 b) (aG A) from sumN_eq _ (fun b hb => (congrFun (hfG.1 58 (by omega) (by omega) (by omega) (by omega)) _).trans (hcd.1 b hb).2.2.2.1)) ?_
  refine X_isub dX11_waste_26 ?_
  exact X_iret dX11_waste_27 rfl ⟨rfl, hC2, frK_t hk1 (frG_K hfG), hl1⟩
set_option maxRecDepth 100000 in
set_option maxHeartbeats 4000000 in
theorem r_waste (Γ : pTG) (g : pGG) (mi : pMI) (ml : pML) (A : AS) (hA : okAS A) (hSh : Sh g) (hR : RI A mi)  : CT Γ 60 0 0 mX12_waste [.ref 87] g mi ml (RQ A (.inl (gtR (vP (aP A)) (aG A) (aP A).1 (aG A) 0 - sumN (fun b => (DYd A).1 200 b) (aG A))) cdN g mi ml) := by
  refine CT_of (by decide +kernel) (Nat.le_of_ble_eq_true rfl) ?_
  have hP := hA.1
  have hG8 : aG A ≤ 8 := hP.2.1
  have hC8 : (aP A).1 ≤ 8 := hP.1
  refine X_aload_n dX12_waste_0 rfl ?_
  refine X_iconst (v := nI 0) dX12_waste_1 (by decide) ?_
  refine X_puti dX12_waste_2 fkX12_158 rfl rfl (k_87 hSh) ?_
  refine X_aload_n dX12_waste_5 rfl ?_
  refine X_callVrV dX12_waste_6 mkX12_353 (k_87 hSh) (r_dayW Γ g (up2 mi 87 0 (nI 0)) ml A hA hSh mi hR RW_0) rfl rfl (by decide) (Nat.le_of_ble_eq_true rfl) (fun b1 bl hb1 => ?_)
  obtain ⟨hbD, hbS, hbW, hbl⟩ := hb1
  rw [hbl]
  have hbI := RW_I hA hR hbW
  refine X_aload_n dX12_waste_9 rfl ?_
  refine X_aload_n dX12_waste_10 rfl ?_
  refine X_getr (a := 91) dX12_waste_11 fkX12_23 rfl (k_87 hSh) (r_87_12 hSh) ?_
  refine X_iconst (v := nI 0) dX12_waste_14 (by decide) ?_
  refine X_iald 0 dX12_waste_15 (k_91 hSh) rfl (by omega) ?_
  rw [hbI.1.1]
  refine X_callVrI dX12_waste_16 mkX12_378 (k_87 hSh) (r_lays Γ g b1 ml A hA hSh hbI.1) rfl rfl (by decide) (Nat.le_of_ble_eq_true rfl) (fun v2 m2 l2 hm2 => ?_)
  obtain ⟨hv2, hfL, htb, hl2⟩ := hm2
  rw [hl2]
  refine X_aload_n dX12_waste_19 rfl ?_
  refine X_callVI dX12_waste_20 mkX12_359 (k_87 hSh) (c_allGot Γ g m2 ml hSh (aG A) (RW_I hA hR (RW_L hbW hfL)).1.2.1 hG8) rfl rfl (by decide) (Nat.le_of_ble_eq_true rfl) ?_
  refine X_topi (show _ = sumN (fun b => (DYd A).1 200 b) (aG A) from sumN_eq _ (fun b hb => (congrFun (hfL 200 (by omega)) _).trans (hbD.1 b hb).2.2.2.2.1)) ?_
  refine X_isub dX12_waste_23 ?_
  exact X_iret dX12_waste_24 rfl ⟨rfl, rfl, RW_I hA hR (RW_L hbW hfL), (RW_L hbW hfL).2.1, _, rfl, by rw [hv2], (RW_L hbW hfL).2.2⟩
theorem m_waste (A : AS) (hA : okAS A)  : MOK mX11_waste mX12_waste cdN [] A := by
  exact ⟨.inl (gtR (vP (aP A)) (aG A) (aP A).1 (aG A) 0 - sumN (fun b => (DYd A).1 200 b) (aG A)), A, hA, fun j h => (by cases h), fun Γ g m l hC => k_waste Γ g m l A hA hC , fun Γ g m l hSh hR => r_waste Γ g m l A hA hSh hR ⟩
theorem bf_ex {V R : Nat → Int32} {gone : Nat} : ∀ n, bfN V R gone n ≠ R gone → ∃ c, c < n ∧ gone.testBit c = false ∧ V c + R (gone ||| 2 ^ c) = bfN V R gone n
  | 0, h => absurd rfl h
  | n + 1, h => by
    unfold bfN at h ⊢
    by_cases ht : gone.testBit n = true
    · rw [if_pos ht] at h ⊢
      obtain ⟨c, h1, h2, h3⟩ := bf_ex n h
      exact ⟨c, by omega, h2, h3⟩
    · rw [if_neg ht] at h ⊢
      unfold mxI at h ⊢
      by_cases hq : V n + R (gone ||| 2 ^ n) ≤ bfN V R gone n
      · rw [if_pos hq] at h ⊢
        obtain ⟨c, h1, h2, h3⟩ := bf_ex n h
        exact ⟨c, by omega, h2, h3⟩
      · rw [if_neg hq] at h ⊢
        exact ⟨n, by omega, by simpa using ht, rfl⟩
def giP (P : PD) (b gone c : Nat) : Bool := !gone.testBit c && decide (vP P b c + gtR (vP P) P.2.1 P.1 (P.2.1 - 1 - b) (gone ||| 2 ^ c) = gtR (vP P) P.2.1 P.1 (P.2.1 - b) gone)
theorem gi_no {P : PD} {b gone : Nat} (h : gtR (vP P) P.2.1 P.1 (P.2.1 - 1 - b) gone = gtR (vP P) P.2.1 P.1 (P.2.1 - b) gone) : gift P b gone = none := if_pos h
theorem gi_s {P : PD} {b gone c : Nat} (h : ¬ gtR (vP P) P.2.1 P.1 (P.2.1 - 1 - b) gone = gtR (vP P) P.2.1 P.1 (P.2.1 - b) gone) (h0 : ∀ e, e < c → giP P b gone e = false) (hp : giP P b gone c = true) (hc : c < P.1) : gift P b gone = some c := (if_neg h).trans (fE_s h0 hp hc)
theorem gi_ex {P : PD} {b gone : Nat} (hb : b < P.2.1) (h : ¬ gtR (vP P) P.2.1 P.1 (P.2.1 - 1 - b) gone = gtR (vP P) P.2.1 P.1 (P.2.1 - b) gone) : ∃ c, c < P.1 ∧ giP P b gone c = true := by
  have e : gtR (vP P) P.2.1 P.1 (P.2.1 - b) gone = bfN (vP P b) (gtR (vP P) P.2.1 P.1 (P.2.1 - 1 - b)) gone P.1 := by
    rw [gt_pred (by omega), show P.2.1 - (P.2.1 - b) = b by omega, show P.2.1 - b - 1 = P.2.1 - 1 - b by omega]
  obtain ⟨c, h1, h2, h3⟩ := bf_ex P.1 (fun q => h (by rw [e]; exact q.symm))
  exact ⟨c, h1, by unfold giP; rw [h2, e, h3, decide_eq_true rfl]; rfl⟩
theorem gn_no {P : PD} {i : Nat} (h : gift P i (gnD P i) = none) : gnD P (i + 1) = gnD P i := by
  show (match gift P i (gnD P i) with
    | none => gnD P i
    | some c => gnD P i ||| 2 ^ c) = _
  rw [h]
theorem gn_s {P : PD} {i c : Nat} (h : gift P i (gnD P i) = some c) : gnD P (i + 1) = gnD P i ||| 2 ^ c := by
  show (match gift P i (gnD P i) with
    | none => gnD P i
    | some c => gnD P i ||| 2 ^ c) = _
  rw [h]
theorem bit0 {k i : Nat} (hk : k < 512) (hi : i < 9) (h : k.testBit i = false) : (nI k >>> (nI i &&& 31)) &&& nI 1 = nI 0 := by rw [bit_ask (by omega), nb_ask k hk i hi, h]; rfl
theorem bit1 {k i : Nat} (hk : k < 512) (hi : i < 9) (h : k.testBit i = true) : (nI k >>> (nI i &&& 31)) &&& nI 1 = nI 1 := by rw [bit_ask (by omega), nb_ask k hk i hi, h]; rfl
set_option maxRecDepth 100000 in
set_option maxHeartbeats 4000000 in
theorem k_gets_f0 (Γ : pTG) (g : pGG) (mi : pMI) (ml : pML) (A : AS) (hA : okAS A) (hC : CI A g mi ml) (v : Int32) (hf : ¬ ∃ b, b < aG A ∧ v = nI b) : CT Γ 60 20 5000 mX11_gets [.ref 0, .int v] g mi ml (CQ (rfA A 0) (.inr 0) mi ml) := by
  refine CT_of (by decide +kernel) (Nat.le_of_ble_eq_true rfl) ?_
  have hSh := CI_Sh hC
  have hcl := CI_cl hC
  have hP := hA.1
  have hG8 : aG A ≤ 8 := hP.2.1
  have hC8 : (aP A).1 ≤ 8 := hP.1
  refine X_aload_n dX11_gets_0 rfl ?_
  refine X_iload_n dX11_gets_1 rfl ?_
  exact X_need dX11_gets_2 mkX11_147 (k_0 hSh) (c_needGuest Γ g mi ml hSh v) rfl rfl (by decide) (by decide) (by decide) (by decide) (fun _ => ⟨rfl, CI_rf (by decide) hC, frK_86, rfl⟩) (fun h => absurd ((gd_iff hG8).mp (by rw [← hcl.2.1]; exact h)) hf)
set_option maxRecDepth 100000 in
set_option maxHeartbeats 4000000 in
theorem r_gets_f0 (Γ : pTG) (g : pGG) (mi : pMI) (ml : pML) (A : AS) (hA : okAS A) (hSh : Sh g) (hR : RI A mi) (v : Int32) (hf : ¬ ∃ b, b < aG A ∧ v = nI b) : CT Γ 60 0 0 mX12_gets [.ref 87, .int v] g mi ml (RQ (rfA A 0) (.inr 0) cd0 g mi ml) := by
  refine CT_of (by decide +kernel) (Nat.le_of_ble_eq_true rfl) ?_
  have hP := hA.1
  have hG8 : aG A ≤ 8 := hP.2.1
  have hC8 : (aP A).1 ≤ 8 := hP.1
  refine X_aload_n dX12_gets_0 rfl ?_
  refine X_iconst (v := nI 0) dX12_gets_1 (by decide) ?_
  refine X_puti dX12_gets_2 fkX12_158 rfl rfl (k_87 hSh) ?_
  refine X_aload_n dX12_gets_5 rfl ?_
  refine X_aload_n dX12_gets_6 rfl ?_
  refine X_iload_n dX12_gets_7 rfl ?_
  refine X_callVI dX12_gets_8 mkX12_285 (k_87 hSh) (c_isGuest Γ g (up2 mi 87 0 (nI 0)) ml hSh v) rfl rfl (by decide) (Nat.le_of_ble_eq_true rfl) ?_
  refine X_topi (show bI (decide (nI 0 ≤ v) && decide (v ≤ (up2 mi 87 0 (nI 0)) 91 1 - nI 1)) = nI 0 from congrArg bI (show (decide (nI 0 ≤ v) && decide (v ≤ (up2 mi 87 0 (nI 0)) 91 1 - nI 1)) = false from Bool.eq_false_iff.mpr (fun q => hf ((gd_ref hG8).mp (by rw [(show (up2 mi 87 0 (nI 0)) 91 1 = nI (aG A) from ((congrFun (up2_row (by omega)) _).trans hR.1.2.1))] at q; exact q))))) ?_
  refine X_if_neN (a := 0) 18 dX12_gets_11 (by decide) (by omega) (fun h_1 => ?_) (fun h_1 => ?_)
  · exact absurd h_1 (by omega)
  · refine X_iconst (v := nI 1) dX12_gets_14 (by decide) ?_
    refine X_goto 19 dX12_gets_15 (by decide) ?_
    refine X_iconst (v := nI 1) dX12_gets_19 (by decide) ?_
    refine X_iconst (v := nI 0) dX12_gets_20 (by decide) ?_
    refine X_callVI dX12_gets_21 mkX12_228 (k_87 hSh) (c_bad1 Γ g (up2 mi 87 0 (nI 0)) ml hSh 1 0 (by decide) (by decide) (by decide) up2_s) rfl rfl (by decide) (Nat.le_of_ble_eq_true rfl) ?_
    refine X_mi (show _ = mB mi 1 0 from rfl) ?_
    refine X_if_eqN (a := 1) 29 dX12_gets_24 (by decide) (by omega) (fun h_2 => ?_) (fun h_2 => ?_)
    · exact absurd h_2 (by omega)
    · refine X_iconst (v := nI 0) dX12_gets_27 (by decide) ?_
      exact X_iret dX12_gets_28 rfl ⟨rfl, rfl, RI_rf hA (by decide) hR, fr2_B, _, rfl, mB_0⟩
set_option maxRecDepth 100000 in
set_option maxHeartbeats 4000000 in
theorem k_gets (Γ : pTG) (g : pGG) (mi : pMI) (ml : pML) (A : AS) (hA : okAS A) (hC : CI A g mi ml) (b : Nat) (hb : b < aG A) : CT Γ 60 20 5000 mX11_gets [.ref 0, .int (nI b)] g mi ml (CQ A (.inl (oI (gift (aP A) b (gnD (aP A) b)))) mi ml) := by
  refine CT_of (by decide +kernel) (Nat.le_of_ble_eq_true rfl) ?_
  have hSh := CI_Sh hC
  have hcl := CI_cl hC
  have hP := hA.1
  have hG8 : aG A ≤ 8 := hP.2.1
  have hC8 : (aP A).1 ≤ 8 := hP.1
  refine X_aload_n dX11_gets_0 rfl ?_
  refine X_iload_n dX11_gets_1 rfl ?_
  refine X_need dX11_gets_2 mkX11_147 (k_0 hSh) (c_needGuest Γ g mi ml hSh (nI b)) rfl rfl (by decide) (by decide) (by decide) (by decide) (fun h => absurd (by rw [hcl.2.1]; exact (gd_iff hG8).mpr ⟨b, hb, rfl⟩) h) (fun _ => ?_)
  refine X_aload_n dX11_gets_5 rfl ?_
  refine X_getr (a := 77) dX11_gets_6 fkX11_84 rfl (k_0 hSh) (r_0_11 hSh) ?_
  refine X_callVrV dX11_gets_9 mkX11_307 (k_77 hSh) (c_learnK Γ g mi ml A hA hC) rfl rfl (by decide) (Nat.le_of_ble_eq_true rfl) (fun m2 l2 hm2 => ?_)
  obtain ⟨hC2, hgo, hg4, hfG, hl2⟩ := hm2
  rw [hl2] at hC2 ⊢
  refine X_aload_n dX11_gets_12 rfl ?_
  refine X_getr (a := 77) dX11_gets_13 fkX11_84 rfl (k_0 hSh) (r_0_11 hSh) ?_
  refine X_getr (a := 80) dX11_gets_16 fkX11_313 rfl (k_77 hSh) (r_77_3 hSh) ?_
  refine X_iload_n dX11_gets_19 rfl ?_
  refine X_iald b dX11_gets_20 (k_80 hSh) rfl (by omega) ?_
  exact X_iret dX11_gets_21 rfl ⟨congrArg (fun z => Sum.inl (some (Value.int z))) (hgo.2.2 b hb), hC2, frG_K hfG, rfl⟩
set_option maxRecDepth 100000 in
set_option maxHeartbeats 4000000 in
theorem r_gets (Γ : pTG) (g : pGG) (mi : pMI) (ml : pML) (A : AS) (hA : okAS A) (hSh : Sh g) (hR : RI A mi) (b : Nat) (hb : b < aG A) : CT Γ 60 0 0 mX12_gets [.ref 87, .int (nI b)] g mi ml (RQ A (.inl (oI (gift (aP A) b (gnD (aP A) b)))) cd0 g mi ml) := by
  refine CT_of (by decide +kernel) (Nat.le_of_ble_eq_true rfl) ?_
  have hP := hA.1
  have hG8 : aG A ≤ 8 := hP.2.1
  have hC8 : (aP A).1 ≤ 8 := hP.1
  refine X_aload_n dX12_gets_0 rfl ?_
  refine X_iconst (v := nI 0) dX12_gets_1 (by decide) ?_
  refine X_puti dX12_gets_2 fkX12_158 rfl rfl (k_87 hSh) ?_
  refine X_aload_n dX12_gets_5 rfl ?_
  refine X_aload_n dX12_gets_6 rfl ?_
  refine X_iload_n dX12_gets_7 rfl ?_
  refine X_callVI dX12_gets_8 mkX12_285 (k_87 hSh) (c_isGuest Γ g (up2 mi 87 0 (nI 0)) ml hSh (nI b)) rfl rfl (by decide) (Nat.le_of_ble_eq_true rfl) ?_
  refine X_topi (show bI (decide (nI 0 ≤ nI b) && decide (nI b ≤ (up2 mi 87 0 (nI 0)) 91 1 - nI 1)) = nI 1 from congrArg bI (show (decide (nI 0 ≤ nI b) && decide (nI b ≤ (up2 mi 87 0 (nI 0)) 91 1 - nI 1)) = true from by rw [(show (up2 mi 87 0 (nI 0)) 91 1 = nI (aG A) from ((congrFun (up2_row (by omega)) _).trans hR.1.2.1))]; exact (gd_ref hG8).mpr ⟨b, hb, rfl⟩)) ?_
  refine X_if_neN (a := 1) 18 dX12_gets_11 (by decide) (by omega) (fun h_1 => ?_) (fun h_1 => ?_)
  · refine X_iconst (v := nI 0) dX12_gets_18 (by decide) ?_
    refine X_iconst (v := nI 1) dX12_gets_19 (by decide) ?_
    refine X_iconst (v := nI 0) dX12_gets_20 (by decide) ?_
    refine X_callVI dX12_gets_21 mkX12_228 (k_87 hSh) (c_bad0 Γ g (up2 mi 87 0 (nI 0)) ml hSh 1 0 up2_s) rfl rfl (by decide) (Nat.le_of_ble_eq_true rfl) ?_
    refine X_if_eqN (a := 0) 29 dX12_gets_24 (by decide) (by omega) (fun h_2 => ?_) (fun h_2 => ?_)
    · refine X_aload_n dX12_gets_29 rfl ?_
      refine X_aload_n dX12_gets_30 rfl ?_
      refine X_getr (a := 91) dX12_gets_31 fkX12_23 rfl (k_87 hSh) (r_87_12 hSh) ?_
      refine X_iconst (v := nI 0) dX12_gets_34 (by decide) ?_
      refine X_iald 0 dX12_gets_35 (k_91 hSh) rfl (by omega) ?_
      rw [((congrFun (up2_row (by omega)) _).trans hR.1.1)]
      refine X_callVrI dX12_gets_36 mkX12_378 (k_87 hSh) (r_lays Γ g (up2 mi 87 0 (nI 0)) ml A hA hSh (RW_I hA hR RW_0).1) rfl rfl (by decide) (Nat.le_of_ble_eq_true rfl) (fun v2 m2 l2 hm2 => ?_)
      obtain ⟨hv2, hfL, htb, hl2⟩ := hm2
      rw [hl2]
      refine X_pop dX12_gets_39 rfl ?_
      refine X_iconst (v := nI 0) dX12_gets_40 (by decide) ?_
      refine X_istore_n dX12_gets_41 (by decide) ?_
      refine X_iconst (v := -1) dX12_gets_42 (by decide) ?_
      refine X_istore_n dX12_gets_43 (by decide) ?_
      refine X_iconst (v := nI 0) dX12_gets_44 (by decide) ?_
      refine X_istore dX12_gets_45 (by decide) ?_
      refine X_L [(4, .int (nI 0)), (3, .int (-1)), (2, .int (nI 0)), (0, .ref 87), (1, .int (nI b))] ⟨rfl, rfl, rfl, rfl, rfl, trivial⟩ ?_
      have hp8 := p8 hC8
      have hm2 := RW_I hA hR (RW_L RW_0 hfL)
      have hry := hm2.1.2.2.2.2.2.2
      have hrp := hm2.1.2.2.2.2.2.1
      refine X_forR (σ := Int32) 47 (fun i y => [(4, .int (nI (i))), (3, .int y), (2, .int (nI (gnD (aP A) i))), (0, .ref 87), (1, .int (nI b))]) (fun y => m2) (fun y => ml) (fun i y => 0 < i → y = oI (gift (aP A) (i - 1) (gnD (aP A) (i - 1)))) (b + 1) ?_ ?_ (b + 1) 0 (-1) (by omega) (fun h => absurd h (by omega))
      · intro i y hi hI hn
        have hgn := gnD_lt (aP A) i
        have hr1 : m2 (438 + (i + 1)) (gnD (aP A) i) = gtR (vP (aP A)) (aG A) (aP A).1 ((aP A).2.1 - 1 - i) (gnD (aP A) i) := by have := htb ((aP A).2.1 - 1 - i) (Nat.le_trans (Nat.sub_le _ _) (Nat.sub_le _ _)) (gnD (aP A) i) hgn; rwa [show aG A - ((aP A).2.1 - 1 - i) = i + 1 by have hi2 : i < (aP A).2.1 := Nat.lt_of_lt_of_le hi hb; have e9 : aG A = (aP A).2.1 := rfl; omega] at this
        have hr0 : m2 (438 + i) (gnD (aP A) i) = gtR (vP (aP A)) (aG A) (aP A).1 ((aP A).2.1 - i) (gnD (aP A) i) := by have := htb ((aP A).2.1 - i) (Nat.sub_le _ _) (gnD (aP A) i) hgn; rwa [show aG A - ((aP A).2.1 - i) = i by have hi2 : i < (aP A).2.1 := Nat.lt_of_lt_of_le hi hb; have e9 : aG A = (aP A).2.1 := rfl; omega] at this
        have hib : i < (aP A).2.1 := Nat.lt_of_lt_of_le hi hb
        have e9 : aG A = (aP A).2.1 := rfl
        refine X_iload dX12_gets_47 rfl ?_
        refine X_iload_n dX12_gets_49 rfl ?_
        refine X_icmp_gtN (a := i) (b := b) 154 dX12_gets_50 (by decide) (by omega) (by omega) (fun h_3 => ?_) (fun h_3 => ?_)
        · exact absurd h_3 (by omega)
        · refine X_iconst (v := -1) dX12_gets_53 (by decide) ?_
          refine X_istore_n dX12_gets_54 (by decide) ?_
          refine X_aload_n dX12_gets_55 rfl ?_
          refine X_getr (a := 437) dX12_gets_56 fkX12_140 rfl (k_87 hSh) (r_87_58 hSh) ?_
          refine X_iload dX12_gets_59 rfl ?_
          refine X_iconst (v := nI 1) dX12_gets_61 (by decide) ?_
          refine X_iadd dX12_gets_62 ?_
          refine X_topi (nI_add i 1) ?_
          refine X_aaldr (b := 438 + (i + 1)) (i + 1) dX12_gets_63 (k_437 hSh) rfl (by omega) (o_437 hSh (i + 1) (by omega)) ?_
          refine X_iload_n dX12_gets_64 rfl ?_
          refine X_iald (gnD (aP A) i) dX12_gets_65 (kr_437 hSh ((i + 1)) (by omega)) rfl (by omega) ?_
          rw [hr1]
          refine X_aload_n dX12_gets_66 rfl ?_
          refine X_getr (a := 437) dX12_gets_67 fkX12_140 rfl (k_87 hSh) (r_87_58 hSh) ?_
          refine X_iload dX12_gets_70 rfl ?_
          refine X_aaldr (b := 438 + i) i dX12_gets_72 (k_437 hSh) rfl (by omega) (o_437 hSh i (by omega)) ?_
          refine X_iload_n dX12_gets_73 rfl ?_
          refine X_iald (gnD (aP A) i) dX12_gets_74 (kr_437 hSh i (by omega)) rfl (by omega) ?_
          rw [hr0]
          refine X_icmp_ne 81 dX12_gets_75 (by decide) (fun h_4 => ?_) (fun h_4 => ?_)
          · refine X_iconst (v := nI 0) dX12_gets_81 (by decide) ?_
            refine X_istore_n dX12_gets_82 (by decide) ?_
            refine X_L [(3, .int (nI 0)), (4, .int (nI i)), (2, .int (nI (gnD (aP A) i))), (0, .ref 87), (1, .int (nI b))] ⟨rfl, rfl, rfl, rfl, rfl, trivial⟩ ?_
            have hne := (by assumption : ¬ gtR (vP (aP A)) (aG A) (aP A).1 ((aP A).2.1 - 1 - i) (gnD (aP A) i) = gtR (vP (aP A)) (aG A) (aP A).1 ((aP A).2.1 - i) (gnD (aP A) i))
            have hr2 : ∀ c, c < (aP A).1 → m2 (438 + (i + 1)) (gnD (aP A) i ||| 2 ^ c) = gtR (vP (aP A)) (aG A) (aP A).1 ((aP A).2.1 - 1 - i) (gnD (aP A) i ||| 2 ^ c) := fun c hc => by have := htb ((aP A).2.1 - 1 - i) (Nat.le_trans (Nat.sub_le _ _) (Nat.sub_le _ _)) (gnD (aP A) i ||| 2 ^ c) (or_lt hgn hc); rwa [show aG A - ((aP A).2.1 - 1 - i) = i + 1 by omega] at this
            refine X_forE 83 (fun c => [(3, .int (nI c)), (4, .int (nI i)), (2, .int (nI (gnD (aP A) i))), (0, .ref 87), (1, .int (nI b))]) (giP (aP A) i (gnD (aP A) i)) (aP A).1 (fun c hc h0 => ⟨fun hp => ?_, fun hp hk => ?_⟩) (fun hz => ?_) (aP A).1 0 (by omega) (fun b hb => absurd hb (by omega))
            · obtain ⟨hp1, hp2⟩ := (show (gnD (aP A) i).testBit c = false ∧ _ from by unfold giP at hp; rw [Bool.and_eq_true, Bool.not_eq_true', decide_eq_true_eq] at hp; exact hp)
              refine X_iload_n dX12_gets_83 rfl ?_
              refine X_iload_n dX12_gets_84 rfl ?_
              refine X_ishr dX12_gets_85 ?_
              refine X_iconst (v := nI 1) dX12_gets_86 (by decide) ?_
              refine X_iand dX12_gets_87 ?_
              refine X_topi (bit0 (by omega) (by omega) hp1) ?_
              refine X_iconst (v := nI 1) dX12_gets_88 (by decide) ?_
              refine X_icmp_eqN (a := 0) (b := 1) 136 dX12_gets_89 (by decide) (by first | omega | (have q9 := or_lt hgn hc; omega)) (by first | omega | (have q9 := or_lt hgn hc; omega)) (fun h_5 => ?_) (fun h_5 => ?_)
              · exact absurd h_5 (by omega)
              · refine X_aload_n dX12_gets_92 rfl ?_
                refine X_iload dX12_gets_93 rfl ?_
                refine X_iload_n dX12_gets_95 rfl ?_
                refine X_aload_n dX12_gets_96 rfl ?_
                refine X_getr (a := 120) dX12_gets_97 fkX12_37 rfl (k_87 hSh) (r_87_16 hSh) ?_
                refine X_iload dX12_gets_100 rfl ?_
                refine X_aaldr (b := 121 + i) i dX12_gets_102 (k_120 hSh) rfl (by first | omega | (have q9 := or_lt hgn hc; omega)) (o_120 hSh i (by first | omega | (have q9 := or_lt hgn hc; omega))) ?_
                refine X_iconst (v := nI 1) dX12_gets_103 (by decide) ?_
                refine X_iald 1 dX12_gets_104 (kr_120 hSh i (by first | omega | (have q9 := or_lt hgn hc; omega))) rfl (by first | omega | (have q9 := or_lt hgn hc; omega)) ?_
                rw [(hry _ hib).2.1]
                refine X_callVI dX12_gets_105 mkX12_310 (k_87 hSh) (c_worthOf Γ g m2 ml hSh i c ((aP A).2.2.2.2.2.2 i 1) ((aP A).2.2.2.2.2.2 i 1) ((aP A).2.2.2.2.2.2 i 2) (by omega) (by omega) (by have := hP.2.2.2.2.2.2.2 _ hib; omega) (hry _ hib).2.1 (hry _ hib).2.2.1 (by have := hP.2.2.2.2.2.2.2 _ hib; omega) (by have := hP.2.2.2.2.2.2.2 _ hib; omega)) rfl rfl (by decide) (Nat.le_of_ble_eq_true rfl) ?_
                refine X_topi (show _ = vP (aP A) i c by unfold vP; rw [Nat.max_self, (hrp _ (by omega)).1, (hrp _ (by omega)).2]) ?_
                refine X_aload_n dX12_gets_108 rfl ?_
                refine X_getr (a := 437) dX12_gets_109 fkX12_140 rfl (k_87 hSh) (r_87_58 hSh) ?_
                refine X_iload dX12_gets_112 rfl ?_
                refine X_iconst (v := nI 1) dX12_gets_114 (by decide) ?_
                refine X_iadd dX12_gets_115 ?_
                refine X_topi (nI_add i 1) ?_
                refine X_aaldr (b := 438 + (i + 1)) (i + 1) dX12_gets_116 (k_437 hSh) rfl (by first | omega | (have q9 := or_lt hgn hc; omega)) (o_437 hSh (i + 1) (by first | omega | (have q9 := or_lt hgn hc; omega))) ?_
                refine X_iload_n dX12_gets_117 rfl ?_
                refine X_iconst (v := nI 1) dX12_gets_118 (by decide) ?_
                refine X_iload_n dX12_gets_119 rfl ?_
                refine X_ishl dX12_gets_120 ?_
                refine X_ior dX12_gets_121 ?_
                refine X_topi (show _ = nI (gnD (aP A) i ||| 2 ^ c) from nb_or _ (by omega) c (by omega)) ?_
                refine X_iald (gnD (aP A) i ||| 2 ^ c) dX12_gets_122 (kr_437 hSh ((i + 1)) (by first | omega | (have q9 := or_lt hgn hc; omega))) rfl (by first | omega | (have q9 := or_lt hgn hc; omega)) ?_
                rw [(hr2 c hc)]
                refine X_iadd dX12_gets_123 ?_
                refine X_aload_n dX12_gets_124 rfl ?_
                refine X_getr (a := 437) dX12_gets_125 fkX12_140 rfl (k_87 hSh) (r_87_58 hSh) ?_
                refine X_iload dX12_gets_128 rfl ?_
                refine X_aaldr (b := 438 + i) i dX12_gets_130 (k_437 hSh) rfl (by first | omega | (have q9 := or_lt hgn hc; omega)) (o_437 hSh i (by first | omega | (have q9 := or_lt hgn hc; omega))) ?_
                refine X_iload_n dX12_gets_131 rfl ?_
                refine X_iald (gnD (aP A) i) dX12_gets_132 (kr_437 hSh i (by first | omega | (have q9 := or_lt hgn hc; omega))) rfl (by first | omega | (have q9 := or_lt hgn hc; omega)) ?_
                rw [hr0]
                refine X_icmp_eq 142 dX12_gets_133 (by decide) (fun h_6 => ?_) (fun h_6 => ?_)
                · refine X_iload_n dX12_gets_142 rfl ?_
                  refine X_iconst (v := nI 1) dX12_gets_143 (by decide) ?_
                  refine X_iload_n dX12_gets_144 rfl ?_
                  refine X_ishl dX12_gets_145 ?_
                  refine X_ior dX12_gets_146 ?_
                  refine X_topi (show _ = nI (gnD (aP A) i ||| 2 ^ c) from nb_or _ (by omega) c (by omega)) ?_
                  refine X_istore_n dX12_gets_147 (by decide) ?_
                  refine X_iinc (v := nI (i + 1)) dX12_gets_148 rfl (nI_1 _) (by decide) ?_
                  refine X_goto 47 dX12_gets_151 (by decide) ?_
                  refine X_L [(4, .int (nI (i + 1))), (3, .int (nI c)), (2, .int (nI (gnD (aP A) i ||| 2 ^ c))), (0, .ref 87), (1, .int (nI b))] ⟨rfl, rfl, rfl, rfl, rfl, trivial⟩ ?_
                  have hgi := gi_s (P := aP A) hne h0 hp hc
                  refine X_L [(4, .int (nI (i + 1))), (3, .int (nI c)), (2, .int (nI (gnD (aP A) (i + 1)))), (0, .ref 87), (1, .int (nI b))] ⟨rfl, rfl, by rw [gn_s hgi]; rfl, rfl, rfl, trivial⟩ ?_
                  exact hn (nI c) (fun _ => by show nI c = oI (gift (aP A) i (gnD (aP A) i)); rw [hgi]; rfl)
                · exact absurd hp2 h_6
            · cases ht : (gnD (aP A) i).testBit c with
              | true =>
                refine X_iload_n dX12_gets_83 rfl ?_
                refine X_iload_n dX12_gets_84 rfl ?_
                refine X_ishr dX12_gets_85 ?_
                refine X_iconst (v := nI 1) dX12_gets_86 (by decide) ?_
                refine X_iand dX12_gets_87 ?_
                refine X_topi (bit1 (by omega) (by omega) ht) ?_
                refine X_iconst (v := nI 1) dX12_gets_88 (by decide) ?_
                refine X_icmp_eqN (a := 1) (b := 1) 136 dX12_gets_89 (by decide) (by first | omega | (have q9 := or_lt hgn hc; omega)) (by first | omega | (have q9 := or_lt hgn hc; omega)) (fun h_7 => ?_) (fun h_7 => ?_)
                · refine X_iinc (v := nI (c + 1)) dX12_gets_136 rfl (nI_1 _) (by decide) ?_
                  refine X_goto 83 dX12_gets_139 (by decide) ?_
                  refine X_L [(3, .int (nI (c + 1))), (4, .int (nI i)), (2, .int (nI (gnD (aP A) i))), (0, .ref 87), (1, .int (nI b))] ⟨rfl, rfl, rfl, rfl, rfl, trivial⟩ ?_
                  exact hk
                · exact absurd h_7 (by omega)
              | false =>
                refine X_iload_n dX12_gets_83 rfl ?_
                refine X_iload_n dX12_gets_84 rfl ?_
                refine X_ishr dX12_gets_85 ?_
                refine X_iconst (v := nI 1) dX12_gets_86 (by decide) ?_
                refine X_iand dX12_gets_87 ?_
                refine X_topi (bit0 (by omega) (by omega) ht) ?_
                refine X_iconst (v := nI 1) dX12_gets_88 (by decide) ?_
                refine X_icmp_eqN (a := 0) (b := 1) 136 dX12_gets_89 (by decide) (by first | omega | (have q9 := or_lt hgn hc; omega)) (by first | omega | (have q9 := or_lt hgn hc; omega)) (fun h_8 => ?_) (fun h_8 => ?_)
                · exact absurd h_8 (by omega)
                · refine X_aload_n dX12_gets_92 rfl ?_
                  refine X_iload dX12_gets_93 rfl ?_
                  refine X_iload_n dX12_gets_95 rfl ?_
                  refine X_aload_n dX12_gets_96 rfl ?_
                  refine X_getr (a := 120) dX12_gets_97 fkX12_37 rfl (k_87 hSh) (r_87_16 hSh) ?_
                  refine X_iload dX12_gets_100 rfl ?_
                  refine X_aaldr (b := 121 + i) i dX12_gets_102 (k_120 hSh) rfl (by first | omega | (have q9 := or_lt hgn hc; omega)) (o_120 hSh i (by first | omega | (have q9 := or_lt hgn hc; omega))) ?_
                  refine X_iconst (v := nI 1) dX12_gets_103 (by decide) ?_
                  refine X_iald 1 dX12_gets_104 (kr_120 hSh i (by first | omega | (have q9 := or_lt hgn hc; omega))) rfl (by first | omega | (have q9 := or_lt hgn hc; omega)) ?_
                  rw [(hry _ hib).2.1]
                  refine X_callVI dX12_gets_105 mkX12_310 (k_87 hSh) (c_worthOf Γ g m2 ml hSh i c ((aP A).2.2.2.2.2.2 i 1) ((aP A).2.2.2.2.2.2 i 1) ((aP A).2.2.2.2.2.2 i 2) (by omega) (by omega) (by have := hP.2.2.2.2.2.2.2 _ hib; omega) (hry _ hib).2.1 (hry _ hib).2.2.1 (by have := hP.2.2.2.2.2.2.2 _ hib; omega) (by have := hP.2.2.2.2.2.2.2 _ hib; omega)) rfl rfl (by decide) (Nat.le_of_ble_eq_true rfl) ?_
                  refine X_topi (show _ = vP (aP A) i c by unfold vP; rw [Nat.max_self, (hrp _ (by omega)).1, (hrp _ (by omega)).2]) ?_
                  refine X_aload_n dX12_gets_108 rfl ?_
                  refine X_getr (a := 437) dX12_gets_109 fkX12_140 rfl (k_87 hSh) (r_87_58 hSh) ?_
                  refine X_iload dX12_gets_112 rfl ?_
                  refine X_iconst (v := nI 1) dX12_gets_114 (by decide) ?_
                  refine X_iadd dX12_gets_115 ?_
                  refine X_topi (nI_add i 1) ?_
                  refine X_aaldr (b := 438 + (i + 1)) (i + 1) dX12_gets_116 (k_437 hSh) rfl (by first | omega | (have q9 := or_lt hgn hc; omega)) (o_437 hSh (i + 1) (by first | omega | (have q9 := or_lt hgn hc; omega))) ?_
                  refine X_iload_n dX12_gets_117 rfl ?_
                  refine X_iconst (v := nI 1) dX12_gets_118 (by decide) ?_
                  refine X_iload_n dX12_gets_119 rfl ?_
                  refine X_ishl dX12_gets_120 ?_
                  refine X_ior dX12_gets_121 ?_
                  refine X_topi (show _ = nI (gnD (aP A) i ||| 2 ^ c) from nb_or _ (by omega) c (by omega)) ?_
                  refine X_iald (gnD (aP A) i ||| 2 ^ c) dX12_gets_122 (kr_437 hSh ((i + 1)) (by first | omega | (have q9 := or_lt hgn hc; omega))) rfl (by first | omega | (have q9 := or_lt hgn hc; omega)) ?_
                  rw [(hr2 c hc)]
                  refine X_iadd dX12_gets_123 ?_
                  refine X_aload_n dX12_gets_124 rfl ?_
                  refine X_getr (a := 437) dX12_gets_125 fkX12_140 rfl (k_87 hSh) (r_87_58 hSh) ?_
                  refine X_iload dX12_gets_128 rfl ?_
                  refine X_aaldr (b := 438 + i) i dX12_gets_130 (k_437 hSh) rfl (by first | omega | (have q9 := or_lt hgn hc; omega)) (o_437 hSh i (by first | omega | (have q9 := or_lt hgn hc; omega))) ?_
                  refine X_iload_n dX12_gets_131 rfl ?_
                  refine X_iald (gnD (aP A) i) dX12_gets_132 (kr_437 hSh i (by first | omega | (have q9 := or_lt hgn hc; omega))) rfl (by first | omega | (have q9 := or_lt hgn hc; omega)) ?_
                  rw [hr0]
                  refine X_icmp_eq 142 dX12_gets_133 (by decide) (fun h_9 => ?_) (fun h_9 => ?_)
                  · exact absurd (show giP (aP A) i (gnD (aP A) i) c = true by unfold giP; rw [ht, decide_eq_true h_9]; rfl) (by rw [hp]; decide)
                  · refine X_iinc (v := nI (c + 1)) dX12_gets_136 rfl (nI_1 _) (by decide) ?_
                    refine X_goto 83 dX12_gets_139 (by decide) ?_
                    refine X_L [(3, .int (nI (c + 1))), (4, .int (nI i)), (2, .int (nI (gnD (aP A) i))), (0, .ref 87), (1, .int (nI b))] ⟨rfl, rfl, rfl, rfl, rfl, trivial⟩ ?_
                    exact hk
            · obtain ⟨c, hc, hq⟩ := gi_ex (P := aP A) hib hne
              rw [hz c hc] at hq; cases hq
          · refine X_goto 148 dX12_gets_78 (by decide) ?_
            refine X_iinc (v := nI (i + 1)) dX12_gets_148 rfl (nI_1 _) (by decide) ?_
            refine X_goto 47 dX12_gets_151 (by decide) ?_
            refine X_L [(4, .int (nI (i + 1))), (3, .int (-1)), (2, .int (nI (gnD (aP A) i))), (0, .ref 87), (1, .int (nI b))] ⟨rfl, rfl, rfl, rfl, rfl, trivial⟩ ?_
            have hgi := gi_no (P := aP A) (by assumption)
            refine X_L [(4, .int (nI (i + 1))), (3, .int (-1)), (2, .int (nI (gnD (aP A) (i + 1)))), (0, .ref 87), (1, .int (nI b))] ⟨rfl, rfl, by rw [gn_no hgi]; rfl, rfl, rfl, trivial⟩ ?_
            exact hn (-1) (fun _ => by show -1 = oI (gift (aP A) i (gnD (aP A) i)); rw [hgi]; rfl)
      · intro y hI
        refine X_iload dX12_gets_47 rfl ?_
        refine X_iload_n dX12_gets_49 rfl ?_
        refine X_icmp_gtN (a := b + 1) (b := b) 154 dX12_gets_50 (by decide) (by omega) (by omega) (fun h_10 => ?_) (fun h_10 => ?_)
        · refine X_iload_n dX12_gets_154 rfl ?_
          exact X_iret dX12_gets_155 rfl ⟨rfl, rfl, RW_I hA hR (RW_L RW_0 hfL), (RW_L RW_0 hfL).2.1, _, rfl, hI (by omega), (RW_L RW_0 hfL).2.2⟩
        · exact absurd h_10 (by omega)
    · exact absurd h_2 (by omega)
  · exact absurd h_1 (by omega)
theorem m_gets (A : AS) (hA : okAS A) (v : Int32) : MOK mX11_gets mX12_gets cd0 [.int v] A := by
  by_cases hg0 : ∃ b, b < aG A ∧ v = nI b
  · obtain ⟨b, hb, rfl⟩ := hg0
    exact ⟨.inl (oI (gift (aP A) b (gnD (aP A) b))), A, hA, fun j h => (by cases h), fun Γ g m l hC => k_gets Γ g m l A hA hC b hb, fun Γ g m l hSh hR => r_gets Γ g m l A hA hSh hR b hb⟩
  · exact ⟨.inr 0, rfA A 0, ok_rf hA, fun j h => by cases h; decide, fun Γ g m l hC => k_gets_f0 Γ g m l A hA hC v hg0, fun Γ g m l hSh hR => r_gets_f0 Γ g m l A hA hSh hR v hg0⟩

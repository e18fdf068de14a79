/-! ===== what changes: the class's state made anew ===== -/
def STC (x : pMI) : Prop := (∀ b, b < 8 → x 28 b = nI b) ∧ (∀ i, i < 8 → x 38 i = nI i) ∧ x 32 10 = nI 0 ∧ x 57 10 = nI 1 ∧ (∀ i, i < 8 → x 63 i = nI i) ∧ x 67 10 = nI 0 ∧ (∀ b, b < 8 → x 43 b = nI b) ∧ x 47 10 = nI 0 ∧ (∀ i, i < 8 → x 53 i = nI i)
theorem CI_STC {A : AS} {g : pGG} {m : pMI} {l : pML} (h : CI A g m l) : STC m := by
  obtain ⟨r, hr⟩ := CI_r h
  have hD := CIr_D hr
  have hs := CI_st h
  exact ⟨fun b hb => (hD.2.2.2.1 b hb).1, hD.2.2.2.2.1, hD.2.2.2.2.2.1, hs.1, hs.2.1, hs.2.2.1, hs.2.2.2.1, hs.2.2.2.2.1, hs.2.2.2.2.2⟩
theorem STC_row {m x : pMI} (h : STC m) (e : ∀ i, i = 28 ∨ i = 38 ∨ i = 32 ∨ i = 57 ∨ i = 63 ∨ i = 67 ∨ i = 43 ∨ i = 47 ∨ i = 53 → x i = m i) : STC x := by
  unfold STC
  rw [e 28 (by omega), e 38 (by omega), e 32 (by omega), e 57 (by omega), e 63 (by omega), e 67 (by omega), e 43 (by omega), e 47 (by omega), e 53 (by omega)]
  exact h
theorem CI_mk {A : AS} {g : pGG} {x : pMI} {l : pML} {im st : Nat} {qi : Nat → Nat} {si : Nat} (hSh : Sh g) (hdyn : DYN g im st qi si) (hcl : clP x (aP A)) (hHb : clHb x (aH A)) (h175 : x 17 5 = mkB (aK A)) (hs : STC x) (h27 : x 27 7 = nI 0 ∧ x 27 9 = nI 0) (hbk : x 24 2 = nI (aBn A) ∧ ∀ k, k < aBn A → ∀ q, q < 3 → x 25 (k * 3 + q) = nI (aB A k q)) (h018 : x 0 18 = nI (aD A)) (hch : x 81 2 = nI (aCn A) ∧ chR x 82 (aG A) (aCn A) (aC A) (snP (aP A))) (him : x 81 3 = nI (aIn A) ∧ aIn A ≤ im ∧ ∀ k, k < aIn A → imC x (qi k) (aG A) (aI A k)) (htp : x 0 17 = nI (aTn A) ∧ ∀ k, k < aTn A → x 1 k = aT A k) (hLR : x 2 4 = aL A ∧ ∀ j, j < 3 → x 86 j = aR A j) (h019 : x 0 19 = nI 0) (hgv : x 77 4 = nI 0 ∨ (x 77 4 = nI 1 ∧ GOK (aP A) x)) (hst : st = 1 → x si 5 = nI 0) : CI A g x l := by
  obtain ⟨s1, s2, s3, s4, s5, s6, s7, s8, s9⟩ := hs
  exact ⟨0, im, st, qi, si, hSh, ⟨hcl, hHb, h175, fun b hb => ⟨s1 b hb, hb⟩, s2, s3, h27.1, by omega, fun d hd => absurd hd (by omega), 0, 0, h27.2, by omega, fun _ => ⟨fun h => absurd h (by omega), fun _ d hd => absurd hd (by omega)⟩, fun h => absurd h (by omega)⟩, hbk, h018, hch, him, htp, hLR, Or.inl h019, ⟨s4, s5, s6, s7, s8, s9⟩, hgv, hdyn, fun h => ⟨0, hst h, Or.inl rfl⟩⟩
/-- the same state, but for pool, day, changes, images -/
theorem CI_new {A A' : AS} {g g' : pGG} {m x : pMI} {l l' : pML} {r im st im' : Nat} {qi qi' : Nat → Nat} {si : Nat} (h : CIx A g m l r im st qi si) (hSh : Sh g') (hdyn : DYN g' im' st qi' si) (hH : A'.2.1 = A.2.1) (hK : A'.2.2.1 = A.2.2.1) (hB : A'.2.2.2.1 = A.2.2.2.1) (hT : A'.2.2.2.2.2.2.2 = A.2.2.2.2.2.2.2) (hcl : clP x (aP A')) (e : ∀ i, i < 87 → i ≠ 0 → i ≠ 3 → i ≠ 6 → i ≠ 27 → i ≠ 81 → i ≠ 82 → x i = m i) (h0 : x 0 17 = m 0 17) (h27 : x 27 7 = nI 0 ∧ x 27 9 = nI 0) (h018 : x 0 18 = nI (aD A')) (h019 : x 0 19 = nI 0) (hch : x 81 2 = nI (aCn A') ∧ chR x 82 (aG A') (aCn A') (aC A') (snP (aP A'))) (him : x 81 3 = nI (aIn A') ∧ aIn A' ≤ im' ∧ ∀ k, k < aIn A' → imC x (qi' k) (aG A') (aI A' k)) (hGK : ∀ z, GOK (aP A) z → GOK (aP A') z) (hst : st = 1 → x si 5 = nI 0) : CI A' g' x l' := by
  have hs := CI_STC ⟨r, im, st, qi, si, h⟩
  obtain ⟨c1, c2, c3, c4, c5, c6, c7, c8, c9, c10, c11, c12, c13⟩ := h
  obtain ⟨P', H', K', B', D', C', I', T'⟩ := A'
  obtain ⟨P, H, K, B, D, C, I, T⟩ := A
  dsimp only at hH hK hB hT
  subst hH hK hB hT
  refine CI_mk hSh hdyn hcl (clHb_row (e 18 (by omega) (by omega) (by omega) (by omega) (by omega) (by omega) (by omega)) (e 19 (by omega) (by omega) (by omega) (by omega) (by omega) (by omega) (by omega)) c2.2.1) ?_ (STC_row hs (fun i hi => e i (by omega) (by omega) (by omega) (by omega) (by omega) (by omega) (by omega))) h27 ?_ h018 hch him ?_ ?_ h019 ?_ hst
  · rw [e 17 (by omega) (by omega) (by omega) (by omega) (by omega) (by omega) (by omega)]; exact c2.2.2.1
  · rw [e 24 (by omega) (by omega) (by omega) (by omega) (by omega) (by omega) (by omega), e 25 (by omega) (by omega) (by omega) (by omega) (by omega) (by omega) (by omega)]; exact c3
  · rw [e 1 (by omega) (by omega) (by omega) (by omega) (by omega) (by omega) (by omega), h0]; exact c7
  · rw [e 2 (by omega) (by omega) (by omega) (by omega) (by omega) (by omega) (by omega), e 86 (by omega) (by omega) (by omega) (by omega) (by omega) (by omega) (by omega)]; exact c8
  · have e7 := e 77 (by omega) (by omega) (by omega) (by omega) (by omega) (by omega) (by omega)
    rw [e7]
    rcases c11 with q | ⟨q1, q2⟩
    · exact Or.inl q
    · exact Or.inr ⟨q1, hGK _ (GOK_row q2 (by rw [e7]) (e 78 (by omega) (by omega) (by omega) (by omega) (by omega) (by omega) (by omega)) (e 80 (by omega) (by omega) (by omega) (by omega) (by omega) (by omega) (by omega)))⟩
/-! the days forgotten -/
def FGD (st si : Nat) (m x : pMI) : Prop := (∀ i, i ≠ 0 → i ≠ 27 → (st = 1 → i ≠ si) → x i = m i) ∧ (∀ j, j ≠ 19 → x 0 j = m 0 j) ∧ x 0 19 = nI 0 ∧ x 27 7 = nI 0 ∧ x 27 9 = nI 0 ∧ (st = 1 → x si 5 = nI 0)
set_option maxRecDepth 100000 in
set_option maxHeartbeats 4000000 in
theorem c_Sforget (Γ : pTG) (g : pGG) (mi : pMI) (ml : pML) (s : Nat) (hk : g.2.1 s = (9, 0)) : cV Γ 1 mX9_forget [.ref s] g mi ml (up2 mi s 5 (nI 0)) ml := by
  refine cV_of (by decide +kernel) (Nat.le_of_ble_eq_true rfl) ?_
  refine X_aload_n dX9_forget_0 rfl ?_
  refine X_iconst (v := nI 0) dX9_forget_1 (by decide) ?_
  refine X_puti dX9_forget_2 fkX9_29 rfl rfl hk ?_
  exact X_vret dX9_forget_5 rfl ⟨rfl, rfl, rfl, rfl⟩
set_option maxRecDepth 100000 in
set_option maxHeartbeats 4000000 in
theorem c_forgetD0 (Γ : pTG) (g : pGG) (mi : pMI) (ml : pML) (hSh : Sh g) (im si : Nat) (qi : Nat → Nat) (hd : DYN g im 0 qi si) : rV Γ 2 mX11_forgetDays [.ref 0] g mi ml (fun m l => FGD 0 si mi m ∧ l = ml) := by
  refine rV_of (by decide +kernel) (Nat.le_of_ble_eq_true rfl) ?_
  skip
  refine X_aload_n dX11_forgetDays_0 rfl ?_
  refine X_getr (a := 27) dX11_forgetDays_1 fkX11_60 rfl (k_0 hSh) (r_0_7 hSh) ?_
  refine X_callVV dX11_forgetDays_4 mkX11_351 (k_27 hSh) (c_Dforget Γ g mi ml 27 (k_27 hSh)) rfl rfl (by decide) (Nat.le_of_ble_eq_true rfl) ?_
  refine X_aload_n dX11_forgetDays_7 rfl ?_
  refine X_iconst (v := nI 0) dX11_forgetDays_8 (by decide) ?_
  refine X_putz dX11_forgetDays_9 fkX11_211 rfl (by first | exact Or.inl rfl | exact Or.inr rfl | assumption) rfl (k_0 hSh) ?_
  refine X_aload_n dX11_forgetDays_12 rfl ?_
  refine X_getq dX11_forgetDays_13 fkX11_278 rfl (k_0 hSh) ?_
  refine X_ifnull 26 dX11_forgetDays_16 (by decide) (fun _ => ?_) (fun a h => absurd h (by rw [hd.2.2.2.2.2.2.2.1 rfl]; exact fun q => by cases q))
  exact X_vret dX11_forgetDays_26 rfl ⟨rfl, rfl, ⟨fun i h1 h2 h3 => by rw [up2_row h1, up2_row h2, up2_row h2, up2_row h2], fun j hj => by rw [up2_n hj, up2_row (by omega), up2_row (by omega), up2_row (by omega)], up2_s, by rw [up2_row (by omega), up2_n (by omega), up2_n (by omega), up2_s], by rw [up2_row (by omega), up2_s], fun h => absurd h (by omega)⟩, rfl⟩
set_option maxRecDepth 100000 in
set_option maxHeartbeats 4000000 in
theorem c_forgetD1 (Γ : pTG) (g : pGG) (mi : pMI) (ml : pML) (hSh : Sh g) (im si : Nat) (qi : Nat → Nat) (hd : DYN g im 1 qi si) : rV Γ 2 mX11_forgetDays [.ref 0] g mi ml (fun m l => FGD 1 si mi m ∧ l = ml) := by
  refine rV_of (by decide +kernel) (Nat.le_of_ble_eq_true rfl) ?_
  have hs3 := (hd.2.2.2.2.2.2.2.2 rfl).2.2.1
  refine X_aload_n dX11_forgetDays_0 rfl ?_
  refine X_getr (a := 27) dX11_forgetDays_1 fkX11_60 rfl (k_0 hSh) (r_0_7 hSh) ?_
  refine X_callVV dX11_forgetDays_4 mkX11_351 (k_27 hSh) (c_Dforget Γ g mi ml 27 (k_27 hSh)) rfl rfl (by decide) (Nat.le_of_ble_eq_true rfl) ?_
  refine X_aload_n dX11_forgetDays_7 rfl ?_
  refine X_iconst (v := nI 0) dX11_forgetDays_8 (by decide) ?_
  refine X_putz dX11_forgetDays_9 fkX11_211 rfl (by first | exact Or.inl rfl | exact Or.inr rfl | assumption) rfl (k_0 hSh) ?_
  refine X_aload_n dX11_forgetDays_12 rfl ?_
  refine X_getr (a := si) dX11_forgetDays_13 fkX11_278 rfl (k_0 hSh) (hd.2.2.2.2.2.2.2.2 rfl).1 ?_
  refine X_ifnull (r := some si) 26 dX11_forgetDays_16 (by decide) (fun h => by cases h) (fun _ _ => ?_)
  refine X_aload_n dX11_forgetDays_19 rfl ?_
  refine X_getr (a := si) dX11_forgetDays_20 fkX11_278 rfl (k_0 hSh) (hd.2.2.2.2.2.2.2.2 rfl).1 ?_
  refine X_callVV dX11_forgetDays_23 mkX11_385 (hd.2.2.2.2.2.2.2.2 rfl).2.1.1 (c_Sforget Γ g (up2 (up2 (up2 (up2 mi 27 7 (nI 0)) 27 8 (-1)) 27 9 (nI 0)) 0 19 (nI 0)) ml si (hd.2.2.2.2.2.2.2.2 rfl).2.1.1) rfl rfl (by decide) (Nat.le_of_ble_eq_true rfl) ?_
  exact X_vret dX11_forgetDays_26 rfl ⟨rfl, rfl, ⟨fun i h1 h2 h3 => by rw [up2_row (h3 rfl), up2_row h1, up2_row h2, up2_row h2, up2_row h2], fun j hj => by rw [up2_row (by omega), up2_n hj, up2_row (by omega), up2_row (by omega), up2_row (by omega)], by rw [up2_row (by omega), up2_s], by rw [up2_row (by omega), up2_row (by omega), up2_n (by omega), up2_n (by omega), up2_s], by rw [up2_row (by omega), up2_row (by omega), up2_s], fun _ => up2_s⟩, rfl⟩
theorem c_forgetD (Γ : pTG) (g : pGG) (mi : pMI) (ml : pML) (hSh : Sh g) (im st si : Nat) (qi : Nat → Nat) (hd : DYN g im st qi si) : rV Γ 2 mX11_forgetDays [.ref 0] g mi ml (fun m l => FGD st si mi m ∧ l = ml) := by
  have h1 := hd.2.1
  match st, h1 with
  | 0, _ => exact c_forgetD0 Γ g mi ml hSh im si qi hd
  | 1, _ => exact c_forgetD1 Γ g mi ml hSh im si qi hd
/-! changes pushed and popped -/
theorem ch_push {m x : pMI} {R nG n : Nat} {sn : Nat → SNP} {cur cur' : SNP} (h : chR m R nG n sn cur) (hx : ∀ j, j < n * 3 → x R j = m R j) (hk : chK nG (x R (n * 3)) (x R (n * 3 + 1)) (x R (n * 3 + 2)) cur cur') : chR x R nG (n + 1) (ud sn n cur) cur' := fun k hkn => by
  by_cases q : k = n
  · subst q
    rw [ud_s, if_pos rfl]; exact hk
  · have h1 := h k (by omega)
    rw [ud_n q, hx _ (by omega), hx _ (by omega), hx _ (by omega), if_neg (by omega)]
    by_cases q2 : k + 1 = n
    · rw [if_pos q2] at h1; rw [q2, ud_s]; exact h1
    · rw [if_neg q2] at h1; rw [ud_n q2]; exact h1
theorem ch_pop {m : pMI} {R nG n : Nat} {sn : Nat → SNP} {cur : SNP} (h : chR m R nG (n + 1) sn cur) : chR m R nG n sn (sn n) := fun k hk => by
  have h1 := h k (by omega)
  rw [if_neg (by omega)] at h1
  by_cases q : k + 1 = n
  · rw [if_pos q, ← q]; exact h1
  · rw [if_neg q]; exact h1
theorem vP_st (P : PD) (s : SNP) : vP (stP P s) = vP P := by funext b c; rfl
theorem gift_st (P : PD) (s : SNP) (b gone : Nat) : gift (stP P s) b gone = gift P b gone := by
  unfold gift
  rw [vP_st]
  rfl
theorem gnD_st (P : PD) (s : SNP) : ∀ b, gnD (stP P s) b = gnD P b
  | 0 => rfl
  | b + 1 => by
    show (match gift (stP P s) b (gnD (stP P s) b) with
      | none => gnD (stP P s) b
      | some c => gnD (stP P s) b ||| 2 ^ c) = (match gift P b (gnD P b) with
      | none => gnD P b
      | some c => gnD P b ||| 2 ^ c)
    rw [gnD_st P s b, gift_st]
theorem GOK_st {P : PD} {s : SNP} {z : pMI} (h : GOK P z) : GOK (stP P s) z := by
  refine ⟨fun b hb c hc => by rw [vP_st]; exact h.1 b hb c hc, by rw [vP_st]; exact h.2.1, fun b hb => by rw [gnD_st, gift_st]; exact h.2.2 b hb⟩
theorem okP_st {P : PD} {s : SNP} (hP : okPD P) (hs : okSn P.2.1 s) : okPD (stP P s) := by
  refine ⟨hP.1, hP.2.1, hs.1, hs.2.1, hs.2.2.1, hs.2.2.2.1, hP.2.2.2.2.2.2.1, fun b hb => ?_⟩
  have := hP.2.2.2.2.2.2.2 b hb
  exact ⟨hs.2.2.2.2 b hb, this.2⟩
theorem okS_P {P : PD} (hP : okPD P) : okSn P.2.1 (snP P) := ⟨hP.2.2.1, hP.2.2.2.1, hP.2.2.2.2.1, hP.2.2.2.2.2.1, fun b hb => (hP.2.2.2.2.2.2.2 b hb).1⟩
/-- a change made -/
def chA (A : AS) (s : SNP) : AS := (stP (aP A) s, A.2.1, A.2.2.1, A.2.2.2.1, A.2.2.2.2.1, (aCn A + 1, ud (aC A) (aCn A) (snP (aP A))), A.2.2.2.2.2.2)
theorem okc_ch {A : AS} {s : SNP} (hA : okAS A) (hn : aCn A < 20) (hs : okSn (aG A) s) : okAS (chA A s) := by
  obtain ⟨h1, h2, h3, h4, h5, h6, h7, h8, h9, h10⟩ := hA
  refine ⟨okP_st h1 hs, h2, h3, h4, h5, hn, fun k hk => ?_, h8, h9, h10⟩
  show okSn (aG A) (ud (aC A) (aCn A) (snP (aP A)) k)
  have hk : k < aCn A + 1 := hk
  by_cases q : k = aCn A
  · subst q; rw [ud_s]; exact okS_P h1
  · rw [ud_n q]; exact h7 k (by omega)
theorem CI_dyn {A : AS} {g : pGG} {m : pMI} {l : pML} (h : CI A g m l) : ∃ r im st qi si, CIx A g m l r im st qi si := h
/-- the class, a change made: what the changes' rows and the pool must be -/
theorem CI_ch {A : AS} {g : pGG} {m y x : pMI} {l : pML} {r im st : Nat} {qi : Nat → Nat} {si : Nat} {s : SNP} (h : CIx A g m l r im st qi si) (hy : ∀ i, i ≠ 3 → i ≠ 6 → i ≠ 81 → i ≠ 82 → y i = m i) (hcl : clP y (stP (aP A) s)) (h812 : y 81 2 = nI (aCn A + 1)) (h813 : y 81 3 = m 81 3) (h82 : ∀ j, j < aCn A * 3 → y 82 j = m 82 j) (hk : chK (aG A) (y 82 (aCn A * 3)) (y 82 (aCn A * 3 + 1)) (y 82 (aCn A * 3 + 2)) (snP (aP A)) s) (hx : FGD st si y x) : CI (chA A s) g x l := by
  have hh := h
  obtain ⟨c1, c2, c3, c4, c5, c6, c7, c8, c9, c10, c11, c12, c13⟩ := hh
  have hs4 : st = 1 → 451 ≤ si := fun q => (c12.2.2.2.2.2.2.2.2 q).2.2.1
  have ne : ∀ i, i < 451 → (st = 1 → i ≠ si) := fun i hi q => by have := hs4 q; omega
  have e : ∀ i, i < 451 → i ≠ 0 → i ≠ 27 → x i = y i := fun i hi h1 h2 => hx.1 i h1 h2 (ne i hi)
  refine CI_new h c1 c12 rfl rfl rfl rfl (clP_row (fun i h1 h2 => e i (by omega) (by omega) (by omega)) hcl) (fun i h1 h2 h3 h4 h5 h6 h7 => (e i (by omega) h2 h5).trans (hy i h3 h4 h6 h7)) ((hx.2.1 17 (by omega)).trans (by rw [hy 0 (by omega) (by omega) (by omega) (by omega)])) ⟨hx.2.2.2.1, hx.2.2.2.2.1⟩ ?_ hx.2.2.1 ⟨?_, ?_⟩ ⟨?_, c6.2.1, fun k hk2 => ?_⟩ (fun z hz => GOK_st hz) hx.2.2.2.2.2
  · rw [hx.2.1 18 (by omega), hy 0 (by omega) (by omega) (by omega) (by omega)]; exact c4
  · rw [e 81 (by omega) (by omega) (by omega)]; exact h812
  · refine chR_row ?_ (e 82 (by omega) (by omega) (by omega))
    exact ch_push c5.2 h82 hk
  · rw [e 81 (by omega) (by omega) (by omega), h813]; exact c6.1
  · have hk2 : k < aIn A := hk2
    have hq := c12.2.2.2.2.2.1 k (Nat.lt_of_lt_of_le hk2 c6.2.1)
    have hq3 := hq.2.2.1
    have hsi : ∀ i, qi k ≤ i → i < qi k + 3 → (st = 1 → i ≠ si) := fun i h1 h2 q => by
      have := (c12.2.2.2.2.2.2.2.2 q).2.2.2.2 k (Nat.lt_of_lt_of_le hk2 c6.2.1)
      omega
    have e2 : ∀ i, qi k ≤ i → i < qi k + 3 → x i = m i := fun i h1 h2 => (hx.1 i (by omega) (by omega) (hsi i h1 h2)).trans (hy i (by omega) (by omega) (by omega) (by omega))
    exact imC_row (c6.2.2 k hk2) (e2 _ (by omega) (by omega)) (e2 _ (by omega) (by omega)) (e2 _ (by omega) (by omega))
theorem FGD_K {st si : Nat} {y x : pMI} (hx : FGD st si y x) (hs : st = 1 → 451 ≤ si) : frK y x := fun i h1 h2 => hx.1 i (by omega) (by omega) (fun q => by have := hs q; omega)
/-- the reference, a change made -/
theorem RI_ch {A : AS} {m x : pMI} {s : SNP} (h : RI A m) (hn : aCn A < 20) (hI : aIn A ≤ 3) (e : ∀ i, i ≠ 87 → i ≠ 91 → ¬ (121 ≤ i ∧ i ≤ 128) → i ≠ 169 + aCn A → x i = m i) (e7 : ∀ j, j ≠ 0 → j ≠ 30 → j ≠ 32 → x 87 j = m 87 j) (h30 : x 87 30 = nI (aCn A + 1)) (hsn : rfSn x (169 + aCn A) 0 (aG A) (snP (aP A))) (hP : rfP x (stP (aP A) s)) (hB : aBn A ≤ 12) : RI (chA A s) x := by
  obtain ⟨r1, r2, r3, r4, r5, r6, r7, r8, r9, r10⟩ := h
  refine ⟨hP, rfHb_w r2 (fun i hi => e i (by omega) (by omega) (by omega) (by omega)), fun b hb => by rw [e 193 (by omega) (by omega) (by omega) (by omega)]; exact r3 b hb, ⟨(e7 28 (by omega) (by omega) (by omega)).trans r4.1, fun k hk q hq => by have hk : k < aBn A := hk; rw [e (143 + k) (by omega) (by omega) (by omega) (by omega)]; exact r4.2 k hk q hq⟩, (e7 29 (by omega) (by omega) (by omega)).trans r5, ⟨h30, fun k hk => ?_⟩, ⟨(e7 31 (by omega) (by omega) (by omega)).trans r7.1, fun k hk => rfIm_row (r7.2 k hk) (e _ (by omega) (by omega) (by omega) (by omega))⟩, ⟨(e7 1 (by omega) (by omega) (by omega)).trans r8.1, fun k hk => by rw [e 88 (by omega) (by omega) (by omega) (by omega)]; exact r8.2 k hk⟩, (e7 3 (by omega) (by omega) (by omega)).trans r9, fun j hj => by rw [e 89 (by omega) (by omega) (by omega) (by omega)]; exact r10 j hj⟩
  have hk : k < aCn A + 1 := hk
  show rfSn x (169 + k) 0 (aG A) (ud (aC A) (aCn A) (snP (aP A)) k)
  by_cases q : k = aCn A
  · rw [q, ud_s]; exact hsn
  · rw [ud_n q]; exact rfSn_row (r6.2 k (by omega)) (e _ (by omega) (by omega) (by omega) (by omega))
/-- what the reference's changes leave -/
def chQ (m : pMI) (n : Nat) : pMI := up2 (pwF (up2 m 87 32 (nI 0)) (169 + n) 0 (srcN (up2 m 87 32 (nI 0))) 11) 87 30 (nI (n + 1))
theorem chQ_row {m : pMI} {n i : Nat} (h7 : i ≠ 87) (hn : i ≠ 169 + n) : chQ m n i = m i := by
  funext j
  unfold chQ
  rw [up2_row h7, pwF_r hn (fun q => h7 q.1), up2_row h7]
theorem chQ_87 {m : pMI} {n j : Nat} (h0 : j ≠ 30) (h2 : j ≠ 32) : chQ m n 87 j = m 87 j := by
  unfold chQ
  rw [up2_n h0, pwF_r (by omega) (fun q => h2 q.2), up2_n h2]
theorem chQ_sn {A : AS} {m : pMI} (hA : okAS A) (hn : aCn A < 20) (h : rfP m (aP A)) : rfSn (chQ m (aCn A)) (169 + aCn A) 0 (aG A) (snP (aP A)) := by
  have hG8 : aG A ≤ 8 := hA.1.2.1
  have e : ∀ k, k < 11 → chQ m (aCn A) (169 + aCn A) k = srcN (up2 m 87 32 (nI 0)) k := fun k hk => by
    unfold chQ
    rw [up2_row (by omega)]
    show (if 169 + aCn A = 169 + aCn A ∧ 0 ≤ k ∧ k < 0 + 11 then _ else _) = _
    rw [if_pos ⟨rfl, by omega, by omega⟩, Nat.sub_zero]
  refine ⟨?_, ?_, ?_, fun b hb => ?_⟩
  · rw [e 0 (by omega), src_1 (by omega), up2_row (by omega)]; exact h.2.2.1
  · rw [e (0 + 1) (by omega), src_1 (by omega), up2_row (by omega)]; exact h.2.2.2.1
  · rw [e (0 + 2) (by omega), src_1 (by omega), up2_row (by omega)]; exact h.2.2.2.2.1
  · have hb8 : b < 8 := by have hb : b < aG A := hb; omega
    rw [show 0 + 3 + b = 3 + b by omega, e (3 + b) (by omega), src_2 hb8, up2_row (by omega)]; exact (h.2.2.2.2.2.2 b hb).1
set_option maxRecDepth 100000 in
set_option maxHeartbeats 4000000 in
theorem c_changes1 (Γ : pTG) (g : pGG) (mi : pMI) (ml : pML) (hSh : Sh g) (n : Nat) (hn : mi 87 30 = nI n) (h20 : n < 20) : cI Γ 3 mX12_changes [.ref 87] g mi ml (nI 1) (chQ mi n) := by
  refine cI_of (by decide +kernel) (Nat.le_of_ble_eq_true rfl) ?_
  refine X_aload_n dX12_changes_0 rfl ?_
  refine X_geti dX12_changes_1 fkX12_247 rfl (k_87 hSh) ?_
  rw [hn]
  refine X_bipush (v := nI 20) dX12_changes_4 (by decide) ?_
  refine X_icmp_neN (a := n) (b := 20) 11 dX12_changes_6 (by decide) (by omega) (by omega) (fun h_1 => ?_) (fun h_1 => ?_)
  · refine X_aload_n dX12_changes_11 rfl ?_
    refine X_iconst (v := nI 0) dX12_changes_12 (by decide) ?_
    refine X_puti dX12_changes_13 fkX12_400 rfl rfl (k_87 hSh) ?_
    refine X_aload_n dX12_changes_16 rfl ?_
    refine X_aload_n dX12_changes_17 rfl ?_
    refine X_getr (a := 168) dX12_changes_18 fkX12_61 rfl (k_87 hSh) (r_87_24 hSh) ?_
    refine X_aload_n dX12_changes_21 rfl ?_
    refine X_geti dX12_changes_22 fkX12_247 rfl (k_87 hSh) ?_
    refine X_topi (show (up2 mi 87 32 (nI 0)) 87 30 = nI n by rw [up2_n (by omega)]; exact hn) ?_
    refine X_aaldr (b := 169 + n) n dX12_changes_25 (k_168 hSh) rfl (by omega) (o_168 hSh n (by omega)) ?_
    refine X_iconst (v := nI 0) dX12_changes_26 (by decide) ?_
    refine X_callVV dX12_changes_27 mkX12_407 (k_87 hSh) (c_putsChanged0 Γ g (up2 mi 87 32 (nI 0)) ml hSh (169 + n) 11 0 (kr_168 hSh n (by omega)) (by omega) up2_s (by omega) (by omega)) rfl rfl (by decide) (Nat.le_of_ble_eq_true rfl) ?_
    refine X_aload_n dX12_changes_30 rfl ?_
    refine X_dup dX12_changes_31 rfl ?_
    refine X_geti dX12_changes_32 fkX12_247 rfl (k_87 hSh) ?_
    rw [((pwF_r (by omega) (by omega)).trans ((up2_n (by omega)).trans hn))]
    refine X_iconst (v := nI 1) dX12_changes_35 (by decide) ?_
    refine X_iadd dX12_changes_36 ?_
    refine X_topi (nI_add n 1) ?_
    refine X_puti dX12_changes_37 fkX12_247 rfl rfl (k_87 hSh) ?_
    refine X_iconst (v := nI 1) dX12_changes_40 (by decide) ?_
    exact X_zret (ty := .boolean) dX12_changes_41 rfl (by first | decide | (rcases bI_01 _ with q | q <;> rw [q] <;> decide)) ⟨by rfl, rfl, rfl, rfl⟩
  · exact absurd h_1 (by omega)
set_option maxRecDepth 100000 in
set_option maxHeartbeats 4000000 in
theorem c_changes0 (Γ : pTG) (g : pGG) (mi : pMI) (ml : pML) (hSh : Sh g) (hn : mi 87 30 = nI 20) : cI Γ 3 mX12_changes [.ref 87] g mi ml (nI 0) mi := by
  refine cI_of (by decide +kernel) (Nat.le_of_ble_eq_true rfl) ?_
  refine X_aload_n dX12_changes_0 rfl ?_
  refine X_geti dX12_changes_1 fkX12_247 rfl (k_87 hSh) ?_
  rw [hn]
  refine X_bipush (v := nI 20) dX12_changes_4 (by decide) ?_
  refine X_icmp_neN (a := 20) (b := 20) 11 dX12_changes_6 (by decide) (by omega) (by omega) (fun h_1 => ?_) (fun h_1 => ?_)
  · exact absurd h_1 (by omega)
  · refine X_iconst (v := nI 0) dX12_changes_9 (by decide) ?_
    exact X_zret (ty := .boolean) dX12_changes_10 rfl (by first | decide | (rcases bI_01 _ with q | q <;> rw [q] <;> decide)) ⟨by rfl, rfl, rfl, rfl⟩
set_option maxRecDepth 100000 in
set_option maxHeartbeats 4000000 in
theorem k_hotel_f0 (Γ : pTG) (g : pGG) (mi : pMI) (ml : pML) (A : AS) (hA : okAS A) (hC : CI A g mi ml) (xa : Int32) (hf : ¬ (nI 0 ≤ xa ∧ xa ≤ nI 23)) (xb : Int32) : CT Γ 60 20 5000 mX11_hotel [.ref 0, .int xa, .int xb] g mi ml (CQ (rfA A 1) (.inr 1) mi ml) := by
  refine CT_of (by decide +kernel) (Nat.le_of_ble_eq_true rfl) ?_
  have hSh := CI_Sh hC
  have hcl := CI_cl hC
  have hP := hA.1
  have hG8 : aG A ≤ 8 := hP.2.1
  have hC8 : (aP A).1 ≤ 8 := hP.1
  refine X_aload_n dX11_hotel_0 rfl ?_
  refine X_iload_n dX11_hotel_1 rfl ?_
  refine X_iconst (v := nI 0) dX11_hotel_2 (by decide) ?_
  refine X_bipush (v := nI 23) dX11_hotel_3 (by decide) ?_
  exact X_need dX11_hotel_5 mkX11_116 (k_0 hSh) (c_needWithin Γ g mi ml hSh xa (nI 0) (nI 23)) rfl rfl (by decide) (by decide) (by decide) (by decide) (fun _ => ⟨rfl, CI_rf (by decide) hC, frK_86, rfl⟩) (fun h => absurd h hf)
set_option maxRecDepth 100000 in
set_option maxHeartbeats 4000000 in
theorem r_hotel_f0 (Γ : pTG) (g : pGG) (mi : pMI) (ml : pML) (A : AS) (hA : okAS A) (hSh : Sh g) (hR : RI A mi) (xa : Int32) (hf : ¬ (nI 0 ≤ xa ∧ xa ≤ nI 23)) (xb : Int32) : CT Γ 60 0 0 mX12_hotel [.ref 87, .int xa, .int xb] g mi ml (RQ (rfA A 1) (.inr 1) cd1 g mi ml) := by
  refine CT_of (by decide +kernel) (Nat.le_of_ble_eq_true rfl) ?_
  have hP := hA.1
  have hG8 : aG A ≤ 8 := hP.2.1
  have hC8 : (aP A).1 ≤ 8 := hP.1
  refine X_aload_n dX12_hotel_0 rfl ?_
  refine X_iconst (v := nI 0) dX12_hotel_1 (by decide) ?_
  refine X_puti dX12_hotel_2 fkX12_158 rfl rfl (k_87 hSh) ?_
  refine X_aload_n dX12_hotel_5 rfl ?_
  refine X_iload_n dX12_hotel_6 rfl ?_
  refine X_callSI dX12_hotel_7 mkX12_298 (c_isHalf Γ g (up2 mi 87 0 (nI 0)) ml xa) rfl rfl (by decide) (Nat.le_of_ble_eq_true rfl) ?_
  refine X_topi (show bI (decide (nI 0 ≤ xa) && decide (xa ≤ nI 23)) = nI 0 from congrArg bI (show (decide (nI 0 ≤ xa) && decide (xa ≤ nI 23)) = false from Bool.eq_false_iff.mpr (fun q => hf (by rw [Bool.and_eq_true, decide_eq_true_eq, decide_eq_true_eq] at q; exact q)))) ?_
  refine X_if_eqN (a := 0) 23 dX12_hotel_10 (by decide) (by omega) (fun h_1 => ?_) (fun h_1 => ?_)
  · refine X_iconst (v := nI 1) dX12_hotel_23 (by decide) ?_
    refine X_goto 28 dX12_hotel_24 (by decide) ?_
    refine X_iconst (v := nI 1) dX12_hotel_28 (by decide) ?_
    refine X_iconst (v := nI 1) dX12_hotel_29 (by decide) ?_
    refine X_callVI dX12_hotel_30 mkX12_228 (k_87 hSh) (c_bad1 Γ g (up2 mi 87 0 (nI 0)) ml hSh 1 1 (by decide) (by decide) (by decide) up2_s) rfl rfl (by decide) (Nat.le_of_ble_eq_true rfl) ?_
    refine X_mi (show _ = mB mi 1 1 from rfl) ?_
    refine X_if_eqN (a := 1) 38 dX12_hotel_33 (by decide) (by omega) (fun h_2 => ?_) (fun h_2 => ?_)
    · exact absurd h_2 (by omega)
    · refine X_iconst (v := nI 0) dX12_hotel_36 (by decide) ?_
      exact X_iret dX12_hotel_37 rfl ⟨rfl, rfl, RI_rf hA (by decide) hR, fr2_B, _, rfl, mB_0⟩
  · exact absurd h_1 (by omega)
set_option maxRecDepth 100000 in
set_option maxHeartbeats 4000000 in
theorem k_hotel_f1 (Γ : pTG) (g : pGG) (mi : pMI) (ml : pML) (A : AS) (hA : okAS A) (hC : CI A g mi ml) (ka : Nat) (hkaa : 0 ≤ ka) (hka : ka ≤ 23) (xb : Int32) (hf : ¬ (nI 1 ≤ xb ∧ xb ≤ nI 23)) : CT Γ 60 20 5000 mX11_hotel [.ref 0, .int (nI ka), .int xb] g mi ml (CQ (rfA A 1) (.inr 1) mi ml) := by
  refine CT_of (by decide +kernel) (Nat.le_of_ble_eq_true rfl) ?_
  have hSh := CI_Sh hC
  have hcl := CI_cl hC
  have hP := hA.1
  have hG8 : aG A ≤ 8 := hP.2.1
  have hC8 : (aP A).1 ≤ 8 := hP.1
  refine X_aload_n dX11_hotel_0 rfl ?_
  refine X_iload_n dX11_hotel_1 rfl ?_
  refine X_iconst (v := nI 0) dX11_hotel_2 (by decide) ?_
  refine X_bipush (v := nI 23) dX11_hotel_3 (by decide) ?_
  refine X_need dX11_hotel_5 mkX11_116 (k_0 hSh) (c_needWithin Γ g mi ml hSh (nI ka) (nI 0) (nI 23)) rfl rfl (by decide) (by decide) (by decide) (by decide) (fun h => absurd (⟨nI_le (by omega) (by omega), nI_le (by omega) (by omega)⟩) h) (fun _ => ?_)
  refine X_aload_n dX11_hotel_8 rfl ?_
  refine X_iload_n dX11_hotel_9 rfl ?_
  refine X_iconst (v := nI 1) dX11_hotel_10 (by decide) ?_
  refine X_bipush (v := nI 23) dX11_hotel_11 (by decide) ?_
  exact X_need dX11_hotel_13 mkX11_116 (k_0 hSh) (c_needWithin Γ g mi ml hSh xb (nI 1) (nI 23)) rfl rfl (by decide) (by decide) (by decide) (by decide) (fun _ => ⟨rfl, CI_rf (by decide) hC, frK_86, rfl⟩) (fun h => absurd h hf)
set_option maxRecDepth 100000 in
set_option maxHeartbeats 4000000 in
theorem r_hotel_f1 (Γ : pTG) (g : pGG) (mi : pMI) (ml : pML) (A : AS) (hA : okAS A) (hSh : Sh g) (hR : RI A mi) (ka : Nat) (hkaa : 0 ≤ ka) (hka : ka ≤ 23) (xb : Int32) (hf : ¬ (nI 1 ≤ xb ∧ xb ≤ nI 23)) : CT Γ 60 0 0 mX12_hotel [.ref 87, .int (nI ka), .int xb] g mi ml (RQ (rfA A 1) (.inr 1) cd1 g mi ml) := by
  refine CT_of (by decide +kernel) (Nat.le_of_ble_eq_true rfl) ?_
  have hP := hA.1
  have hG8 : aG A ≤ 8 := hP.2.1
  have hC8 : (aP A).1 ≤ 8 := hP.1
  refine X_aload_n dX12_hotel_0 rfl ?_
  refine X_iconst (v := nI 0) dX12_hotel_1 (by decide) ?_
  refine X_puti dX12_hotel_2 fkX12_158 rfl rfl (k_87 hSh) ?_
  refine X_aload_n dX12_hotel_5 rfl ?_
  refine X_iload_n dX12_hotel_6 rfl ?_
  refine X_callSI dX12_hotel_7 mkX12_298 (c_isHalf Γ g (up2 mi 87 0 (nI 0)) ml (nI ka)) rfl rfl (by decide) (Nat.le_of_ble_eq_true rfl) ?_
  refine X_topi (show bI (decide (nI 0 ≤ nI ka) && decide (nI ka ≤ nI 23)) = nI 1 from congrArg bI (show (decide (nI 0 ≤ nI ka) && decide (nI ka ≤ nI 23)) = true from by rw [decide_eq_true (nI_le (by omega) (by omega)), decide_eq_true (nI_le (by omega) (by omega))]; rfl)) ?_
  refine X_if_eqN (a := 1) 23 dX12_hotel_10 (by decide) (by omega) (fun h_1 => ?_) (fun h_1 => ?_)
  · exact absurd h_1 (by omega)
  · refine X_iload_n dX12_hotel_13 rfl ?_
    refine X_iconst (v := nI 1) dX12_hotel_14 (by decide) ?_
    refine X_bipush (v := nI 23) dX12_hotel_15 (by decide) ?_
    refine X_callSI dX12_hotel_17 mkX12_192 (c_in Γ g (up2 mi 87 0 (nI 0)) ml xb (nI 1) (nI 23)) rfl rfl (by decide) (Nat.le_of_ble_eq_true rfl) ?_
    refine X_topi (show bI (decide (nI 1 ≤ xb) && decide (xb ≤ nI 23)) = nI 0 from congrArg bI (show (decide (nI 1 ≤ xb) && decide (xb ≤ nI 23)) = false from Bool.eq_false_iff.mpr (fun q => hf (by rw [Bool.and_eq_true, decide_eq_true_eq, decide_eq_true_eq] at q; exact q)))) ?_
    refine X_if_neN (a := 0) 27 dX12_hotel_20 (by decide) (by omega) (fun h_2 => ?_) (fun h_2 => ?_)
    · exact absurd h_2 (by omega)
    · refine X_iconst (v := nI 1) dX12_hotel_23 (by decide) ?_
      refine X_goto 28 dX12_hotel_24 (by decide) ?_
      refine X_iconst (v := nI 1) dX12_hotel_28 (by decide) ?_
      refine X_iconst (v := nI 1) dX12_hotel_29 (by decide) ?_
      refine X_callVI dX12_hotel_30 mkX12_228 (k_87 hSh) (c_bad1 Γ g (up2 mi 87 0 (nI 0)) ml hSh 1 1 (by decide) (by decide) (by decide) up2_s) rfl rfl (by decide) (Nat.le_of_ble_eq_true rfl) ?_
      refine X_mi (show _ = mB mi 1 1 from rfl) ?_
      refine X_if_eqN (a := 1) 38 dX12_hotel_33 (by decide) (by omega) (fun h_3 => ?_) (fun h_3 => ?_)
      · exact absurd h_3 (by omega)
      · refine X_iconst (v := nI 0) dX12_hotel_36 (by decide) ?_
        exact X_iret dX12_hotel_37 rfl ⟨rfl, rfl, RI_rf hA (by decide) hR, fr2_B, _, rfl, mB_0⟩
set_option maxRecDepth 100000 in
set_option maxHeartbeats 4000000 in
theorem k_hotel_x (Γ : pTG) (g : pGG) (mi : pMI) (ml : pML) (A : AS) (hA : okAS A) (hC : CI A g mi ml) (ka : Nat) (hkaa : 0 ≤ ka) (hka : ka ≤ 23) (kb : Nat) (hkba : 1 ≤ kb) (hkb : kb ≤ 23) (hfull : aCn A = 20) : CT Γ 60 20 5000 mX11_hotel [.ref 0, .int (nI ka), .int (nI kb)] g mi ml (CQ A (.inl (nI 0)) mi ml) := by
  refine CT_of (by decide +kernel) (Nat.le_of_ble_eq_true rfl) ?_
  have hSh := CI_Sh hC
  have hcl := CI_cl hC
  have hP := hA.1
  have hG8 : aG A ≤ 8 := hP.2.1
  have hC8 : (aP A).1 ≤ 8 := hP.1
  have h81 : mi 81 2 = nI 20 := by rw [← hfull]; exact (CI_k hC).2.2.1
  refine X_aload_n dX11_hotel_0 rfl ?_
  refine X_iload_n dX11_hotel_1 rfl ?_
  refine X_iconst (v := nI 0) dX11_hotel_2 (by decide) ?_
  refine X_bipush (v := nI 23) dX11_hotel_3 (by decide) ?_
  refine X_need dX11_hotel_5 mkX11_116 (k_0 hSh) (c_needWithin Γ g mi ml hSh (nI ka) (nI 0) (nI 23)) rfl rfl (by decide) (by decide) (by decide) (by decide) (fun h => absurd (⟨nI_le (by omega) (by omega), nI_le (by omega) (by omega)⟩) h) (fun _ => ?_)
  refine X_aload_n dX11_hotel_8 rfl ?_
  refine X_iload_n dX11_hotel_9 rfl ?_
  refine X_iconst (v := nI 1) dX11_hotel_10 (by decide) ?_
  refine X_bipush (v := nI 23) dX11_hotel_11 (by decide) ?_
  refine X_need dX11_hotel_13 mkX11_116 (k_0 hSh) (c_needWithin Γ g mi ml hSh (nI kb) (nI 1) (nI 23)) rfl rfl (by decide) (by decide) (by decide) (by decide) (fun h => absurd (⟨nI_le (by omega) (by omega), nI_le (by omega) (by omega)⟩) h) (fun _ => ?_)
  refine X_aload_n dX11_hotel_16 rfl ?_
  refine X_getr (a := 81) dX11_hotel_17 fkX11_91 rfl (k_0 hSh) (r_0_12 hSh) ?_
  refine X_iconst (v := nI 0) dX11_hotel_20 (by decide) ?_
  refine X_aload_n dX11_hotel_21 rfl ?_
  refine X_getr (a := 3) dX11_hotel_22 fkX11_25 rfl (k_0 hSh) (r_0_2 hSh) ?_
  refine X_geti dX11_hotel_25 fkX11_175 rfl (k_3 hSh) ?_
  rw [hcl.2.2.1]
  refine X_aload_n dX11_hotel_28 rfl ?_
  refine X_getr (a := 3) dX11_hotel_29 fkX11_25 rfl (k_0 hSh) (r_0_2 hSh) ?_
  refine X_geti dX11_hotel_32 fkX11_178 rfl (k_3 hSh) ?_
  rw [hcl.2.2.2.1]
  refine X_callVI dX11_hotel_35 mkX11_356 (k_81 hSh) (c_add0 Γ g mi ml hSh h81 (nI 0) (nI (aP A).2.2.1) (nI (aP A).2.2.2.1)) rfl rfl (by decide) (Nat.le_of_ble_eq_true rfl) ?_
  refine X_if_neN (a := 0) 43 dX11_hotel_38 (by decide) (by omega) (fun h_1 => ?_) (fun h_1 => ?_)
  · exact absurd h_1 (by omega)
  · refine X_iconst (v := nI 0) dX11_hotel_41 (by decide) ?_
    exact X_iret dX11_hotel_42 rfl ⟨rfl, hC, frK_r, rfl⟩
set_option maxRecDepth 100000 in
set_option maxHeartbeats 4000000 in
theorem r_hotel_x (Γ : pTG) (g : pGG) (mi : pMI) (ml : pML) (A : AS) (hA : okAS A) (hSh : Sh g) (hR : RI A mi) (ka : Nat) (hkaa : 0 ≤ ka) (hka : ka ≤ 23) (kb : Nat) (hkba : 1 ≤ kb) (hkb : kb ≤ 23) (hfull : aCn A = 20) : CT Γ 60 0 0 mX12_hotel [.ref 87, .int (nI ka), .int (nI kb)] g mi ml (RQ A (.inl (nI 0)) cd1 g mi ml) := by
  refine CT_of (by decide +kernel) (Nat.le_of_ble_eq_true rfl) ?_
  have hP := hA.1
  have hG8 : aG A ≤ 8 := hP.2.1
  have hC8 : (aP A).1 ≤ 8 := hP.1
  refine X_aload_n dX12_hotel_0 rfl ?_
  refine X_iconst (v := nI 0) dX12_hotel_1 (by decide) ?_
  refine X_puti dX12_hotel_2 fkX12_158 rfl rfl (k_87 hSh) ?_
  refine X_aload_n dX12_hotel_5 rfl ?_
  refine X_iload_n dX12_hotel_6 rfl ?_
  refine X_callSI dX12_hotel_7 mkX12_298 (c_isHalf Γ g (up2 mi 87 0 (nI 0)) ml (nI ka)) rfl rfl (by decide) (Nat.le_of_ble_eq_true rfl) ?_
  refine X_topi (show bI (decide (nI 0 ≤ nI ka) && decide (nI ka ≤ nI 23)) = nI 1 from congrArg bI (show (decide (nI 0 ≤ nI ka) && decide (nI ka ≤ nI 23)) = true from by rw [decide_eq_true (nI_le (by omega) (by omega)), decide_eq_true (nI_le (by omega) (by omega))]; rfl)) ?_
  refine X_if_eqN (a := 1) 23 dX12_hotel_10 (by decide) (by omega) (fun h_1 => ?_) (fun h_1 => ?_)
  · exact absurd h_1 (by omega)
  · refine X_iload_n dX12_hotel_13 rfl ?_
    refine X_iconst (v := nI 1) dX12_hotel_14 (by decide) ?_
    refine X_bipush (v := nI 23) dX12_hotel_15 (by decide) ?_
    refine X_callSI dX12_hotel_17 mkX12_192 (c_in Γ g (up2 mi 87 0 (nI 0)) ml (nI kb) (nI 1) (nI 23)) rfl rfl (by decide) (Nat.le_of_ble_eq_true rfl) ?_
    refine X_topi (show bI (decide (nI 1 ≤ nI kb) && decide (nI kb ≤ nI 23)) = nI 1 from congrArg bI (show (decide (nI 1 ≤ nI kb) && decide (nI kb ≤ nI 23)) = true from by rw [decide_eq_true (nI_le (by omega) (by omega)), decide_eq_true (nI_le (by omega) (by omega))]; rfl)) ?_
    refine X_if_neN (a := 1) 27 dX12_hotel_20 (by decide) (by omega) (fun h_2 => ?_) (fun h_2 => ?_)
    · refine X_iconst (v := nI 0) dX12_hotel_27 (by decide) ?_
      refine X_iconst (v := nI 1) dX12_hotel_28 (by decide) ?_
      refine X_iconst (v := nI 1) dX12_hotel_29 (by decide) ?_
      refine X_callVI dX12_hotel_30 mkX12_228 (k_87 hSh) (c_bad0 Γ g (up2 mi 87 0 (nI 0)) ml hSh 1 1 up2_s) rfl rfl (by decide) (Nat.le_of_ble_eq_true rfl) ?_
      refine X_if_eqN (a := 0) 38 dX12_hotel_33 (by decide) (by omega) (fun h_3 => ?_) (fun h_3 => ?_)
      · refine X_aload_n dX12_hotel_38 rfl ?_
        refine X_callVI dX12_hotel_39 mkX12_411 (k_87 hSh) (c_changes0 Γ g (up2 mi 87 0 (nI 0)) ml hSh ((up2_n (by omega)).trans (by rw [← hfull]; exact hR.2.2.2.2.2.1.1))) rfl rfl (by decide) (Nat.le_of_ble_eq_true rfl) ?_
        refine X_if_neN (a := 0) 47 dX12_hotel_42 (by decide) (by omega) (fun h_4 => ?_) (fun h_4 => ?_)
        · exact absurd h_4 (by omega)
        · refine X_iconst (v := nI 0) dX12_hotel_45 (by decide) ?_
          exact X_iret dX12_hotel_46 rfl ⟨rfl, rfl, RI_fr hA hR (frW_u frW_r (by unfold rsF rsR; omega)), (frM2_u frM2_r (by omega)), _, rfl, rfl, (show (up2 mi 87 0 (nI 0)) 87 0 = nI 0 by rw [up2_s])⟩
      · exact absurd h_3 (by omega)
    · exact absurd h_2 (by omega)
theorem kc_hotel {A : AS} {g : pGG} {m x : pMI} {l : pML} {r im st : Nat} {qi : Nat → Nat} {si : Nat} {ka kb : Nat} (hA : okAS A) (hC : CI A g m l) (h : CIx A g m l r im st qi si) (hn : aCn A < 20) (hx : FGD st si (up2 (up2 (adW m (aCn A) (nI 0) (nI (aP A).2.2.1) (nI (aP A).2.2.2.1)) 3 6 (nI ka)) 3 7 (nI kb)) x) : CI (chA A (ka, kb, (aP A).2.2.2.2.1, (snP (aP A)).2.2.2)) g x l := by
  have hcl := CI_cl hC
  have hG8 : aG A ≤ 8 := hA.1.2.1
  have e : ∀ i, i ≠ 3 → i ≠ 6 → i ≠ 81 → i ≠ 82 → (up2 (up2 (adW m (aCn A) (nI 0) (nI (aP A).2.2.1) (nI (aP A).2.2.2.1)) 3 6 (nI ka)) 3 7 (nI kb)) i = m i := fun i h1 h2 h3 h4 => by unfold adW; rw [up2_row h1, up2_row h1, up2_row h3, up2_row h4, up2_row h4, up2_row h4]
  have w82 : ∀ j, (up2 (up2 (adW m (aCn A) (nI 0) (nI (aP A).2.2.1) (nI (aP A).2.2.2.1)) 3 6 (nI ka)) 3 7 (nI kb)) 82 j = adW m (aCn A) (nI 0) (nI (aP A).2.2.1) (nI (aP A).2.2.2.1) 82 j := fun j => by rw [up2_row (by omega), up2_row (by omega)]
  have w81 : ∀ j, (up2 (up2 (adW m (aCn A) (nI 0) (nI (aP A).2.2.1) (nI (aP A).2.2.2.1)) 3 6 (nI ka)) 3 7 (nI kb)) 81 j = adW m (aCn A) (nI 0) (nI (aP A).2.2.1) (nI (aP A).2.2.2.1) 81 j := fun j => by rw [up2_row (by omega), up2_row (by omega)]
  have a3 : ∀ j, adW m (aCn A) (nI 0) (nI (aP A).2.2.1) (nI (aP A).2.2.2.1) 3 j = m 3 j := fun j => by unfold adW; rw [up2_row (by omega), up2_row (by omega), up2_row (by omega), up2_row (by omega)]
  have a6 : ∀ j, adW m (aCn A) (nI 0) (nI (aP A).2.2.1) (nI (aP A).2.2.2.1) 6 j = m 6 j := fun j => by unfold adW; rw [up2_row (by omega), up2_row (by omega), up2_row (by omega), up2_row (by omega)]
  refine CI_ch h e ?_ ?_ ?_ (fun j hj => ?_) ?_ hx
  · exact ⟨(by rw [up2_n (by omega), up2_n (by omega), a3]; exact hcl.1), (by rw [up2_n (by omega), up2_n (by omega), a3]; exact hcl.2.1), ((up2_n (by omega)).trans up2_s), up2_s, (by rw [up2_n (by omega), up2_n (by omega), a3]; exact hcl.2.2.2.2.1), fun c hc => ⟨by rw [e 4 (by omega) (by omega) (by omega) (by omega)]; exact (hcl.2.2.2.2.2.1 c hc).1, by rw [e 5 (by omega) (by omega) (by omega) (by omega)]; exact (hcl.2.2.2.2.2.1 c hc).2⟩, fun d hd => ⟨(by rw [up2_row (by omega), up2_row (by omega), a6]; exact (hcl.2.2.2.2.2.2 d hd).1), by rw [e 7 (by omega) (by omega) (by omega) (by omega)]; exact (hcl.2.2.2.2.2.2 d hd).2.1, by rw [e 8 (by omega) (by omega) (by omega) (by omega)]; exact (hcl.2.2.2.2.2.2 d hd).2.2.1, by rw [e 9 (by omega) (by omega) (by omega) (by omega)]; exact (hcl.2.2.2.2.2.2 d hd).2.2.2⟩⟩
  · rw [w81]; exact up2_s
  · rw [w81]; unfold adW; rw [up2_n (by omega), up2_row (by omega), up2_row (by omega), up2_row (by omega)]
  · rw [w82]; unfold adW; rw [up2_row (by omega), up2_n (by omega), up2_n (by omega), up2_n (by omega)]
  · have q0 : adW m (aCn A) (nI 0) (nI (aP A).2.2.1) (nI (aP A).2.2.2.1) 82 (aCn A * 3) = nI 0 := by unfold adW; rw [up2_row (by omega), up2_n (by omega), up2_n (by omega), up2_s]
    have q1 : adW m (aCn A) (nI 0) (nI (aP A).2.2.1) (nI (aP A).2.2.2.1) 82 (aCn A * 3 + 1) = nI (aP A).2.2.1 := by unfold adW; rw [up2_row (by omega), up2_n (by omega), up2_s]
    have q2 : adW m (aCn A) (nI 0) (nI (aP A).2.2.1) (nI (aP A).2.2.2.1) 82 (aCn A * 3 + 2) = nI (aP A).2.2.2.1 := by unfold adW; rw [up2_row (by omega), up2_s]
    rw [w82, w82, w82, q0, q1, q2]
    exact Or.inl ⟨rfl, rfl, rfl, rfl, fun _ _ => rfl⟩
set_option maxRecDepth 100000 in
set_option maxHeartbeats 4000000 in
theorem k_hotel (Γ : pTG) (g : pGG) (mi : pMI) (ml : pML) (A : AS) (hA : okAS A) (hC : CI A g mi ml) (ka : Nat) (hkaa : 0 ≤ ka) (hka : ka ≤ 23) (kb : Nat) (hkba : 1 ≤ kb) (hkb : kb ≤ 23) (hfull : aCn A < 20) : CT Γ 60 20 5000 mX11_hotel [.ref 0, .int (nI ka), .int (nI kb)] g mi ml (CQ (chA A (ka, kb, (aP A).2.2.2.2.1, (snP (aP A)).2.2.2)) (.inl (nI 1)) mi ml) := by
  refine CT_of (by decide +kernel) (Nat.le_of_ble_eq_true rfl) ?_
  have hSh := CI_Sh hC
  have hcl := CI_cl hC
  have hP := hA.1
  have hG8 : aG A ≤ 8 := hP.2.1
  have hC8 : (aP A).1 ≤ 8 := hP.1
  obtain ⟨r, im, st, qi, si, hx⟩ := CI_dyn hC
  refine X_aload_n dX11_hotel_0 rfl ?_
  refine X_iload_n dX11_hotel_1 rfl ?_
  refine X_iconst (v := nI 0) dX11_hotel_2 (by decide) ?_
  refine X_bipush (v := nI 23) dX11_hotel_3 (by decide) ?_
  refine X_need dX11_hotel_5 mkX11_116 (k_0 hSh) (c_needWithin Γ g mi ml hSh (nI ka) (nI 0) (nI 23)) rfl rfl (by decide) (by decide) (by decide) (by decide) (fun h => absurd (⟨nI_le (by omega) (by omega), nI_le (by omega) (by omega)⟩) h) (fun _ => ?_)
  refine X_aload_n dX11_hotel_8 rfl ?_
  refine X_iload_n dX11_hotel_9 rfl ?_
  refine X_iconst (v := nI 1) dX11_hotel_10 (by decide) ?_
  refine X_bipush (v := nI 23) dX11_hotel_11 (by decide) ?_
  refine X_need dX11_hotel_13 mkX11_116 (k_0 hSh) (c_needWithin Γ g mi ml hSh (nI kb) (nI 1) (nI 23)) rfl rfl (by decide) (by decide) (by decide) (by decide) (fun h => absurd (⟨nI_le (by omega) (by omega), nI_le (by omega) (by omega)⟩) h) (fun _ => ?_)
  refine X_aload_n dX11_hotel_16 rfl ?_
  refine X_getr (a := 81) dX11_hotel_17 fkX11_91 rfl (k_0 hSh) (r_0_12 hSh) ?_
  refine X_iconst (v := nI 0) dX11_hotel_20 (by decide) ?_
  refine X_aload_n dX11_hotel_21 rfl ?_
  refine X_getr (a := 3) dX11_hotel_22 fkX11_25 rfl (k_0 hSh) (r_0_2 hSh) ?_
  refine X_geti dX11_hotel_25 fkX11_175 rfl (k_3 hSh) ?_
  rw [hcl.2.2.1]
  refine X_aload_n dX11_hotel_28 rfl ?_
  refine X_getr (a := 3) dX11_hotel_29 fkX11_25 rfl (k_0 hSh) (r_0_2 hSh) ?_
  refine X_geti dX11_hotel_32 fkX11_178 rfl (k_3 hSh) ?_
  rw [hcl.2.2.2.1]
  refine X_callVI dX11_hotel_35 mkX11_356 (k_81 hSh) (c_add1 Γ g mi ml hSh (aCn A) (CI_k hC).2.2.1 hfull (nI 0) (nI (aP A).2.2.1) (nI (aP A).2.2.2.1)) rfl rfl (by decide) (Nat.le_of_ble_eq_true rfl) ?_
  refine X_if_neN (a := 1) 43 dX11_hotel_38 (by decide) (by omega) (fun h_1 => ?_) (fun h_1 => ?_)
  · refine X_aload_n dX11_hotel_43 rfl ?_
    refine X_getr (a := 3) dX11_hotel_44 fkX11_25 rfl (k_0 hSh) (r_0_2 hSh) ?_
    refine X_iload_n dX11_hotel_47 rfl ?_
    refine X_puti dX11_hotel_48 fkX11_175 rfl rfl (k_3 hSh) ?_
    refine X_aload_n dX11_hotel_51 rfl ?_
    refine X_getr (a := 3) dX11_hotel_52 fkX11_25 rfl (k_0 hSh) (r_0_2 hSh) ?_
    refine X_iload_n dX11_hotel_55 rfl ?_
    refine X_puti dX11_hotel_56 fkX11_178 rfl rfl (k_3 hSh) ?_
    refine X_aload_n dX11_hotel_59 rfl ?_
    refine X_callVrV dX11_hotel_60 mkX11_141 (k_0 hSh) (c_forgetD Γ g (up2 (up2 (adW mi (aCn A) (nI 0) (nI (aP A).2.2.1) (nI (aP A).2.2.2.1)) 3 6 (nI ka)) 3 7 (nI kb)) ml hSh im st si qi hx.2.2.2.2.2.2.2.2.2.2.2.1) rfl rfl (by decide) (Nat.le_of_ble_eq_true rfl) (fun m2 l2 hm2 => ?_)
    obtain ⟨hF2, hl2⟩ := hm2
    rw [hl2]
    refine X_iconst (v := nI 1) dX11_hotel_63 (by decide) ?_
    exact X_iret dX11_hotel_64 rfl ⟨rfl, kc_hotel hA hC hx hfull hF2, frK_t (fun i h1 h2 => by unfold adW; rw [up2_row (by omega), up2_row (by omega), up2_row (by omega), up2_row (by omega), up2_row (by omega), up2_row (by omega)]) (FGD_K hF2 (fun q => (hx.2.2.2.2.2.2.2.2.2.2.2.1.2.2.2.2.2.2.2.2 q).2.2.1)), rfl⟩
  · exact absurd h_1 (by omega)
theorem rc_hotel {A : AS} {m : pMI} {ka kb : Nat} (hA : okAS A) (hR : RI A m) (hn : aCn A < 20) : RI (chA A (ka, kb, (aP A).2.2.2.2.1, (snP (aP A)).2.2.2)) (up2 (up2 (chQ (up2 m 87 0 (nI 0)) (aCn A)) 91 2 (nI ka)) 91 3 (nI kb)) := by
  have hG8 : aG A ≤ 8 := hA.1.2.1
  have hC8 : (aP A).1 ≤ 8 := hA.1.1
  have hR0 := RW_I hA hR RW_0
  have e : ∀ i, i ≠ 87 → i ≠ 91 → ¬ (121 ≤ i ∧ i ≤ 128) → i ≠ 169 + aCn A → (up2 (up2 (chQ (up2 m 87 0 (nI 0)) (aCn A)) 91 2 (nI ka)) 91 3 (nI kb)) i = m i := fun i h1 h2 h3 h4 => by rw [up2_row h2, up2_row h2, chQ_row h1 h4, up2_row h1]
  have e91 : ∀ j, chQ (up2 m 87 0 (nI 0)) (aCn A) 91 j = m 91 j := fun j => by rw [chQ_row (by omega) (by omega), up2_row (by omega)]
  have eg : ∀ b j, b < 8 → chQ (up2 m 87 0 (nI 0)) (aCn A) (121 + b) j = m (121 + b) j := fun b j hb => by rw [chQ_row (by omega) (by omega), up2_row (by omega)]
  refine RI_ch hR hn hA.2.2.2.2.2.2.2.1 e (fun j h0 h1 h2 => ?_) ?_ ?_ ?_ hA.2.2.2.1.1
  · rw [up2_row (by omega), up2_row (by omega), chQ_87 h1 h2, up2_n h0]
  · rw [up2_row (by omega), up2_row (by omega)]; exact up2_s
  · exact rfSn_row (chQ_sn hA hn hR0.1) (by rw [up2_row (by omega), up2_row (by omega)])
  · exact ⟨(by rw [up2_n (by omega), up2_n (by omega), e91]; exact hR.1.1), (by rw [up2_n (by omega), up2_n (by omega), e91]; exact hR.1.2.1), ((up2_n (by omega)).trans up2_s), up2_s, (by rw [up2_n (by omega), up2_n (by omega), e91]; exact hR.1.2.2.2.2.1), fun c hc => by have hc : c < (aP A).1 := hc; rw [e (102 + c) (by omega) (by omega) (by omega) (by omega)]; exact hR.1.2.2.2.2.2.1 c hc, fun d hd => ⟨(by have hd8 : d < 8 := Nat.lt_of_lt_of_le hd hG8; rw [up2_row (by omega), up2_row (by omega), eg d _ hd8]; exact (hR.1.2.2.2.2.2.2 d hd).1), (by have hd8 : d < 8 := Nat.lt_of_lt_of_le hd hG8; rw [up2_row (by omega), up2_row (by omega), eg d _ hd8]; exact (hR.1.2.2.2.2.2.2 d hd).2.1), (by have hd8 : d < 8 := Nat.lt_of_lt_of_le hd hG8; rw [up2_row (by omega), up2_row (by omega), eg d _ hd8]; exact (hR.1.2.2.2.2.2.2 d hd).2.2.1), (by have hd8 : d < 8 := Nat.lt_of_lt_of_le hd hG8; rw [up2_row (by omega), up2_row (by omega), eg d _ hd8]; exact (hR.1.2.2.2.2.2.2 d hd).2.2.2)⟩⟩
set_option maxRecDepth 100000 in
set_option maxHeartbeats 4000000 in
theorem r_hotel (Γ : pTG) (g : pGG) (mi : pMI) (ml : pML) (A : AS) (hA : okAS A) (hSh : Sh g) (hR : RI A mi) (ka : Nat) (hkaa : 0 ≤ ka) (hka : ka ≤ 23) (kb : Nat) (hkba : 1 ≤ kb) (hkb : kb ≤ 23) (hfull : aCn A < 20) : CT Γ 60 0 0 mX12_hotel [.ref 87, .int (nI ka), .int (nI kb)] g mi ml (RQ (chA A (ka, kb, (aP A).2.2.2.2.1, (snP (aP A)).2.2.2)) (.inl (nI 1)) cd1 g mi ml) := by
  refine CT_of (by decide +kernel) (Nat.le_of_ble_eq_true rfl) ?_
  have hP := hA.1
  have hG8 : aG A ≤ 8 := hP.2.1
  have hC8 : (aP A).1 ≤ 8 := hP.1
  refine X_aload_n dX12_hotel_0 rfl ?_
  refine X_iconst (v := nI 0) dX12_hotel_1 (by decide) ?_
  refine X_puti dX12_hotel_2 fkX12_158 rfl rfl (k_87 hSh) ?_
  refine X_aload_n dX12_hotel_5 rfl ?_
  refine X_iload_n dX12_hotel_6 rfl ?_
  refine X_callSI dX12_hotel_7 mkX12_298 (c_isHalf Γ g (up2 mi 87 0 (nI 0)) ml (nI ka)) rfl rfl (by decide) (Nat.le_of_ble_eq_true rfl) ?_
  refine X_topi (show bI (decide (nI 0 ≤ nI ka) && decide (nI ka ≤ nI 23)) = nI 1 from congrArg bI (show (decide (nI 0 ≤ nI ka) && decide (nI ka ≤ nI 23)) = true from by rw [decide_eq_true (nI_le (by omega) (by omega)), decide_eq_true (nI_le (by omega) (by omega))]; rfl)) ?_
  refine X_if_eqN (a := 1) 23 dX12_hotel_10 (by decide) (by omega) (fun h_1 => ?_) (fun h_1 => ?_)
  · exact absurd h_1 (by omega)
  · refine X_iload_n dX12_hotel_13 rfl ?_
    refine X_iconst (v := nI 1) dX12_hotel_14 (by decide) ?_
    refine X_bipush (v := nI 23) dX12_hotel_15 (by decide) ?_
    refine X_callSI dX12_hotel_17 mkX12_192 (c_in Γ g (up2 mi 87 0 (nI 0)) ml (nI kb) (nI 1) (nI 23)) rfl rfl (by decide) (Nat.le_of_ble_eq_true rfl) ?_
    refine X_topi (show bI (decide (nI 1 ≤ nI kb) && decide (nI kb ≤ nI 23)) = nI 1 from congrArg bI (show (decide (nI 1 ≤ nI kb) && decide (nI kb ≤ nI 23)) = true from by rw [decide_eq_true (nI_le (by omega) (by omega)), decide_eq_true (nI_le (by omega) (by omega))]; rfl)) ?_
    refine X_if_neN (a := 1) 27 dX12_hotel_20 (by decide) (by omega) (fun h_2 => ?_) (fun h_2 => ?_)
    · refine X_iconst (v := nI 0) dX12_hotel_27 (by decide) ?_
      refine X_iconst (v := nI 1) dX12_hotel_28 (by decide) ?_
      refine X_iconst (v := nI 1) dX12_hotel_29 (by decide) ?_
      refine X_callVI dX12_hotel_30 mkX12_228 (k_87 hSh) (c_bad0 Γ g (up2 mi 87 0 (nI 0)) ml hSh 1 1 up2_s) rfl rfl (by decide) (Nat.le_of_ble_eq_true rfl) ?_
      refine X_if_eqN (a := 0) 38 dX12_hotel_33 (by decide) (by omega) (fun h_3 => ?_) (fun h_3 => ?_)
      · refine X_aload_n dX12_hotel_38 rfl ?_
        refine X_callVI dX12_hotel_39 mkX12_411 (k_87 hSh) (c_changes1 Γ g (up2 mi 87 0 (nI 0)) ml hSh (aCn A) ((up2_n (by omega)).trans hR.2.2.2.2.2.1.1) hfull) rfl rfl (by decide) (Nat.le_of_ble_eq_true rfl) ?_
        refine X_if_neN (a := 1) 47 dX12_hotel_42 (by decide) (by omega) (fun h_4 => ?_) (fun h_4 => ?_)
        · refine X_aload_n dX12_hotel_47 rfl ?_
          refine X_getr (a := 91) dX12_hotel_48 fkX12_23 rfl (k_87 hSh) (r_87_12 hSh) ?_
          refine X_iconst (v := nI 2) dX12_hotel_51 (by decide) ?_
          refine X_iload_n dX12_hotel_52 rfl ?_
          refine X_iast 2 dX12_hotel_53 (k_91 hSh) rfl (by omega) ?_
          refine X_aload_n dX12_hotel_54 rfl ?_
          refine X_getr (a := 91) dX12_hotel_55 fkX12_23 rfl (k_87 hSh) (r_87_12 hSh) ?_
          refine X_iconst (v := nI 3) dX12_hotel_58 (by decide) ?_
          refine X_iload_n dX12_hotel_59 rfl ?_
          refine X_iast 3 dX12_hotel_60 (k_91 hSh) rfl (by omega) ?_
          refine X_iconst (v := nI 1) dX12_hotel_61 (by decide) ?_
          exact X_iret dX12_hotel_62 rfl ⟨rfl, rfl, rc_hotel hA hR hfull, fun i hi => by rw [up2_row (by omega), up2_row (by omega), chQ_row (by omega) (by omega), up2_row (by omega)], _, rfl, rfl, by rw [up2_row (by omega), up2_row (by omega), chQ_87 (by omega) (by omega), up2_s]⟩
        · exact absurd h_4 (by omega)
      · exact absurd h_3 (by omega)
    · exact absurd h_2 (by omega)
theorem m_hotel (A : AS) (hA : okAS A) (xa : Int32) (xb : Int32) : MOK mX11_hotel mX12_hotel cd1 [.int xa, .int xb] A := by
  by_cases hg0 : nI 0 ≤ xa ∧ xa ≤ nI 23
  · obtain ⟨ka, hkaa, hka, rfl⟩ := (wi_iff (by decide) (by decide)).mp hg0
    by_cases hg1 : nI 1 ≤ xb ∧ xb ≤ nI 23
    · obtain ⟨kb, hkba, hkb, rfl⟩ := (wi_iff (by decide) (by decide)).mp hg1
      have hc20 := hA.2.2.2.2.2.1
      by_cases hfull : aCn A < 20
      · exact ⟨.inl (nI 1), chA A (ka, kb, (aP A).2.2.2.2.1, (snP (aP A)).2.2.2), okc_ch hA hfull ⟨by show ka < 24; omega, hkba, by show kb < 24; omega, hA.1.2.2.2.2.2.1, fun b hb => (hA.1.2.2.2.2.2.2.2 b hb).1⟩, fun j h => (by cases h), fun Γ g m l hC => k_hotel Γ g m l A hA hC ka hkaa hka kb hkba hkb hfull, fun Γ g m l hSh hR => r_hotel Γ g m l A hA hSh hR ka hkaa hka kb hkba hkb hfull⟩
      · exact ⟨.inl (nI 0), A, hA, fun j h => (by cases h), fun Γ g m l hC => k_hotel_x Γ g m l A hA hC ka hkaa hka kb hkba hkb (by omega), fun Γ g m l hSh hR => r_hotel_x Γ g m l A hA hSh hR ka hkaa hka kb hkba hkb (by omega)⟩
    · exact ⟨.inr 1, rfA A 1, ok_rf hA, fun j h => by cases h; decide, fun Γ g m l hC => k_hotel_f1 Γ g m l A hA hC ka hkaa hka xb hg1, fun Γ g m l hSh hR => r_hotel_f1 Γ g m l A hA hSh hR ka hkaa hka xb hg1⟩
  · exact ⟨.inr 1, rfA A 1, ok_rf hA, fun j h => by cases h; decide, fun Γ g m l hC => k_hotel_f0 Γ g m l A hA hC xa hg0 xb, fun Γ g m l hSh hR => r_hotel_f0 Γ g m l A hA hSh hR xa hg0 xb⟩
set_option maxRecDepth 100000 in
set_option maxHeartbeats 4000000 in
theorem k_hire_f0 (Γ : pTG) (g : pGG) (mi : pMI) (ml : pML) (A : AS) (hA : okAS A) (hC : CI A g mi ml) (xa : Int32) (hf : ¬ (nI 0 ≤ xa ∧ xa ≤ nI 99)) : CT Γ 60 20 5000 mX11_hire [.ref 0, .int xa] g mi ml (CQ (rfA A 1) (.inr 1) mi ml) := by
  refine CT_of (by decide +kernel) (Nat.le_of_ble_eq_true rfl) ?_
  have hSh := CI_Sh hC
  have hcl := CI_cl hC
  have hP := hA.1
  have hG8 : aG A ≤ 8 := hP.2.1
  have hC8 : (aP A).1 ≤ 8 := hP.1
  refine X_aload_n dX11_hire_0 rfl ?_
  refine X_iload_n dX11_hire_1 rfl ?_
  refine X_iconst (v := nI 0) dX11_hire_2 (by decide) ?_
  refine X_bipush (v := nI 99) dX11_hire_3 (by decide) ?_
  exact X_need dX11_hire_5 mkX11_116 (k_0 hSh) (c_needWithin Γ g mi ml hSh xa (nI 0) (nI 99)) rfl rfl (by decide) (by decide) (by decide) (by decide) (fun _ => ⟨rfl, CI_rf (by decide) hC, frK_86, rfl⟩) (fun h => absurd h hf)
set_option maxRecDepth 100000 in
set_option maxHeartbeats 4000000 in
theorem r_hire_f0 (Γ : pTG) (g : pGG) (mi : pMI) (ml : pML) (A : AS) (hA : okAS A) (hSh : Sh g) (hR : RI A mi) (xa : Int32) (hf : ¬ (nI 0 ≤ xa ∧ xa ≤ nI 99)) : CT Γ 60 0 0 mX12_hire [.ref 87, .int xa] g mi ml (RQ (rfA A 1) (.inr 1) cd1 g mi ml) := by
  refine CT_of (by decide +kernel) (Nat.le_of_ble_eq_true rfl) ?_
  have hP := hA.1
  have hG8 : aG A ≤ 8 := hP.2.1
  have hC8 : (aP A).1 ≤ 8 := hP.1
  refine X_aload_n dX12_hire_0 rfl ?_
  refine X_iconst (v := nI 0) dX12_hire_1 (by decide) ?_
  refine X_puti dX12_hire_2 fkX12_158 rfl rfl (k_87 hSh) ?_
  refine X_aload_n dX12_hire_5 rfl ?_
  refine X_iload_n dX12_hire_6 rfl ?_
  refine X_iconst (v := nI 0) dX12_hire_7 (by decide) ?_
  refine X_bipush (v := nI 99) dX12_hire_8 (by decide) ?_
  refine X_callSI dX12_hire_10 mkX12_192 (c_in Γ g (up2 mi 87 0 (nI 0)) ml xa (nI 0) (nI 99)) rfl rfl (by decide) (Nat.le_of_ble_eq_true rfl) ?_
  refine X_topi (show bI (decide (nI 0 ≤ xa) && decide (xa ≤ nI 99)) = nI 0 from congrArg bI (show (decide (nI 0 ≤ xa) && decide (xa ≤ nI 99)) = false from Bool.eq_false_iff.mpr (fun q => hf (by rw [Bool.and_eq_true, decide_eq_true_eq, decide_eq_true_eq] at q; exact q)))) ?_
  refine X_if_neN (a := 0) 20 dX12_hire_13 (by decide) (by omega) (fun h_1 => ?_) (fun h_1 => ?_)
  · exact absurd h_1 (by omega)
  · refine X_iconst (v := nI 1) dX12_hire_16 (by decide) ?_
    refine X_goto 21 dX12_hire_17 (by decide) ?_
    refine X_iconst (v := nI 1) dX12_hire_21 (by decide) ?_
    refine X_iconst (v := nI 1) dX12_hire_22 (by decide) ?_
    refine X_callVI dX12_hire_23 mkX12_228 (k_87 hSh) (c_bad1 Γ g (up2 mi 87 0 (nI 0)) ml hSh 1 1 (by decide) (by decide) (by decide) up2_s) rfl rfl (by decide) (Nat.le_of_ble_eq_true rfl) ?_
    refine X_mi (show _ = mB mi 1 1 from rfl) ?_
    refine X_if_eqN (a := 1) 31 dX12_hire_26 (by decide) (by omega) (fun h_2 => ?_) (fun h_2 => ?_)
    · exact absurd h_2 (by omega)
    · refine X_iconst (v := nI 0) dX12_hire_29 (by decide) ?_
      exact X_iret dX12_hire_30 rfl ⟨rfl, rfl, RI_rf hA (by decide) hR, fr2_B, _, rfl, mB_0⟩
set_option maxRecDepth 100000 in
set_option maxHeartbeats 4000000 in
theorem k_hire_x (Γ : pTG) (g : pGG) (mi : pMI) (ml : pML) (A : AS) (hA : okAS A) (hC : CI A g mi ml) (ka : Nat) (hkaa : 0 ≤ ka) (hka : ka ≤ 99) (hfull : aCn A = 20) : CT Γ 60 20 5000 mX11_hire [.ref 0, .int (nI ka)] g mi ml (CQ A (.inl (nI 0)) mi ml) := by
  refine CT_of (by decide +kernel) (Nat.le_of_ble_eq_true rfl) ?_
  have hSh := CI_Sh hC
  have hcl := CI_cl hC
  have hP := hA.1
  have hG8 : aG A ≤ 8 := hP.2.1
  have hC8 : (aP A).1 ≤ 8 := hP.1
  have h81 : mi 81 2 = nI 20 := by rw [← hfull]; exact (CI_k hC).2.2.1
  refine X_aload_n dX11_hire_0 rfl ?_
  refine X_iload_n dX11_hire_1 rfl ?_
  refine X_iconst (v := nI 0) dX11_hire_2 (by decide) ?_
  refine X_bipush (v := nI 99) dX11_hire_3 (by decide) ?_
  refine X_need dX11_hire_5 mkX11_116 (k_0 hSh) (c_needWithin Γ g mi ml hSh (nI ka) (nI 0) (nI 99)) rfl rfl (by decide) (by decide) (by decide) (by decide) (fun h => absurd (⟨nI_le (by omega) (by omega), nI_le (by omega) (by omega)⟩) h) (fun _ => ?_)
  refine X_aload_n dX11_hire_8 rfl ?_
  refine X_getr (a := 81) dX11_hire_9 fkX11_91 rfl (k_0 hSh) (r_0_12 hSh) ?_
  refine X_iconst (v := nI 1) dX11_hire_12 (by decide) ?_
  refine X_aload_n dX11_hire_13 rfl ?_
  refine X_getr (a := 3) dX11_hire_14 fkX11_25 rfl (k_0 hSh) (r_0_2 hSh) ?_
  refine X_geti dX11_hire_17 fkX11_181 rfl (k_3 hSh) ?_
  rw [hcl.2.2.2.2.1]
  refine X_iconst (v := nI 0) dX11_hire_20 (by decide) ?_
  refine X_callVI dX11_hire_21 mkX11_356 (k_81 hSh) (c_add0 Γ g mi ml hSh h81 (nI 1) (nI (aP A).2.2.2.2.1) (nI 0)) rfl rfl (by decide) (Nat.le_of_ble_eq_true rfl) ?_
  refine X_if_neN (a := 0) 29 dX11_hire_24 (by decide) (by omega) (fun h_1 => ?_) (fun h_1 => ?_)
  · exact absurd h_1 (by omega)
  · refine X_iconst (v := nI 0) dX11_hire_27 (by decide) ?_
    exact X_iret dX11_hire_28 rfl ⟨rfl, hC, frK_r, rfl⟩
set_option maxRecDepth 100000 in
set_option maxHeartbeats 4000000 in
theorem r_hire_x (Γ : pTG) (g : pGG) (mi : pMI) (ml : pML) (A : AS) (hA : okAS A) (hSh : Sh g) (hR : RI A mi) (ka : Nat) (hkaa : 0 ≤ ka) (hka : ka ≤ 99) (hfull : aCn A = 20) : CT Γ 60 0 0 mX12_hire [.ref 87, .int (nI ka)] g mi ml (RQ A (.inl (nI 0)) cd1 g mi ml) := by
  refine CT_of (by decide +kernel) (Nat.le_of_ble_eq_true rfl) ?_
  have hP := hA.1
  have hG8 : aG A ≤ 8 := hP.2.1
  have hC8 : (aP A).1 ≤ 8 := hP.1
  refine X_aload_n dX12_hire_0 rfl ?_
  refine X_iconst (v := nI 0) dX12_hire_1 (by decide) ?_
  refine X_puti dX12_hire_2 fkX12_158 rfl rfl (k_87 hSh) ?_
  refine X_aload_n dX12_hire_5 rfl ?_
  refine X_iload_n dX12_hire_6 rfl ?_
  refine X_iconst (v := nI 0) dX12_hire_7 (by decide) ?_
  refine X_bipush (v := nI 99) dX12_hire_8 (by decide) ?_
  refine X_callSI dX12_hire_10 mkX12_192 (c_in Γ g (up2 mi 87 0 (nI 0)) ml (nI ka) (nI 0) (nI 99)) rfl rfl (by decide) (Nat.le_of_ble_eq_true rfl) ?_
  refine X_topi (show bI (decide (nI 0 ≤ nI ka) && decide (nI ka ≤ nI 99)) = nI 1 from congrArg bI (show (decide (nI 0 ≤ nI ka) && decide (nI ka ≤ nI 99)) = true from by rw [decide_eq_true (nI_le (by omega) (by omega)), decide_eq_true (nI_le (by omega) (by omega))]; rfl)) ?_
  refine X_if_neN (a := 1) 20 dX12_hire_13 (by decide) (by omega) (fun h_1 => ?_) (fun h_1 => ?_)
  · refine X_iconst (v := nI 0) dX12_hire_20 (by decide) ?_
    refine X_iconst (v := nI 1) dX12_hire_21 (by decide) ?_
    refine X_iconst (v := nI 1) dX12_hire_22 (by decide) ?_
    refine X_callVI dX12_hire_23 mkX12_228 (k_87 hSh) (c_bad0 Γ g (up2 mi 87 0 (nI 0)) ml hSh 1 1 up2_s) rfl rfl (by decide) (Nat.le_of_ble_eq_true rfl) ?_
    refine X_if_eqN (a := 0) 31 dX12_hire_26 (by decide) (by omega) (fun h_2 => ?_) (fun h_2 => ?_)
    · refine X_aload_n dX12_hire_31 rfl ?_
      refine X_callVI dX12_hire_32 mkX12_411 (k_87 hSh) (c_changes0 Γ g (up2 mi 87 0 (nI 0)) ml hSh ((up2_n (by omega)).trans (by rw [← hfull]; exact hR.2.2.2.2.2.1.1))) rfl rfl (by decide) (Nat.le_of_ble_eq_true rfl) ?_
      refine X_if_neN (a := 0) 40 dX12_hire_35 (by decide) (by omega) (fun h_3 => ?_) (fun h_3 => ?_)
      · exact absurd h_3 (by omega)
      · refine X_iconst (v := nI 0) dX12_hire_38 (by decide) ?_
        exact X_iret dX12_hire_39 rfl ⟨rfl, rfl, RI_fr hA hR (frW_u frW_r (by unfold rsF rsR; omega)), (frM2_u frM2_r (by omega)), _, rfl, rfl, (show (up2 mi 87 0 (nI 0)) 87 0 = nI 0 by rw [up2_s])⟩
    · exact absurd h_2 (by omega)
  · exact absurd h_1 (by omega)
theorem kc_hire {A : AS} {g : pGG} {m x : pMI} {l : pML} {r im st : Nat} {qi : Nat → Nat} {si : Nat} {ka : Nat} (hA : okAS A) (hC : CI A g m l) (h : CIx A g m l r im st qi si) (hn : aCn A < 20) (hx : FGD st si (up2 (adW m (aCn A) (nI 1) (nI (aP A).2.2.2.2.1) (nI 0)) 3 8 (nI ka)) x) : CI (chA A ((aP A).2.2.1, (aP A).2.2.2.1, ka, (snP (aP A)).2.2.2)) g x l := by
  have hcl := CI_cl hC
  have hG8 : aG A ≤ 8 := hA.1.2.1
  have e : ∀ i, i ≠ 3 → i ≠ 6 → i ≠ 81 → i ≠ 82 → (up2 (adW m (aCn A) (nI 1) (nI (aP A).2.2.2.2.1) (nI 0)) 3 8 (nI ka)) i = m i := fun i h1 h2 h3 h4 => by unfold adW; rw [up2_row h1, up2_row h3, up2_row h4, up2_row h4, up2_row h4]
  have w82 : ∀ j, (up2 (adW m (aCn A) (nI 1) (nI (aP A).2.2.2.2.1) (nI 0)) 3 8 (nI ka)) 82 j = adW m (aCn A) (nI 1) (nI (aP A).2.2.2.2.1) (nI 0) 82 j := fun j => by rw [up2_row (by omega)]
  have w81 : ∀ j, (up2 (adW m (aCn A) (nI 1) (nI (aP A).2.2.2.2.1) (nI 0)) 3 8 (nI ka)) 81 j = adW m (aCn A) (nI 1) (nI (aP A).2.2.2.2.1) (nI 0) 81 j := fun j => by rw [up2_row (by omega)]
  have a3 : ∀ j, adW m (aCn A) (nI 1) (nI (aP A).2.2.2.2.1) (nI 0) 3 j = m 3 j := fun j => by unfold adW; rw [up2_row (by omega), up2_row (by omega), up2_row (by omega), up2_row (by omega)]
  have a6 : ∀ j, adW m (aCn A) (nI 1) (nI (aP A).2.2.2.2.1) (nI 0) 6 j = m 6 j := fun j => by unfold adW; rw [up2_row (by omega), up2_row (by omega), up2_row (by omega), up2_row (by omega)]
  refine CI_ch h e ?_ ?_ ?_ (fun j hj => ?_) ?_ hx
  · exact ⟨(by rw [up2_n (by omega), a3]; exact hcl.1), (by rw [up2_n (by omega), a3]; exact hcl.2.1), (by rw [up2_n (by omega), a3]; exact hcl.2.2.1), (by rw [up2_n (by omega), a3]; exact hcl.2.2.2.1), up2_s, fun c hc => ⟨by rw [e 4 (by omega) (by omega) (by omega) (by omega)]; exact (hcl.2.2.2.2.2.1 c hc).1, by rw [e 5 (by omega) (by omega) (by omega) (by omega)]; exact (hcl.2.2.2.2.2.1 c hc).2⟩, fun d hd => ⟨(by rw [up2_row (by omega), a6]; exact (hcl.2.2.2.2.2.2 d hd).1), by rw [e 7 (by omega) (by omega) (by omega) (by omega)]; exact (hcl.2.2.2.2.2.2 d hd).2.1, by rw [e 8 (by omega) (by omega) (by omega) (by omega)]; exact (hcl.2.2.2.2.2.2 d hd).2.2.1, by rw [e 9 (by omega) (by omega) (by omega) (by omega)]; exact (hcl.2.2.2.2.2.2 d hd).2.2.2⟩⟩
  · rw [w81]; exact up2_s
  · rw [w81]; unfold adW; rw [up2_n (by omega), up2_row (by omega), up2_row (by omega), up2_row (by omega)]
  · rw [w82]; unfold adW; rw [up2_row (by omega), up2_n (by omega), up2_n (by omega), up2_n (by omega)]
  · have q0 : adW m (aCn A) (nI 1) (nI (aP A).2.2.2.2.1) (nI 0) 82 (aCn A * 3) = nI 1 := by unfold adW; rw [up2_row (by omega), up2_n (by omega), up2_n (by omega), up2_s]
    have q1 : adW m (aCn A) (nI 1) (nI (aP A).2.2.2.2.1) (nI 0) 82 (aCn A * 3 + 1) = nI (aP A).2.2.2.2.1 := by unfold adW; rw [up2_row (by omega), up2_n (by omega), up2_s]
    have q2 : adW m (aCn A) (nI 1) (nI (aP A).2.2.2.2.1) (nI 0) 82 (aCn A * 3 + 2) = nI 0 := by unfold adW; rw [up2_row (by omega), up2_s]
    rw [w82, w82, w82, q0, q1, q2]
    exact Or.inr (Or.inl ⟨rfl, rfl, rfl, rfl, rfl, fun _ _ => rfl⟩)
set_option maxRecDepth 100000 in
set_option maxHeartbeats 4000000 in
theorem k_hire (Γ : pTG) (g : pGG) (mi : pMI) (ml : pML) (A : AS) (hA : okAS A) (hC : CI A g mi ml) (ka : Nat) (hkaa : 0 ≤ ka) (hka : ka ≤ 99) (hfull : aCn A < 20) : CT Γ 60 20 5000 mX11_hire [.ref 0, .int (nI ka)] g mi ml (CQ (chA A ((aP A).2.2.1, (aP A).2.2.2.1, ka, (snP (aP A)).2.2.2)) (.inl (nI 1)) mi ml) := by
  refine CT_of (by decide +kernel) (Nat.le_of_ble_eq_true rfl) ?_
  have hSh := CI_Sh hC
  have hcl := CI_cl hC
  have hP := hA.1
  have hG8 : aG A ≤ 8 := hP.2.1
  have hC8 : (aP A).1 ≤ 8 := hP.1
  obtain ⟨r, im, st, qi, si, hx⟩ := CI_dyn hC
  refine X_aload_n dX11_hire_0 rfl ?_
  refine X_iload_n dX11_hire_1 rfl ?_
  refine X_iconst (v := nI 0) dX11_hire_2 (by decide) ?_
  refine X_bipush (v := nI 99) dX11_hire_3 (by decide) ?_
  refine X_need dX11_hire_5 mkX11_116 (k_0 hSh) (c_needWithin Γ g mi ml hSh (nI ka) (nI 0) (nI 99)) rfl rfl (by decide) (by decide) (by decide) (by decide) (fun h => absurd (⟨nI_le (by omega) (by omega), nI_le (by omega) (by omega)⟩) h) (fun _ => ?_)
  refine X_aload_n dX11_hire_8 rfl ?_
  refine X_getr (a := 81) dX11_hire_9 fkX11_91 rfl (k_0 hSh) (r_0_12 hSh) ?_
  refine X_iconst (v := nI 1) dX11_hire_12 (by decide) ?_
  refine X_aload_n dX11_hire_13 rfl ?_
  refine X_getr (a := 3) dX11_hire_14 fkX11_25 rfl (k_0 hSh) (r_0_2 hSh) ?_
  refine X_geti dX11_hire_17 fkX11_181 rfl (k_3 hSh) ?_
  rw [hcl.2.2.2.2.1]
  refine X_iconst (v := nI 0) dX11_hire_20 (by decide) ?_
  refine X_callVI dX11_hire_21 mkX11_356 (k_81 hSh) (c_add1 Γ g mi ml hSh (aCn A) (CI_k hC).2.2.1 hfull (nI 1) (nI (aP A).2.2.2.2.1) (nI 0)) rfl rfl (by decide) (Nat.le_of_ble_eq_true rfl) ?_
  refine X_if_neN (a := 1) 29 dX11_hire_24 (by decide) (by omega) (fun h_1 => ?_) (fun h_1 => ?_)
  · refine X_aload_n dX11_hire_29 rfl ?_
    refine X_getr (a := 3) dX11_hire_30 fkX11_25 rfl (k_0 hSh) (r_0_2 hSh) ?_
    refine X_iload_n dX11_hire_33 rfl ?_
    refine X_puti dX11_hire_34 fkX11_181 rfl rfl (k_3 hSh) ?_
    refine X_aload_n dX11_hire_37 rfl ?_
    refine X_callVrV dX11_hire_38 mkX11_141 (k_0 hSh) (c_forgetD Γ g (up2 (adW mi (aCn A) (nI 1) (nI (aP A).2.2.2.2.1) (nI 0)) 3 8 (nI ka)) ml hSh im st si qi hx.2.2.2.2.2.2.2.2.2.2.2.1) rfl rfl (by decide) (Nat.le_of_ble_eq_true rfl) (fun m2 l2 hm2 => ?_)
    obtain ⟨hF2, hl2⟩ := hm2
    rw [hl2]
    refine X_iconst (v := nI 1) dX11_hire_41 (by decide) ?_
    exact X_iret dX11_hire_42 rfl ⟨rfl, kc_hire hA hC hx hfull hF2, frK_t (fun i h1 h2 => by unfold adW; rw [up2_row (by omega), up2_row (by omega), up2_row (by omega), up2_row (by omega), up2_row (by omega)]) (FGD_K hF2 (fun q => (hx.2.2.2.2.2.2.2.2.2.2.2.1.2.2.2.2.2.2.2.2 q).2.2.1)), rfl⟩
  · exact absurd h_1 (by omega)
theorem rc_hire {A : AS} {m : pMI} {ka : Nat} (hA : okAS A) (hR : RI A m) (hn : aCn A < 20) : RI (chA A ((aP A).2.2.1, (aP A).2.2.2.1, ka, (snP (aP A)).2.2.2)) (up2 (chQ (up2 m 87 0 (nI 0)) (aCn A)) 91 4 (nI ka)) := by
  have hG8 : aG A ≤ 8 := hA.1.2.1
  have hC8 : (aP A).1 ≤ 8 := hA.1.1
  have hR0 := RW_I hA hR RW_0
  have e : ∀ i, i ≠ 87 → i ≠ 91 → ¬ (121 ≤ i ∧ i ≤ 128) → i ≠ 169 + aCn A → (up2 (chQ (up2 m 87 0 (nI 0)) (aCn A)) 91 4 (nI ka)) i = m i := fun i h1 h2 h3 h4 => by rw [up2_row h2, chQ_row h1 h4, up2_row h1]
  have e91 : ∀ j, chQ (up2 m 87 0 (nI 0)) (aCn A) 91 j = m 91 j := fun j => by rw [chQ_row (by omega) (by omega), up2_row (by omega)]
  have eg : ∀ b j, b < 8 → chQ (up2 m 87 0 (nI 0)) (aCn A) (121 + b) j = m (121 + b) j := fun b j hb => by rw [chQ_row (by omega) (by omega), up2_row (by omega)]
  refine RI_ch hR hn hA.2.2.2.2.2.2.2.1 e (fun j h0 h1 h2 => ?_) ?_ ?_ ?_ hA.2.2.2.1.1
  · rw [up2_row (by omega), chQ_87 h1 h2, up2_n h0]
  · rw [up2_row (by omega)]; exact up2_s
  · exact rfSn_row (chQ_sn hA hn hR0.1) (by rw [up2_row (by omega)])
  · exact ⟨(by rw [up2_n (by omega), e91]; exact hR.1.1), (by rw [up2_n (by omega), e91]; exact hR.1.2.1), (by rw [up2_n (by omega), e91]; exact hR.1.2.2.1), (by rw [up2_n (by omega), e91]; exact hR.1.2.2.2.1), up2_s, fun c hc => by have hc : c < (aP A).1 := hc; rw [e (102 + c) (by omega) (by omega) (by omega) (by omega)]; exact hR.1.2.2.2.2.2.1 c hc, fun d hd => ⟨(by have hd8 : d < 8 := Nat.lt_of_lt_of_le hd hG8; rw [up2_row (by omega), eg d _ hd8]; exact (hR.1.2.2.2.2.2.2 d hd).1), (by have hd8 : d < 8 := Nat.lt_of_lt_of_le hd hG8; rw [up2_row (by omega), eg d _ hd8]; exact (hR.1.2.2.2.2.2.2 d hd).2.1), (by have hd8 : d < 8 := Nat.lt_of_lt_of_le hd hG8; rw [up2_row (by omega), eg d _ hd8]; exact (hR.1.2.2.2.2.2.2 d hd).2.2.1), (by have hd8 : d < 8 := Nat.lt_of_lt_of_le hd hG8; rw [up2_row (by omega), eg d _ hd8]; exact (hR.1.2.2.2.2.2.2 d hd).2.2.2)⟩⟩
set_option maxRecDepth 100000 in
set_option maxHeartbeats 4000000 in
theorem r_hire (Γ : pTG) (g : pGG) (mi : pMI) (ml : pML) (A : AS) (hA : okAS A) (hSh : Sh g) (hR : RI A mi) (ka : Nat) (hkaa : 0 ≤ ka) (hka : ka ≤ 99) (hfull : aCn A < 20) : CT Γ 60 0 0 mX12_hire [.ref 87, .int (nI ka)] g mi ml (RQ (chA A ((aP A).2.2.1, (aP A).2.2.2.1, ka, (snP (aP A)).2.2.2)) (.inl (nI 1)) cd1 g mi ml) := by
  refine CT_of (by decide +kernel) (Nat.le_of_ble_eq_true rfl) ?_
  have hP := hA.1
  have hG8 : aG A ≤ 8 := hP.2.1
  have hC8 : (aP A).1 ≤ 8 := hP.1
  refine X_aload_n dX12_hire_0 rfl ?_
  refine X_iconst (v := nI 0) dX12_hire_1 (by decide) ?_
  refine X_puti dX12_hire_2 fkX12_158 rfl rfl (k_87 hSh) ?_
  refine X_aload_n dX12_hire_5 rfl ?_
  refine X_iload_n dX12_hire_6 rfl ?_
  refine X_iconst (v := nI 0) dX12_hire_7 (by decide) ?_
  refine X_bipush (v := nI 99) dX12_hire_8 (by decide) ?_
  refine X_callSI dX12_hire_10 mkX12_192 (c_in Γ g (up2 mi 87 0 (nI 0)) ml (nI ka) (nI 0) (nI 99)) rfl rfl (by decide) (Nat.le_of_ble_eq_true rfl) ?_
  refine X_topi (show bI (decide (nI 0 ≤ nI ka) && decide (nI ka ≤ nI 99)) = nI 1 from congrArg bI (show (decide (nI 0 ≤ nI ka) && decide (nI ka ≤ nI 99)) = true from by rw [decide_eq_true (nI_le (by omega) (by omega)), decide_eq_true (nI_le (by omega) (by omega))]; rfl)) ?_
  refine X_if_neN (a := 1) 20 dX12_hire_13 (by decide) (by omega) (fun h_1 => ?_) (fun h_1 => ?_)
  · refine X_iconst (v := nI 0) dX12_hire_20 (by decide) ?_
    refine X_iconst (v := nI 1) dX12_hire_21 (by decide) ?_
    refine X_iconst (v := nI 1) dX12_hire_22 (by decide) ?_
    refine X_callVI dX12_hire_23 mkX12_228 (k_87 hSh) (c_bad0 Γ g (up2 mi 87 0 (nI 0)) ml hSh 1 1 up2_s) rfl rfl (by decide) (Nat.le_of_ble_eq_true rfl) ?_
    refine X_if_eqN (a := 0) 31 dX12_hire_26 (by decide) (by omega) (fun h_2 => ?_) (fun h_2 => ?_)
    · refine X_aload_n dX12_hire_31 rfl ?_
      refine X_callVI dX12_hire_32 mkX12_411 (k_87 hSh) (c_changes1 Γ g (up2 mi 87 0 (nI 0)) ml hSh (aCn A) ((up2_n (by omega)).trans hR.2.2.2.2.2.1.1) hfull) rfl rfl (by decide) (Nat.le_of_ble_eq_true rfl) ?_
      refine X_if_neN (a := 1) 40 dX12_hire_35 (by decide) (by omega) (fun h_3 => ?_) (fun h_3 => ?_)
      · refine X_aload_n dX12_hire_40 rfl ?_
        refine X_getr (a := 91) dX12_hire_41 fkX12_23 rfl (k_87 hSh) (r_87_12 hSh) ?_
        refine X_iconst (v := nI 4) dX12_hire_44 (by decide) ?_
        refine X_iload_n dX12_hire_45 rfl ?_
        refine X_iast 4 dX12_hire_46 (k_91 hSh) rfl (by omega) ?_
        refine X_iconst (v := nI 1) dX12_hire_47 (by decide) ?_
        exact X_iret dX12_hire_48 rfl ⟨rfl, rfl, rc_hire hA hR hfull, fun i hi => by rw [up2_row (by omega), chQ_row (by omega) (by omega), up2_row (by omega)], _, rfl, rfl, by rw [up2_row (by omega), chQ_87 (by omega) (by omega), up2_s]⟩
      · exact absurd h_3 (by omega)
    · exact absurd h_2 (by omega)
  · exact absurd h_1 (by omega)
theorem m_hire (A : AS) (hA : okAS A) (xa : Int32) : MOK mX11_hire mX12_hire cd1 [.int xa] A := by
  by_cases hg0 : nI 0 ≤ xa ∧ xa ≤ nI 99
  · obtain ⟨ka, hkaa, hka, rfl⟩ := (wi_iff (by decide) (by decide)).mp hg0
    have hc20 := hA.2.2.2.2.2.1
    by_cases hfull : aCn A < 20
    · exact ⟨.inl (nI 1), chA A ((aP A).2.2.1, (aP A).2.2.2.1, ka, (snP (aP A)).2.2.2), okc_ch hA hfull ⟨hA.1.2.2.1, hA.1.2.2.2.1, hA.1.2.2.2.2.1, by show ka < 100; omega, fun b hb => (hA.1.2.2.2.2.2.2.2 b hb).1⟩, fun j h => (by cases h), fun Γ g m l hC => k_hire Γ g m l A hA hC ka hkaa hka hfull, fun Γ g m l hSh hR => r_hire Γ g m l A hA hSh hR ka hkaa hka hfull⟩
    · exact ⟨.inl (nI 0), A, hA, fun j h => (by cases h), fun Γ g m l hC => k_hire_x Γ g m l A hA hC ka hkaa hka (by omega), fun Γ g m l hSh hR => r_hire_x Γ g m l A hA hSh hR ka hkaa hka (by omega)⟩
  · exact ⟨.inr 1, rfA A 1, ok_rf hA, fun j h => by cases h; decide, fun Γ g m l hC => k_hire_f0 Γ g m l A hA hC xa hg0, fun Γ g m l hSh hR => r_hire_f0 Γ g m l A hA hSh hR xa hg0⟩
set_option maxRecDepth 100000 in
set_option maxHeartbeats 4000000 in
theorem k_wakes_f0 (Γ : pTG) (g : pGG) (mi : pMI) (ml : pML) (A : AS) (hA : okAS A) (hC : CI A g mi ml) (v : Int32) (hf : ¬ ∃ b, b < aG A ∧ v = nI b) (xa : Int32) : CT Γ 60 20 5000 mX11_wakes [.ref 0, .int v, .int xa] g mi ml (CQ (rfA A 0) (.inr 0) mi ml) := by
  refine CT_of (by decide +kernel) (Nat.le_of_ble_eq_true rfl) ?_
  have hSh := CI_Sh hC
  have hcl := CI_cl hC
  have hP := hA.1
  have hG8 : aG A ≤ 8 := hP.2.1
  have hC8 : (aP A).1 ≤ 8 := hP.1
  refine X_aload_n dX11_wakes_0 rfl ?_
  refine X_iload_n dX11_wakes_1 rfl ?_
  exact X_need dX11_wakes_2 mkX11_147 (k_0 hSh) (c_needGuest Γ g mi ml hSh v) rfl rfl (by decide) (by decide) (by decide) (by decide) (fun _ => ⟨rfl, CI_rf (by decide) hC, frK_86, rfl⟩) (fun h => absurd ((gd_iff hG8).mp (by rw [← hcl.2.1]; exact h)) hf)
set_option maxRecDepth 100000 in
set_option maxHeartbeats 4000000 in
theorem r_wakes_f0 (Γ : pTG) (g : pGG) (mi : pMI) (ml : pML) (A : AS) (hA : okAS A) (hSh : Sh g) (hR : RI A mi) (v : Int32) (hf : ¬ ∃ b, b < aG A ∧ v = nI b) (xa : Int32) : CT Γ 60 0 0 mX12_wakes [.ref 87, .int v, .int xa] g mi ml (RQ (rfA A 0) (.inr 0) cd2 g mi ml) := by
  refine CT_of (by decide +kernel) (Nat.le_of_ble_eq_true rfl) ?_
  have hP := hA.1
  have hG8 : aG A ≤ 8 := hP.2.1
  have hC8 : (aP A).1 ≤ 8 := hP.1
  refine X_aload_n dX12_wakes_0 rfl ?_
  refine X_iconst (v := nI 0) dX12_wakes_1 (by decide) ?_
  refine X_puti dX12_wakes_2 fkX12_158 rfl rfl (k_87 hSh) ?_
  refine X_aload_n dX12_wakes_5 rfl ?_
  refine X_aload_n dX12_wakes_6 rfl ?_
  refine X_iload_n dX12_wakes_7 rfl ?_
  refine X_callVI dX12_wakes_8 mkX12_285 (k_87 hSh) (c_isGuest Γ g (up2 mi 87 0 (nI 0)) ml hSh v) rfl rfl (by decide) (Nat.le_of_ble_eq_true rfl) ?_
  refine X_topi (show bI (decide (nI 0 ≤ v) && decide (v ≤ (up2 mi 87 0 (nI 0)) 91 1 - nI 1)) = nI 0 from congrArg bI (show (decide (nI 0 ≤ v) && decide (v ≤ (up2 mi 87 0 (nI 0)) 91 1 - nI 1)) = false from Bool.eq_false_iff.mpr (fun q => hf ((gd_ref hG8).mp (by rw [(show (up2 mi 87 0 (nI 0)) 91 1 = nI (aG A) from ((congrFun (up2_row (by omega)) _).trans hR.1.2.1))] at q; exact q))))) ?_
  refine X_if_neN (a := 0) 18 dX12_wakes_11 (by decide) (by omega) (fun h_1 => ?_) (fun h_1 => ?_)
  · exact absurd h_1 (by omega)
  · refine X_iconst (v := nI 1) dX12_wakes_14 (by decide) ?_
    refine X_goto 19 dX12_wakes_15 (by decide) ?_
    refine X_iconst (v := nI 1) dX12_wakes_19 (by decide) ?_
    refine X_iconst (v := nI 0) dX12_wakes_20 (by decide) ?_
    refine X_callVI dX12_wakes_21 mkX12_228 (k_87 hSh) (c_bad1 Γ g (up2 mi 87 0 (nI 0)) ml hSh 1 0 (by decide) (by decide) (by decide) up2_s) rfl rfl (by decide) (Nat.le_of_ble_eq_true rfl) ?_
    refine X_mi (show _ = mB mi 1 0 from rfl) ?_
    refine X_if_neN (a := 1) 48 dX12_wakes_24 (by decide) (by omega) (fun h_2 => ?_) (fun h_2 => ?_)
    · refine X_iconst (v := nI 0) dX12_wakes_48 (by decide) ?_
      exact X_iret dX12_wakes_49 rfl ⟨rfl, rfl, RI_rf hA (by decide) hR, fr2_B, _, rfl, mB_0⟩
    · exact absurd h_2 (by omega)
set_option maxRecDepth 100000 in
set_option maxHeartbeats 4000000 in
theorem k_wakes_f1 (Γ : pTG) (g : pGG) (mi : pMI) (ml : pML) (A : AS) (hA : okAS A) (hC : CI A g mi ml) (b : Nat) (hb : b < aG A) (xa : Int32) (hf : ¬ (nI 0 ≤ xa ∧ xa ≤ nI 23)) : CT Γ 60 20 5000 mX11_wakes [.ref 0, .int (nI b), .int xa] g mi ml (CQ (rfA A 1) (.inr 1) mi ml) := by
  refine CT_of (by decide +kernel) (Nat.le_of_ble_eq_true rfl) ?_
  have hSh := CI_Sh hC
  have hcl := CI_cl hC
  have hP := hA.1
  have hG8 : aG A ≤ 8 := hP.2.1
  have hC8 : (aP A).1 ≤ 8 := hP.1
  refine X_aload_n dX11_wakes_0 rfl ?_
  refine X_iload_n dX11_wakes_1 rfl ?_
  refine X_need dX11_wakes_2 mkX11_147 (k_0 hSh) (c_needGuest Γ g mi ml hSh (nI b)) rfl rfl (by decide) (by decide) (by decide) (by decide) (fun h => absurd (by rw [hcl.2.1]; exact (gd_iff hG8).mpr ⟨b, hb, rfl⟩) h) (fun _ => ?_)
  refine X_aload_n dX11_wakes_5 rfl ?_
  refine X_iload_n dX11_wakes_6 rfl ?_
  refine X_iconst (v := nI 0) dX11_wakes_7 (by decide) ?_
  refine X_bipush (v := nI 23) dX11_wakes_8 (by decide) ?_
  exact X_need dX11_wakes_10 mkX11_116 (k_0 hSh) (c_needWithin Γ g mi ml hSh xa (nI 0) (nI 23)) rfl rfl (by decide) (by decide) (by decide) (by decide) (fun _ => ⟨rfl, CI_rf (by decide) hC, frK_86, rfl⟩) (fun h => absurd h hf)
set_option maxRecDepth 100000 in
set_option maxHeartbeats 4000000 in
theorem r_wakes_f1 (Γ : pTG) (g : pGG) (mi : pMI) (ml : pML) (A : AS) (hA : okAS A) (hSh : Sh g) (hR : RI A mi) (b : Nat) (hb : b < aG A) (xa : Int32) (hf : ¬ (nI 0 ≤ xa ∧ xa ≤ nI 23)) : CT Γ 60 0 0 mX12_wakes [.ref 87, .int (nI b), .int xa] g mi ml (RQ (rfA A 1) (.inr 1) cd2 g mi ml) := by
  refine CT_of (by decide +kernel) (Nat.le_of_ble_eq_true rfl) ?_
  have hP := hA.1
  have hG8 : aG A ≤ 8 := hP.2.1
  have hC8 : (aP A).1 ≤ 8 := hP.1
  refine X_aload_n dX12_wakes_0 rfl ?_
  refine X_iconst (v := nI 0) dX12_wakes_1 (by decide) ?_
  refine X_puti dX12_wakes_2 fkX12_158 rfl rfl (k_87 hSh) ?_
  refine X_aload_n dX12_wakes_5 rfl ?_
  refine X_aload_n dX12_wakes_6 rfl ?_
  refine X_iload_n dX12_wakes_7 rfl ?_
  refine X_callVI dX12_wakes_8 mkX12_285 (k_87 hSh) (c_isGuest Γ g (up2 mi 87 0 (nI 0)) ml hSh (nI b)) rfl rfl (by decide) (Nat.le_of_ble_eq_true rfl) ?_
  refine X_topi (show bI (decide (nI 0 ≤ nI b) && decide (nI b ≤ (up2 mi 87 0 (nI 0)) 91 1 - nI 1)) = nI 1 from congrArg bI (show (decide (nI 0 ≤ nI b) && decide (nI b ≤ (up2 mi 87 0 (nI 0)) 91 1 - nI 1)) = true from by rw [(show (up2 mi 87 0 (nI 0)) 91 1 = nI (aG A) from ((congrFun (up2_row (by omega)) _).trans hR.1.2.1))]; exact (gd_ref hG8).mpr ⟨b, hb, rfl⟩)) ?_
  refine X_if_neN (a := 1) 18 dX12_wakes_11 (by decide) (by omega) (fun h_1 => ?_) (fun h_1 => ?_)
  · refine X_iconst (v := nI 0) dX12_wakes_18 (by decide) ?_
    refine X_iconst (v := nI 1) dX12_wakes_19 (by decide) ?_
    refine X_iconst (v := nI 0) dX12_wakes_20 (by decide) ?_
    refine X_callVI dX12_wakes_21 mkX12_228 (k_87 hSh) (c_bad0 Γ g (up2 mi 87 0 (nI 0)) ml hSh 1 0 up2_s) rfl rfl (by decide) (Nat.le_of_ble_eq_true rfl) ?_
    refine X_if_neN (a := 0) 48 dX12_wakes_24 (by decide) (by omega) (fun h_2 => ?_) (fun h_2 => ?_)
    · exact absurd h_2 (by omega)
    · refine X_aload_n dX12_wakes_27 rfl ?_
      refine X_iload_n dX12_wakes_28 rfl ?_
      refine X_callSI dX12_wakes_29 mkX12_298 (c_isHalf Γ g (up2 mi 87 0 (nI 0)) ml xa) rfl rfl (by decide) (Nat.le_of_ble_eq_true rfl) ?_
      refine X_topi (show bI (decide (nI 0 ≤ xa) && decide (xa ≤ nI 23)) = nI 0 from congrArg bI (show (decide (nI 0 ≤ xa) && decide (xa ≤ nI 23)) = false from Bool.eq_false_iff.mpr (fun q => hf (by rw [Bool.and_eq_true, decide_eq_true_eq, decide_eq_true_eq] at q; exact q)))) ?_
      refine X_if_neN (a := 0) 39 dX12_wakes_32 (by decide) (by omega) (fun h_3 => ?_) (fun h_3 => ?_)
      · exact absurd h_3 (by omega)
      · refine X_iconst (v := nI 1) dX12_wakes_35 (by decide) ?_
        refine X_goto 40 dX12_wakes_36 (by decide) ?_
        refine X_iconst (v := nI 2) dX12_wakes_40 (by decide) ?_
        refine X_iconst (v := nI 1) dX12_wakes_41 (by decide) ?_
        refine X_callVI dX12_wakes_42 mkX12_228 (k_87 hSh) (c_bad1 Γ g (up2 mi 87 0 (nI 0)) ml hSh 2 1 (by decide) (by decide) (by decide) up2_s) rfl rfl (by decide) (Nat.le_of_ble_eq_true rfl) ?_
        refine X_mi (show _ = mB mi 2 1 from rfl) ?_
        refine X_if_eqN (a := 1) 50 dX12_wakes_45 (by decide) (by omega) (fun h_4 => ?_) (fun h_4 => ?_)
        · exact absurd h_4 (by omega)
        · refine X_iconst (v := nI 0) dX12_wakes_48 (by decide) ?_
          exact X_iret dX12_wakes_49 rfl ⟨rfl, rfl, RI_rf hA (by decide) hR, fr2_B, _, rfl, mB_0⟩
  · exact absurd h_1 (by omega)
set_option maxRecDepth 100000 in
set_option maxHeartbeats 4000000 in
theorem k_wakes_x (Γ : pTG) (g : pGG) (mi : pMI) (ml : pML) (A : AS) (hA : okAS A) (hC : CI A g mi ml) (b : Nat) (hb : b < aG A) (ka : Nat) (hkaa : 0 ≤ ka) (hka : ka ≤ 23) (hfull : aCn A = 20) : CT Γ 60 20 5000 mX11_wakes [.ref 0, .int (nI b), .int (nI ka)] g mi ml (CQ A (.inl (nI 0)) mi ml) := by
  refine CT_of (by decide +kernel) (Nat.le_of_ble_eq_true rfl) ?_
  have hSh := CI_Sh hC
  have hcl := CI_cl hC
  have hP := hA.1
  have hG8 : aG A ≤ 8 := hP.2.1
  have hC8 : (aP A).1 ≤ 8 := hP.1
  have h81 : mi 81 2 = nI 20 := by rw [← hfull]; exact (CI_k hC).2.2.1
  refine X_aload_n dX11_wakes_0 rfl ?_
  refine X_iload_n dX11_wakes_1 rfl ?_
  refine X_need dX11_wakes_2 mkX11_147 (k_0 hSh) (c_needGuest Γ g mi ml hSh (nI b)) rfl rfl (by decide) (by decide) (by decide) (by decide) (fun h => absurd (by rw [hcl.2.1]; exact (gd_iff hG8).mpr ⟨b, hb, rfl⟩) h) (fun _ => ?_)
  refine X_aload_n dX11_wakes_5 rfl ?_
  refine X_iload_n dX11_wakes_6 rfl ?_
  refine X_iconst (v := nI 0) dX11_wakes_7 (by decide) ?_
  refine X_bipush (v := nI 23) dX11_wakes_8 (by decide) ?_
  refine X_need dX11_wakes_10 mkX11_116 (k_0 hSh) (c_needWithin Γ g mi ml hSh (nI ka) (nI 0) (nI 23)) rfl rfl (by decide) (by decide) (by decide) (by decide) (fun h => absurd (⟨nI_le (by omega) (by omega), nI_le (by omega) (by omega)⟩) h) (fun _ => ?_)
  refine X_aload_n dX11_wakes_13 rfl ?_
  refine X_getr (a := 81) dX11_wakes_14 fkX11_91 rfl (k_0 hSh) (r_0_12 hSh) ?_
  refine X_iconst (v := nI 2) dX11_wakes_17 (by decide) ?_
  refine X_iload_n dX11_wakes_18 rfl ?_
  refine X_aload_n dX11_wakes_19 rfl ?_
  refine X_getr (a := 3) dX11_wakes_20 fkX11_25 rfl (k_0 hSh) (r_0_2 hSh) ?_
  refine X_getr (a := 6) dX11_wakes_23 fkX11_199 rfl (k_3 hSh) (r_3_2 hSh) ?_
  refine X_iload_n dX11_wakes_26 rfl ?_
  refine X_iald b dX11_wakes_27 (k_6 hSh) rfl (by omega) ?_
  rw [(hcl.2.2.2.2.2.2 b hb).1]
  refine X_callVI dX11_wakes_28 mkX11_356 (k_81 hSh) (c_add0 Γ g mi ml hSh h81 (nI 2) (nI b) (nI ((aP A).2.2.2.2.2.2 b 0))) rfl rfl (by decide) (Nat.le_of_ble_eq_true rfl) ?_
  refine X_if_neN (a := 0) 36 dX11_wakes_31 (by decide) (by omega) (fun h_1 => ?_) (fun h_1 => ?_)
  · exact absurd h_1 (by omega)
  · refine X_iconst (v := nI 0) dX11_wakes_34 (by decide) ?_
    exact X_iret dX11_wakes_35 rfl ⟨rfl, hC, frK_r, rfl⟩
set_option maxRecDepth 100000 in
set_option maxHeartbeats 4000000 in
theorem r_wakes_x (Γ : pTG) (g : pGG) (mi : pMI) (ml : pML) (A : AS) (hA : okAS A) (hSh : Sh g) (hR : RI A mi) (b : Nat) (hb : b < aG A) (ka : Nat) (hkaa : 0 ≤ ka) (hka : ka ≤ 23) (hfull : aCn A = 20) : CT Γ 60 0 0 mX12_wakes [.ref 87, .int (nI b), .int (nI ka)] g mi ml (RQ A (.inl (nI 0)) cd2 g mi ml) := by
  refine CT_of (by decide +kernel) (Nat.le_of_ble_eq_true rfl) ?_
  have hP := hA.1
  have hG8 : aG A ≤ 8 := hP.2.1
  have hC8 : (aP A).1 ≤ 8 := hP.1
  refine X_aload_n dX12_wakes_0 rfl ?_
  refine X_iconst (v := nI 0) dX12_wakes_1 (by decide) ?_
  refine X_puti dX12_wakes_2 fkX12_158 rfl rfl (k_87 hSh) ?_
  refine X_aload_n dX12_wakes_5 rfl ?_
  refine X_aload_n dX12_wakes_6 rfl ?_
  refine X_iload_n dX12_wakes_7 rfl ?_
  refine X_callVI dX12_wakes_8 mkX12_285 (k_87 hSh) (c_isGuest Γ g (up2 mi 87 0 (nI 0)) ml hSh (nI b)) rfl rfl (by decide) (Nat.le_of_ble_eq_true rfl) ?_
  refine X_topi (show bI (decide (nI 0 ≤ nI b) && decide (nI b ≤ (up2 mi 87 0 (nI 0)) 91 1 - nI 1)) = nI 1 from congrArg bI (show (decide (nI 0 ≤ nI b) && decide (nI b ≤ (up2 mi 87 0 (nI 0)) 91 1 - nI 1)) = true from by rw [(show (up2 mi 87 0 (nI 0)) 91 1 = nI (aG A) from ((congrFun (up2_row (by omega)) _).trans hR.1.2.1))]; exact (gd_ref hG8).mpr ⟨b, hb, rfl⟩)) ?_
  refine X_if_neN (a := 1) 18 dX12_wakes_11 (by decide) (by omega) (fun h_1 => ?_) (fun h_1 => ?_)
  · refine X_iconst (v := nI 0) dX12_wakes_18 (by decide) ?_
    refine X_iconst (v := nI 1) dX12_wakes_19 (by decide) ?_
    refine X_iconst (v := nI 0) dX12_wakes_20 (by decide) ?_
    refine X_callVI dX12_wakes_21 mkX12_228 (k_87 hSh) (c_bad0 Γ g (up2 mi 87 0 (nI 0)) ml hSh 1 0 up2_s) rfl rfl (by decide) (Nat.le_of_ble_eq_true rfl) ?_
    refine X_if_neN (a := 0) 48 dX12_wakes_24 (by decide) (by omega) (fun h_2 => ?_) (fun h_2 => ?_)
    · exact absurd h_2 (by omega)
    · refine X_aload_n dX12_wakes_27 rfl ?_
      refine X_iload_n dX12_wakes_28 rfl ?_
      refine X_callSI dX12_wakes_29 mkX12_298 (c_isHalf Γ g (up2 mi 87 0 (nI 0)) ml (nI ka)) rfl rfl (by decide) (Nat.le_of_ble_eq_true rfl) ?_
      refine X_topi (show bI (decide (nI 0 ≤ nI ka) && decide (nI ka ≤ nI 23)) = nI 1 from congrArg bI (show (decide (nI 0 ≤ nI ka) && decide (nI ka ≤ nI 23)) = true from by rw [decide_eq_true (nI_le (by omega) (by omega)), decide_eq_true (nI_le (by omega) (by omega))]; rfl)) ?_
      refine X_if_neN (a := 1) 39 dX12_wakes_32 (by decide) (by omega) (fun h_3 => ?_) (fun h_3 => ?_)
      · refine X_iconst (v := nI 0) dX12_wakes_39 (by decide) ?_
        refine X_iconst (v := nI 2) dX12_wakes_40 (by decide) ?_
        refine X_iconst (v := nI 1) dX12_wakes_41 (by decide) ?_
        refine X_callVI dX12_wakes_42 mkX12_228 (k_87 hSh) (c_bad0 Γ g (up2 mi 87 0 (nI 0)) ml hSh 2 1 up2_s) rfl rfl (by decide) (Nat.le_of_ble_eq_true rfl) ?_
        refine X_if_eqN (a := 0) 50 dX12_wakes_45 (by decide) (by omega) (fun h_4 => ?_) (fun h_4 => ?_)
        · refine X_aload_n dX12_wakes_50 rfl ?_
          refine X_callVI dX12_wakes_51 mkX12_411 (k_87 hSh) (c_changes0 Γ g (up2 mi 87 0 (nI 0)) ml hSh ((up2_n (by omega)).trans (by rw [← hfull]; exact hR.2.2.2.2.2.1.1))) rfl rfl (by decide) (Nat.le_of_ble_eq_true rfl) ?_
          refine X_if_neN (a := 0) 59 dX12_wakes_54 (by decide) (by omega) (fun h_5 => ?_) (fun h_5 => ?_)
          · exact absurd h_5 (by omega)
          · refine X_iconst (v := nI 0) dX12_wakes_57 (by decide) ?_
            exact X_iret dX12_wakes_58 rfl ⟨rfl, rfl, RI_fr hA hR (frW_u frW_r (by unfold rsF rsR; omega)), (frM2_u frM2_r (by omega)), _, rfl, rfl, (show (up2 mi 87 0 (nI 0)) 87 0 = nI 0 by rw [up2_s])⟩
        · exact absurd h_4 (by omega)
      · exact absurd h_3 (by omega)
  · exact absurd h_1 (by omega)
theorem kc_wakes {A : AS} {g : pGG} {m x : pMI} {l : pML} {r im st : Nat} {qi : Nat → Nat} {si : Nat} {ka : Nat} (hA : okAS A) (hC : CI A g m l) (h : CIx A g m l r im st qi si) (hn : aCn A < 20) (b : Nat) (hb : b < aG A) (hx : FGD st si (up2 (adW m (aCn A) (nI 2) (nI b) (nI ((aP A).2.2.2.2.2.2 b 0))) 6 b (nI ka)) x) : CI (chA A ((aP A).2.2.1, (aP A).2.2.2.1, (aP A).2.2.2.2.1, ud (snP (aP A)).2.2.2 b ka)) g x l := by
  have hcl := CI_cl hC
  have hG8 : aG A ≤ 8 := hA.1.2.1
  have e : ∀ i, i ≠ 3 → i ≠ 6 → i ≠ 81 → i ≠ 82 → (up2 (adW m (aCn A) (nI 2) (nI b) (nI ((aP A).2.2.2.2.2.2 b 0))) 6 b (nI ka)) i = m i := fun i h1 h2 h3 h4 => by unfold adW; rw [up2_row h2, up2_row h3, up2_row h4, up2_row h4, up2_row h4]
  have w82 : ∀ j, (up2 (adW m (aCn A) (nI 2) (nI b) (nI ((aP A).2.2.2.2.2.2 b 0))) 6 b (nI ka)) 82 j = adW m (aCn A) (nI 2) (nI b) (nI ((aP A).2.2.2.2.2.2 b 0)) 82 j := fun j => by rw [up2_row (by omega)]
  have w81 : ∀ j, (up2 (adW m (aCn A) (nI 2) (nI b) (nI ((aP A).2.2.2.2.2.2 b 0))) 6 b (nI ka)) 81 j = adW m (aCn A) (nI 2) (nI b) (nI ((aP A).2.2.2.2.2.2 b 0)) 81 j := fun j => by rw [up2_row (by omega)]
  have a3 : ∀ j, adW m (aCn A) (nI 2) (nI b) (nI ((aP A).2.2.2.2.2.2 b 0)) 3 j = m 3 j := fun j => by unfold adW; rw [up2_row (by omega), up2_row (by omega), up2_row (by omega), up2_row (by omega)]
  have a6 : ∀ j, adW m (aCn A) (nI 2) (nI b) (nI ((aP A).2.2.2.2.2.2 b 0)) 6 j = m 6 j := fun j => by unfold adW; rw [up2_row (by omega), up2_row (by omega), up2_row (by omega), up2_row (by omega)]
  refine CI_ch h e ?_ ?_ ?_ (fun j hj => ?_) ?_ hx
  · exact ⟨(by rw [up2_row (by omega), a3]; exact hcl.1), (by rw [up2_row (by omega), a3]; exact hcl.2.1), (by rw [up2_row (by omega), a3]; exact hcl.2.2.1), (by rw [up2_row (by omega), a3]; exact hcl.2.2.2.1), (by rw [up2_row (by omega), a3]; exact hcl.2.2.2.2.1), fun c hc => ⟨by rw [e 4 (by omega) (by omega) (by omega) (by omega)]; exact (hcl.2.2.2.2.2.1 c hc).1, by rw [e 5 (by omega) (by omega) (by omega) (by omega)]; exact (hcl.2.2.2.2.2.1 c hc).2⟩, fun d hd => ⟨(show (up2 (adW m (aCn A) (nI 2) (nI b) (nI ((aP A).2.2.2.2.2.2 b 0))) 6 b (nI ka)) 6 d = nI (ud (snP (aP A)).2.2.2 b ka d) by by_cases q : d = b; (rw [q, up2_s, ud_s]); rw [up2_n q, ud_n q, a6]; exact (hcl.2.2.2.2.2.2 d hd).1), by rw [e 7 (by omega) (by omega) (by omega) (by omega)]; exact (hcl.2.2.2.2.2.2 d hd).2.1, by rw [e 8 (by omega) (by omega) (by omega) (by omega)]; exact (hcl.2.2.2.2.2.2 d hd).2.2.1, by rw [e 9 (by omega) (by omega) (by omega) (by omega)]; exact (hcl.2.2.2.2.2.2 d hd).2.2.2⟩⟩
  · rw [w81]; exact up2_s
  · rw [w81]; unfold adW; rw [up2_n (by omega), up2_row (by omega), up2_row (by omega), up2_row (by omega)]
  · rw [w82]; unfold adW; rw [up2_row (by omega), up2_n (by omega), up2_n (by omega), up2_n (by omega)]
  · have q0 : adW m (aCn A) (nI 2) (nI b) (nI ((aP A).2.2.2.2.2.2 b 0)) 82 (aCn A * 3) = nI 2 := by unfold adW; rw [up2_row (by omega), up2_n (by omega), up2_n (by omega), up2_s]
    have q1 : adW m (aCn A) (nI 2) (nI b) (nI ((aP A).2.2.2.2.2.2 b 0)) 82 (aCn A * 3 + 1) = nI b := by unfold adW; rw [up2_row (by omega), up2_n (by omega), up2_s]
    have q2 : adW m (aCn A) (nI 2) (nI b) (nI ((aP A).2.2.2.2.2.2 b 0)) 82 (aCn A * 3 + 2) = nI ((aP A).2.2.2.2.2.2 b 0) := by unfold adW; rw [up2_row (by omega), up2_s]
    rw [w82, w82, w82, q0, q1, q2]
    exact Or.inr (Or.inr ⟨rfl, b, hb, rfl, rfl, rfl, rfl, rfl, fun c hc q => ud_n q⟩)
set_option maxRecDepth 100000 in
set_option maxHeartbeats 4000000 in
theorem k_wakes (Γ : pTG) (g : pGG) (mi : pMI) (ml : pML) (A : AS) (hA : okAS A) (hC : CI A g mi ml) (b : Nat) (hb : b < aG A) (ka : Nat) (hkaa : 0 ≤ ka) (hka : ka ≤ 23) (hfull : aCn A < 20) : CT Γ 60 20 5000 mX11_wakes [.ref 0, .int (nI b), .int (nI ka)] g mi ml (CQ (chA A ((aP A).2.2.1, (aP A).2.2.2.1, (aP A).2.2.2.2.1, ud (snP (aP A)).2.2.2 b ka)) (.inl (nI 1)) mi ml) := by
  refine CT_of (by decide +kernel) (Nat.le_of_ble_eq_true rfl) ?_
  have hSh := CI_Sh hC
  have hcl := CI_cl hC
  have hP := hA.1
  have hG8 : aG A ≤ 8 := hP.2.1
  have hC8 : (aP A).1 ≤ 8 := hP.1
  obtain ⟨r, im, st, qi, si, hx⟩ := CI_dyn hC
  refine X_aload_n dX11_wakes_0 rfl ?_
  refine X_iload_n dX11_wakes_1 rfl ?_
  refine X_need dX11_wakes_2 mkX11_147 (k_0 hSh) (c_needGuest Γ g mi ml hSh (nI b)) rfl rfl (by decide) (by decide) (by decide) (by decide) (fun h => absurd (by rw [hcl.2.1]; exact (gd_iff hG8).mpr ⟨b, hb, rfl⟩) h) (fun _ => ?_)
  refine X_aload_n dX11_wakes_5 rfl ?_
  refine X_iload_n dX11_wakes_6 rfl ?_
  refine X_iconst (v := nI 0) dX11_wakes_7 (by decide) ?_
  refine X_bipush (v := nI 23) dX11_wakes_8 (by decide) ?_
  refine X_need dX11_wakes_10 mkX11_116 (k_0 hSh) (c_needWithin Γ g mi ml hSh (nI ka) (nI 0) (nI 23)) rfl rfl (by decide) (by decide) (by decide) (by decide) (fun h => absurd (⟨nI_le (by omega) (by omega), nI_le (by omega) (by omega)⟩) h) (fun _ => ?_)
  refine X_aload_n dX11_wakes_13 rfl ?_
  refine X_getr (a := 81) dX11_wakes_14 fkX11_91 rfl (k_0 hSh) (r_0_12 hSh) ?_
  refine X_iconst (v := nI 2) dX11_wakes_17 (by decide) ?_
  refine X_iload_n dX11_wakes_18 rfl ?_
  refine X_aload_n dX11_wakes_19 rfl ?_
  refine X_getr (a := 3) dX11_wakes_20 fkX11_25 rfl (k_0 hSh) (r_0_2 hSh) ?_
  refine X_getr (a := 6) dX11_wakes_23 fkX11_199 rfl (k_3 hSh) (r_3_2 hSh) ?_
  refine X_iload_n dX11_wakes_26 rfl ?_
  refine X_iald b dX11_wakes_27 (k_6 hSh) rfl (by omega) ?_
  rw [(hcl.2.2.2.2.2.2 b hb).1]
  refine X_callVI dX11_wakes_28 mkX11_356 (k_81 hSh) (c_add1 Γ g mi ml hSh (aCn A) (CI_k hC).2.2.1 hfull (nI 2) (nI b) (nI ((aP A).2.2.2.2.2.2 b 0))) rfl rfl (by decide) (Nat.le_of_ble_eq_true rfl) ?_
  refine X_if_neN (a := 1) 36 dX11_wakes_31 (by decide) (by omega) (fun h_1 => ?_) (fun h_1 => ?_)
  · refine X_aload_n dX11_wakes_36 rfl ?_
    refine X_getr (a := 3) dX11_wakes_37 fkX11_25 rfl (k_0 hSh) (r_0_2 hSh) ?_
    refine X_getr (a := 6) dX11_wakes_40 fkX11_199 rfl (k_3 hSh) (r_3_2 hSh) ?_
    refine X_iload_n dX11_wakes_43 rfl ?_
    refine X_iload_n dX11_wakes_44 rfl ?_
    refine X_iast b dX11_wakes_45 (k_6 hSh) rfl (by omega) ?_
    refine X_aload_n dX11_wakes_46 rfl ?_
    refine X_callVrV dX11_wakes_47 mkX11_141 (k_0 hSh) (c_forgetD Γ g (up2 (adW mi (aCn A) (nI 2) (nI b) (nI ((aP A).2.2.2.2.2.2 b 0))) 6 b (nI ka)) ml hSh im st si qi hx.2.2.2.2.2.2.2.2.2.2.2.1) rfl rfl (by decide) (Nat.le_of_ble_eq_true rfl) (fun m2 l2 hm2 => ?_)
    obtain ⟨hF2, hl2⟩ := hm2
    rw [hl2]
    refine X_iconst (v := nI 1) dX11_wakes_50 (by decide) ?_
    exact X_iret dX11_wakes_51 rfl ⟨rfl, kc_wakes hA hC hx hfull b hb hF2, frK_t (fun i h1 h2 => by unfold adW; rw [up2_row (by omega), up2_row (by omega), up2_row (by omega), up2_row (by omega), up2_row (by omega)]) (FGD_K hF2 (fun q => (hx.2.2.2.2.2.2.2.2.2.2.2.1.2.2.2.2.2.2.2.2 q).2.2.1)), rfl⟩
  · exact absurd h_1 (by omega)
theorem rc_wakes {A : AS} {m : pMI} {ka : Nat} (hA : okAS A) (hR : RI A m) (hn : aCn A < 20) (b : Nat) (hb : b < aG A) : RI (chA A ((aP A).2.2.1, (aP A).2.2.2.1, (aP A).2.2.2.2.1, ud (snP (aP A)).2.2.2 b ka)) (up2 (chQ (up2 m 87 0 (nI 0)) (aCn A)) (121 + b) 0 (nI ka)) := by
  have hG8 : aG A ≤ 8 := hA.1.2.1
  have hC8 : (aP A).1 ≤ 8 := hA.1.1
  have hR0 := RW_I hA hR RW_0
  have e : ∀ i, i ≠ 87 → i ≠ 91 → ¬ (121 ≤ i ∧ i ≤ 128) → i ≠ 169 + aCn A → (up2 (chQ (up2 m 87 0 (nI 0)) (aCn A)) (121 + b) 0 (nI ka)) i = m i := fun i h1 h2 h3 h4 => by rw [up2_row (by omega), chQ_row h1 h4, up2_row h1]
  have e91 : ∀ j, chQ (up2 m 87 0 (nI 0)) (aCn A) 91 j = m 91 j := fun j => by rw [chQ_row (by omega) (by omega), up2_row (by omega)]
  have eg : ∀ b j, b < 8 → chQ (up2 m 87 0 (nI 0)) (aCn A) (121 + b) j = m (121 + b) j := fun b j hb => by rw [chQ_row (by omega) (by omega), up2_row (by omega)]
  refine RI_ch hR hn hA.2.2.2.2.2.2.2.1 e (fun j h0 h1 h2 => ?_) ?_ ?_ ?_ hA.2.2.2.1.1
  · rw [up2_row (by omega), chQ_87 h1 h2, up2_n h0]
  · rw [up2_row (by omega)]; exact up2_s
  · exact rfSn_row (chQ_sn hA hn hR0.1) (by rw [up2_row (by omega)])
  · exact ⟨(by rw [up2_row (by omega), e91]; exact hR.1.1), (by rw [up2_row (by omega), e91]; exact hR.1.2.1), (by rw [up2_row (by omega), e91]; exact hR.1.2.2.1), (by rw [up2_row (by omega), e91]; exact hR.1.2.2.2.1), (by rw [up2_row (by omega), e91]; exact hR.1.2.2.2.2.1), fun c hc => by have hc : c < (aP A).1 := hc; rw [e (102 + c) (by omega) (by omega) (by omega) (by omega)]; exact hR.1.2.2.2.2.2.1 c hc, fun d hd => ⟨(show (up2 (chQ (up2 m 87 0 (nI 0)) (aCn A)) (121 + b) 0 (nI ka)) (121 + d) 0 = nI (ud (snP (aP A)).2.2.2 b ka d) by have hd8 : d < 8 := Nat.lt_of_lt_of_le hd hG8; by_cases q : d = b; (rw [q, up2_s, ud_s]); rw [up2_row (by omega), ud_n q, eg d _ hd8]; exact (hR.1.2.2.2.2.2.2 d hd).1), (by have hd8 : d < 8 := Nat.lt_of_lt_of_le hd hG8; by_cases q : d = b; (subst q; rw [up2_n (by omega), eg d _ hd8]; exact (hR.1.2.2.2.2.2.2 d hd).2.1); rw [up2_row (by omega), eg d _ hd8]; exact (hR.1.2.2.2.2.2.2 d hd).2.1), (by have hd8 : d < 8 := Nat.lt_of_lt_of_le hd hG8; by_cases q : d = b; (subst q; rw [up2_n (by omega), eg d _ hd8]; exact (hR.1.2.2.2.2.2.2 d hd).2.2.1); rw [up2_row (by omega), eg d _ hd8]; exact (hR.1.2.2.2.2.2.2 d hd).2.2.1), (by have hd8 : d < 8 := Nat.lt_of_lt_of_le hd hG8; by_cases q : d = b; (subst q; rw [up2_n (by omega), eg d _ hd8]; exact (hR.1.2.2.2.2.2.2 d hd).2.2.2); rw [up2_row (by omega), eg d _ hd8]; exact (hR.1.2.2.2.2.2.2 d hd).2.2.2)⟩⟩
set_option maxRecDepth 100000 in
set_option maxHeartbeats 4000000 in
theorem r_wakes (Γ : pTG) (g : pGG) (mi : pMI) (ml : pML) (A : AS) (hA : okAS A) (hSh : Sh g) (hR : RI A mi) (b : Nat) (hb : b < aG A) (ka : Nat) (hkaa : 0 ≤ ka) (hka : ka ≤ 23) (hfull : aCn A < 20) : CT Γ 60 0 0 mX12_wakes [.ref 87, .int (nI b), .int (nI ka)] g mi ml (RQ (chA A ((aP A).2.2.1, (aP A).2.2.2.1, (aP A).2.2.2.2.1, ud (snP (aP A)).2.2.2 b ka)) (.inl (nI 1)) cd2 g mi ml) := by
  refine CT_of (by decide +kernel) (Nat.le_of_ble_eq_true rfl) ?_
  have hP := hA.1
  have hG8 : aG A ≤ 8 := hP.2.1
  have hC8 : (aP A).1 ≤ 8 := hP.1
  refine X_aload_n dX12_wakes_0 rfl ?_
  refine X_iconst (v := nI 0) dX12_wakes_1 (by decide) ?_
  refine X_puti dX12_wakes_2 fkX12_158 rfl rfl (k_87 hSh) ?_
  refine X_aload_n dX12_wakes_5 rfl ?_
  refine X_aload_n dX12_wakes_6 rfl ?_
  refine X_iload_n dX12_wakes_7 rfl ?_
  refine X_callVI dX12_wakes_8 mkX12_285 (k_87 hSh) (c_isGuest Γ g (up2 mi 87 0 (nI 0)) ml hSh (nI b)) rfl rfl (by decide) (Nat.le_of_ble_eq_true rfl) ?_
  refine X_topi (show bI (decide (nI 0 ≤ nI b) && decide (nI b ≤ (up2 mi 87 0 (nI 0)) 91 1 - nI 1)) = nI 1 from congrArg bI (show (decide (nI 0 ≤ nI b) && decide (nI b ≤ (up2 mi 87 0 (nI 0)) 91 1 - nI 1)) = true from by rw [(show (up2 mi 87 0 (nI 0)) 91 1 = nI (aG A) from ((congrFun (up2_row (by omega)) _).trans hR.1.2.1))]; exact (gd_ref hG8).mpr ⟨b, hb, rfl⟩)) ?_
  refine X_if_neN (a := 1) 18 dX12_wakes_11 (by decide) (by omega) (fun h_1 => ?_) (fun h_1 => ?_)
  · refine X_iconst (v := nI 0) dX12_wakes_18 (by decide) ?_
    refine X_iconst (v := nI 1) dX12_wakes_19 (by decide) ?_
    refine X_iconst (v := nI 0) dX12_wakes_20 (by decide) ?_
    refine X_callVI dX12_wakes_21 mkX12_228 (k_87 hSh) (c_bad0 Γ g (up2 mi 87 0 (nI 0)) ml hSh 1 0 up2_s) rfl rfl (by decide) (Nat.le_of_ble_eq_true rfl) ?_
    refine X_if_neN (a := 0) 48 dX12_wakes_24 (by decide) (by omega) (fun h_2 => ?_) (fun h_2 => ?_)
    · exact absurd h_2 (by omega)
    · refine X_aload_n dX12_wakes_27 rfl ?_
      refine X_iload_n dX12_wakes_28 rfl ?_
      refine X_callSI dX12_wakes_29 mkX12_298 (c_isHalf Γ g (up2 mi 87 0 (nI 0)) ml (nI ka)) rfl rfl (by decide) (Nat.le_of_ble_eq_true rfl) ?_
      refine X_topi (show bI (decide (nI 0 ≤ nI ka) && decide (nI ka ≤ nI 23)) = nI 1 from congrArg bI (show (decide (nI 0 ≤ nI ka) && decide (nI ka ≤ nI 23)) = true from by rw [decide_eq_true (nI_le (by omega) (by omega)), decide_eq_true (nI_le (by omega) (by omega))]; rfl)) ?_
      refine X_if_neN (a := 1) 39 dX12_wakes_32 (by decide) (by omega) (fun h_3 => ?_) (fun h_3 => ?_)
      · refine X_iconst (v := nI 0) dX12_wakes_39 (by decide) ?_
        refine X_iconst (v := nI 2) dX12_wakes_40 (by decide) ?_
        refine X_iconst (v := nI 1) dX12_wakes_41 (by decide) ?_
        refine X_callVI dX12_wakes_42 mkX12_228 (k_87 hSh) (c_bad0 Γ g (up2 mi 87 0 (nI 0)) ml hSh 2 1 up2_s) rfl rfl (by decide) (Nat.le_of_ble_eq_true rfl) ?_
        refine X_if_eqN (a := 0) 50 dX12_wakes_45 (by decide) (by omega) (fun h_4 => ?_) (fun h_4 => ?_)
        · refine X_aload_n dX12_wakes_50 rfl ?_
          refine X_callVI dX12_wakes_51 mkX12_411 (k_87 hSh) (c_changes1 Γ g (up2 mi 87 0 (nI 0)) ml hSh (aCn A) ((up2_n (by omega)).trans hR.2.2.2.2.2.1.1) hfull) rfl rfl (by decide) (Nat.le_of_ble_eq_true rfl) ?_
          refine X_if_neN (a := 1) 59 dX12_wakes_54 (by decide) (by omega) (fun h_5 => ?_) (fun h_5 => ?_)
          · refine X_aload_n dX12_wakes_59 rfl ?_
            refine X_getr (a := 120) dX12_wakes_60 fkX12_37 rfl (k_87 hSh) (r_87_16 hSh) ?_
            refine X_iload_n dX12_wakes_63 rfl ?_
            refine X_aaldr (b := 121 + b) b dX12_wakes_64 (k_120 hSh) rfl (by omega) (o_120 hSh b (by omega)) ?_
            refine X_iconst (v := nI 0) dX12_wakes_65 (by decide) ?_
            refine X_iload_n dX12_wakes_66 rfl ?_
            refine X_iast 0 dX12_wakes_67 (kr_120 hSh b (by omega)) rfl (by omega) ?_
            refine X_iconst (v := nI 1) dX12_wakes_68 (by decide) ?_
            exact X_iret dX12_wakes_69 rfl ⟨rfl, rfl, rc_wakes hA hR hfull b hb, fun i hi => by rw [up2_row (by omega), chQ_row (by omega) (by omega), up2_row (by omega)], _, rfl, rfl, by rw [up2_row (by omega), chQ_87 (by omega) (by omega), up2_s]⟩
          · exact absurd h_5 (by omega)
        · exact absurd h_4 (by omega)
      · exact absurd h_3 (by omega)
  · exact absurd h_1 (by omega)
theorem m_wakes (A : AS) (hA : okAS A) (v : Int32) (xa : Int32) : MOK mX11_wakes mX12_wakes cd2 [.int v, .int xa] A := by
  by_cases hg0 : ∃ b, b < aG A ∧ v = nI b
  · obtain ⟨b, hb, rfl⟩ := hg0
    by_cases hg1 : nI 0 ≤ xa ∧ xa ≤ nI 23
    · obtain ⟨ka, hkaa, hka, rfl⟩ := (wi_iff (by decide) (by decide)).mp hg1
      have hc20 := hA.2.2.2.2.2.1
      by_cases hfull : aCn A < 20
      · exact ⟨.inl (nI 1), chA A ((aP A).2.2.1, (aP A).2.2.2.1, (aP A).2.2.2.2.1, ud (snP (aP A)).2.2.2 b ka), okc_ch hA hfull ⟨hA.1.2.2.1, hA.1.2.2.2.1, hA.1.2.2.2.2.1, hA.1.2.2.2.2.2.1, fun c hc => by show ud _ b ka c < 24; by_cases q : c = b; (rw [q, ud_s]; omega); rw [ud_n q]; exact (hA.1.2.2.2.2.2.2.2 c hc).1⟩, fun j h => (by cases h), fun Γ g m l hC => k_wakes Γ g m l A hA hC b hb ka hkaa hka hfull, fun Γ g m l hSh hR => r_wakes Γ g m l A hA hSh hR b hb ka hkaa hka hfull⟩
      · exact ⟨.inl (nI 0), A, hA, fun j h => (by cases h), fun Γ g m l hC => k_wakes_x Γ g m l A hA hC b hb ka hkaa hka (by omega), fun Γ g m l hSh hR => r_wakes_x Γ g m l A hA hSh hR b hb ka hkaa hka (by omega)⟩
    · exact ⟨.inr 1, rfA A 1, ok_rf hA, fun j h => by cases h; decide, fun Γ g m l hC => k_wakes_f1 Γ g m l A hA hC b hb xa hg1, fun Γ g m l hSh hR => r_wakes_f1 Γ g m l A hA hSh hR b hb xa hg1⟩
  · exact ⟨.inr 0, rfA A 0, ok_rf hA, fun j h => by cases h; decide, fun Γ g m l hC => k_wakes_f0 Γ g m l A hA hC v hg0 xa, fun Γ g m l hSh hR => r_wakes_f0 Γ g m l A hA hSh hR v hg0 xa⟩

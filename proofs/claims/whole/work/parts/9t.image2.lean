/-! ===== image, restore: both sides ===== -/
theorem CI_hi {A : AS} {g : pGG} {m x : pMI} {l : pML} (h : CI A g m l) (e : ∀ i, i < g.1 → x i = m i) : CI A g x l := by
  obtain ⟨r, im, st, qi, si, c1, c2, c3, c4, c5, c6, c7, c8, c9, c10, c11, c12, c13⟩ := h
  have h4 := c12.2.2.1
  refine ⟨r, im, st, qi, si, c1, DOK_row c2 (fun i hi => e i (by omega)) (by rw [e 17 (by omega)]) rfl, ?_, ?_, ?_, ?_, ?_, ?_, ?_, ?_, ?_, c12, ?_⟩
  · rw [e 24 (by omega), e 25 (by omega)]; exact c3
  · rw [e 0 (by omega)]; exact c4
  · rw [e 81 (by omega)]; exact ⟨c5.1, chR_row c5.2 (e 82 (by omega))⟩
  · rw [e 81 (by omega)]
    refine ⟨c6.1, c6.2.1, fun k hk => ?_⟩
    have := (c12.2.2.2.2.2.1 k (Nat.lt_of_lt_of_le hk c6.2.1)).2.2.2
    exact imC_row (c6.2.2 k hk) (e _ (by omega)) (e _ (by omega)) (e _ (by omega))
  · rw [e 0 (by omega), e 1 (by omega)]; exact c7
  · rw [e 2 (by omega), e 86 (by omega)]; exact c8
  · rw [e 0 (by omega)]
    rcases c9 with q | ⟨q1, q2⟩
    · exact Or.inl q
    · exact Or.inr ⟨q1, cdy_row (e 58 (by omega)) (e 59 (by omega)) (by rw [e 57 (by omega)]) (e 65 (by omega)) (e 66 (by omega)) q2⟩
  · rw [e 57 (by omega), e 63 (by omega), e 67 (by omega), e 43 (by omega), e 47 (by omega), e 53 (by omega)]; exact c10
  · rw [e 77 (by omega)]
    rcases c11 with q | ⟨q1, q2⟩
    · exact Or.inl q
    · exact Or.inr ⟨q1, GOK_row q2 (by rw [e 77 (by omega)]) (e 78 (by omega)) (e 80 (by omega))⟩
  · intro hst
    have := (c12.2.2.2.2.2.2.2.2 hst).2.2.2.1
    rw [e si (by omega)]
    exact c13 hst
set_option maxRecDepth 100000 in
set_option maxHeartbeats 4000000 in
theorem k_image_n (Γ : pTG) (g : pGG) (mi : pMI) (ml : pML) (A : AS) (hA : okAS A) (hC : CI A g mi ml)  (h00 : aIn A = 3) : CT Γ 60 20 5000 mX11_image [.ref 0] g mi ml (CQ A (.inl (-1)) mi ml) := by
  refine CT_of (by decide +kernel) (Nat.le_of_ble_eq_true rfl) ?_
  have hSh := CI_Sh hC
  have hcl := CI_cl hC
  have hP := hA.1
  have hG8 : aG A ≤ 8 := hP.2.1
  have hC8 : (aP A).1 ≤ 8 := hP.1
  refine X_aload_n dX11_image_0 rfl ?_
  refine X_getr (a := 81) dX11_image_1 fkX11_91 rfl (k_0 hSh) (r_0_12 hSh) ?_
  refine X_aload_n dX11_image_4 rfl ?_
  refine X_getr (a := 3) dX11_image_5 fkX11_25 rfl (k_0 hSh) (r_0_2 hSh) ?_
  refine X_aload_n dX11_image_8 rfl ?_
  refine X_geti dX11_image_9 fkX11_138 rfl (k_0 hSh) ?_
  rw [(CI_k hC).2.1]
  refine X_callVI dX11_image_12 mkX11_364 (k_81 hSh) (c_keepF Γ g mi ml hSh ((CI_k hC).2.2.2.1.trans (by rw [h00])) (nI (aD A))) rfl rfl (by decide) (Nat.le_of_ble_eq_true rfl) ?_
  refine X_if_eqN (a := 0) 28 dX11_image_15 (by decide) (by omega) (fun h_1 => ?_) (fun h_1 => ?_)
  · refine X_iconst (v := -1) dX11_image_28 (by decide) ?_
    exact X_iret dX11_image_29 rfl ⟨rfl, hC, frK_r, rfl⟩
  · exact absurd h_1 (by omega)
set_option maxRecDepth 100000 in
set_option maxHeartbeats 4000000 in
theorem r_image_n (Γ : pTG) (g : pGG) (mi : pMI) (ml : pML) (A : AS) (hA : okAS A) (hSh : Sh g) (hR : RI A mi)  (h00 : aIn A = 3) : CT Γ 60 0 0 mX12_image [.ref 87] g mi ml (RQ A (.inl (-1)) cdN g mi ml) := by
  refine CT_of (by decide +kernel) (Nat.le_of_ble_eq_true rfl) ?_
  have hP := hA.1
  have hG8 : aG A ≤ 8 := hP.2.1
  have hC8 : (aP A).1 ≤ 8 := hP.1
  refine X_aload_n dX12_image_0 rfl ?_
  refine X_iconst (v := nI 0) dX12_image_1 (by decide) ?_
  refine X_puti dX12_image_2 fkX12_158 rfl rfl (k_87 hSh) ?_
  refine X_aload_n dX12_image_5 rfl ?_
  refine X_geti dX12_image_6 fkX12_250 rfl (k_87 hSh) ?_
  rw [((up2_n (by omega)).trans (hR.2.2.2.2.2.2.1.1.trans (by rw [h00])))]
  refine X_iconst (v := nI 3) dX12_image_9 (by decide) ?_
  refine X_icmp_neN (a := 3) (b := 3) 15 dX12_image_10 (by decide) (by omega) (by omega) (fun h_1 => ?_) (fun h_1 => ?_)
  · exact absurd h_1 (by omega)
  · refine X_iconst (v := -1) dX12_image_13 (by decide) ?_
    exact X_iret dX12_image_14 rfl ⟨rfl, rfl, RI_fr hA hR (frW_u frW_r (by unfold rsF rsR; omega)), (frM2_u frM2_r (by omega)), _, rfl, rfl, (show (up2 mi 87 0 (nI 0)) 87 0 = nI 0 by rw [up2_s])⟩
set_option maxRecDepth 100000 in
set_option maxHeartbeats 4000000 in
theorem k_image_R (Γ : pTG) (g : pGG) (mi : pMI) (ml : pML) (A : AS) (hA : okAS A) (hC : CI A g mi ml)  (r im st : Nat) (qi : Nat → Nat) (si : Nat) (hx : CIx A g mi ml r im st qi si) (h00 : aIn A < 3) (him : aIn A < im) : CT Γ 60 20 5000 mX11_image [.ref 0] g mi ml (CQ (imA A) (.inl (nI (aIn A + 1))) mi ml) := by
  refine CT_of (by decide +kernel) (Nat.le_of_ble_eq_true rfl) ?_
  have hSh := CI_Sh hC
  have hcl := CI_cl hC
  have hP := hA.1
  have hG8 : aG A ≤ 8 := hP.2.1
  have hC8 : (aP A).1 ≤ 8 := hP.1
  have hd := hx.2.2.2.2.2.2.2.2.2.2.2.1
  refine X_aload_n dX11_image_0 rfl ?_
  refine X_getr (a := 81) dX11_image_1 fkX11_91 rfl (k_0 hSh) (r_0_12 hSh) ?_
  refine X_aload_n dX11_image_4 rfl ?_
  refine X_getr (a := 3) dX11_image_5 fkX11_25 rfl (k_0 hSh) (r_0_2 hSh) ?_
  refine X_aload_n dX11_image_8 rfl ?_
  refine X_geti dX11_image_9 fkX11_138 rfl (k_0 hSh) ?_
  rw [(CI_k hC).2.1]
  refine X_callV (As := [.ref 3, .int (nI (aD A))]) dX11_image_12 mkX11_364 (k_81 hSh) (c_keepR Γ g mi ml hSh (aIn A) (qi (aIn A)) hx.2.2.2.2.2.1.1 h00 (hd.2.2.2.2.2.1 _ him).2.1 (hd.2.2.2.2.2.1 _ him).2.2.1 (hd.2.2.2.2.2.1 _ him).1 (nI (aD A))) rfl rfl (by decide) (Nat.zero_le _) (Nat.zero_le _) (Nat.le_of_ble_eq_true rfl) (fun E _ _ _ h => by cases h.1) (fun v g2 m2 l2 h => ?_)
  obtain ⟨hv, hg2, hl2, x, hxK, hm2⟩ := h
  cases hv
  rw [hg2, hl2]
  have hSh2 := hSh
  have h813 : m2 81 3 = nI (aIn A + 1) := by rw [hm2]; exact up2_s
  show XW Γ 60 _ _ mX11_image 15 _ [.int (nI 1)] g m2 ml _
  refine X_if_eqN (a := 1) 28 dX11_image_15 (by decide) (by omega) (fun h_1 => ?_) (fun h_1 => ?_)
  · exact absurd h_1 (by omega)
  · refine X_aload_n dX11_image_18 rfl ?_
    refine X_getr (a := 81) dX11_image_19 fkX11_91 rfl (k_0 hSh2) (r_0_12 hSh2) ?_
    refine X_geti dX11_image_22 fkX11_368 rfl (k_81 hSh2) ?_
    rw [h813]
    refine X_goto 29 dX11_image_25 (by decide) ?_
    exact X_iret dX11_image_29 rfl ⟨rfl, CI_im hA hx hSh hd him (fun _ _ => rfl) rfl hxK m2 hm2 rfl, fun i h1 h2 => by have := (hd.2.2.2.2.2.1 _ him).2.2.1; rw [hm2, up2_row (by omega)]; exact hxK.2.2.2.2.2.2.2 i (by omega) (by omega) (by omega), rfl⟩
theorem kc_imN {A : AS} {g g' : pGG} {m m1 x : pMI} {l l' : pML} {r im st : Nat} {qi : Nat → Nat} {si : Nat} (hA : okAS A) (h : CIx A g m l r im st qi si) (h00 : aIn A < 3) (him : aIn A = im) (hN : NWI (aIn A) g g') (hm1 : ∀ i, i < g.1 → m1 i = m i) (hxK : IMK g.1 (nI (aD A)) m1 x) (m2 : pMI) (hm2 : m2 = up2 x 81 3 (nI (aIn A + 1))) (hl : l' 30 = l 30) : CI (imA A) g' m2 l' := by
  have hd := h.2.2.2.2.2.2.2.2.2.2.2.1
  have h4 := hd.2.2.1
  have hK : IMK g.1 (nI (aD A)) m (fun i => if i < g.1 + 3 then x i else m i) := by
    obtain ⟨x1, x2, x3, x4, x5, x6, x7, x8⟩ := hxK
    refine ⟨fun b hb => ?_, fun j hj => ?_, ?_, ?_, ?_, ?_, ?_, fun i h1 h2 h3 => ?_⟩
    · show (if g.1 + 1 < g.1 + 3 then x (g.1 + 1) else m (g.1 + 1)) b = _
      rw [if_pos (by omega), x1 b hb, hm1 6 (by omega)]
    · show (if g.1 + 2 < g.1 + 3 then x (g.1 + 2) else m (g.1 + 2)) j = _
      rw [if_pos (by omega), x2 j hj, hm1 82 (by omega)]
    · show (if g.1 < g.1 + 3 then x g.1 else m g.1) 2 = _
      rw [if_pos (by omega), x3, hm1 81 (by omega)]
    · show (if g.1 < g.1 + 3 then x g.1 else m g.1) 3 = _
      rw [if_pos (by omega), x4, hm1 3 (by omega)]
    · show (if g.1 < g.1 + 3 then x g.1 else m g.1) 4 = _
      rw [if_pos (by omega), x5, hm1 3 (by omega)]
    · show (if g.1 < g.1 + 3 then x g.1 else m g.1) 5 = _
      rw [if_pos (by omega), x6, hm1 3 (by omega)]
    · show (if g.1 < g.1 + 3 then x g.1 else m g.1) 6 = _
      rw [if_pos (by omega), x7]
    · show (if i < g.1 + 3 then x i else m i) = _
      by_cases q : i < g.1 + 3
      · rw [if_pos q, x8 i h1 h2 h3]; exact hm1 i (by omega)
      · rw [if_neg q]
  have hC := CI_im (qi' := ud qi im g.1) (im' := im + 1) (l' := l') hA h (NWI_Sh hN h.1 h4) (NWI_D (by rw [← him]; exact hN) hd (by omega)) (by omega) (fun k hk => ud_n (by omega)) (by rw [him]; exact ud_s) hK _ rfl hl
  refine CI_hi hC ?_
  intro i hi
  rw [hm2]
  have hi : i < g'.1 := hi
  rw [hN.1] at hi
  by_cases q : i = 81
  · subst q
    funext j
    unfold up2
    by_cases z : j = 3
    · rw [if_pos ⟨rfl, z⟩, if_pos ⟨rfl, z⟩]
    · rw [if_neg (fun y => z y.2), if_neg (fun y => z y.2)]
      show _ = (if 81 < g.1 + 3 then x 81 else m 81) j
      rw [if_pos (by omega)]
  · rw [up2_row q, up2_row q]
    show _ = (if i < g.1 + 3 then x i else m i)
    rw [if_pos hi]

set_option maxRecDepth 100000 in
set_option maxHeartbeats 4000000 in
theorem k_image_N (Γ : pTG) (g : pGG) (mi : pMI) (ml : pML) (A : AS) (hA : okAS A) (hC : CI A g mi ml)  (r im st : Nat) (qi : Nat → Nat) (si : Nat) (hx : CIx A g mi ml r im st qi si) (h00 : aIn A < 3) (him : aIn A = im) : CT Γ 60 20 5000 mX11_image [.ref 0] g mi ml (CQ (imA A) (.inl (nI (aIn A + 1))) mi ml) := by
  refine CT_of (by decide +kernel) (Nat.le_of_ble_eq_true rfl) ?_
  have hSh := CI_Sh hC
  have hcl := CI_cl hC
  have hP := hA.1
  have hG8 : aG A ≤ 8 := hP.2.1
  have hC8 : (aP A).1 ≤ 8 := hP.1
  have hd := hx.2.2.2.2.2.2.2.2.2.2.2.1
  refine X_aload_n dX11_image_0 rfl ?_
  refine X_getr (a := 81) dX11_image_1 fkX11_91 rfl (k_0 hSh) (r_0_12 hSh) ?_
  refine X_aload_n dX11_image_4 rfl ?_
  refine X_getr (a := 3) dX11_image_5 fkX11_25 rfl (k_0 hSh) (r_0_2 hSh) ?_
  refine X_aload_n dX11_image_8 rfl ?_
  refine X_geti dX11_image_9 fkX11_138 rfl (k_0 hSh) ?_
  rw [(CI_k hC).2.1]
  refine X_callV (As := [.ref 3, .int (nI (aD A))]) dX11_image_12 mkX11_364 (k_81 hSh) (c_keepN Γ g mi ml hSh (aIn A) hx.2.2.2.2.2.1.1 h00 hd.2.2.1 (by have := hd.2.2.2.1; have := hd.1; have := hd.2.1; omega) (hd.2.2.2.2.1 (aIn A) h00 (by omega)) (nI (aD A))) rfl rfl (by decide) (by decide) (by decide) (Nat.le_of_ble_eq_true rfl) (fun E _ _ _ h => by cases h.1) (fun v g2 m2 l2 h => ?_)
  obtain ⟨hv, hN, hl2, x, m1, hm1, hxK, hm2⟩ := h
  cases hv
  have hSh2 := NWI_Sh hN hSh hd.2.2.1
  have h813 : m2 81 3 = nI (aIn A + 1) := by rw [hm2]; exact up2_s
  show XW Γ 60 _ _ mX11_image 15 _ [.int (nI 1)] g2 m2 l2 _
  refine X_if_eqN (a := 1) 28 dX11_image_15 (by decide) (by omega) (fun h_1 => ?_) (fun h_1 => ?_)
  · exact absurd h_1 (by omega)
  · refine X_aload_n dX11_image_18 rfl ?_
    refine X_getr (a := 81) dX11_image_19 fkX11_91 rfl (k_0 hSh2) (r_0_12 hSh2) ?_
    refine X_geti dX11_image_22 fkX11_368 rfl (k_81 hSh2) ?_
    rw [h813]
    refine X_goto 29 dX11_image_25 (by decide) ?_
    exact X_iret dX11_image_29 rfl ⟨rfl, kc_imN hA hx h00 him hN hm1 hxK m2 hm2 (hl2 30 (by have := hd.2.2.1; omega)), fun i h1 h2 => by rw [hm2, up2_row (by omega), hxK.2.2.2.2.2.2.2 i (by have := hd.2.2.1; omega) (by have := hd.2.2.1; omega) (by have := hd.2.2.1; omega)]; exact hm1 i (by have := hd.2.2.1; omega), by rw [hl2 450 (by have := hd.2.2.1; omega)]⟩
theorem k_image (Γ : pTG) (g : pGG) (mi : pMI) (ml : pML) (A : AS) (hA : okAS A) (hC : CI A g mi ml) (h00 : aIn A < 3) : CT Γ 60 20 5000 mX11_image [.ref 0] g mi ml (CQ (imA A) (.inl (nI (aIn A + 1))) mi ml) := by
  obtain ⟨r, im, st, qi, si, hx⟩ := CI_dyn hC
  have h6 := hx.2.2.2.2.2.1.2.1
  by_cases him : aIn A < im
  · exact k_image_R Γ g mi ml A hA hC r im st qi si hx h00 him
  · exact k_image_N Γ g mi ml A hA hC r im st qi si hx h00 (by omega)
theorem pw_at {m : pMI} {R k : Nat} {s : Nat → Int32} {n : Nat} (h : k < n) : pwF m R 0 s n R k = s k := by
  unfold pwF
  rw [if_pos ⟨rfl, by omega, by omega⟩, Nat.sub_zero]
theorem src_11 {m : pMI} : srcN m 11 = m 87 29 := rfl
theorem src_12 {m : pMI} : srcN m 12 = m 87 30 := rfl
theorem rc_image {A : AS} {m : pMI} (hA : okAS A) (hR : RI A m) (hn : aIn A < 3) : RI (imA A) (up2 (pwF (up2 (up2 m 87 0 (nI 0)) 87 32 (nI 0)) (190 + aIn A) 0 (srcN (up2 (up2 m 87 0 (nI 0)) 87 32 (nI 0))) 233) 87 31 (nI (aIn A + 1))) := by
  have hG8 : aG A ≤ 8 := hA.1.2.1
  have hc := hA.2.2.2.2.2.1
  have hb := hA.2.2.2.1.1
  obtain ⟨r1, r2, r3, r4, r5, r6, r7, r8, r9, r10⟩ := hR
  have e0 : ∀ i, i ≠ 87 → up2 (up2 m 87 0 (nI 0)) 87 32 (nI 0) i = m i := fun i h => by rw [up2_row h, up2_row h]
  have e : ∀ i, i ≠ 87 → i ≠ 190 + aIn A → up2 (pwF (up2 (up2 m 87 0 (nI 0)) 87 32 (nI 0)) (190 + aIn A) 0 (srcN (up2 (up2 m 87 0 (nI 0)) 87 32 (nI 0))) 233) 87 31 (nI (aIn A + 1)) i = m i := fun i h1 h2 => by
    funext j
    rw [up2_row h1, pwF_r h2 (by omega), e0 i h1]
  have e7 : ∀ j, j ≠ 0 → j ≠ 31 → j ≠ 32 → up2 (pwF (up2 (up2 m 87 0 (nI 0)) 87 32 (nI 0)) (190 + aIn A) 0 (srcN (up2 (up2 m 87 0 (nI 0)) 87 32 (nI 0))) 233) 87 31 (nI (aIn A + 1)) 87 j = m 87 j := fun j h1 h2 h3 => by rw [up2_n h2, pwF_r (by omega) (by omega), up2_n h3, up2_n h1]
  have eR : ∀ k, k < 233 → up2 (pwF (up2 (up2 m 87 0 (nI 0)) 87 32 (nI 0)) (190 + aIn A) 0 (srcN (up2 (up2 m 87 0 (nI 0)) 87 32 (nI 0))) 233) 87 31 (nI (aIn A + 1)) (190 + aIn A) k = srcN (up2 (up2 m 87 0 (nI 0)) 87 32 (nI 0)) k := fun k hk => by rw [up2_row (by omega), pw_at hk]
  refine ⟨rfP_w hA.1 r1 (fun i hi => e i (by omega) (by omega)), rfHb_w r2 (fun i hi => e i (by omega) (by omega)), fun b hb => by rw [e 193 (by omega) (by omega)]; exact r3 b hb, ⟨(e7 28 (by omega) (by omega) (by omega)).trans r4.1, fun k hk q hq => by have hk : k < aBn A := hk; rw [e (143 + k) (by omega) (by omega)]; exact r4.2 k hk q hq⟩, (e7 29 (by omega) (by omega) (by omega)).trans r5, ⟨(e7 30 (by omega) (by omega) (by omega)).trans r6.1, fun k hk => rfSn_row (r6.2 k hk) (e _ (by have hk : k < aCn A := hk; omega) (by have hk : k < aCn A := hk; omega))⟩, ⟨up2_s, fun k hk => ?_⟩, ⟨(e7 1 (by omega) (by omega) (by omega)).trans r8.1, fun k hk => by rw [e 88 (by omega) (by omega)]; exact r8.2 k hk⟩, (e7 3 (by omega) (by omega) (by omega)).trans r9, fun j hj => by rw [e 89 (by omega) (by omega)]; exact r10 j hj⟩
  have hk : k < aIn A + 1 := hk
  show rfIm _ (190 + k) (aG A) (ud (aI A) (aIn A) (snP (aP A), aD A, aCn A, aC A) k)
  by_cases q : k = aIn A
  · rw [q, ud_s]
    refine ⟨⟨?_, ?_, ?_, fun b hb => ?_⟩, ?_, ?_, fun k hk => ⟨?_, ?_, ?_, fun b hb => ?_⟩⟩
    · rw [eR 0 (by omega), src_1 (by omega), e0 91 (by omega)]; exact r1.2.2.1
    · rw [eR (0 + 1) (by omega), src_1 (by omega), e0 91 (by omega)]; exact r1.2.2.2.1
    · rw [eR (0 + 2) (by omega), src_1 (by omega), e0 91 (by omega)]; exact r1.2.2.2.2.1
    · have hb8 : b < 8 := by have hb : b < aG A := hb; omega
      rw [show 0 + 3 + b = 3 + b by omega, eR (3 + b) (by omega), src_2 hb8, e0 (121 + b) (by omega)]; exact (r1.2.2.2.2.2.2 b hb).1
    · rw [eR 11 (by omega), src_11, up2_n (by omega), up2_n (by omega)]; exact r5
    · rw [eR 12 (by omega), src_12, up2_n (by omega), up2_n (by omega)]; exact r6.1
    · have hk : k < aCn A := hk
      rw [show 13 + 11 * k = 13 + 11 * k + 0 by omega, eR _ (by omega), src_5 (by omega), e0 (169 + k) (by omega)]; exact (r6.2 k hk).1
    · have hk : k < aCn A := hk
      rw [eR _ (by omega), src_5 (by omega), e0 (169 + k) (by omega)]; exact (r6.2 k hk).2.1
    · have hk : k < aCn A := hk
      rw [eR _ (by omega), src_5 (by omega), e0 (169 + k) (by omega)]; exact (r6.2 k hk).2.2.1
    · have hk : k < aCn A := hk
      have hb2 : b < aG A := hb
      have := (r6.2 k hk).2.2.2 b hb
      rw [show 13 + 11 * k + 3 + b = 13 + 11 * k + (3 + b) by omega, eR _ (by omega), src_5 (by omega), e0 (169 + k) (by omega)]
      rwa [show 0 + 3 + b = 3 + b by omega] at this
  · rw [ud_n q]
    exact rfIm_row (r7.2 k (by omega)) (e _ (by omega) (by omega))
set_option maxRecDepth 100000 in
set_option maxHeartbeats 4000000 in
theorem r_image (Γ : pTG) (g : pGG) (mi : pMI) (ml : pML) (A : AS) (hA : okAS A) (hSh : Sh g) (hR : RI A mi)  (h00 : aIn A < 3) : CT Γ 60 0 0 mX12_image [.ref 87] g mi ml (RQ (imA A) (.inl (nI (aIn A + 1))) cdN g mi ml) := by
  refine CT_of (by decide +kernel) (Nat.le_of_ble_eq_true rfl) ?_
  have hP := hA.1
  have hG8 : aG A ≤ 8 := hP.2.1
  have hC8 : (aP A).1 ≤ 8 := hP.1
  refine X_aload_n dX12_image_0 rfl ?_
  refine X_iconst (v := nI 0) dX12_image_1 (by decide) ?_
  refine X_puti dX12_image_2 fkX12_158 rfl rfl (k_87 hSh) ?_
  refine X_aload_n dX12_image_5 rfl ?_
  refine X_geti dX12_image_6 fkX12_250 rfl (k_87 hSh) ?_
  rw [((up2_n (by omega)).trans hR.2.2.2.2.2.2.1.1)]
  refine X_iconst (v := nI 3) dX12_image_9 (by decide) ?_
  refine X_icmp_neN (a := aIn A) (b := 3) 15 dX12_image_10 (by decide) (by omega) (by omega) (fun h_1 => ?_) (fun h_1 => ?_)
  · refine X_aload_n dX12_image_15 rfl ?_
    refine X_aload_n dX12_image_16 rfl ?_
    refine X_getr (a := 189) dX12_image_17 fkX12_64 rfl (k_87 hSh) (r_87_25 hSh) ?_
    refine X_aload_n dX12_image_20 rfl ?_
    refine X_geti dX12_image_21 fkX12_250 rfl (k_87 hSh) ?_
    rw [((up2_n (by omega)).trans hR.2.2.2.2.2.2.1.1)]
    refine X_aaldr (b := 190 + (aIn A)) (aIn A) dX12_image_24 (k_189 hSh) rfl (by omega) (o_189 hSh (aIn A) (by omega)) ?_
    refine X_iconst (v := nI 0) dX12_image_25 (by decide) ?_
    refine X_callVV dX12_image_26 mkX12_413 (k_87 hSh) (c_putsAll0 Γ g (up2 mi 87 0 (nI 0)) ml hSh (190 + aIn A) (kr_189 hSh (aIn A) (by omega)) (by omega)) rfl rfl (by decide) (Nat.le_of_ble_eq_true rfl) ?_
    refine X_aload_n dX12_image_29 rfl ?_
    refine X_dup dX12_image_30 rfl ?_
    refine X_geti dX12_image_31 fkX12_250 rfl (k_87 hSh) ?_
    rw [((pwF_r (by omega) (by omega)).trans ((up2_n (by omega)).trans ((up2_n (by omega)).trans hR.2.2.2.2.2.2.1.1)))]
    refine X_iconst (v := nI 1) dX12_image_34 (by decide) ?_
    refine X_iadd dX12_image_35 ?_
    refine X_topi (nI_add (aIn A) 1) ?_
    refine X_puti dX12_image_36 fkX12_250 rfl rfl (k_87 hSh) ?_
    refine X_aload_n dX12_image_39 rfl ?_
    refine X_geti dX12_image_40 fkX12_250 rfl (k_87 hSh) ?_
    refine X_topi (show (up2 (pwF (up2 (up2 mi 87 0 (nI 0)) 87 32 (nI 0)) (190 + (aIn A)) 0 (srcN (up2 (up2 mi 87 0 (nI 0)) 87 32 (nI 0))) 233) 87 31 (nI ((aIn A) + 1))) 87 31 = nI ((aIn A) + 1) by rw [up2_s]) ?_
    exact X_iret dX12_image_43 rfl ⟨rfl, rfl, rc_image hA hR h00, fun i hi => by funext j; rw [up2_row (by omega), pwF_r (by omega) (by omega), up2_row (by omega), up2_row (by omega)], _, rfl, rfl, by rw [up2_n (by omega), pwF_r (by omega) (by omega), up2_n (by omega), up2_s]⟩
  · exact absurd h_1 (by omega)
theorem m_image (A : AS) (hA : okAS A) : MOK mX11_image mX12_image cdN [] A := by
  have h3 := hA.2.2.2.2.2.2.2.1
  by_cases h00 : aIn A = 3
  · exact ⟨.inl (-1), A, hA, fun j h => (by cases h), fun Γ g m l hC => k_image_n Γ g m l A hA hC h00, fun Γ g m l hSh hR => r_image_n Γ g m l A hA hSh hR h00⟩
  · exact ⟨.inl (nI (aIn A + 1)), imA A, ok_im hA (by omega), fun j h => (by cases h), fun Γ g m l hC => k_image Γ g m l A hA hC (by omega), fun Γ g m l hSh hR => r_image Γ g m l A hA hSh hR (by omega)⟩
set_option maxRecDepth 100000 in
set_option maxHeartbeats 4000000 in
theorem c_takeI0 (Γ : pTG) (g : pGG) (mi : pMI) (ml : pML) (hSh : Sh g) (hn : mi 81 3 = nI 0) : CT Γ 1 0 0 mX1_takeImage [.ref 81] g mi ml (fun o g' m' l' => o = .inl (some .null) ∧ g' = g ∧ m' = mi ∧ l' = ml) := by
  refine CT_of (by decide +kernel) (Nat.le_of_ble_eq_true rfl) ?_
  refine X_aload_n dX1_takeImage_0 rfl ?_
  refine X_geti dX1_takeImage_1 fkX1_25 rfl (k_81 hSh) ?_
  rw [hn]
  refine X_if_neN (a := 0) 9 dX1_takeImage_4 (by decide) (by omega) (fun h_1 => ?_) (fun h_1 => ?_)
  · exact absurd h_1 (by omega)
  · refine X_aconst_null dX1_takeImage_7 ?_
    exact X_aret (r := none) dX1_takeImage_8 rfl (Or.inl ⟨_, rfl⟩) ⟨rfl, rfl, rfl, rfl⟩
set_option maxRecDepth 100000 in
set_option maxHeartbeats 4000000 in
theorem c_takeI (Γ : pTG) (g : pGG) (mi : pMI) (ml : pML) (hSh : Sh g) (n q : Nat) (hn : mi 81 3 = nI n) (h0 : 0 < n) (h3 : n ≤ 3) (h83 : g.2.2 83 (n - 1) = some q) : CT Γ 1 0 0 mX1_takeImage [.ref 81] g mi ml (fun o g' m' l' => o = .inl (some (.ref q)) ∧ g' = g ∧ m' = up2 mi 81 3 (nI (n - 1)) ∧ l' = ml) := by
  refine CT_of (by decide +kernel) (Nat.le_of_ble_eq_true rfl) ?_
  refine X_aload_n dX1_takeImage_0 rfl ?_
  refine X_geti dX1_takeImage_1 fkX1_25 rfl (k_81 hSh) ?_
  rw [hn]
  refine X_if_neN (a := n) 9 dX1_takeImage_4 (by decide) (by omega) (fun h_1 => ?_) (fun h_1 => ?_)
  · refine X_aload_n dX1_takeImage_9 rfl ?_
    refine X_dup dX1_takeImage_10 rfl ?_
    refine X_geti dX1_takeImage_11 fkX1_25 rfl (k_81 hSh) ?_
    rw [hn]
    refine X_iconst (v := nI 1) dX1_takeImage_14 (by decide) ?_
    refine X_isub dX1_takeImage_15 ?_
    refine X_topi (pk_sub (a := n) (b := 1) (by omega)) ?_
    refine X_puti dX1_takeImage_16 fkX1_25 rfl rfl (k_81 hSh) ?_
    refine X_aload_n dX1_takeImage_19 rfl ?_
    refine X_getr (a := 83) dX1_takeImage_20 fkX1_17 rfl (k_81 hSh) (r_81_1 hSh) ?_
    refine X_aload_n dX1_takeImage_23 rfl ?_
    refine X_geti dX1_takeImage_24 fkX1_25 rfl (k_81 hSh) ?_
    refine X_topi (show (up2 mi 81 3 (nI (n - 1))) 81 3 = nI (n - 1) by rw [up2_s]) ?_
    refine X_galdr (n - 1) dX1_takeImage_27 (k_83 hSh) rfl (by omega) h83 ?_
    exact X_aret (r := some q) dX1_takeImage_28 rfl (Or.inl ⟨_, rfl⟩) ⟨rfl, rfl, rfl, rfl⟩
  · exact absurd h_1 (by omega)
set_option maxRecDepth 100000 in
set_option maxHeartbeats 4000000 in
theorem k_restore_n (Γ : pTG) (g : pGG) (mi : pMI) (ml : pML) (A : AS) (hA : okAS A) (hC : CI A g mi ml)  (h00 : aIn A = 0) : CT Γ 60 20 5000 mX11_restore [.ref 0] g mi ml (CQ A (.inl (-1)) mi ml) := by
  refine CT_of (by decide +kernel) (Nat.le_of_ble_eq_true rfl) ?_
  have hSh := CI_Sh hC
  have hcl := CI_cl hC
  have hP := hA.1
  have hG8 : aG A ≤ 8 := hP.2.1
  have hC8 : (aP A).1 ≤ 8 := hP.1
  refine X_aload_n dX11_restore_0 rfl ?_
  refine X_getr (a := 81) dX11_restore_1 fkX11_91 rfl (k_0 hSh) (r_0_12 hSh) ?_
  refine X_callV (As := []) dX11_restore_4 mkX11_371 (k_81 hSh) (c_takeI0 Γ g mi ml hSh ((CI_k hC).2.2.2.1.trans (by rw [h00]))) rfl rfl (by decide) (Nat.zero_le _) (Nat.zero_le _) (Nat.le_of_ble_eq_true rfl) (fun E _ _ _ h => by cases h.1) (fun v g2 m2 l2 h => ?_)
  obtain ⟨hv, hg2, hm2, hl2⟩ := h
  cases hv
  rw [hg2, hm2, hl2]
  refine X_astore_nN dX11_restore_7 (by decide) ?_
  refine X_aload_nN dX11_restore_8 rfl ?_
  refine X_ifnonnull (r := none) 14 dX11_restore_9 (by decide) (fun a h => by cases h) (fun _ => ?_)
  refine X_iconst (v := -1) dX11_restore_12 (by decide) ?_
  exact X_iret dX11_restore_13 rfl ⟨rfl, hC, frK_r, rfl⟩
set_option maxRecDepth 100000 in
set_option maxHeartbeats 4000000 in
theorem r_restore_n (Γ : pTG) (g : pGG) (mi : pMI) (ml : pML) (A : AS) (hA : okAS A) (hSh : Sh g) (hR : RI A mi)  (h00 : aIn A = 0) : CT Γ 60 0 0 mX12_restore [.ref 87] g mi ml (RQ A (.inl (-1)) cdN g mi ml) := by
  refine CT_of (by decide +kernel) (Nat.le_of_ble_eq_true rfl) ?_
  have hP := hA.1
  have hG8 : aG A ≤ 8 := hP.2.1
  have hC8 : (aP A).1 ≤ 8 := hP.1
  refine X_aload_n dX12_restore_0 rfl ?_
  refine X_iconst (v := nI 0) dX12_restore_1 (by decide) ?_
  refine X_puti dX12_restore_2 fkX12_158 rfl rfl (k_87 hSh) ?_
  refine X_aload_n dX12_restore_5 rfl ?_
  refine X_geti dX12_restore_6 fkX12_250 rfl (k_87 hSh) ?_
  rw [((up2_n (by omega)).trans (hR.2.2.2.2.2.2.1.1.trans (by rw [h00])))]
  refine X_if_neN (a := 0) 14 dX12_restore_9 (by decide) (by omega) (fun h_1 => ?_) (fun h_1 => ?_)
  · exact absurd h_1 (by omega)
  · refine X_iconst (v := -1) dX12_restore_12 (by decide) ?_
    exact X_iret dX12_restore_13 rfl ⟨rfl, rfl, RI_fr hA hR (frW_u frW_r (by unfold rsF rsR; omega)), (frM2_u frM2_r (by omega)), _, rfl, rfl, (show (up2 mi 87 0 (nI 0)) 87 0 = nI 0 by rw [up2_s])⟩
def reA (A : AS) : AS := (stP (aP A) (aI A (aIn A - 1)).1, A.2.1, A.2.2.1, A.2.2.2.1, (aI A (aIn A - 1)).2.1, ((aI A (aIn A - 1)).2.2.1, (aI A (aIn A - 1)).2.2.2), (aIn A - 1, aI A), A.2.2.2.2.2.2.2)
theorem ok_re {A : AS} (hA : okAS A) (hn : 0 < aIn A) : okAS (reA A) := by
  obtain ⟨h1, h2, h3, h4, h5, h6, h7, h8, h9, h10⟩ := hA
  have hi := h9 (aIn A - 1) (by omega)
  refine ⟨okP_st h1 hi.1, h2, h3, h4, hi.2.1, hi.2.2.1, hi.2.2.2, ?_, fun k hk => ?_, h10⟩
  · show aIn A - 1 ≤ 3; omega
  · have hk : k < aIn A - 1 := hk
    exact h9 k (by omega)
theorem kc_re {A : AS} {g : pGG} {m y x : pMI} {l : pML} {r im st : Nat} {qi : Nat → Nat} {si q : Nat} (hA : okAS A) (h : CIx A g m l r im st qi si) (h00 : 0 < aIn A) (hqq : q = qi (aIn A - 1)) (hy : IGB q (up2 m 81 3 (nI (aIn A - 1))) y) (hx : FGD st si (up2 y 0 18 (nI (aI A (aIn A - 1)).2.1)) x) : CI (reA A) g x l := by
  have hh := h
  obtain ⟨c1, c2, c3, c4, c5, c6, c7, c8, c9, c10, c11, c12, c13⟩ := hh
  obtain ⟨b1, b2, b3, b4, b5, b6, b7, b8, b9⟩ := hy
  have hqd := c12.2.2.2.2.2.1 (aIn A - 1) (by have := c6.2.1; omega)
  rw [← hqq] at hqd
  have h451 := hqd.2.2.1
  have hi := c6.2.2 (aIn A - 1) (by omega)
  rw [← hqq] at hi
  have oki := hA.2.2.2.2.2.2.2.2.1 (aIn A - 1) (by omega)
  have hG8 : aG A ≤ 8 := hA.1.2.1
  have hs4 : st = 1 → 451 ≤ si := fun q => (c12.2.2.2.2.2.2.2.2 q).2.2.1
  have e : ∀ i, i < 451 → i ≠ 0 → i ≠ 27 → x i = y i := fun i hi h1 h2 => (hx.1 i h1 h2 (fun q => by have := hs4 q; omega)).trans (up2_row h1)
  have y9 : ∀ i, i ≠ 3 → i ≠ 6 → i ≠ 81 → i ≠ 82 → y i = m i := fun i h1 h2 h3 h4 => (b9 i h1 h2 h3 h4).trans (up2_row h3)
  have yq : ∀ i, i ≠ 81 → up2 m 81 3 (nI (aIn A - 1)) i = m i := fun i h => up2_row h
  have hcl := c2.1
  refine CI_new h c1 c12 rfl rfl rfl rfl ⟨?_, ?_, ?_, ?_, ?_, fun c hc => ?_, fun d hd => ?_⟩ (fun i h1 h2 h3 h4 h5 h6 h7 => (e i (by omega) h2 h5).trans (y9 i h3 h4 h6 h7)) ((hx.2.1 17 (by omega)).trans ((up2_n (by omega)).trans (by rw [y9 0 (by omega) (by omega) (by omega) (by omega)]))) ⟨hx.2.2.2.1, hx.2.2.2.2.1⟩ ((hx.2.1 18 (by omega)).trans up2_s) hx.2.2.1 ⟨?_, ?_⟩ ⟨?_, ?_, fun k hk2 => ?_⟩ (fun z hz => GOK_st hz) hx.2.2.2.2.2
  · rw [e 3 (by omega) (by omega) (by omega), b7 9 (by omega) (by omega) (by omega), yq 3 (by omega)]; exact hcl.1
  · rw [e 3 (by omega) (by omega) (by omega), b7 10 (by omega) (by omega) (by omega), yq 3 (by omega)]; exact hcl.2.1
  · rw [e 3 (by omega) (by omega) (by omega), b4, yq q (by omega)]; exact hi.2.1
  · rw [e 3 (by omega) (by omega) (by omega), b5, yq q (by omega)]; exact hi.2.2.1
  · rw [e 3 (by omega) (by omega) (by omega), b6, yq q (by omega)]; exact hi.2.2.2.1
  · rw [e 4 (by omega) (by omega) (by omega), e 5 (by omega) (by omega) (by omega), y9 4 (by omega) (by omega) (by omega) (by omega), y9 5 (by omega) (by omega) (by omega) (by omega)]; exact hcl.2.2.2.2.2.1 c hc
  · have hd : d < aG A := hd
    rw [e 6 (by omega) (by omega) (by omega), e 7 (by omega) (by omega) (by omega), e 8 (by omega) (by omega) (by omega), e 9 (by omega) (by omega) (by omega), y9 7 (by omega) (by omega) (by omega) (by omega), y9 8 (by omega) (by omega) (by omega) (by omega), y9 9 (by omega) (by omega) (by omega) (by omega), b1 d (by omega), yq (q + 1) (by omega)]
    exact ⟨hi.2.2.2.2.2.1 d hd, (hcl.2.2.2.2.2.2 d hd).2⟩
  · rw [e 81 (by omega) (by omega) (by omega), b3, yq q (by omega)]; exact hi.1
  · intro k hk
    have hk : k < (aI A (aIn A - 1)).2.2.1 := hk
    have hk20 := oki.2.2.1
    rw [e 82 (by omega) (by omega) (by omega), b2 _ (by omega), b2 _ (by omega), b2 _ (by omega), yq (q + 2) (by omega)]
    exact hi.2.2.2.2.2.2 k hk
  · rw [e 81 (by omega) (by omega) (by omega), b8 3 (by omega)]; exact up2_s
  · have := c6.2.1; show aIn A - 1 ≤ im; omega
  · have hk2 : k < aIn A - 1 := hk2
    have hq := c12.2.2.2.2.2.1 k (by have := c6.2.1; omega)
    have hq3 := hq.2.2.1
    have hsi : ∀ i, qi k ≤ i → i < qi k + 3 → (st = 1 → i ≠ si) := fun i h1 h2 q => by
      have := (c12.2.2.2.2.2.2.2.2 q).2.2.2.2 k (by have := c6.2.1; omega)
      omega
    have e2 : ∀ i, qi k ≤ i → i < qi k + 3 → x i = m i := fun i h1 h2 => ((hx.1 i (by omega) (by omega) (hsi i h1 h2)).trans (up2_row (by omega))).trans (y9 i (by omega) (by omega) (by omega) (by omega))
    exact imC_row (c6.2.2 k (by omega)) (e2 _ (by omega) (by omega)) (e2 _ (by omega) (by omega)) (e2 _ (by omega) (by omega))
set_option maxRecDepth 100000 in
set_option maxHeartbeats 4000000 in
theorem k_restore (Γ : pTG) (g : pGG) (mi : pMI) (ml : pML) (A : AS) (hA : okAS A) (hC : CI A g mi ml)  (h00 : 0 < aIn A) : CT Γ 60 20 5000 mX11_restore [.ref 0] g mi ml (CQ (reA A) (.inl (nI (aIn A - 1))) mi ml) := by
  refine CT_of (by decide +kernel) (Nat.le_of_ble_eq_true rfl) ?_
  have hSh := CI_Sh hC
  have hcl := CI_cl hC
  have hP := hA.1
  have hG8 : aG A ≤ 8 := hP.2.1
  have hC8 : (aP A).1 ≤ 8 := hP.1
  have h3 := hA.2.2.2.2.2.2.2.1
  obtain ⟨r, im, st, qi, si, hx⟩ := CI_dyn hC
  have hd := hx.2.2.2.2.2.2.2.2.2.2.2.1
  obtain ⟨q, hqe⟩ : ∃ q, q = qi (aIn A - 1) := ⟨_, rfl⟩
  have hqd := hd.2.2.2.2.2.1 (aIn A - 1) (by have := hx.2.2.2.2.2.1.2.1; omega)
  rw [← hqe] at hqd
  have hq4 := hqd.2.2.1
  refine X_aload_n dX11_restore_0 rfl ?_
  refine X_getr (a := 81) dX11_restore_1 fkX11_91 rfl (k_0 hSh) (r_0_12 hSh) ?_
  refine X_callV (As := []) dX11_restore_4 mkX11_371 (k_81 hSh) (c_takeI Γ g mi ml hSh (aIn A) q hx.2.2.2.2.2.1.1 h00 h3 hqd.1) rfl rfl (by decide) (Nat.zero_le _) (Nat.zero_le _) (Nat.le_of_ble_eq_true rfl) (fun E _ _ _ h => by cases h.1) (fun v g2 m2 l2 h => ?_)
  obtain ⟨hv, hg2, hm2, hl2⟩ := h
  cases hv
  rw [hg2, hm2, hl2]
  refine X_astore_n (x := q) dX11_restore_7 (by decide) ?_
  refine X_aload_n dX11_restore_8 rfl ?_
  refine X_ifnonnull (r := some q) 14 dX11_restore_9 (by decide) (fun _ _ => ?_) (fun h => by cases h)
  refine X_aload_n dX11_restore_14 rfl ?_
  refine X_aload_n dX11_restore_15 rfl ?_
  refine X_getr (a := 3) dX11_restore_16 fkX11_25 rfl (k_0 hSh) (r_0_2 hSh) ?_
  refine X_aload_n dX11_restore_19 rfl ?_
  refine X_getr (a := 81) dX11_restore_20 fkX11_91 rfl (k_0 hSh) (r_0_12 hSh) ?_
  refine X_callVrV dX11_restore_23 mkX11_375 hqd.2.1.1 (c_Igive Γ g (up2 mi 81 3 (nI (aIn A - 1))) ml hSh q hqd.2.1 hqd.2.2.1) rfl rfl (by decide) (Nat.le_of_ble_eq_true rfl) (fun y yl hy => ?_)
  obtain ⟨hyG, hyl⟩ := hy
  rw [hyl]
  refine X_aload_n dX11_restore_26 rfl ?_
  refine X_aload_n dX11_restore_27 rfl ?_
  refine X_geti dX11_restore_28 fkX11_381 rfl hqd.2.1.1 ?_
  rw [(show y q 6 = nI (aI A (aIn A - 1)).2.1 by rw [hyG.2.2.2.2.2.2.2.2 q (by omega) (by omega) (by omega) (by omega), up2_row (by omega), hqe]; exact (hx.2.2.2.2.2.1.2.2 (aIn A - 1) (by omega)).2.2.2.2.1)]
  refine X_puti dX11_restore_31 fkX11_138 rfl rfl (k_0 hSh) ?_
  refine X_aload_n dX11_restore_34 rfl ?_
  refine X_callVrV dX11_restore_35 mkX11_141 (k_0 hSh) (c_forgetD Γ g (up2 y 0 18 (nI (aI A (aIn A - 1)).2.1)) ml hSh im st si qi hd) rfl rfl (by decide) (Nat.le_of_ble_eq_true rfl) (fun m2 l2 hm2 => ?_)
  obtain ⟨hF2, hl2⟩ := hm2
  rw [hl2]
  have hs4 : st = 1 → 451 ≤ si := fun q => (hd.2.2.2.2.2.2.2.2 q).2.2.1
  refine X_aload_n dX11_restore_38 rfl ?_
  refine X_getr (a := 81) dX11_restore_39 fkX11_91 rfl (k_0 hSh) (r_0_12 hSh) ?_
  refine X_geti dX11_restore_42 fkX11_368 rfl (k_81 hSh) ?_
  rw [(show m2 81 3 = nI (aIn A - 1) by rw [hF2.1 81 (by omega) (by omega) (fun q => by have := hs4 q; omega), up2_row (by omega), hyG.2.2.2.2.2.2.2.1 3 (by omega), up2_s])]
  exact X_iret dX11_restore_45 rfl ⟨rfl, kc_re hA hx h00 hqe hyG hF2, fun i h1 h2 => by rw [hF2.1 i (by omega) (by omega) (fun q => by have := hs4 q; omega), up2_row (by omega), hyG.2.2.2.2.2.2.2.2 i (by omega) (by omega) (by omega) (by omega), up2_row (by omega)], rfl⟩
theorem pb_ch {m : pMI} {t0 k j : Nat} (hk : k < 20) (hj : j < 11) : pbF m t0 0 233 (169 + k) j = m t0 (13 + 11 * k + j) := by
  unfold pbF
  rw [if_neg (by omega), if_neg (by omega), if_neg (by omega), if_neg (by omega), if_neg (by omega), if_pos ⟨by omega, by omega, hj, by omega⟩, Nat.zero_add, show 169 + k - 169 = k by omega]
theorem pb_29 {m : pMI} {t0 : Nat} : pbF m t0 0 233 87 29 = m t0 11 := by
  unfold pbF
  rw [if_neg (by omega), if_neg (by omega), if_neg (by omega), if_pos ⟨rfl, rfl, by omega⟩]
theorem pb_30 {m : pMI} {t0 : Nat} : pbF m t0 0 233 87 30 = m t0 12 := by
  unfold pbF
  rw [if_neg (by omega), if_neg (by omega), if_neg (by omega), if_neg (by omega), if_pos ⟨rfl, rfl, by omega⟩]
theorem rc_re {A : AS} {m : pMI} (hA : okAS A) (hR : RI A m) (hn : 0 < aIn A) : RI (reA A) (pbF (up2 (up2 (up2 m 87 0 (nI 0)) 87 31 (nI (aIn A - 1))) 87 32 (nI 0)) (190 + (aIn A - 1)) 0 233) := by
  have hi := hA.2.2.2.2.2.2.2.1
  have hb := hA.2.2.2.1.1
  have hG8 : aG A ≤ 8 := hA.1.2.1
  obtain ⟨r1, r2, r3, r4, r5, r6, r7, r8, r9, r10⟩ := hR
  have hm := r7.2 (aIn A - 1) (by omega)
  have oki := hA.2.2.2.2.2.2.2.2.1 (aIn A - 1) (by omega)
  have e0 : ∀ i, i ≠ 87 → up2 (up2 (up2 m 87 0 (nI 0)) 87 31 (nI (aIn A - 1))) 87 32 (nI 0) i = m i := fun i h => by rw [up2_row h, up2_row h, up2_row h]
  have e7 : ∀ j, j ≠ 0 → j ≠ 31 → j ≠ 32 → j ≠ 29 → j ≠ 30 → pbF (up2 (up2 (up2 m 87 0 (nI 0)) 87 31 (nI (aIn A - 1))) 87 32 (nI 0)) (190 + (aIn A - 1)) 0 233 87 j = m 87 j := fun j h1 h2 h3 h4 h5 => by rw [pb_7 h3 h4 h5, up2_n h3, up2_n h2, up2_n h1]
  have e : ∀ i, i ≠ 87 → i ≠ 91 → ¬ (121 ≤ i ∧ i < 129) → ¬ (169 ≤ i ∧ i < 189) → pbF (up2 (up2 (up2 m 87 0 (nI 0)) 87 31 (nI (aIn A - 1))) 87 32 (nI 0)) (190 + (aIn A - 1)) 0 233 i = m i := fun i h1 h2 h3 h4 => by
    funext j
    rw [pb_o (by omega) (by omega) h1 h4, e0 i h1]
  have er : ∀ j, up2 (up2 (up2 m 87 0 (nI 0)) 87 31 (nI (aIn A - 1))) 87 32 (nI 0) (190 + (aIn A - 1)) j = m (190 + (aIn A - 1)) j := fun j => by rw [e0 _ (by omega)]
  refine ⟨pb_P hA.1 (rfP_w hA.1 r1 (fun i hi => e0 i (by omega))) (rfSn_row hm.1 (e0 _ (by omega))) (by omega), rfHb_w r2 (fun i hi => e i (by omega) (by omega) (by omega) (by omega)), fun b hb => by rw [e 193 (by omega) (by omega) (by omega) (by omega)]; exact r3 b hb, ⟨(e7 28 (by omega) (by omega) (by omega) (by omega) (by omega)).trans r4.1, fun k hk q hq => by have hk : k < aBn A := hk; rw [e (143 + k) (by omega) (by omega) (by omega) (by omega)]; exact r4.2 k hk q hq⟩, ?_, ⟨?_, fun k hk => ⟨?_, ?_, ?_, fun b hb => ?_⟩⟩, ⟨?_, fun k hk => rfIm_row (r7.2 k ?_) (e _ ?_ ?_ ?_ ?_)⟩, ⟨(e7 1 (by omega) (by omega) (by omega) (by omega) (by omega)).trans r8.1, fun k hk => by rw [e 88 (by omega) (by omega) (by omega) (by omega)]; exact r8.2 k hk⟩, (e7 3 (by omega) (by omega) (by omega) (by omega) (by omega)).trans r9, fun j hj => by rw [e 89 (by omega) (by omega) (by omega) (by omega)]; exact r10 j hj⟩
  · rw [pb_29, er]; exact hm.2.1
  · rw [pb_30, er]; exact hm.2.2.1
  · have hk : k < (aI A (aIn A - 1)).2.2.1 := hk
    have := oki.2.2.1
    rw [pb_ch (by omega) (by omega), er]; exact (hm.2.2.2 k hk).1
  · have hk : k < (aI A (aIn A - 1)).2.2.1 := hk
    have := oki.2.2.1
    rw [pb_ch (by omega) (by omega), er]; exact (hm.2.2.2 k hk).2.1
  · have hk : k < (aI A (aIn A - 1)).2.2.1 := hk
    have := oki.2.2.1
    rw [pb_ch (by omega) (by omega), er]; exact (hm.2.2.2 k hk).2.2.1
  · have hk : k < (aI A (aIn A - 1)).2.2.1 := hk
    have h20 := oki.2.2.1
    have hb2 : b < aG A := hb
    have := (hm.2.2.2 k hk).2.2.2 b hb
    rw [pb_ch (by omega) (by omega), er]
    rwa [show 13 + 11 * k + 3 + b = 13 + 11 * k + (0 + 3 + b) by omega] at this
  · rw [pb_7 (by omega) (by omega) (by omega), up2_n (by omega), up2_s]; rfl
  · have hk : k < aIn A - 1 := hk
    omega
  · omega
  · omega
  · omega
  · omega
set_option maxRecDepth 100000 in
set_option maxHeartbeats 4000000 in
theorem r_restore (Γ : pTG) (g : pGG) (mi : pMI) (ml : pML) (A : AS) (hA : okAS A) (hSh : Sh g) (hR : RI A mi)  (h00 : 0 < aIn A) : CT Γ 60 0 0 mX12_restore [.ref 87] g mi ml (RQ (reA A) (.inl (nI (aIn A - 1))) cdN g mi ml) := by
  refine CT_of (by decide +kernel) (Nat.le_of_ble_eq_true rfl) ?_
  have hP := hA.1
  have hG8 : aG A ≤ 8 := hP.2.1
  have hC8 : (aP A).1 ≤ 8 := hP.1
  have h3 := hA.2.2.2.2.2.2.2.1
  refine X_aload_n dX12_restore_0 rfl ?_
  refine X_iconst (v := nI 0) dX12_restore_1 (by decide) ?_
  refine X_puti dX12_restore_2 fkX12_158 rfl rfl (k_87 hSh) ?_
  refine X_aload_n dX12_restore_5 rfl ?_
  refine X_geti dX12_restore_6 fkX12_250 rfl (k_87 hSh) ?_
  rw [((up2_n (by omega)).trans hR.2.2.2.2.2.2.1.1)]
  refine X_if_neN (a := aIn A) 14 dX12_restore_9 (by decide) (by omega) (fun h_1 => ?_) (fun h_1 => ?_)
  · refine X_aload_n dX12_restore_14 rfl ?_
    refine X_dup dX12_restore_15 rfl ?_
    refine X_geti dX12_restore_16 fkX12_250 rfl (k_87 hSh) ?_
    rw [((up2_n (by omega)).trans hR.2.2.2.2.2.2.1.1)]
    refine X_iconst (v := nI 1) dX12_restore_19 (by decide) ?_
    refine X_isub dX12_restore_20 ?_
    refine X_topi (pk_sub (a := aIn A) (b := 1) (by omega)) ?_
    refine X_puti dX12_restore_21 fkX12_250 rfl rfl (k_87 hSh) ?_
    refine X_aload_n dX12_restore_24 rfl ?_
    refine X_aload_n dX12_restore_25 rfl ?_
    refine X_getr (a := 189) dX12_restore_26 fkX12_64 rfl (k_87 hSh) (r_87_25 hSh) ?_
    refine X_aload_n dX12_restore_29 rfl ?_
    refine X_geti dX12_restore_30 fkX12_250 rfl (k_87 hSh) ?_
    refine X_topi (show (up2 (up2 mi 87 0 (nI 0)) 87 31 (nI ((aIn A) - 1))) 87 31 = nI ((aIn A) - 1) by rw [up2_s]) ?_
    refine X_aaldr (b := 190 + ((aIn A) - 1)) ((aIn A) - 1) dX12_restore_33 (k_189 hSh) rfl (by omega) (o_189 hSh ((aIn A) - 1) (by omega)) ?_
    refine X_iconst (v := nI 1) dX12_restore_34 (by decide) ?_
    refine X_callVV dX12_restore_35 mkX12_413 (k_87 hSh) (c_putsAll1 Γ g (up2 (up2 mi 87 0 (nI 0)) 87 31 (nI (aIn A - 1))) ml hSh (190 + (aIn A - 1)) (kr_189 hSh (aIn A - 1) (by omega)) (by omega)) rfl rfl (by decide) (Nat.le_of_ble_eq_true rfl) ?_
    refine X_aload_n dX12_restore_38 rfl ?_
    refine X_geti dX12_restore_39 fkX12_250 rfl (k_87 hSh) ?_
    rw [((pb_7 (by omega) (by omega) (by omega)).trans ((up2_n (by omega)).trans up2_s))]
    exact X_iret dX12_restore_42 rfl ⟨rfl, rfl, rc_re hA hR h00, fun i hi => by funext j; rw [pb_o (by omega) (by omega) (by omega) (by omega), up2_row (by omega), up2_row (by omega), up2_row (by omega)], _, rfl, rfl, by rw [pb_7 (by omega) (by omega) (by omega), up2_n (by omega), up2_n (by omega), up2_s]⟩
  · exact absurd h_1 (by omega)
theorem m_restore (A : AS) (hA : okAS A) : MOK mX11_restore mX12_restore cdN [] A := by
  by_cases h00 : aIn A = 0
  · exact ⟨.inl (-1), A, hA, fun j h => (by cases h), fun Γ g m l hC => k_restore_n Γ g m l A hA hC h00, fun Γ g m l hSh hR => r_restore_n Γ g m l A hA hSh hR h00⟩
  · exact ⟨.inl (nI (aIn A - 1)), reA A, ok_re hA (by omega), fun j h => (by cases h), fun Γ g m l hC => k_restore Γ g m l A hA hC (by omega), fun Γ g m l hSh hR => r_restore Γ g m l A hA hSh hR (by omega)⟩

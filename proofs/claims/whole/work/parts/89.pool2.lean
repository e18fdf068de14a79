/-! ===== pools read, as the reference does ===== -/
theorem numR_k {B : Nat → Int32} {n i lo hx k p : Nat} (h : numR B n i lo hx = .error (k, p)) : 1 ≤ k ∧ k ≤ 2 := by
  unfold numR at h
  split at h
  · split at h
    · cases h
    · cases h; decide
  · cases h; decide
theorem numR_o {B : Nat → Int32} {n i lo hx v e : Nat} (hi : i ≤ n) (h : numR B n i lo hx = .ok (v, e)) : e ≤ n ∧ i < e ∧ lo ≤ v ∧ v < hx := by
  have hk2 : skT B n i ≤ n := skT_le hi
  have hk4 : i ≤ skT B n i := skT_ge
  unfold numR at h
  split at h
  · rename_i hd
    split at h
    · rename_i hv
      cases h
      have h5 : skT B n i < dgT B n (skT B n i) := by
        have := dgP_n hd
        have e1 : dgT B n (skT B n i) = scF (dgP B n) (n - skT B n i - 1) (skT B n i + 1) := by
          unfold dgT
          rw [show n - skT B n i = (n - skT B n i - 1) + 1 by omega]
          show (if dgP B n (skT B n i) = true then _ else _) = _
          rw [if_pos hd]; congr 1
        have := scF_ge (dgP B n) (n - skT B n i - 1) (skT B n i + 1)
        omega
      exact ⟨dgT_le hk2, by omega, hv.1, hv.2⟩
    · cases h
  · cases h
/-- what the reference has read of a pool -/
def rdP (mi : pMI) (P : PD) : Prop := mi 90 0 = nI P.1 ∧ mi 90 1 = nI P.2.1 ∧ mi 90 2 = nI P.2.2.1 ∧ mi 90 3 = nI P.2.2.2.1 ∧ mi 90 4 = nI P.2.2.2.2.1 ∧ (∀ c, c < P.1 → mi (93 + c) 0 = nI (P.2.2.2.2.2.1 c 0) ∧ mi (93 + c) 1 = nI (P.2.2.2.2.2.1 c 1)) ∧ (∀ g, g < P.2.1 → mi (112 + g) 0 = nI (P.2.2.2.2.2.2 g 0) ∧ mi (112 + g) 1 = nI (P.2.2.2.2.2.2 g 1) ∧ mi (112 + g) 2 = nI (P.2.2.2.2.2.2 g 2) ∧ mi (112 + g) 3 = nI (P.2.2.2.2.2.2 g 3))
theorem rdP_row {m x : pMI} {P : PD} (h : ∀ i, i ≠ 87 → x i = m i) (hr : rdP m P) : rdP x P := by
  obtain ⟨h1, h2, h3, h4, h5, h6, h7⟩ := hr
  refine ⟨?_, ?_, ?_, ?_, ?_, fun c hc => ?_, fun b hb => ?_⟩
  · rw [h 90 (by omega)]; exact h1
  · rw [h 90 (by omega)]; exact h2
  · rw [h 90 (by omega)]; exact h3
  · rw [h 90 (by omega)]; exact h4
  · rw [h 90 (by omega)]; exact h5
  · rw [h (93 + c) (by omega)]; exact h6 c hc
  · rw [h (112 + b) (by omega)]; exact h7 b hb
def frRD (m x : pMI) : Prop := (∀ i, i ≠ 87 → i ≠ 90 → ¬ (93 ≤ i ∧ i ≤ 100) → ¬ (112 ≤ i ∧ i ≤ 119) → x i = m i) ∧ (∀ j, j ≠ 4 → j ≠ 5 → j ≠ 6 → j ≠ 7 → x 87 j = m 87 j)
theorem frRD_r {m : pMI} : frRD m m := ⟨fun _ _ _ _ _ => rfl, fun _ _ _ _ _ => rfl⟩
theorem frRD_u {m x : pMI} {a j : Nat} {v : Int32} (h : frRD m x) (ha : (a = 87 ∧ 4 ≤ j ∧ j ≤ 7) ∨ a = 90 ∨ (93 ≤ a ∧ a ≤ 100) ∨ (112 ≤ a ∧ a ≤ 119)) : frRD m (up2 x a j v) :=
  ⟨fun i h1 h2 h3 h4 => by rw [up2_row (by omega)]; exact h.1 i h1 h2 h3 h4, fun k h1 h2 h3 h4 => by rw [up2_nn (by omega)]; exact h.2 k h1 h2 h3 h4⟩
theorem RTX_u {m : pMI} {B : Nat → Int32} {n i a j : Nat} {v : Int32} (h : RTX m B n i) (ha : (a = 87 ∧ 5 ≤ j ∧ j ≤ 8) ∨ 89 ≤ a) : RTX (up2 m a j v) B n i := RTX_row h (up2_row (by omega)) (up2_nn (by omega)) (up2_nn (by omega))
def RPS (m0 m : pMI) (B : Nat → Int32) (n i c : Nat) (P : PD) : Prop := RTX m B n i ∧ m 87 5 = nI 0 ∧ m 87 7 = nI c ∧ rdP m P ∧ okPD P ∧ frRD m0 m ∧ m 87 6 = m0 87 6
def RPE (m0 m : pMI) (B : Nat → Int32) (n c p : Nat) : Prop := m 87 5 = nI c ∧ 1 ≤ c ∧ c ≤ 3 ∧ m 87 6 = nI p ∧ frRD m0 m ∧ ∃ q, RTX m B n q
def RRS (m0 : pMI) (B : Nat → Int32) (n c : Nat) (r : rPD) (m : pMI) : Prop := match r with
  | .error (k, p) => RPE m0 m B n k p
  | .ok (e, P) => RPS m0 m B n e (c + 1) P
theorem rdP_ch {m x : pMI} {a b : Nat} {P : PD} (h : rdP m P) (h8 : P.1 < 8) (hx : ∀ i, i ≠ 87 → x i = up2 (up2 (up2 m (93 + P.1) 0 (nI a)) (93 + P.1) 1 (nI b)) 90 0 (nI (P.1 + 1)) i) : rdP x (adCh P a b) := by
  obtain ⟨d1, d2, d3, d4, d5, d6, d7⟩ := h
  refine ⟨?_, ?_, ?_, ?_, ?_, fun c hc => ?_, fun b hb => ?_⟩
  · rw [hx 90 (by omega), up2_s]; rfl
  · rw [hx 90 (by omega), up2_n (by omega), up2_row (by omega), up2_row (by omega)]; exact d2
  · rw [hx 90 (by omega), up2_n (by omega), up2_row (by omega), up2_row (by omega)]; exact d3
  · rw [hx 90 (by omega), up2_n (by omega), up2_row (by omega), up2_row (by omega)]; exact d4
  · rw [hx 90 (by omega), up2_n (by omega), up2_row (by omega), up2_row (by omega)]; exact d5
  · have hc : c < P.1 + 1 := hc
    rw [hx (93 + c) (by omega), up2_row (by omega)]
    show _ = nI (if c = P.1 then (if 0 = 0 then a else b) else P.2.2.2.2.2.1 c 0) ∧ _ = nI (if c = P.1 then (if 1 = 0 then a else b) else P.2.2.2.2.2.1 c 1)
    by_cases e : c = P.1
    · rw [if_pos e, if_pos e, e, up2_n (by omega), up2_s, up2_s]; exact ⟨rfl, rfl⟩
    · rw [if_neg e, if_neg e, up2_row (by omega), up2_row (by omega)]; exact d6 c (by omega)
  · have hb : b < P.2.1 := hb
    rw [hx (112 + b) (by omega), up2_row (by omega), up2_row (by omega), up2_row (by omega)]; exact d7 b hb
theorem rdP_gu {m x : pMI} {u f t c : Nat} {P : PD} (h : rdP m P) (h8 : P.2.1 < 8) (h9 : P.1 ≤ 8) (hx : ∀ i, i ≠ 87 → x i = up2 (up2 (up2 (up2 (up2 m (112 + P.2.1) 0 (nI u)) (112 + P.2.1) 1 (nI f)) (112 + P.2.1) 2 (nI t)) (112 + P.2.1) 3 (nI c)) 90 1 (nI (P.2.1 + 1)) i) : rdP x (adGu P u f t c) := by
  obtain ⟨d1, d2, d3, d4, d5, d6, d7⟩ := h
  refine ⟨?_, ?_, ?_, ?_, ?_, fun c hc => ?_, fun b hb => ?_⟩
  · rw [hx 90 (by omega), up2_n (by omega), up2_row (by omega), up2_row (by omega), up2_row (by omega), up2_row (by omega)]; exact d1
  · rw [hx 90 (by omega), up2_s]; rfl
  · rw [hx 90 (by omega), up2_n (by omega), up2_row (by omega), up2_row (by omega), up2_row (by omega), up2_row (by omega)]; exact d3
  · rw [hx 90 (by omega), up2_n (by omega), up2_row (by omega), up2_row (by omega), up2_row (by omega), up2_row (by omega)]; exact d4
  · rw [hx 90 (by omega), up2_n (by omega), up2_row (by omega), up2_row (by omega), up2_row (by omega), up2_row (by omega)]; exact d5
  · have hc : c < P.1 := hc
    rw [hx (93 + c) (by omega), up2_row (by omega), up2_row (by omega), up2_row (by omega), up2_row (by omega), up2_row (by omega)]; exact d6 c hc
  · have hb : b < P.2.1 + 1 := hb
    rw [hx (112 + b) (by omega), up2_row (by omega)]
    show _ = nI (if b = P.2.1 then u else P.2.2.2.2.2.2 b 0) ∧ _ = nI (if b = P.2.1 then f else P.2.2.2.2.2.2 b 1) ∧ _ = nI (if b = P.2.1 then t else P.2.2.2.2.2.2 b 2) ∧ _ = nI (if b = P.2.1 then c else P.2.2.2.2.2.2 b 3)
    by_cases e : b = P.2.1
    · rw [if_pos e, if_pos e, if_pos e, if_pos e, e]
      refine ⟨?_, ?_, ?_, up2_s⟩
      · rw [up2_n (by omega), up2_n (by omega), up2_n (by omega), up2_s]
      · rw [up2_n (by omega), up2_n (by omega), up2_s]
      · rw [up2_n (by omega), up2_s]
    · rw [if_neg e, if_neg e, if_neg e, if_neg e, up2_row (by omega), up2_row (by omega), up2_row (by omega), up2_row (by omega)]; exact d7 b (by omega)
theorem rdP_f {m x : pMI} {v k : Nat} {P P' : PD} (h : rdP m P) (hk : (k = 2 ∧ P' = seGo P v) ∨ (k = 3 ∧ P' = seUn P v) ∨ (k = 4 ∧ P' = sePr P v)) (h8 : P.1 ≤ 8) (hx : ∀ i, i ≠ 87 → x i = up2 m 90 k (nI v) i) : rdP x P' := by
  obtain ⟨d1, d2, d3, d4, d5, d6, d7⟩ := h
  have h6 : ∀ c, c < P.1 → x (93 + c) 0 = nI (P.2.2.2.2.2.1 c 0) ∧ x (93 + c) 1 = nI (P.2.2.2.2.2.1 c 1) := fun c hc => by rw [hx (93 + c) (by omega), up2_row (by omega)]; exact d6 c hc
  have h7 : ∀ b, b < P.2.1 → x (112 + b) 0 = nI (P.2.2.2.2.2.2 b 0) ∧ x (112 + b) 1 = nI (P.2.2.2.2.2.2 b 1) ∧ x (112 + b) 2 = nI (P.2.2.2.2.2.2 b 2) ∧ x (112 + b) 3 = nI (P.2.2.2.2.2.2 b 3) := fun b hb => by rw [hx (112 + b) (by omega), up2_row (by omega)]; exact d7 b hb
  have h9 := hx 90 (by omega)
  rcases hk with ⟨rfl, rfl⟩ | ⟨rfl, rfl⟩ | ⟨rfl, rfl⟩
  · exact ⟨by rw [h9, up2_n (by omega)]; exact d1, by rw [h9, up2_n (by omega)]; exact d2, by rw [h9, up2_s]; rfl, by rw [h9, up2_n (by omega)]; exact d4, by rw [h9, up2_n (by omega)]; exact d5, h6, h7⟩
  · exact ⟨by rw [h9, up2_n (by omega)]; exact d1, by rw [h9, up2_n (by omega)]; exact d2, by rw [h9, up2_n (by omega)]; exact d3, by rw [h9, up2_s]; rfl, by rw [h9, up2_n (by omega)]; exact d5, h6, h7⟩
  · exact ⟨by rw [h9, up2_n (by omega)]; exact d1, by rw [h9, up2_n (by omega)]; exact d2, by rw [h9, up2_n (by omega)]; exact d3, by rw [h9, up2_n (by omega)]; exact d4, by rw [h9, up2_s]; rfl, h6, h7⟩
theorem ok_ch {a b : Nat} {P : PD} (hP : okPD P) (h8 : P.1 < 8) (ha : a < 10) (hb : b < 10) : okPD (adCh P a b) := by
  refine ⟨by show P.1 + 1 ≤ 8; omega, hP.2.1, hP.2.2.1, hP.2.2.2.1, hP.2.2.2.2.1, hP.2.2.2.2.2.1, fun c hc => ?_, hP.2.2.2.2.2.2.2⟩
  have hc : c < P.1 + 1 := hc
  show (if c = P.1 then (if 0 = 0 then a else b) else P.2.2.2.2.2.1 c 0) < 10 ∧ (if c = P.1 then (if 1 = 0 then a else b) else P.2.2.2.2.2.1 c 1) < 10
  by_cases e : c = P.1
  · rw [if_pos e, if_pos e]; exact ⟨ha, hb⟩
  · rw [if_neg e, if_neg e]; exact hP.2.2.2.2.2.2.1 c (by omega)
theorem ok_gu {u f t c : Nat} {P : PD} (hP : okPD P) (h8 : P.2.1 < 8) (hu : u < 24) (hf1 : f < 23) (ht : f < t) (ht2 : t < 24) (hc : c < 10) : okPD (adGu P u f t c) := by
  refine ⟨hP.1, by show P.2.1 + 1 ≤ 8; omega, hP.2.2.1, hP.2.2.2.1, hP.2.2.2.2.1, hP.2.2.2.2.2.1, hP.2.2.2.2.2.2.1, fun b hb => ?_⟩
  have hb : b < P.2.1 + 1 := hb
  show (if b = P.2.1 then u else P.2.2.2.2.2.2 b 0) < 24 ∧ (if b = P.2.1 then f else P.2.2.2.2.2.2 b 1) < 23 ∧ (if b = P.2.1 then f else P.2.2.2.2.2.2 b 1) < (if b = P.2.1 then t else P.2.2.2.2.2.2 b 2) ∧ (if b = P.2.1 then t else P.2.2.2.2.2.2 b 2) < 24 ∧ (if b = P.2.1 then c else P.2.2.2.2.2.2 b 3) < 10
  by_cases e : b = P.2.1
  · rw [if_pos e, if_pos e, if_pos e, if_pos e]; exact ⟨hu, hf1, ht, ht2, hc⟩
  · rw [if_neg e, if_neg e, if_neg e, if_neg e]; exact hP.2.2.2.2.2.2.2 b (by omega)
theorem c_isW1 (Γ : pTG) (g : pGG) (mi : pMI) (ml : pML) (hSh : Sh g) (B : Nat → Int32) (n i0 : Nat) (hR : RTX mi B n i0) (hsk : skT B n i0 = i0) (hf : mi 87 5 = nI 0) (a b c d e f : Nat) (hc : c < 27) (hd : d < 27) (he : e < 27) (hff : f < 27) (hw : wcV B n i0 = nI (sixN a b c d e f)) : cI Γ 4 mX12_isWord [.ref 87, .int (nI a), .int (nI b), .int (nI c), .int (nI d), .int (nI e), .int (nI f)] g mi ml (nI 1) mi := by
  have h := c_isWord1 Γ g mi ml hSh B n i0 hR hf a b c d e f hc hd he hff (by rw [hsk]; exact hw)
  rw [hsk, up2_val hR.2.2.2.2] at h
  exact h
theorem c_isW0 (Γ : pTG) (g : pGG) (mi : pMI) (ml : pML) (hSh : Sh g) (B : Nat → Int32) (n i0 : Nat) (hR : RTX mi B n i0) (hsk : skT B n i0 = i0) (hf : mi 87 5 = nI 0) (a b c d e f : Nat) (hc : c < 27) (hd : d < 27) (he : e < 27) (hff : f < 27) (hw : ¬ wcV B n i0 = nI (sixN a b c d e f)) : cI Γ 4 mX12_isWord [.ref 87, .int (nI a), .int (nI b), .int (nI c), .int (nI d), .int (nI e), .int (nI f)] g mi ml (nI 0) mi := by
  have h := c_isWord0 Γ g mi ml hSh B n i0 hR hf a b c d e f hc hd he hff (by rw [hsk]; exact hw)
  rw [hsk, up2_val hR.2.2.2.2] at h
  exact h
set_option maxRecDepth 100000 in
set_option maxHeartbeats 4000000 in
theorem c_clauseN (Γ : pTG) (g : pGG) (mi : pMI) (ml : pML) (hSh : Sh g) (m0 : pMI) (B : Nat → Int32) (n i0 c : Nat) (P : PD) (hS : RPS m0 mi B n i0 c P) (hsk : skT B n i0 = i0) (hc : c ≤ 60) (hW : wIx 0 B n i0 = none) : rV Γ 6 mX12_clause [.ref 87] g mi ml (fun m l => RRS m0 B n c (clR B n i0 c P) m ∧ l = ml) := by
  refine rV_of (by decide +kernel) (Nat.le_of_ble_eq_true rfl) ?_
  have hP := hS.2.2.2.2.1
  have hP8 := hP.1
  have hG8 := hP.2.1
  have hn6 := hS.1.1
  have hin := hS.1.2.1
  refine X_aload_n dX12_clause_0 rfl ?_
  refine X_iconst (v := nI 3) dX12_clause_1 (by decide) ?_
  refine X_bipush (v := nI 8) dX12_clause_2 (by decide) ?_
  refine X_iconst (v := nI 1) dX12_clause_4 (by decide) ?_
  refine X_bipush (v := nI 9) dX12_clause_5 (by decide) ?_
  refine X_bipush (v := nI 18) dX12_clause_7 (by decide) ?_
  refine X_iconst (v := nI 0) dX12_clause_9 (by decide) ?_
  refine X_callVI dX12_clause_10 mkX12_207 (k_87 hSh) (c_isW0 Γ g mi ml hSh B n i0 hS.1 hsk hS.2.1 3 8 1 9 18 0 (by decide) (by decide) (by decide) (by decide) (fun q => by have h9 := wq_0_0.mp q; rw [hW] at h9; cases h9)) rfl rfl (by decide) (Nat.le_of_ble_eq_true rfl) ?_
  refine X_if_eqN (a := 0) 20 dX12_clause_13 (by decide) (by omega) (fun h_1 => ?_) (fun h_1 => ?_)
  · refine X_aload_n dX12_clause_20 rfl ?_
    refine X_bipush (v := nI 7) dX12_clause_21 (by decide) ?_
    refine X_bipush (v := nI 21) dX12_clause_23 (by decide) ?_
    refine X_iconst (v := nI 5) dX12_clause_25 (by decide) ?_
    refine X_bipush (v := nI 19) dX12_clause_26 (by decide) ?_
    refine X_bipush (v := nI 20) dX12_clause_28 (by decide) ?_
    refine X_iconst (v := nI 0) dX12_clause_30 (by decide) ?_
    refine X_callVI dX12_clause_31 mkX12_207 (k_87 hSh) (c_isW0 Γ g mi ml hSh B n i0 hS.1 hsk hS.2.1 7 21 5 19 20 0 (by decide) (by decide) (by decide) (by decide) (fun q => by have h9 := wq_0_1.mp q; rw [hW] at h9; cases h9)) rfl rfl (by decide) (Nat.le_of_ble_eq_true rfl) ?_
    refine X_if_eqN (a := 0) 41 dX12_clause_34 (by decide) (by omega) (fun h_2 => ?_) (fun h_2 => ?_)
    · refine X_aload_n dX12_clause_41 rfl ?_
      refine X_bipush (v := nI 7) dX12_clause_42 (by decide) ?_
      refine X_bipush (v := nI 15) dX12_clause_44 (by decide) ?_
      refine X_iconst (v := nI 5) dX12_clause_46 (by decide) ?_
      refine X_bipush (v := nI 19) dX12_clause_47 (by decide) ?_
      refine X_iconst (v := nI 0) dX12_clause_49 (by decide) ?_
      refine X_iconst (v := nI 0) dX12_clause_50 (by decide) ?_
      refine X_callVI dX12_clause_51 mkX12_207 (k_87 hSh) (c_isW0 Γ g mi ml hSh B n i0 hS.1 hsk hS.2.1 7 15 5 19 0 0 (by decide) (by decide) (by decide) (by decide) (fun q => by have h9 := wq_0_2.mp q; rw [hW] at h9; cases h9)) rfl rfl (by decide) (Nat.le_of_ble_eq_true rfl) ?_
      refine X_if_eqN (a := 0) 61 dX12_clause_54 (by decide) (by omega) (fun h_3 => ?_) (fun h_3 => ?_)
      · refine X_aload_n dX12_clause_61 rfl ?_
        refine X_bipush (v := nI 15) dX12_clause_62 (by decide) ?_
        refine X_bipush (v := nI 6) dX12_clause_64 (by decide) ?_
        refine X_bipush (v := nI 6) dX12_clause_66 (by decide) ?_
        refine X_iconst (v := nI 0) dX12_clause_68 (by decide) ?_
        refine X_iconst (v := nI 0) dX12_clause_69 (by decide) ?_
        refine X_iconst (v := nI 0) dX12_clause_70 (by decide) ?_
        refine X_callVI dX12_clause_71 mkX12_207 (k_87 hSh) (c_isW0 Γ g mi ml hSh B n i0 hS.1 hsk hS.2.1 15 6 6 0 0 0 (by decide) (by decide) (by decide) (by decide) (fun q => by have h9 := wq_0_3.mp q; rw [hW] at h9; cases h9)) rfl rfl (by decide) (Nat.le_of_ble_eq_true rfl) ?_
        refine X_if_eqN (a := 0) 81 dX12_clause_74 (by decide) (by omega) (fun h_4 => ?_) (fun h_4 => ?_)
        · refine X_aload_n dX12_clause_81 rfl ?_
          refine X_bipush (v := nI 8) dX12_clause_82 (by decide) ?_
          refine X_bipush (v := nI 9) dX12_clause_84 (by decide) ?_
          refine X_bipush (v := nI 18) dX12_clause_86 (by decide) ?_
          refine X_iconst (v := nI 5) dX12_clause_88 (by decide) ?_
          refine X_iconst (v := nI 0) dX12_clause_89 (by decide) ?_
          refine X_iconst (v := nI 0) dX12_clause_90 (by decide) ?_
          refine X_callVI dX12_clause_91 mkX12_207 (k_87 hSh) (c_isW0 Γ g mi ml hSh B n i0 hS.1 hsk hS.2.1 8 9 18 5 0 0 (by decide) (by decide) (by decide) (by decide) (fun q => by have h9 := wq_0_4.mp q; rw [hW] at h9; cases h9)) rfl rfl (by decide) (Nat.le_of_ble_eq_true rfl) ?_
          refine X_if_eqN (a := 0) 101 dX12_clause_94 (by decide) (by omega) (fun h_5 => ?_) (fun h_5 => ?_)
          · refine X_iconst (v := -1) dX12_clause_101 (by decide) ?_
            refine X_istore_n dX12_clause_102 (by decide) ?_
            refine X_iload_n dX12_clause_103 rfl ?_
            refine X_iconst (v := -1) dX12_clause_104 (by decide) ?_
            refine X_icmp_ne 120 dX12_clause_105 (by decide) (fun h_6 => ?_) (fun h_6 => ?_)
            · exact absurd rfl h_6
            · refine X_aload_n dX12_clause_108 rfl ?_
              refine X_iconst (v := nI 1) dX12_clause_109 (by decide) ?_
              refine X_aload_n dX12_clause_110 rfl ?_
              refine X_geti dX12_clause_111 fkX12_167 rfl (k_87 hSh) ?_
              rw [hS.1.2.2.2.2]
              refine X_callVV dX12_clause_114 mkX12_187 (k_87 hSh) (c_wrong0 Γ g mi ml hSh hS.2.1 (nI 1) (nI i0)) rfl rfl (by decide) (Nat.le_of_ble_eq_true rfl) ?_
              refine X_goto 169 dX12_clause_117 (by decide) ?_
              refine X_aload_n dX12_clause_169 rfl ?_
              refine X_geti dX12_clause_170 fkX12_174 rfl (k_87 hSh) ?_
              refine X_topi (show (up2 (up2 mi 87 5 (nI 1)) 87 6 (nI i0)) 87 5 = nI 1 by rw [up2_n (by omega), up2_s]) ?_
              refine X_if_eqN (a := 1) 177 dX12_clause_173 (by decide) (by omega) (fun h_7 => ?_) (fun h_7 => ?_)
              · exact absurd h_7 (by omega)
              · exact X_vret dX12_clause_176 rfl ⟨rfl, rfl, by rw [show clR B n i0 c P = .error (1, i0) from by simp only [clR, hW]]; exact ⟨(show (up2 (up2 mi 87 5 (nI 1)) 87 6 (nI i0)) 87 5 = nI 1 by rw [up2_n (by omega), up2_s]), by omega, by omega, (show (up2 (up2 mi 87 5 (nI 1)) 87 6 (nI i0)) 87 6 = nI i0 by rw [up2_s]), (frRD_u (frRD_u hS.2.2.2.2.2.1 (by omega)) (by omega)), _, (RTX_u (RTX_u hS.1 (by omega)) (by omega))⟩, rfl⟩
          · exact absurd h_5 (by omega)
        · exact absurd h_4 (by omega)
      · exact absurd h_3 (by omega)
    · exact absurd h_2 (by omega)
  · exact absurd h_1 (by omega)
set_option maxRecDepth 100000 in
set_option maxHeartbeats 4000000 in
theorem c_clause0 (Γ : pTG) (g : pGG) (mi : pMI) (ml : pML) (hSh : Sh g) (m0 : pMI) (B : Nat → Int32) (n i0 c : Nat) (P : PD) (hS : RPS m0 mi B n i0 c P) (hsk : skT B n i0 = i0) (hc : c ≤ 60) (hW : wIx 0 B n i0 = some 0) : rV Γ 6 mX12_clause [.ref 87] g mi ml (fun m l => RRS m0 B n c (clR B n i0 c P) m ∧ l = ml) := by
  refine rV_of (by decide +kernel) (Nat.le_of_ble_eq_true rfl) ?_
  have hP := hS.2.2.2.2.1
  have hP8 := hP.1
  have hG8 := hP.2.1
  have hn6 := hS.1.1
  have hin := hS.1.2.1
  refine X_aload_n dX12_clause_0 rfl ?_
  refine X_iconst (v := nI 3) dX12_clause_1 (by decide) ?_
  refine X_bipush (v := nI 8) dX12_clause_2 (by decide) ?_
  refine X_iconst (v := nI 1) dX12_clause_4 (by decide) ?_
  refine X_bipush (v := nI 9) dX12_clause_5 (by decide) ?_
  refine X_bipush (v := nI 18) dX12_clause_7 (by decide) ?_
  refine X_iconst (v := nI 0) dX12_clause_9 (by decide) ?_
  refine X_callVI dX12_clause_10 mkX12_207 (k_87 hSh) (c_isW1 Γ g mi ml hSh B n i0 hS.1 hsk hS.2.1 3 8 1 9 18 0 (by decide) (by decide) (by decide) (by decide) (wq_0_0.mpr hW)) rfl rfl (by decide) (Nat.le_of_ble_eq_true rfl) ?_
  refine X_if_eqN (a := 1) 20 dX12_clause_13 (by decide) (by omega) (fun h_1 => ?_) (fun h_1 => ?_)
  · exact absurd h_1 (by omega)
  · refine X_iconst (v := nI 0) dX12_clause_16 (by decide) ?_
    refine X_goto 102 dX12_clause_17 (by decide) ?_
    refine X_istore_n dX12_clause_102 (by decide) ?_
    refine X_iload_n dX12_clause_103 rfl ?_
    refine X_iconst (v := -1) dX12_clause_104 (by decide) ?_
    refine X_icmp_ne 120 dX12_clause_105 (by decide) (fun h_2 => ?_) (fun h_2 => ?_)
    · refine X_aload_n dX12_clause_120 rfl ?_
      refine X_geti dX12_clause_121 fkX12_214 rfl (k_87 hSh) ?_
      rw [hS.2.2.1]
      refine X_bipush (v := nI 60) dX12_clause_124 (by decide) ?_
      refine X_icmp_eqN (a := c) (b := 60) 160 dX12_clause_126 (by decide) (by omega) (by omega) (fun h_3 => ?_) (fun h_3 => ?_)
      · refine X_aload_n dX12_clause_160 rfl ?_
        refine X_iconst (v := nI 3) dX12_clause_161 (by decide) ?_
        refine X_aload_n dX12_clause_162 rfl ?_
        refine X_geti dX12_clause_163 fkX12_167 rfl (k_87 hSh) ?_
        rw [hS.1.2.2.2.2]
        refine X_callVV dX12_clause_166 mkX12_187 (k_87 hSh) (c_wrong0 Γ g mi ml hSh hS.2.1 (nI 3) (nI i0)) rfl rfl (by decide) (Nat.le_of_ble_eq_true rfl) ?_
        refine X_aload_n dX12_clause_169 rfl ?_
        refine X_geti dX12_clause_170 fkX12_174 rfl (k_87 hSh) ?_
        refine X_topi (show (up2 (up2 mi 87 5 (nI 3)) 87 6 (nI i0)) 87 5 = nI 3 by rw [up2_n (by omega), up2_s]) ?_
        refine X_if_eqN (a := 3) 177 dX12_clause_173 (by decide) (by omega) (fun h_4 => ?_) (fun h_4 => ?_)
        · exact absurd h_4 (by omega)
        · exact X_vret dX12_clause_176 rfl ⟨rfl, rfl, by rw [show clR B n i0 c P = .error (3, i0) from by unfold clR; rw [hW]; exact if_pos (by omega)]; exact ⟨(show (up2 (up2 mi 87 5 (nI 3)) 87 6 (nI i0)) 87 5 = nI 3 by rw [up2_n (by omega), up2_s]), by omega, by omega, (show (up2 (up2 mi 87 5 (nI 3)) 87 6 (nI i0)) 87 6 = nI i0 by rw [up2_s]), (frRD_u (frRD_u hS.2.2.2.2.2.1 (by omega)) (by omega)), _, (RTX_u (RTX_u hS.1 (by omega)) (by omega))⟩, rfl⟩
      · refine X_iload_n dX12_clause_129 rfl ?_
        refine X_if_neN (a := 0) 144 dX12_clause_130 (by decide) (by omega) (fun h_5 => ?_) (fun h_5 => ?_)
        · exact absurd h_5 (by omega)
        · refine X_aload_n dX12_clause_133 rfl ?_
          refine X_getr (a := 90) dX12_clause_134 fkX12_20 rfl (k_87 hSh) (r_87_11 hSh) ?_
          refine X_iconst (v := nI 0) dX12_clause_137 (by decide) ?_
          refine X_iald 0 dX12_clause_138 (k_90 hSh) rfl (by omega) ?_
          rw [hS.2.2.2.1.1]
          refine X_bipush (v := nI 8) dX12_clause_139 (by decide) ?_
          refine X_icmp_eqN (a := P.1) (b := 8) 160 dX12_clause_141 (by decide) (by omega) (by omega) (fun h_6 => ?_) (fun h_6 => ?_)
          · refine X_aload_n dX12_clause_160 rfl ?_
            refine X_iconst (v := nI 3) dX12_clause_161 (by decide) ?_
            refine X_aload_n dX12_clause_162 rfl ?_
            refine X_geti dX12_clause_163 fkX12_167 rfl (k_87 hSh) ?_
            rw [hS.1.2.2.2.2]
            refine X_callVV dX12_clause_166 mkX12_187 (k_87 hSh) (c_wrong0 Γ g mi ml hSh hS.2.1 (nI 3) (nI i0)) rfl rfl (by decide) (Nat.le_of_ble_eq_true rfl) ?_
            refine X_aload_n dX12_clause_169 rfl ?_
            refine X_geti dX12_clause_170 fkX12_174 rfl (k_87 hSh) ?_
            refine X_topi (show (up2 (up2 mi 87 5 (nI 3)) 87 6 (nI i0)) 87 5 = nI 3 by rw [up2_n (by omega), up2_s]) ?_
            refine X_if_eqN (a := 3) 177 dX12_clause_173 (by decide) (by omega) (fun h_7 => ?_) (fun h_7 => ?_)
            · exact absurd h_7 (by omega)
            · exact X_vret dX12_clause_176 rfl ⟨rfl, rfl, by rw [show clR B n i0 c P = .error (3, i0) from by unfold clR; rw [hW]; exact if_pos (by omega)]; exact ⟨(show (up2 (up2 mi 87 5 (nI 3)) 87 6 (nI i0)) 87 5 = nI 3 by rw [up2_n (by omega), up2_s]), by omega, by omega, (show (up2 (up2 mi 87 5 (nI 3)) 87 6 (nI i0)) 87 6 = nI i0 by rw [up2_s]), (frRD_u (frRD_u hS.2.2.2.2.2.1 (by omega)) (by omega)), _, (RTX_u (RTX_u hS.1 (by omega)) (by omega))⟩, rfl⟩
          · refine X_iload_n dX12_clause_144 rfl ?_
            refine X_iconst (v := nI 1) dX12_clause_145 (by decide) ?_
            refine X_icmp_neN (a := 0) (b := 1) 169 dX12_clause_146 (by decide) (by omega) (by omega) (fun h_8 => ?_) (fun h_8 => ?_)
            · refine X_aload_n dX12_clause_169 rfl ?_
              refine X_geti dX12_clause_170 fkX12_174 rfl (k_87 hSh) ?_
              rw [hS.2.1]
              refine X_if_eqN (a := 0) 177 dX12_clause_173 (by decide) (by omega) (fun h_9 => ?_) (fun h_9 => ?_)
              · refine X_aload_n dX12_clause_177 rfl ?_
                refine X_callVV dX12_clause_178 mkX12_211 (k_87 hSh) (c_skipWord Γ g mi ml hSh B n i0 hS.1) rfl rfl (by decide) (Nat.le_of_ble_eq_true rfl) ?_
                refine X_aload_n dX12_clause_181 rfl ?_
                refine X_dup dX12_clause_182 rfl ?_
                refine X_geti dX12_clause_183 fkX12_214 rfl (k_87 hSh) ?_
                refine X_topi (show (up2 mi 87 4 (nI (wdT B n i0))) 87 7 = nI c by rw [up2_n (by omega)]; exact hS.2.2.1) ?_
                refine X_iconst (v := nI 1) dX12_clause_186 (by decide) ?_
                refine X_iadd dX12_clause_187 ?_
                refine X_topi (nI_add c 1) ?_
                refine X_puti dX12_clause_188 fkX12_214 rfl rfl (k_87 hSh) ?_
                refine X_iload_n dX12_clause_191 rfl ?_
                refine X_tableIn 224 dX12_clause_192 (by decide) (by decide) rfl (by decide) ?_
                refine X_aload_n dX12_clause_224 rfl ?_
                refine X_getr (a := 92) dX12_clause_225 fkX12_28 rfl (k_87 hSh) (r_87_13 hSh) ?_
                refine X_aload_n dX12_clause_228 rfl ?_
                refine X_getr (a := 90) dX12_clause_229 fkX12_20 rfl (k_87 hSh) (r_87_11 hSh) ?_
                refine X_iconst (v := nI 0) dX12_clause_232 (by decide) ?_
                refine X_iald 0 dX12_clause_233 (k_90 hSh) rfl (by omega) ?_
                refine X_topi (show (up2 (up2 mi 87 4 (nI (wdT B n i0))) 87 7 (nI (c + 1))) 90 0 = nI P.1 by rw [up2_row (by omega), up2_row (by omega)]; exact hS.2.2.2.1.1) ?_
                refine X_aaldr (b := 93 + P.1) P.1 dX12_clause_234 (k_92 hSh) rfl (by omega) (o_92 hSh P.1 (by omega)) ?_
                refine X_astore_n dX12_clause_235 (by decide) ?_
                refine X_aload_n dX12_clause_236 rfl ?_
                refine X_iconst (v := nI 0) dX12_clause_237 (by decide) ?_
                refine X_aload_n dX12_clause_238 rfl ?_
                refine X_iconst (v := nI 0) dX12_clause_239 (by decide) ?_
                refine X_bipush (v := nI 9) dX12_clause_240 (by decide) ?_
                match hN1 : numR B n (wdT B n i0) 0 10 with
                | .error (k1, p1) =>
                  obtain ⟨hka1, hkb1⟩ := numR_k hN1
                  obtain ⟨q1, hq1, hC1⟩ := c_rnumE Γ g (up2 (up2 mi 87 4 (nI (wdT B n i0))) 87 7 (nI (c + 1))) ml hSh B n (wdT B n i0) (RTX_u (RTX_at hS.1 (by first | omega | exact wdT_le hS.1.2.1 | exact skT_le (by omega))) (by omega)) (show (up2 (up2 mi 87 4 (nI (wdT B n i0))) 87 7 (nI (c + 1))) 87 5 = nI 0 by rw [up2_n (by omega), up2_n (by omega)]; exact hS.2.1) 0 10 (nI 9) (by omega) (by omega) (hH_of (by omega)) hN1
                  refine X_callVI dX12_clause_242 mkX12_220 (k_87 hSh) (hC1) rfl rfl (by decide) (Nat.le_of_ble_eq_true rfl) ?_
                  refine X_iast 0 dX12_clause_245 (kr_92 hSh P.1 (by omega)) rfl (by omega) ?_
                  refine X_aload_n dX12_clause_246 rfl ?_
                  refine X_iconst (v := nI 1) dX12_clause_247 (by decide) ?_
                  refine X_aload_n dX12_clause_248 rfl ?_
                  refine X_iconst (v := nI 0) dX12_clause_249 (by decide) ?_
                  refine X_bipush (v := nI 9) dX12_clause_250 (by decide) ?_
                  refine X_callVI dX12_clause_252 mkX12_220 (k_87 hSh) (c_numberF Γ g (up2 (up2 (up2 (up2 (up2 (up2 mi 87 4 (nI (wdT B n i0))) 87 7 (nI (c + 1))) 87 4 (nI q1)) 87 5 (nI k1)) 87 6 (nI p1)) (93 + P.1) 0 (nI 0)) ml hSh (by rw [(show (up2 (up2 (up2 (up2 (up2 (up2 mi 87 4 (nI (wdT B n i0))) 87 7 (nI (c + 1))) 87 4 (nI q1)) 87 5 (nI k1)) 87 6 (nI p1)) (93 + P.1) 0 (nI 0)) 87 5 = nI k1 by rw [up2_row (by omega), up2_n (by omega), up2_s])]; exact nI_ne0 (by omega) (by omega)) (nI 0) (nI 9)) rfl rfl (by decide) (Nat.le_of_ble_eq_true rfl) ?_
                  refine X_iast 1 dX12_clause_255 (kr_92 hSh P.1 (by omega)) rfl (by omega) ?_
                  refine X_goto 363 dX12_clause_256 (by decide) ?_
                  refine X_iload_n dX12_clause_363 rfl ?_
                  refine X_iconst (v := nI 2) dX12_clause_364 (by decide) ?_
                  refine X_icmp_geN (a := 0) (b := 2) 389 dX12_clause_365 (by decide) (by omega) (by omega) (fun h_10 => ?_) (fun h_10 => ?_)
                  · exact absurd h_10 (by omega)
                  · refine X_aload_n dX12_clause_368 rfl ?_
                    refine X_getr (a := 90) dX12_clause_369 fkX12_20 rfl (k_87 hSh) (r_87_11 hSh) ?_
                    refine X_iload_n dX12_clause_372 rfl ?_
                    refine X_dup2 dX12_clause_373 rfl rfl ?_
                    refine X_iald 0 dX12_clause_374 (k_90 hSh) rfl (by omega) ?_
                    refine X_topi (show (up2 (up2 (up2 (up2 (up2 (up2 (up2 mi 87 4 (nI (wdT B n i0))) 87 7 (nI (c + 1))) 87 4 (nI q1)) 87 5 (nI k1)) 87 6 (nI p1)) (93 + P.1) 0 (nI 0)) (93 + P.1) 1 (nI 0)) 90 0 = nI P.1 by rw [up2_row (by omega), up2_row (by omega), up2_row (by omega), up2_row (by omega), up2_row (by omega), up2_row (by omega), up2_row (by omega)]; exact hS.2.2.2.1.1) ?_
                    refine X_aload_n dX12_clause_375 rfl ?_
                    refine X_geti dX12_clause_376 fkX12_174 rfl (k_87 hSh) ?_
                    refine X_topi (show (up2 (up2 (up2 (up2 (up2 (up2 (up2 mi 87 4 (nI (wdT B n i0))) 87 7 (nI (c + 1))) 87 4 (nI q1)) 87 5 (nI k1)) 87 6 (nI p1)) (93 + P.1) 0 (nI 0)) (93 + P.1) 1 (nI 0)) 87 5 = nI k1 by rw [up2_row (by omega), up2_row (by omega), up2_n (by omega), up2_s]) ?_
                    refine X_if_neN (a := k1) 386 dX12_clause_379 (by decide) (by omega) (fun h_11 => ?_) (fun h_11 => ?_)
                    · refine X_iconst (v := nI 0) dX12_clause_386 (by decide) ?_
                      refine X_iadd dX12_clause_387 ?_
                      refine X_topi (nI_add P.1 0) ?_
                      refine X_iast 0 dX12_clause_388 (k_90 hSh) rfl (by omega) ?_
                      refine X_aload_n dX12_clause_389 rfl ?_
                      refine X_bipush (v := nI 59) dX12_clause_390 (by decide) ?_
                      refine X_callVV dX12_clause_392 mkX12_224 (k_87 hSh) (c_signF Γ g (up2 (up2 (up2 (up2 (up2 (up2 (up2 (up2 mi 87 4 (nI (wdT B n i0))) 87 7 (nI (c + 1))) 87 4 (nI q1)) 87 5 (nI k1)) 87 6 (nI p1)) (93 + P.1) 0 (nI 0)) (93 + P.1) 1 (nI 0)) 90 0 (nI (P.1 + 0))) ml hSh (by rw [(show (up2 (up2 (up2 (up2 (up2 (up2 (up2 (up2 mi 87 4 (nI (wdT B n i0))) 87 7 (nI (c + 1))) 87 4 (nI q1)) 87 5 (nI k1)) 87 6 (nI p1)) (93 + P.1) 0 (nI 0)) (93 + P.1) 1 (nI 0)) 90 0 (nI (P.1 + 0))) 87 5 = nI k1 by rw [up2_row (by omega), up2_row (by omega), up2_row (by omega), up2_n (by omega), up2_s])]; exact nI_ne0 (by omega) (by omega)) (nI 59)) rfl rfl (by decide) (Nat.le_of_ble_eq_true rfl) ?_
                      exact X_vret dX12_clause_395 rfl ⟨rfl, rfl, by rw [show clR B n i0 c P = .error (k1, p1) from by simp only [clR, hW, rdNu, rdCh, hN1]; exact if_neg (by omega)]; exact ⟨(show (up2 (up2 (up2 (up2 (up2 (up2 (up2 (up2 mi 87 4 (nI (wdT B n i0))) 87 7 (nI (c + 1))) 87 4 (nI q1)) 87 5 (nI k1)) 87 6 (nI p1)) (93 + P.1) 0 (nI 0)) (93 + P.1) 1 (nI 0)) 90 0 (nI (P.1 + 0))) 87 5 = nI k1 by rw [up2_row (by omega), up2_row (by omega), up2_row (by omega), up2_n (by omega), up2_s]), by omega, by omega, (show (up2 (up2 (up2 (up2 (up2 (up2 (up2 (up2 mi 87 4 (nI (wdT B n i0))) 87 7 (nI (c + 1))) 87 4 (nI q1)) 87 5 (nI k1)) 87 6 (nI p1)) (93 + P.1) 0 (nI 0)) (93 + P.1) 1 (nI 0)) 90 0 (nI (P.1 + 0))) 87 6 = nI p1 by rw [up2_row (by omega), up2_row (by omega), up2_row (by omega), up2_s]), (frRD_u (frRD_u (frRD_u (frRD_u (frRD_u (frRD_u (frRD_u (frRD_u hS.2.2.2.2.2.1 (by omega)) (by omega)) (by omega)) (by omega)) (by omega)) (by omega)) (by omega)) (by omega)), _, (RTX_u (RTX_u (RTX_u (RTX_u (RTX_u (RTX_at (RTX_u (RTX_at hS.1 (by first | omega | exact wdT_le hS.1.2.1 | exact skT_le (by omega))) (by omega)) (by first | omega | exact wdT_le hS.1.2.1 | exact skT_le (by omega))) (by omega)) (by omega)) (by omega)) (by omega)) (by omega))⟩, rfl⟩
                    · exact absurd h_11 (by omega)
                | .ok (v1, e1) =>
                  obtain ⟨he1, hi1, hl1, hv1⟩ := numR_o (by first | omega | exact wdT_le hS.1.2.1) hN1
                  refine X_callVI dX12_clause_242 mkX12_220 (k_87 hSh) (c_rnumOK Γ g (up2 (up2 mi 87 4 (nI (wdT B n i0))) 87 7 (nI (c + 1))) ml hSh B n (wdT B n i0) (RTX_u (RTX_at hS.1 (by first | omega | exact wdT_le hS.1.2.1 | exact skT_le (by omega))) (by omega)) (show (up2 (up2 mi 87 4 (nI (wdT B n i0))) 87 7 (nI (c + 1))) 87 5 = nI 0 by rw [up2_n (by omega), up2_n (by omega)]; exact hS.2.1) 0 10 (nI 9) (by omega) (by omega) (hH_of (by omega)) hN1) rfl rfl (by decide) (Nat.le_of_ble_eq_true rfl) ?_
                  refine X_iast 0 dX12_clause_245 (kr_92 hSh P.1 (by omega)) rfl (by omega) ?_
                  refine X_aload_n dX12_clause_246 rfl ?_
                  refine X_iconst (v := nI 1) dX12_clause_247 (by decide) ?_
                  refine X_aload_n dX12_clause_248 rfl ?_
                  refine X_iconst (v := nI 0) dX12_clause_249 (by decide) ?_
                  refine X_bipush (v := nI 9) dX12_clause_250 (by decide) ?_
                  match hN2 : numR B n e1 0 10 with
                  | .error (k2, p2) =>
                    obtain ⟨hka2, hkb2⟩ := numR_k hN2
                    obtain ⟨q2, hq2, hC2⟩ := c_rnumE Γ g (up2 (up2 (up2 (up2 mi 87 4 (nI (wdT B n i0))) 87 7 (nI (c + 1))) 87 4 (nI e1)) (93 + P.1) 0 (nI v1)) ml hSh B n e1 (RTX_u (RTX_at (RTX_u (RTX_at hS.1 (by first | omega | exact wdT_le hS.1.2.1 | exact skT_le (by omega))) (by omega)) (by first | omega | exact wdT_le hS.1.2.1 | exact skT_le (by omega))) (by omega)) (show (up2 (up2 (up2 (up2 mi 87 4 (nI (wdT B n i0))) 87 7 (nI (c + 1))) 87 4 (nI e1)) (93 + P.1) 0 (nI v1)) 87 5 = nI 0 by rw [up2_row (by omega), up2_n (by omega), up2_n (by omega), up2_n (by omega)]; exact hS.2.1) 0 10 (nI 9) (by omega) (by omega) (hH_of (by omega)) hN2
                    refine X_callVI dX12_clause_252 mkX12_220 (k_87 hSh) (hC2) rfl rfl (by decide) (Nat.le_of_ble_eq_true rfl) ?_
                    refine X_iast 1 dX12_clause_255 (kr_92 hSh P.1 (by omega)) rfl (by omega) ?_
                    refine X_goto 363 dX12_clause_256 (by decide) ?_
                    refine X_iload_n dX12_clause_363 rfl ?_
                    refine X_iconst (v := nI 2) dX12_clause_364 (by decide) ?_
                    refine X_icmp_geN (a := 0) (b := 2) 389 dX12_clause_365 (by decide) (by omega) (by omega) (fun h_12 => ?_) (fun h_12 => ?_)
                    · exact absurd h_12 (by omega)
                    · refine X_aload_n dX12_clause_368 rfl ?_
                      refine X_getr (a := 90) dX12_clause_369 fkX12_20 rfl (k_87 hSh) (r_87_11 hSh) ?_
                      refine X_iload_n dX12_clause_372 rfl ?_
                      refine X_dup2 dX12_clause_373 rfl rfl ?_
                      refine X_iald 0 dX12_clause_374 (k_90 hSh) rfl (by omega) ?_
                      refine X_topi (show (up2 (up2 (up2 (up2 (up2 (up2 (up2 (up2 mi 87 4 (nI (wdT B n i0))) 87 7 (nI (c + 1))) 87 4 (nI e1)) (93 + P.1) 0 (nI v1)) 87 4 (nI q2)) 87 5 (nI k2)) 87 6 (nI p2)) (93 + P.1) 1 (nI 0)) 90 0 = nI P.1 by rw [up2_row (by omega), up2_row (by omega), up2_row (by omega), up2_row (by omega), up2_row (by omega), up2_row (by omega), up2_row (by omega), up2_row (by omega)]; exact hS.2.2.2.1.1) ?_
                      refine X_aload_n dX12_clause_375 rfl ?_
                      refine X_geti dX12_clause_376 fkX12_174 rfl (k_87 hSh) ?_
                      refine X_topi (show (up2 (up2 (up2 (up2 (up2 (up2 (up2 (up2 mi 87 4 (nI (wdT B n i0))) 87 7 (nI (c + 1))) 87 4 (nI e1)) (93 + P.1) 0 (nI v1)) 87 4 (nI q2)) 87 5 (nI k2)) 87 6 (nI p2)) (93 + P.1) 1 (nI 0)) 87 5 = nI k2 by rw [up2_row (by omega), up2_n (by omega), up2_s]) ?_
                      refine X_if_neN (a := k2) 386 dX12_clause_379 (by decide) (by omega) (fun h_13 => ?_) (fun h_13 => ?_)
                      · refine X_iconst (v := nI 0) dX12_clause_386 (by decide) ?_
                        refine X_iadd dX12_clause_387 ?_
                        refine X_topi (nI_add P.1 0) ?_
                        refine X_iast 0 dX12_clause_388 (k_90 hSh) rfl (by omega) ?_
                        refine X_aload_n dX12_clause_389 rfl ?_
                        refine X_bipush (v := nI 59) dX12_clause_390 (by decide) ?_
                        refine X_callVV dX12_clause_392 mkX12_224 (k_87 hSh) (c_signF Γ g (up2 (up2 (up2 (up2 (up2 (up2 (up2 (up2 (up2 mi 87 4 (nI (wdT B n i0))) 87 7 (nI (c + 1))) 87 4 (nI e1)) (93 + P.1) 0 (nI v1)) 87 4 (nI q2)) 87 5 (nI k2)) 87 6 (nI p2)) (93 + P.1) 1 (nI 0)) 90 0 (nI (P.1 + 0))) ml hSh (by rw [(show (up2 (up2 (up2 (up2 (up2 (up2 (up2 (up2 (up2 mi 87 4 (nI (wdT B n i0))) 87 7 (nI (c + 1))) 87 4 (nI e1)) (93 + P.1) 0 (nI v1)) 87 4 (nI q2)) 87 5 (nI k2)) 87 6 (nI p2)) (93 + P.1) 1 (nI 0)) 90 0 (nI (P.1 + 0))) 87 5 = nI k2 by rw [up2_row (by omega), up2_row (by omega), up2_n (by omega), up2_s])]; exact nI_ne0 (by omega) (by omega)) (nI 59)) rfl rfl (by decide) (Nat.le_of_ble_eq_true rfl) ?_
                        exact X_vret dX12_clause_395 rfl ⟨rfl, rfl, by rw [show clR B n i0 c P = .error (k2, p2) from by simp only [clR, hW, rdNu, rdCh, hN1, hN2]; exact if_neg (by omega)]; exact ⟨(show (up2 (up2 (up2 (up2 (up2 (up2 (up2 (up2 (up2 mi 87 4 (nI (wdT B n i0))) 87 7 (nI (c + 1))) 87 4 (nI e1)) (93 + P.1) 0 (nI v1)) 87 4 (nI q2)) 87 5 (nI k2)) 87 6 (nI p2)) (93 + P.1) 1 (nI 0)) 90 0 (nI (P.1 + 0))) 87 5 = nI k2 by rw [up2_row (by omega), up2_row (by omega), up2_n (by omega), up2_s]), by omega, by omega, (show (up2 (up2 (up2 (up2 (up2 (up2 (up2 (up2 (up2 mi 87 4 (nI (wdT B n i0))) 87 7 (nI (c + 1))) 87 4 (nI e1)) (93 + P.1) 0 (nI v1)) 87 4 (nI q2)) 87 5 (nI k2)) 87 6 (nI p2)) (93 + P.1) 1 (nI 0)) 90 0 (nI (P.1 + 0))) 87 6 = nI p2 by rw [up2_row (by omega), up2_row (by omega), up2_s]), (frRD_u (frRD_u (frRD_u (frRD_u (frRD_u (frRD_u (frRD_u (frRD_u (frRD_u hS.2.2.2.2.2.1 (by omega)) (by omega)) (by omega)) (by omega)) (by omega)) (by omega)) (by omega)) (by omega)) (by omega)), _, (RTX_u (RTX_u (RTX_u (RTX_u (RTX_at (RTX_u (RTX_at (RTX_u (RTX_at hS.1 (by first | omega | exact wdT_le hS.1.2.1 | exact skT_le (by omega))) (by omega)) (by first | omega | exact wdT_le hS.1.2.1 | exact skT_le (by omega))) (by omega)) (by first | omega | exact wdT_le hS.1.2.1 | exact skT_le (by omega))) (by omega)) (by omega)) (by omega)) (by omega))⟩, rfl⟩
                      · exact absurd h_13 (by omega)
                  | .ok (v2, e2) =>
                    obtain ⟨he2, hi2, hl2, hv2⟩ := numR_o (by first | omega | exact wdT_le hS.1.2.1) hN2
                    refine X_callVI dX12_clause_252 mkX12_220 (k_87 hSh) (c_rnumOK Γ g (up2 (up2 (up2 (up2 mi 87 4 (nI (wdT B n i0))) 87 7 (nI (c + 1))) 87 4 (nI e1)) (93 + P.1) 0 (nI v1)) ml hSh B n e1 (RTX_u (RTX_at (RTX_u (RTX_at hS.1 (by first | omega | exact wdT_le hS.1.2.1 | exact skT_le (by omega))) (by omega)) (by first | omega | exact wdT_le hS.1.2.1 | exact skT_le (by omega))) (by omega)) (show (up2 (up2 (up2 (up2 mi 87 4 (nI (wdT B n i0))) 87 7 (nI (c + 1))) 87 4 (nI e1)) (93 + P.1) 0 (nI v1)) 87 5 = nI 0 by rw [up2_row (by omega), up2_n (by omega), up2_n (by omega), up2_n (by omega)]; exact hS.2.1) 0 10 (nI 9) (by omega) (by omega) (hH_of (by omega)) hN2) rfl rfl (by decide) (Nat.le_of_ble_eq_true rfl) ?_
                    refine X_iast 1 dX12_clause_255 (kr_92 hSh P.1 (by omega)) rfl (by omega) ?_
                    refine X_goto 363 dX12_clause_256 (by decide) ?_
                    refine X_iload_n dX12_clause_363 rfl ?_
                    refine X_iconst (v := nI 2) dX12_clause_364 (by decide) ?_
                    refine X_icmp_geN (a := 0) (b := 2) 389 dX12_clause_365 (by decide) (by omega) (by omega) (fun h_14 => ?_) (fun h_14 => ?_)
                    · exact absurd h_14 (by omega)
                    · refine X_aload_n dX12_clause_368 rfl ?_
                      refine X_getr (a := 90) dX12_clause_369 fkX12_20 rfl (k_87 hSh) (r_87_11 hSh) ?_
                      refine X_iload_n dX12_clause_372 rfl ?_
                      refine X_dup2 dX12_clause_373 rfl rfl ?_
                      refine X_iald 0 dX12_clause_374 (k_90 hSh) rfl (by omega) ?_
                      refine X_topi (show (up2 (up2 (up2 (up2 (up2 (up2 mi 87 4 (nI (wdT B n i0))) 87 7 (nI (c + 1))) 87 4 (nI e1)) (93 + P.1) 0 (nI v1)) 87 4 (nI e2)) (93 + P.1) 1 (nI v2)) 90 0 = nI P.1 by rw [up2_row (by omega), up2_row (by omega), up2_row (by omega), up2_row (by omega), up2_row (by omega), up2_row (by omega)]; exact hS.2.2.2.1.1) ?_
                      refine X_aload_n dX12_clause_375 rfl ?_
                      refine X_geti dX12_clause_376 fkX12_174 rfl (k_87 hSh) ?_
                      refine X_topi (show (up2 (up2 (up2 (up2 (up2 (up2 mi 87 4 (nI (wdT B n i0))) 87 7 (nI (c + 1))) 87 4 (nI e1)) (93 + P.1) 0 (nI v1)) 87 4 (nI e2)) (93 + P.1) 1 (nI v2)) 87 5 = nI 0 by rw [up2_row (by omega), up2_n (by omega), up2_row (by omega), up2_n (by omega), up2_n (by omega), up2_n (by omega)]; exact hS.2.1) ?_
                      refine X_if_neN (a := 0) 386 dX12_clause_379 (by decide) (by omega) (fun h_15 => ?_) (fun h_15 => ?_)
                      · exact absurd rfl h_15
                      · refine X_iconst (v := nI 1) dX12_clause_382 (by decide) ?_
                        refine X_goto 387 dX12_clause_383 (by decide) ?_
                        refine X_iadd dX12_clause_387 ?_
                        refine X_topi (nI_add P.1 1) ?_
                        refine X_iast 0 dX12_clause_388 (k_90 hSh) rfl (by omega) ?_
                        refine X_aload_n dX12_clause_389 rfl ?_
                        refine X_bipush (v := nI 59) dX12_clause_390 (by decide) ?_
                        by_cases hs : byT B n (skT B n e2) = nI 59
                        ·
                          refine X_callVV dX12_clause_392 mkX12_224 (k_87 hSh) (c_sign1 Γ g (up2 (up2 (up2 (up2 (up2 (up2 (up2 mi 87 4 (nI (wdT B n i0))) 87 7 (nI (c + 1))) 87 4 (nI e1)) (93 + P.1) 0 (nI v1)) 87 4 (nI e2)) (93 + P.1) 1 (nI v2)) 90 0 (nI (P.1 + 1))) ml hSh B n e2 (RTX_u (RTX_u (RTX_at (RTX_u (RTX_at (RTX_u (RTX_at hS.1 (by first | omega | exact wdT_le hS.1.2.1 | exact skT_le (by omega))) (by omega)) (by first | omega | exact wdT_le hS.1.2.1 | exact skT_le (by omega))) (by omega)) (by first | omega | exact wdT_le hS.1.2.1 | exact skT_le (by omega))) (by omega)) (by omega)) (show (up2 (up2 (up2 (up2 (up2 (up2 (up2 mi 87 4 (nI (wdT B n i0))) 87 7 (nI (c + 1))) 87 4 (nI e1)) (93 + P.1) 0 (nI v1)) 87 4 (nI e2)) (93 + P.1) 1 (nI v2)) 90 0 (nI (P.1 + 1))) 87 5 = nI 0 by rw [up2_row (by omega), up2_row (by omega), up2_n (by omega), up2_row (by omega), up2_n (by omega), up2_n (by omega), up2_n (by omega)]; exact hS.2.1) (nI 59) hs) rfl rfl (by decide) (Nat.le_of_ble_eq_true rfl) ?_
                          exact X_vret dX12_clause_395 rfl ⟨rfl, rfl, by rw [show clR B n i0 c P = .ok (skT B n e2 + 1, adCh P v1 v2) from by simp only [clR, hW, rdNu, rdCh, hN1, hN2, sgR, hs, if_true]; exact if_neg (by omega)]; exact ⟨(RTX_at (RTX_u (RTX_u (RTX_at (RTX_u (RTX_at (RTX_u (RTX_at hS.1 (by first | omega | exact wdT_le hS.1.2.1 | exact skT_le (by omega))) (by omega)) (by first | omega | exact wdT_le hS.1.2.1 | exact skT_le (by omega))) (by omega)) (by first | omega | exact wdT_le hS.1.2.1 | exact skT_le (by omega))) (by omega)) (by omega)) (by_lt hs)), (show (up2 (up2 (up2 (up2 (up2 (up2 (up2 (up2 mi 87 4 (nI (wdT B n i0))) 87 7 (nI (c + 1))) 87 4 (nI e1)) (93 + P.1) 0 (nI v1)) 87 4 (nI e2)) (93 + P.1) 1 (nI v2)) 90 0 (nI (P.1 + 1))) 87 4 (nI (skT B n e2 + 1))) 87 5 = nI 0 by rw [up2_n (by omega), up2_row (by omega), up2_row (by omega), up2_n (by omega), up2_row (by omega), up2_n (by omega), up2_n (by omega), up2_n (by omega)]; exact hS.2.1), (show (up2 (up2 (up2 (up2 (up2 (up2 (up2 (up2 mi 87 4 (nI (wdT B n i0))) 87 7 (nI (c + 1))) 87 4 (nI e1)) (93 + P.1) 0 (nI v1)) 87 4 (nI e2)) (93 + P.1) 1 (nI v2)) 90 0 (nI (P.1 + 1))) 87 4 (nI (skT B n e2 + 1))) 87 7 = nI (c + 1) by rw [up2_n (by omega), up2_row (by omega), up2_row (by omega), up2_n (by omega), up2_row (by omega), up2_n (by omega), up2_s]), rdP_ch hS.2.2.2.1 (by omega) (fun i hi => by funext j; simp [up2, hi]), ok_ch hP (by omega) hv1 hv2, (frRD_u (frRD_u (frRD_u (frRD_u (frRD_u (frRD_u (frRD_u (frRD_u hS.2.2.2.2.2.1 (by omega)) (by omega)) (by omega)) (by omega)) (by omega)) (by omega)) (by omega)) (by omega)), (show (up2 (up2 (up2 (up2 (up2 (up2 (up2 (up2 mi 87 4 (nI (wdT B n i0))) 87 7 (nI (c + 1))) 87 4 (nI e1)) (93 + P.1) 0 (nI v1)) 87 4 (nI e2)) (93 + P.1) 1 (nI v2)) 90 0 (nI (P.1 + 1))) 87 4 (nI (skT B n e2 + 1))) 87 6 = m0 87 6 by rw [up2_n (by omega), up2_row (by omega), up2_row (by omega), up2_n (by omega), up2_row (by omega), up2_n (by omega), up2_n (by omega), up2_n (by omega)]; exact hS.2.2.2.2.2.2)⟩, rfl⟩
                        ·
                          refine X_callVV dX12_clause_392 mkX12_224 (k_87 hSh) (c_sign0 Γ g (up2 (up2 (up2 (up2 (up2 (up2 (up2 mi 87 4 (nI (wdT B n i0))) 87 7 (nI (c + 1))) 87 4 (nI e1)) (93 + P.1) 0 (nI v1)) 87 4 (nI e2)) (93 + P.1) 1 (nI v2)) 90 0 (nI (P.1 + 1))) ml hSh B n e2 (RTX_u (RTX_u (RTX_at (RTX_u (RTX_at (RTX_u (RTX_at hS.1 (by first | omega | exact wdT_le hS.1.2.1 | exact skT_le (by omega))) (by omega)) (by first | omega | exact wdT_le hS.1.2.1 | exact skT_le (by omega))) (by omega)) (by first | omega | exact wdT_le hS.1.2.1 | exact skT_le (by omega))) (by omega)) (by omega)) (show (up2 (up2 (up2 (up2 (up2 (up2 (up2 mi 87 4 (nI (wdT B n i0))) 87 7 (nI (c + 1))) 87 4 (nI e1)) (93 + P.1) 0 (nI v1)) 87 4 (nI e2)) (93 + P.1) 1 (nI v2)) 90 0 (nI (P.1 + 1))) 87 5 = nI 0 by rw [up2_row (by omega), up2_row (by omega), up2_n (by omega), up2_row (by omega), up2_n (by omega), up2_n (by omega), up2_n (by omega)]; exact hS.2.1) (nI 59) hs) rfl rfl (by decide) (Nat.le_of_ble_eq_true rfl) ?_
                          exact X_vret dX12_clause_395 rfl ⟨rfl, rfl, by rw [show clR B n i0 c P = .error (1, skT B n e2) from by simp only [clR, hW, rdNu, rdCh, hN1, hN2, sgR, hs, if_false]; exact if_neg (by omega)]; exact ⟨(show (up2 (up2 (up2 (up2 (up2 (up2 (up2 (up2 (up2 (up2 mi 87 4 (nI (wdT B n i0))) 87 7 (nI (c + 1))) 87 4 (nI e1)) (93 + P.1) 0 (nI v1)) 87 4 (nI e2)) (93 + P.1) 1 (nI v2)) 90 0 (nI (P.1 + 1))) 87 4 (nI (skT B n e2))) 87 5 (nI 1)) 87 6 (nI (skT B n e2))) 87 5 = nI 1 by rw [up2_n (by omega), up2_s]), by omega, by omega, (show (up2 (up2 (up2 (up2 (up2 (up2 (up2 (up2 (up2 (up2 mi 87 4 (nI (wdT B n i0))) 87 7 (nI (c + 1))) 87 4 (nI e1)) (93 + P.1) 0 (nI v1)) 87 4 (nI e2)) (93 + P.1) 1 (nI v2)) 90 0 (nI (P.1 + 1))) 87 4 (nI (skT B n e2))) 87 5 (nI 1)) 87 6 (nI (skT B n e2))) 87 6 = nI (skT B n e2) by rw [up2_s]), (frRD_u (frRD_u (frRD_u (frRD_u (frRD_u (frRD_u (frRD_u (frRD_u (frRD_u (frRD_u hS.2.2.2.2.2.1 (by omega)) (by omega)) (by omega)) (by omega)) (by omega)) (by omega)) (by omega)) (by omega)) (by omega)) (by omega)), _, (RTX_u (RTX_u (RTX_at (RTX_u (RTX_u (RTX_at (RTX_u (RTX_at (RTX_u (RTX_at hS.1 (by first | omega | exact wdT_le hS.1.2.1 | exact skT_le (by omega))) (by omega)) (by first | omega | exact wdT_le hS.1.2.1 | exact skT_le (by omega))) (by omega)) (by first | omega | exact wdT_le hS.1.2.1 | exact skT_le (by omega))) (by omega)) (by omega)) (by first | omega | exact wdT_le hS.1.2.1 | exact skT_le (by omega))) (by omega)) (by omega))⟩, rfl⟩
              · exact absurd h_9 (by omega)
            · exact absurd h_8 (by omega)
    · exact absurd h_2 (nI_m1 (by omega))
set_option maxRecDepth 100000 in
set_option maxHeartbeats 4000000 in
theorem c_clause1 (Γ : pTG) (g : pGG) (mi : pMI) (ml : pML) (hSh : Sh g) (m0 : pMI) (B : Nat → Int32) (n i0 c : Nat) (P : PD) (hS : RPS m0 mi B n i0 c P) (hsk : skT B n i0 = i0) (hc : c ≤ 60) (hW : wIx 0 B n i0 = some 1) : rV Γ 6 mX12_clause [.ref 87] g mi ml (fun m l => RRS m0 B n c (clR B n i0 c P) m ∧ l = ml) := by
  refine rV_of (by decide +kernel) (Nat.le_of_ble_eq_true rfl) ?_
  have hP := hS.2.2.2.2.1
  have hP8 := hP.1
  have hG8 := hP.2.1
  have hn6 := hS.1.1
  have hin := hS.1.2.1
  refine X_aload_n dX12_clause_0 rfl ?_
  refine X_iconst (v := nI 3) dX12_clause_1 (by decide) ?_
  refine X_bipush (v := nI 8) dX12_clause_2 (by decide) ?_
  refine X_iconst (v := nI 1) dX12_clause_4 (by decide) ?_
  refine X_bipush (v := nI 9) dX12_clause_5 (by decide) ?_
  refine X_bipush (v := nI 18) dX12_clause_7 (by decide) ?_
  refine X_iconst (v := nI 0) dX12_clause_9 (by decide) ?_
  refine X_callVI dX12_clause_10 mkX12_207 (k_87 hSh) (c_isW0 Γ g mi ml hSh B n i0 hS.1 hsk hS.2.1 3 8 1 9 18 0 (by decide) (by decide) (by decide) (by decide) (fun q => by have h9 := wq_0_0.mp q; rw [hW] at h9; cases h9)) rfl rfl (by decide) (Nat.le_of_ble_eq_true rfl) ?_
  refine X_if_eqN (a := 0) 20 dX12_clause_13 (by decide) (by omega) (fun h_1 => ?_) (fun h_1 => ?_)
  · refine X_aload_n dX12_clause_20 rfl ?_
    refine X_bipush (v := nI 7) dX12_clause_21 (by decide) ?_
    refine X_bipush (v := nI 21) dX12_clause_23 (by decide) ?_
    refine X_iconst (v := nI 5) dX12_clause_25 (by decide) ?_
    refine X_bipush (v := nI 19) dX12_clause_26 (by decide) ?_
    refine X_bipush (v := nI 20) dX12_clause_28 (by decide) ?_
    refine X_iconst (v := nI 0) dX12_clause_30 (by decide) ?_
    refine X_callVI dX12_clause_31 mkX12_207 (k_87 hSh) (c_isW1 Γ g mi ml hSh B n i0 hS.1 hsk hS.2.1 7 21 5 19 20 0 (by decide) (by decide) (by decide) (by decide) (wq_0_1.mpr hW)) rfl rfl (by decide) (Nat.le_of_ble_eq_true rfl) ?_
    refine X_if_eqN (a := 1) 41 dX12_clause_34 (by decide) (by omega) (fun h_2 => ?_) (fun h_2 => ?_)
    · exact absurd h_2 (by omega)
    · refine X_iconst (v := nI 1) dX12_clause_37 (by decide) ?_
      refine X_goto 102 dX12_clause_38 (by decide) ?_
      refine X_istore_n dX12_clause_102 (by decide) ?_
      refine X_iload_n dX12_clause_103 rfl ?_
      refine X_iconst (v := -1) dX12_clause_104 (by decide) ?_
      refine X_icmp_ne 120 dX12_clause_105 (by decide) (fun h_3 => ?_) (fun h_3 => ?_)
      · refine X_aload_n dX12_clause_120 rfl ?_
        refine X_geti dX12_clause_121 fkX12_214 rfl (k_87 hSh) ?_
        rw [hS.2.2.1]
        refine X_bipush (v := nI 60) dX12_clause_124 (by decide) ?_
        refine X_icmp_eqN (a := c) (b := 60) 160 dX12_clause_126 (by decide) (by omega) (by omega) (fun h_4 => ?_) (fun h_4 => ?_)
        · refine X_aload_n dX12_clause_160 rfl ?_
          refine X_iconst (v := nI 3) dX12_clause_161 (by decide) ?_
          refine X_aload_n dX12_clause_162 rfl ?_
          refine X_geti dX12_clause_163 fkX12_167 rfl (k_87 hSh) ?_
          rw [hS.1.2.2.2.2]
          refine X_callVV dX12_clause_166 mkX12_187 (k_87 hSh) (c_wrong0 Γ g mi ml hSh hS.2.1 (nI 3) (nI i0)) rfl rfl (by decide) (Nat.le_of_ble_eq_true rfl) ?_
          refine X_aload_n dX12_clause_169 rfl ?_
          refine X_geti dX12_clause_170 fkX12_174 rfl (k_87 hSh) ?_
          refine X_topi (show (up2 (up2 mi 87 5 (nI 3)) 87 6 (nI i0)) 87 5 = nI 3 by rw [up2_n (by omega), up2_s]) ?_
          refine X_if_eqN (a := 3) 177 dX12_clause_173 (by decide) (by omega) (fun h_5 => ?_) (fun h_5 => ?_)
          · exact absurd h_5 (by omega)
          · exact X_vret dX12_clause_176 rfl ⟨rfl, rfl, by rw [show clR B n i0 c P = .error (3, i0) from by unfold clR; rw [hW]; exact if_pos (by omega)]; exact ⟨(show (up2 (up2 mi 87 5 (nI 3)) 87 6 (nI i0)) 87 5 = nI 3 by rw [up2_n (by omega), up2_s]), by omega, by omega, (show (up2 (up2 mi 87 5 (nI 3)) 87 6 (nI i0)) 87 6 = nI i0 by rw [up2_s]), (frRD_u (frRD_u hS.2.2.2.2.2.1 (by omega)) (by omega)), _, (RTX_u (RTX_u hS.1 (by omega)) (by omega))⟩, rfl⟩
        · refine X_iload_n dX12_clause_129 rfl ?_
          refine X_if_neN (a := 1) 144 dX12_clause_130 (by decide) (by omega) (fun h_6 => ?_) (fun h_6 => ?_)
          · refine X_iload_n dX12_clause_144 rfl ?_
            refine X_iconst (v := nI 1) dX12_clause_145 (by decide) ?_
            refine X_icmp_neN (a := 1) (b := 1) 169 dX12_clause_146 (by decide) (by omega) (by omega) (fun h_7 => ?_) (fun h_7 => ?_)
            · exact absurd h_7 (by omega)
            · refine X_aload_n dX12_clause_149 rfl ?_
              refine X_getr (a := 90) dX12_clause_150 fkX12_20 rfl (k_87 hSh) (r_87_11 hSh) ?_
              refine X_iconst (v := nI 1) dX12_clause_153 (by decide) ?_
              refine X_iald 1 dX12_clause_154 (k_90 hSh) rfl (by omega) ?_
              rw [hS.2.2.2.1.2.1]
              refine X_bipush (v := nI 8) dX12_clause_155 (by decide) ?_
              refine X_icmp_neN (a := P.2.1) (b := 8) 169 dX12_clause_157 (by decide) (by omega) (by omega) (fun h_8 => ?_) (fun h_8 => ?_)
              · refine X_aload_n dX12_clause_169 rfl ?_
                refine X_geti dX12_clause_170 fkX12_174 rfl (k_87 hSh) ?_
                rw [hS.2.1]
                refine X_if_eqN (a := 0) 177 dX12_clause_173 (by decide) (by omega) (fun h_9 => ?_) (fun h_9 => ?_)
                · refine X_aload_n dX12_clause_177 rfl ?_
                  refine X_callVV dX12_clause_178 mkX12_211 (k_87 hSh) (c_skipWord Γ g mi ml hSh B n i0 hS.1) rfl rfl (by decide) (Nat.le_of_ble_eq_true rfl) ?_
                  refine X_aload_n dX12_clause_181 rfl ?_
                  refine X_dup dX12_clause_182 rfl ?_
                  refine X_geti dX12_clause_183 fkX12_214 rfl (k_87 hSh) ?_
                  refine X_topi (show (up2 mi 87 4 (nI (wdT B n i0))) 87 7 = nI c by rw [up2_n (by omega)]; exact hS.2.2.1) ?_
                  refine X_iconst (v := nI 1) dX12_clause_186 (by decide) ?_
                  refine X_iadd dX12_clause_187 ?_
                  refine X_topi (nI_add c 1) ?_
                  refine X_puti dX12_clause_188 fkX12_214 rfl rfl (k_87 hSh) ?_
                  refine X_iload_n dX12_clause_191 rfl ?_
                  refine X_tableIn 259 dX12_clause_192 (by decide) (by decide) rfl (by decide) ?_
                  refine X_aload_n dX12_clause_259 rfl ?_
                  refine X_getr (a := 111) dX12_clause_260 fkX12_34 rfl (k_87 hSh) (r_87_15 hSh) ?_
                  refine X_aload_n dX12_clause_263 rfl ?_
                  refine X_getr (a := 90) dX12_clause_264 fkX12_20 rfl (k_87 hSh) (r_87_11 hSh) ?_
                  refine X_iconst (v := nI 1) dX12_clause_267 (by decide) ?_
                  refine X_iald 1 dX12_clause_268 (k_90 hSh) rfl (by omega) ?_
                  refine X_topi (show (up2 (up2 mi 87 4 (nI (wdT B n i0))) 87 7 (nI (c + 1))) 90 1 = nI P.2.1 by rw [up2_row (by omega), up2_row (by omega)]; exact hS.2.2.2.1.2.1) ?_
                  refine X_aaldr (b := 112 + P.2.1) P.2.1 dX12_clause_269 (k_111 hSh) rfl (by omega) (o_111 hSh P.2.1 (by omega)) ?_
                  refine X_astore_n dX12_clause_270 (by decide) ?_
                  refine X_aload_n dX12_clause_271 rfl ?_
                  refine X_iconst (v := nI 0) dX12_clause_272 (by decide) ?_
                  refine X_aload_n dX12_clause_273 rfl ?_
                  refine X_iconst (v := nI 0) dX12_clause_274 (by decide) ?_
                  refine X_bipush (v := nI 23) dX12_clause_275 (by decide) ?_
                  match hN1 : numR B n (wdT B n i0) 0 24 with
                  | .error (k1, p1) =>
                    obtain ⟨hka1, hkb1⟩ := numR_k hN1
                    obtain ⟨q1, hq1, hC1⟩ := c_rnumE Γ g (up2 (up2 mi 87 4 (nI (wdT B n i0))) 87 7 (nI (c + 1))) ml hSh B n (wdT B n i0) (RTX_u (RTX_at hS.1 (by first | omega | exact wdT_le hS.1.2.1 | exact skT_le (by omega))) (by omega)) (show (up2 (up2 mi 87 4 (nI (wdT B n i0))) 87 7 (nI (c + 1))) 87 5 = nI 0 by rw [up2_n (by omega), up2_n (by omega)]; exact hS.2.1) 0 24 (nI 23) (by omega) (by omega) (hH_of (by omega)) hN1
                    refine X_callVI dX12_clause_277 mkX12_220 (k_87 hSh) (hC1) rfl rfl (by decide) (Nat.le_of_ble_eq_true rfl) ?_
                    refine X_iast 0 dX12_clause_280 (kr_111 hSh P.2.1 (by omega)) rfl (by omega) ?_
                    refine X_aload_n dX12_clause_281 rfl ?_
                    refine X_iconst (v := nI 1) dX12_clause_282 (by decide) ?_
                    refine X_aload_n dX12_clause_283 rfl ?_
                    refine X_iconst (v := nI 0) dX12_clause_284 (by decide) ?_
                    refine X_bipush (v := nI 22) dX12_clause_285 (by decide) ?_
                    refine X_callVI dX12_clause_287 mkX12_220 (k_87 hSh) (c_numberF Γ g (up2 (up2 (up2 (up2 (up2 (up2 mi 87 4 (nI (wdT B n i0))) 87 7 (nI (c + 1))) 87 4 (nI q1)) 87 5 (nI k1)) 87 6 (nI p1)) (112 + P.2.1) 0 (nI 0)) ml hSh (by rw [(show (up2 (up2 (up2 (up2 (up2 (up2 mi 87 4 (nI (wdT B n i0))) 87 7 (nI (c + 1))) 87 4 (nI q1)) 87 5 (nI k1)) 87 6 (nI p1)) (112 + P.2.1) 0 (nI 0)) 87 5 = nI k1 by rw [up2_row (by omega), up2_n (by omega), up2_s])]; exact nI_ne0 (by omega) (by omega)) (nI 0) (nI 22)) rfl rfl (by decide) (Nat.le_of_ble_eq_true rfl) ?_
                    refine X_iast 1 dX12_clause_290 (kr_111 hSh P.2.1 (by omega)) rfl (by omega) ?_
                    refine X_aload_n dX12_clause_291 rfl ?_
                    refine X_iconst (v := nI 2) dX12_clause_292 (by decide) ?_
                    refine X_aload_n dX12_clause_293 rfl ?_
                    refine X_aload_n dX12_clause_294 rfl ?_
                    refine X_iconst (v := nI 1) dX12_clause_295 (by decide) ?_
                    refine X_iald 1 dX12_clause_296 (kr_111 hSh P.2.1 (by omega)) rfl (by omega) ?_
                    refine X_topi (show (up2 (up2 (up2 (up2 (up2 (up2 (up2 mi 87 4 (nI (wdT B n i0))) 87 7 (nI (c + 1))) 87 4 (nI q1)) 87 5 (nI k1)) 87 6 (nI p1)) (112 + P.2.1) 0 (nI 0)) (112 + P.2.1) 1 (nI 0)) (112 + P.2.1) 1 = nI 0 by rw [up2_s]) ?_
                    refine X_iconst (v := nI 1) dX12_clause_297 (by decide) ?_
                    refine X_iadd dX12_clause_298 ?_
                    refine X_topi (nI_add 0 1) ?_
                    refine X_bipush (v := nI 23) dX12_clause_299 (by decide) ?_
                    refine X_callVI dX12_clause_301 mkX12_220 (k_87 hSh) (c_numberF Γ g (up2 (up2 (up2 (up2 (up2 (up2 (up2 mi 87 4 (nI (wdT B n i0))) 87 7 (nI (c + 1))) 87 4 (nI q1)) 87 5 (nI k1)) 87 6 (nI p1)) (112 + P.2.1) 0 (nI 0)) (112 + P.2.1) 1 (nI 0)) ml hSh (by rw [(show (up2 (up2 (up2 (up2 (up2 (up2 (up2 mi 87 4 (nI (wdT B n i0))) 87 7 (nI (c + 1))) 87 4 (nI q1)) 87 5 (nI k1)) 87 6 (nI p1)) (112 + P.2.1) 0 (nI 0)) (112 + P.2.1) 1 (nI 0)) 87 5 = nI k1 by rw [up2_row (by omega), up2_row (by omega), up2_n (by omega), up2_s])]; exact nI_ne0 (by omega) (by omega)) (nI (0 + 1)) (nI 23)) rfl rfl (by decide) (Nat.le_of_ble_eq_true rfl) ?_
                    refine X_iast 2 dX12_clause_304 (kr_111 hSh P.2.1 (by omega)) rfl (by omega) ?_
                    refine X_aload_n dX12_clause_305 rfl ?_
                    refine X_iconst (v := nI 3) dX12_clause_306 (by decide) ?_
                    refine X_aload_n dX12_clause_307 rfl ?_
                    refine X_iconst (v := nI 0) dX12_clause_308 (by decide) ?_
                    refine X_bipush (v := nI 9) dX12_clause_309 (by decide) ?_
                    refine X_callVI dX12_clause_311 mkX12_220 (k_87 hSh) (c_numberF Γ g (up2 (up2 (up2 (up2 (up2 (up2 (up2 (up2 mi 87 4 (nI (wdT B n i0))) 87 7 (nI (c + 1))) 87 4 (nI q1)) 87 5 (nI k1)) 87 6 (nI p1)) (112 + P.2.1) 0 (nI 0)) (112 + P.2.1) 1 (nI 0)) (112 + P.2.1) 2 (nI 0)) ml hSh (by rw [(show (up2 (up2 (up2 (up2 (up2 (up2 (up2 (up2 mi 87 4 (nI (wdT B n i0))) 87 7 (nI (c + 1))) 87 4 (nI q1)) 87 5 (nI k1)) 87 6 (nI p1)) (112 + P.2.1) 0 (nI 0)) (112 + P.2.1) 1 (nI 0)) (112 + P.2.1) 2 (nI 0)) 87 5 = nI k1 by rw [up2_row (by omega), up2_row (by omega), up2_row (by omega), up2_n (by omega), up2_s])]; exact nI_ne0 (by omega) (by omega)) (nI 0) (nI 9)) rfl rfl (by decide) (Nat.le_of_ble_eq_true rfl) ?_
                    refine X_iast 3 dX12_clause_314 (kr_111 hSh P.2.1 (by omega)) rfl (by omega) ?_
                    refine X_goto 363 dX12_clause_315 (by decide) ?_
                    refine X_iload_n dX12_clause_363 rfl ?_
                    refine X_iconst (v := nI 2) dX12_clause_364 (by decide) ?_
                    refine X_icmp_geN (a := 1) (b := 2) 389 dX12_clause_365 (by decide) (by omega) (by omega) (fun h_10 => ?_) (fun h_10 => ?_)
                    · exact absurd h_10 (by omega)
                    · refine X_aload_n dX12_clause_368 rfl ?_
                      refine X_getr (a := 90) dX12_clause_369 fkX12_20 rfl (k_87 hSh) (r_87_11 hSh) ?_
                      refine X_iload_n dX12_clause_372 rfl ?_
                      refine X_dup2 dX12_clause_373 rfl rfl ?_
                      refine X_iald 1 dX12_clause_374 (k_90 hSh) rfl (by omega) ?_
                      refine X_topi (show (up2 (up2 (up2 (up2 (up2 (up2 (up2 (up2 (up2 mi 87 4 (nI (wdT B n i0))) 87 7 (nI (c + 1))) 87 4 (nI q1)) 87 5 (nI k1)) 87 6 (nI p1)) (112 + P.2.1) 0 (nI 0)) (112 + P.2.1) 1 (nI 0)) (112 + P.2.1) 2 (nI 0)) (112 + P.2.1) 3 (nI 0)) 90 1 = nI P.2.1 by rw [up2_row (by omega), up2_row (by omega), up2_row (by omega), up2_row (by omega), up2_row (by omega), up2_row (by omega), up2_row (by omega), up2_row (by omega), up2_row (by omega)]; exact hS.2.2.2.1.2.1) ?_
                      refine X_aload_n dX12_clause_375 rfl ?_
                      refine X_geti dX12_clause_376 fkX12_174 rfl (k_87 hSh) ?_
                      refine X_topi (show (up2 (up2 (up2 (up2 (up2 (up2 (up2 (up2 (up2 mi 87 4 (nI (wdT B n i0))) 87 7 (nI (c + 1))) 87 4 (nI q1)) 87 5 (nI k1)) 87 6 (nI p1)) (112 + P.2.1) 0 (nI 0)) (112 + P.2.1) 1 (nI 0)) (112 + P.2.1) 2 (nI 0)) (112 + P.2.1) 3 (nI 0)) 87 5 = nI k1 by rw [up2_row (by omega), up2_row (by omega), up2_row (by omega), up2_row (by omega), up2_n (by omega), up2_s]) ?_
                      refine X_if_neN (a := k1) 386 dX12_clause_379 (by decide) (by omega) (fun h_11 => ?_) (fun h_11 => ?_)
                      · refine X_iconst (v := nI 0) dX12_clause_386 (by decide) ?_
                        refine X_iadd dX12_clause_387 ?_
                        refine X_topi (nI_add P.2.1 0) ?_
                        refine X_iast 1 dX12_clause_388 (k_90 hSh) rfl (by omega) ?_
                        refine X_aload_n dX12_clause_389 rfl ?_
                        refine X_bipush (v := nI 59) dX12_clause_390 (by decide) ?_
                        refine X_callVV dX12_clause_392 mkX12_224 (k_87 hSh) (c_signF Γ g (up2 (up2 (up2 (up2 (up2 (up2 (up2 (up2 (up2 (up2 mi 87 4 (nI (wdT B n i0))) 87 7 (nI (c + 1))) 87 4 (nI q1)) 87 5 (nI k1)) 87 6 (nI p1)) (112 + P.2.1) 0 (nI 0)) (112 + P.2.1) 1 (nI 0)) (112 + P.2.1) 2 (nI 0)) (112 + P.2.1) 3 (nI 0)) 90 1 (nI (P.2.1 + 0))) ml hSh (by rw [(show (up2 (up2 (up2 (up2 (up2 (up2 (up2 (up2 (up2 (up2 mi 87 4 (nI (wdT B n i0))) 87 7 (nI (c + 1))) 87 4 (nI q1)) 87 5 (nI k1)) 87 6 (nI p1)) (112 + P.2.1) 0 (nI 0)) (112 + P.2.1) 1 (nI 0)) (112 + P.2.1) 2 (nI 0)) (112 + P.2.1) 3 (nI 0)) 90 1 (nI (P.2.1 + 0))) 87 5 = nI k1 by rw [up2_row (by omega), up2_row (by omega), up2_row (by omega), up2_row (by omega), up2_row (by omega), up2_n (by omega), up2_s])]; exact nI_ne0 (by omega) (by omega)) (nI 59)) rfl rfl (by decide) (Nat.le_of_ble_eq_true rfl) ?_
                        exact X_vret dX12_clause_395 rfl ⟨rfl, rfl, by rw [show clR B n i0 c P = .error (k1, p1) from by simp only [clR, hW, rdNu, rdGu, hN1]; exact if_neg (by omega)]; exact ⟨(show (up2 (up2 (up2 (up2 (up2 (up2 (up2 (up2 (up2 (up2 mi 87 4 (nI (wdT B n i0))) 87 7 (nI (c + 1))) 87 4 (nI q1)) 87 5 (nI k1)) 87 6 (nI p1)) (112 + P.2.1) 0 (nI 0)) (112 + P.2.1) 1 (nI 0)) (112 + P.2.1) 2 (nI 0)) (112 + P.2.1) 3 (nI 0)) 90 1 (nI (P.2.1 + 0))) 87 5 = nI k1 by rw [up2_row (by omega), up2_row (by omega), up2_row (by omega), up2_row (by omega), up2_row (by omega), up2_n (by omega), up2_s]), by omega, by omega, (show (up2 (up2 (up2 (up2 (up2 (up2 (up2 (up2 (up2 (up2 mi 87 4 (nI (wdT B n i0))) 87 7 (nI (c + 1))) 87 4 (nI q1)) 87 5 (nI k1)) 87 6 (nI p1)) (112 + P.2.1) 0 (nI 0)) (112 + P.2.1) 1 (nI 0)) (112 + P.2.1) 2 (nI 0)) (112 + P.2.1) 3 (nI 0)) 90 1 (nI (P.2.1 + 0))) 87 6 = nI p1 by rw [up2_row (by omega), up2_row (by omega), up2_row (by omega), up2_row (by omega), up2_row (by omega), up2_s]), (frRD_u (frRD_u (frRD_u (frRD_u (frRD_u (frRD_u (frRD_u (frRD_u (frRD_u (frRD_u hS.2.2.2.2.2.1 (by omega)) (by omega)) (by omega)) (by omega)) (by omega)) (by omega)) (by omega)) (by omega)) (by omega)) (by omega)), _, (RTX_u (RTX_u (RTX_u (RTX_u (RTX_u (RTX_u (RTX_u (RTX_at (RTX_u (RTX_at hS.1 (by first | omega | exact wdT_le hS.1.2.1 | exact skT_le (by omega))) (by omega)) (by first | omega | exact wdT_le hS.1.2.1 | exact skT_le (by omega))) (by omega)) (by omega)) (by omega)) (by omega)) (by omega)) (by omega)) (by omega))⟩, rfl⟩
                      · exact absurd h_11 (by omega)
                  | .ok (v1, e1) =>
                    obtain ⟨he1, hi1, hl1, hv1⟩ := numR_o (by first | omega | exact wdT_le hS.1.2.1) hN1
                    refine X_callVI dX12_clause_277 mkX12_220 (k_87 hSh) (c_rnumOK Γ g (up2 (up2 mi 87 4 (nI (wdT B n i0))) 87 7 (nI (c + 1))) ml hSh B n (wdT B n i0) (RTX_u (RTX_at hS.1 (by first | omega | exact wdT_le hS.1.2.1 | exact skT_le (by omega))) (by omega)) (show (up2 (up2 mi 87 4 (nI (wdT B n i0))) 87 7 (nI (c + 1))) 87 5 = nI 0 by rw [up2_n (by omega), up2_n (by omega)]; exact hS.2.1) 0 24 (nI 23) (by omega) (by omega) (hH_of (by omega)) hN1) rfl rfl (by decide) (Nat.le_of_ble_eq_true rfl) ?_
                    refine X_iast 0 dX12_clause_280 (kr_111 hSh P.2.1 (by omega)) rfl (by omega) ?_
                    refine X_aload_n dX12_clause_281 rfl ?_
                    refine X_iconst (v := nI 1) dX12_clause_282 (by decide) ?_
                    refine X_aload_n dX12_clause_283 rfl ?_
                    refine X_iconst (v := nI 0) dX12_clause_284 (by decide) ?_
                    refine X_bipush (v := nI 22) dX12_clause_285 (by decide) ?_
                    match hN2 : numR B n e1 0 23 with
                    | .error (k2, p2) =>
                      obtain ⟨hka2, hkb2⟩ := numR_k hN2
                      obtain ⟨q2, hq2, hC2⟩ := c_rnumE Γ g (up2 (up2 (up2 (up2 mi 87 4 (nI (wdT B n i0))) 87 7 (nI (c + 1))) 87 4 (nI e1)) (112 + P.2.1) 0 (nI v1)) ml hSh B n e1 (RTX_u (RTX_at (RTX_u (RTX_at hS.1 (by first | omega | exact wdT_le hS.1.2.1 | exact skT_le (by omega))) (by omega)) (by first | omega | exact wdT_le hS.1.2.1 | exact skT_le (by omega))) (by omega)) (show (up2 (up2 (up2 (up2 mi 87 4 (nI (wdT B n i0))) 87 7 (nI (c + 1))) 87 4 (nI e1)) (112 + P.2.1) 0 (nI v1)) 87 5 = nI 0 by rw [up2_row (by omega), up2_n (by omega), up2_n (by omega), up2_n (by omega)]; exact hS.2.1) 0 23 (nI 22) (by omega) (by omega) (hH_of (by omega)) hN2
                      refine X_callVI dX12_clause_287 mkX12_220 (k_87 hSh) (hC2) rfl rfl (by decide) (Nat.le_of_ble_eq_true rfl) ?_
                      refine X_iast 1 dX12_clause_290 (kr_111 hSh P.2.1 (by omega)) rfl (by omega) ?_
                      refine X_aload_n dX12_clause_291 rfl ?_
                      refine X_iconst (v := nI 2) dX12_clause_292 (by decide) ?_
                      refine X_aload_n dX12_clause_293 rfl ?_
                      refine X_aload_n dX12_clause_294 rfl ?_
                      refine X_iconst (v := nI 1) dX12_clause_295 (by decide) ?_
                      refine X_iald 1 dX12_clause_296 (kr_111 hSh P.2.1 (by omega)) rfl (by omega) ?_
                      refine X_topi (show (up2 (up2 (up2 (up2 (up2 (up2 (up2 (up2 mi 87 4 (nI (wdT B n i0))) 87 7 (nI (c + 1))) 87 4 (nI e1)) (112 + P.2.1) 0 (nI v1)) 87 4 (nI q2)) 87 5 (nI k2)) 87 6 (nI p2)) (112 + P.2.1) 1 (nI 0)) (112 + P.2.1) 1 = nI 0 by rw [up2_s]) ?_
                      refine X_iconst (v := nI 1) dX12_clause_297 (by decide) ?_
                      refine X_iadd dX12_clause_298 ?_
                      refine X_topi (nI_add 0 1) ?_
                      refine X_bipush (v := nI 23) dX12_clause_299 (by decide) ?_
                      refine X_callVI dX12_clause_301 mkX12_220 (k_87 hSh) (c_numberF Γ g (up2 (up2 (up2 (up2 (up2 (up2 (up2 (up2 mi 87 4 (nI (wdT B n i0))) 87 7 (nI (c + 1))) 87 4 (nI e1)) (112 + P.2.1) 0 (nI v1)) 87 4 (nI q2)) 87 5 (nI k2)) 87 6 (nI p2)) (112 + P.2.1) 1 (nI 0)) ml hSh (by rw [(show (up2 (up2 (up2 (up2 (up2 (up2 (up2 (up2 mi 87 4 (nI (wdT B n i0))) 87 7 (nI (c + 1))) 87 4 (nI e1)) (112 + P.2.1) 0 (nI v1)) 87 4 (nI q2)) 87 5 (nI k2)) 87 6 (nI p2)) (112 + P.2.1) 1 (nI 0)) 87 5 = nI k2 by rw [up2_row (by omega), up2_n (by omega), up2_s])]; exact nI_ne0 (by omega) (by omega)) (nI (0 + 1)) (nI 23)) rfl rfl (by decide) (Nat.le_of_ble_eq_true rfl) ?_
                      refine X_iast 2 dX12_clause_304 (kr_111 hSh P.2.1 (by omega)) rfl (by omega) ?_
                      refine X_aload_n dX12_clause_305 rfl ?_
                      refine X_iconst (v := nI 3) dX12_clause_306 (by decide) ?_
                      refine X_aload_n dX12_clause_307 rfl ?_
                      refine X_iconst (v := nI 0) dX12_clause_308 (by decide) ?_
                      refine X_bipush (v := nI 9) dX12_clause_309 (by decide) ?_
                      refine X_callVI dX12_clause_311 mkX12_220 (k_87 hSh) (c_numberF Γ g (up2 (up2 (up2 (up2 (up2 (up2 (up2 (up2 (up2 mi 87 4 (nI (wdT B n i0))) 87 7 (nI (c + 1))) 87 4 (nI e1)) (112 + P.2.1) 0 (nI v1)) 87 4 (nI q2)) 87 5 (nI k2)) 87 6 (nI p2)) (112 + P.2.1) 1 (nI 0)) (112 + P.2.1) 2 (nI 0)) ml hSh (by rw [(show (up2 (up2 (up2 (up2 (up2 (up2 (up2 (up2 (up2 mi 87 4 (nI (wdT B n i0))) 87 7 (nI (c + 1))) 87 4 (nI e1)) (112 + P.2.1) 0 (nI v1)) 87 4 (nI q2)) 87 5 (nI k2)) 87 6 (nI p2)) (112 + P.2.1) 1 (nI 0)) (112 + P.2.1) 2 (nI 0)) 87 5 = nI k2 by rw [up2_row (by omega), up2_row (by omega), up2_n (by omega), up2_s])]; exact nI_ne0 (by omega) (by omega)) (nI 0) (nI 9)) rfl rfl (by decide) (Nat.le_of_ble_eq_true rfl) ?_
                      refine X_iast 3 dX12_clause_314 (kr_111 hSh P.2.1 (by omega)) rfl (by omega) ?_
                      refine X_goto 363 dX12_clause_315 (by decide) ?_
                      refine X_iload_n dX12_clause_363 rfl ?_
                      refine X_iconst (v := nI 2) dX12_clause_364 (by decide) ?_
                      refine X_icmp_geN (a := 1) (b := 2) 389 dX12_clause_365 (by decide) (by omega) (by omega) (fun h_12 => ?_) (fun h_12 => ?_)
                      · exact absurd h_12 (by omega)
                      · refine X_aload_n dX12_clause_368 rfl ?_
                        refine X_getr (a := 90) dX12_clause_369 fkX12_20 rfl (k_87 hSh) (r_87_11 hSh) ?_
                        refine X_iload_n dX12_clause_372 rfl ?_
                        refine X_dup2 dX12_clause_373 rfl rfl ?_
                        refine X_iald 1 dX12_clause_374 (k_90 hSh) rfl (by omega) ?_
                        refine X_topi (show (up2 (up2 (up2 (up2 (up2 (up2 (up2 (up2 (up2 (up2 mi 87 4 (nI (wdT B n i0))) 87 7 (nI (c + 1))) 87 4 (nI e1)) (112 + P.2.1) 0 (nI v1)) 87 4 (nI q2)) 87 5 (nI k2)) 87 6 (nI p2)) (112 + P.2.1) 1 (nI 0)) (112 + P.2.1) 2 (nI 0)) (112 + P.2.1) 3 (nI 0)) 90 1 = nI P.2.1 by rw [up2_row (by omega), up2_row (by omega), up2_row (by omega), up2_row (by omega), up2_row (by omega), up2_row (by omega), up2_row (by omega), up2_row (by omega), up2_row (by omega), up2_row (by omega)]; exact hS.2.2.2.1.2.1) ?_
                        refine X_aload_n dX12_clause_375 rfl ?_
                        refine X_geti dX12_clause_376 fkX12_174 rfl (k_87 hSh) ?_
                        refine X_topi (show (up2 (up2 (up2 (up2 (up2 (up2 (up2 (up2 (up2 (up2 mi 87 4 (nI (wdT B n i0))) 87 7 (nI (c + 1))) 87 4 (nI e1)) (112 + P.2.1) 0 (nI v1)) 87 4 (nI q2)) 87 5 (nI k2)) 87 6 (nI p2)) (112 + P.2.1) 1 (nI 0)) (112 + P.2.1) 2 (nI 0)) (112 + P.2.1) 3 (nI 0)) 87 5 = nI k2 by rw [up2_row (by omega), up2_row (by omega), up2_row (by omega), up2_n (by omega), up2_s]) ?_
                        refine X_if_neN (a := k2) 386 dX12_clause_379 (by decide) (by omega) (fun h_13 => ?_) (fun h_13 => ?_)
                        · refine X_iconst (v := nI 0) dX12_clause_386 (by decide) ?_
                          refine X_iadd dX12_clause_387 ?_
                          refine X_topi (nI_add P.2.1 0) ?_
                          refine X_iast 1 dX12_clause_388 (k_90 hSh) rfl (by omega) ?_
                          refine X_aload_n dX12_clause_389 rfl ?_
                          refine X_bipush (v := nI 59) dX12_clause_390 (by decide) ?_
                          refine X_callVV dX12_clause_392 mkX12_224 (k_87 hSh) (c_signF Γ g (up2 (up2 (up2 (up2 (up2 (up2 (up2 (up2 (up2 (up2 (up2 mi 87 4 (nI (wdT B n i0))) 87 7 (nI (c + 1))) 87 4 (nI e1)) (112 + P.2.1) 0 (nI v1)) 87 4 (nI q2)) 87 5 (nI k2)) 87 6 (nI p2)) (112 + P.2.1) 1 (nI 0)) (112 + P.2.1) 2 (nI 0)) (112 + P.2.1) 3 (nI 0)) 90 1 (nI (P.2.1 + 0))) ml hSh (by rw [(show (up2 (up2 (up2 (up2 (up2 (up2 (up2 (up2 (up2 (up2 (up2 mi 87 4 (nI (wdT B n i0))) 87 7 (nI (c + 1))) 87 4 (nI e1)) (112 + P.2.1) 0 (nI v1)) 87 4 (nI q2)) 87 5 (nI k2)) 87 6 (nI p2)) (112 + P.2.1) 1 (nI 0)) (112 + P.2.1) 2 (nI 0)) (112 + P.2.1) 3 (nI 0)) 90 1 (nI (P.2.1 + 0))) 87 5 = nI k2 by rw [up2_row (by omega), up2_row (by omega), up2_row (by omega), up2_row (by omega), up2_n (by omega), up2_s])]; exact nI_ne0 (by omega) (by omega)) (nI 59)) rfl rfl (by decide) (Nat.le_of_ble_eq_true rfl) ?_
                          exact X_vret dX12_clause_395 rfl ⟨rfl, rfl, by rw [show clR B n i0 c P = .error (k2, p2) from by simp only [clR, hW, rdNu, rdGu, hN1, hN2]; exact if_neg (by omega)]; exact ⟨(show (up2 (up2 (up2 (up2 (up2 (up2 (up2 (up2 (up2 (up2 (up2 mi 87 4 (nI (wdT B n i0))) 87 7 (nI (c + 1))) 87 4 (nI e1)) (112 + P.2.1) 0 (nI v1)) 87 4 (nI q2)) 87 5 (nI k2)) 87 6 (nI p2)) (112 + P.2.1) 1 (nI 0)) (112 + P.2.1) 2 (nI 0)) (112 + P.2.1) 3 (nI 0)) 90 1 (nI (P.2.1 + 0))) 87 5 = nI k2 by rw [up2_row (by omega), up2_row (by omega), up2_row (by omega), up2_row (by omega), up2_n (by omega), up2_s]), by omega, by omega, (show (up2 (up2 (up2 (up2 (up2 (up2 (up2 (up2 (up2 (up2 (up2 mi 87 4 (nI (wdT B n i0))) 87 7 (nI (c + 1))) 87 4 (nI e1)) (112 + P.2.1) 0 (nI v1)) 87 4 (nI q2)) 87 5 (nI k2)) 87 6 (nI p2)) (112 + P.2.1) 1 (nI 0)) (112 + P.2.1) 2 (nI 0)) (112 + P.2.1) 3 (nI 0)) 90 1 (nI (P.2.1 + 0))) 87 6 = nI p2 by rw [up2_row (by omega), up2_row (by omega), up2_row (by omega), up2_row (by omega), up2_s]), (frRD_u (frRD_u (frRD_u (frRD_u (frRD_u (frRD_u (frRD_u (frRD_u (frRD_u (frRD_u (frRD_u hS.2.2.2.2.2.1 (by omega)) (by omega)) (by omega)) (by omega)) (by omega)) (by omega)) (by omega)) (by omega)) (by omega)) (by omega)) (by omega)), _, (RTX_u (RTX_u (RTX_u (RTX_u (RTX_u (RTX_u (RTX_at (RTX_u (RTX_at (RTX_u (RTX_at hS.1 (by first | omega | exact wdT_le hS.1.2.1 | exact skT_le (by omega))) (by omega)) (by first | omega | exact wdT_le hS.1.2.1 | exact skT_le (by omega))) (by omega)) (by first | omega | exact wdT_le hS.1.2.1 | exact skT_le (by omega))) (by omega)) (by omega)) (by omega)) (by omega)) (by omega)) (by omega))⟩, rfl⟩
                        · exact absurd h_13 (by omega)
                    | .ok (v2, e2) =>
                      obtain ⟨he2, hi2, hl2, hv2⟩ := numR_o (by first | omega | exact wdT_le hS.1.2.1) hN2
                      refine X_callVI dX12_clause_287 mkX12_220 (k_87 hSh) (c_rnumOK Γ g (up2 (up2 (up2 (up2 mi 87 4 (nI (wdT B n i0))) 87 7 (nI (c + 1))) 87 4 (nI e1)) (112 + P.2.1) 0 (nI v1)) ml hSh B n e1 (RTX_u (RTX_at (RTX_u (RTX_at hS.1 (by first | omega | exact wdT_le hS.1.2.1 | exact skT_le (by omega))) (by omega)) (by first | omega | exact wdT_le hS.1.2.1 | exact skT_le (by omega))) (by omega)) (show (up2 (up2 (up2 (up2 mi 87 4 (nI (wdT B n i0))) 87 7 (nI (c + 1))) 87 4 (nI e1)) (112 + P.2.1) 0 (nI v1)) 87 5 = nI 0 by rw [up2_row (by omega), up2_n (by omega), up2_n (by omega), up2_n (by omega)]; exact hS.2.1) 0 23 (nI 22) (by omega) (by omega) (hH_of (by omega)) hN2) rfl rfl (by decide) (Nat.le_of_ble_eq_true rfl) ?_
                      refine X_iast 1 dX12_clause_290 (kr_111 hSh P.2.1 (by omega)) rfl (by omega) ?_
                      refine X_aload_n dX12_clause_291 rfl ?_
                      refine X_iconst (v := nI 2) dX12_clause_292 (by decide) ?_
                      refine X_aload_n dX12_clause_293 rfl ?_
                      refine X_aload_n dX12_clause_294 rfl ?_
                      refine X_iconst (v := nI 1) dX12_clause_295 (by decide) ?_
                      refine X_iald 1 dX12_clause_296 (kr_111 hSh P.2.1 (by omega)) rfl (by omega) ?_
                      refine X_topi (show (up2 (up2 (up2 (up2 (up2 (up2 mi 87 4 (nI (wdT B n i0))) 87 7 (nI (c + 1))) 87 4 (nI e1)) (112 + P.2.1) 0 (nI v1)) 87 4 (nI e2)) (112 + P.2.1) 1 (nI v2)) (112 + P.2.1) 1 = nI v2 by rw [up2_s]) ?_
                      refine X_iconst (v := nI 1) dX12_clause_297 (by decide) ?_
                      refine X_iadd dX12_clause_298 ?_
                      refine X_topi (nI_add v2 1) ?_
                      refine X_bipush (v := nI 23) dX12_clause_299 (by decide) ?_
                      match hN3 : numR B n e2 (v2 + 1) 24 with
                      | .error (k3, p3) =>
                        obtain ⟨hka3, hkb3⟩ := numR_k hN3
                        obtain ⟨q3, hq3, hC3⟩ := c_rnumE Γ g (up2 (up2 (up2 (up2 (up2 (up2 mi 87 4 (nI (wdT B n i0))) 87 7 (nI (c + 1))) 87 4 (nI e1)) (112 + P.2.1) 0 (nI v1)) 87 4 (nI e2)) (112 + P.2.1) 1 (nI v2)) ml hSh B n e2 (RTX_u (RTX_at (RTX_u (RTX_at (RTX_u (RTX_at hS.1 (by first | omega | exact wdT_le hS.1.2.1 | exact skT_le (by omega))) (by omega)) (by first | omega | exact wdT_le hS.1.2.1 | exact skT_le (by omega))) (by omega)) (by first | omega | exact wdT_le hS.1.2.1 | exact skT_le (by omega))) (by omega)) (show (up2 (up2 (up2 (up2 (up2 (up2 mi 87 4 (nI (wdT B n i0))) 87 7 (nI (c + 1))) 87 4 (nI e1)) (112 + P.2.1) 0 (nI v1)) 87 4 (nI e2)) (112 + P.2.1) 1 (nI v2)) 87 5 = nI 0 by rw [up2_row (by omega), up2_n (by omega), up2_row (by omega), up2_n (by omega), up2_n (by omega), up2_n (by omega)]; exact hS.2.1) (v2 + 1) 24 (nI 23) (by omega) (by omega) (hH_of (by omega)) hN3
                        refine X_callVI dX12_clause_301 mkX12_220 (k_87 hSh) (hC3) rfl rfl (by decide) (Nat.le_of_ble_eq_true rfl) ?_
                        refine X_iast 2 dX12_clause_304 (kr_111 hSh P.2.1 (by omega)) rfl (by omega) ?_
                        refine X_aload_n dX12_clause_305 rfl ?_
                        refine X_iconst (v := nI 3) dX12_clause_306 (by decide) ?_
                        refine X_aload_n dX12_clause_307 rfl ?_
                        refine X_iconst (v := nI 0) dX12_clause_308 (by decide) ?_
                        refine X_bipush (v := nI 9) dX12_clause_309 (by decide) ?_
                        refine X_callVI dX12_clause_311 mkX12_220 (k_87 hSh) (c_numberF Γ g (up2 (up2 (up2 (up2 (up2 (up2 (up2 (up2 (up2 (up2 mi 87 4 (nI (wdT B n i0))) 87 7 (nI (c + 1))) 87 4 (nI e1)) (112 + P.2.1) 0 (nI v1)) 87 4 (nI e2)) (112 + P.2.1) 1 (nI v2)) 87 4 (nI q3)) 87 5 (nI k3)) 87 6 (nI p3)) (112 + P.2.1) 2 (nI 0)) ml hSh (by rw [(show (up2 (up2 (up2 (up2 (up2 (up2 (up2 (up2 (up2 (up2 mi 87 4 (nI (wdT B n i0))) 87 7 (nI (c + 1))) 87 4 (nI e1)) (112 + P.2.1) 0 (nI v1)) 87 4 (nI e2)) (112 + P.2.1) 1 (nI v2)) 87 4 (nI q3)) 87 5 (nI k3)) 87 6 (nI p3)) (112 + P.2.1) 2 (nI 0)) 87 5 = nI k3 by rw [up2_row (by omega), up2_n (by omega), up2_s])]; exact nI_ne0 (by omega) (by omega)) (nI 0) (nI 9)) rfl rfl (by decide) (Nat.le_of_ble_eq_true rfl) ?_
                        refine X_iast 3 dX12_clause_314 (kr_111 hSh P.2.1 (by omega)) rfl (by omega) ?_
                        refine X_goto 363 dX12_clause_315 (by decide) ?_
                        refine X_iload_n dX12_clause_363 rfl ?_
                        refine X_iconst (v := nI 2) dX12_clause_364 (by decide) ?_
                        refine X_icmp_geN (a := 1) (b := 2) 389 dX12_clause_365 (by decide) (by omega) (by omega) (fun h_14 => ?_) (fun h_14 => ?_)
                        · exact absurd h_14 (by omega)
                        · refine X_aload_n dX12_clause_368 rfl ?_
                          refine X_getr (a := 90) dX12_clause_369 fkX12_20 rfl (k_87 hSh) (r_87_11 hSh) ?_
                          refine X_iload_n dX12_clause_372 rfl ?_
                          refine X_dup2 dX12_clause_373 rfl rfl ?_
                          refine X_iald 1 dX12_clause_374 (k_90 hSh) rfl (by omega) ?_
                          refine X_topi (show (up2 (up2 (up2 (up2 (up2 (up2 (up2 (up2 (up2 (up2 (up2 mi 87 4 (nI (wdT B n i0))) 87 7 (nI (c + 1))) 87 4 (nI e1)) (112 + P.2.1) 0 (nI v1)) 87 4 (nI e2)) (112 + P.2.1) 1 (nI v2)) 87 4 (nI q3)) 87 5 (nI k3)) 87 6 (nI p3)) (112 + P.2.1) 2 (nI 0)) (112 + P.2.1) 3 (nI 0)) 90 1 = nI P.2.1 by rw [up2_row (by omega), up2_row (by omega), up2_row (by omega), up2_row (by omega), up2_row (by omega), up2_row (by omega), up2_row (by omega), up2_row (by omega), up2_row (by omega), up2_row (by omega), up2_row (by omega)]; exact hS.2.2.2.1.2.1) ?_
                          refine X_aload_n dX12_clause_375 rfl ?_
                          refine X_geti dX12_clause_376 fkX12_174 rfl (k_87 hSh) ?_
                          refine X_topi (show (up2 (up2 (up2 (up2 (up2 (up2 (up2 (up2 (up2 (up2 (up2 mi 87 4 (nI (wdT B n i0))) 87 7 (nI (c + 1))) 87 4 (nI e1)) (112 + P.2.1) 0 (nI v1)) 87 4 (nI e2)) (112 + P.2.1) 1 (nI v2)) 87 4 (nI q3)) 87 5 (nI k3)) 87 6 (nI p3)) (112 + P.2.1) 2 (nI 0)) (112 + P.2.1) 3 (nI 0)) 87 5 = nI k3 by rw [up2_row (by omega), up2_row (by omega), up2_n (by omega), up2_s]) ?_
                          refine X_if_neN (a := k3) 386 dX12_clause_379 (by decide) (by omega) (fun h_15 => ?_) (fun h_15 => ?_)
                          · refine X_iconst (v := nI 0) dX12_clause_386 (by decide) ?_
                            refine X_iadd dX12_clause_387 ?_
                            refine X_topi (nI_add P.2.1 0) ?_
                            refine X_iast 1 dX12_clause_388 (k_90 hSh) rfl (by omega) ?_
                            refine X_aload_n dX12_clause_389 rfl ?_
                            refine X_bipush (v := nI 59) dX12_clause_390 (by decide) ?_
                            refine X_callVV dX12_clause_392 mkX12_224 (k_87 hSh) (c_signF Γ g (up2 (up2 (up2 (up2 (up2 (up2 (up2 (up2 (up2 (up2 (up2 (up2 mi 87 4 (nI (wdT B n i0))) 87 7 (nI (c + 1))) 87 4 (nI e1)) (112 + P.2.1) 0 (nI v1)) 87 4 (nI e2)) (112 + P.2.1) 1 (nI v2)) 87 4 (nI q3)) 87 5 (nI k3)) 87 6 (nI p3)) (112 + P.2.1) 2 (nI 0)) (112 + P.2.1) 3 (nI 0)) 90 1 (nI (P.2.1 + 0))) ml hSh (by rw [(show (up2 (up2 (up2 (up2 (up2 (up2 (up2 (up2 (up2 (up2 (up2 (up2 mi 87 4 (nI (wdT B n i0))) 87 7 (nI (c + 1))) 87 4 (nI e1)) (112 + P.2.1) 0 (nI v1)) 87 4 (nI e2)) (112 + P.2.1) 1 (nI v2)) 87 4 (nI q3)) 87 5 (nI k3)) 87 6 (nI p3)) (112 + P.2.1) 2 (nI 0)) (112 + P.2.1) 3 (nI 0)) 90 1 (nI (P.2.1 + 0))) 87 5 = nI k3 by rw [up2_row (by omega), up2_row (by omega), up2_row (by omega), up2_n (by omega), up2_s])]; exact nI_ne0 (by omega) (by omega)) (nI 59)) rfl rfl (by decide) (Nat.le_of_ble_eq_true rfl) ?_
                            exact X_vret dX12_clause_395 rfl ⟨rfl, rfl, by rw [show clR B n i0 c P = .error (k3, p3) from by simp only [clR, hW, rdNu, rdGu, hN1, hN2, hN3]; exact if_neg (by omega)]; exact ⟨(show (up2 (up2 (up2 (up2 (up2 (up2 (up2 (up2 (up2 (up2 (up2 (up2 mi 87 4 (nI (wdT B n i0))) 87 7 (nI (c + 1))) 87 4 (nI e1)) (112 + P.2.1) 0 (nI v1)) 87 4 (nI e2)) (112 + P.2.1) 1 (nI v2)) 87 4 (nI q3)) 87 5 (nI k3)) 87 6 (nI p3)) (112 + P.2.1) 2 (nI 0)) (112 + P.2.1) 3 (nI 0)) 90 1 (nI (P.2.1 + 0))) 87 5 = nI k3 by rw [up2_row (by omega), up2_row (by omega), up2_row (by omega), up2_n (by omega), up2_s]), by omega, by omega, (show (up2 (up2 (up2 (up2 (up2 (up2 (up2 (up2 (up2 (up2 (up2 (up2 mi 87 4 (nI (wdT B n i0))) 87 7 (nI (c + 1))) 87 4 (nI e1)) (112 + P.2.1) 0 (nI v1)) 87 4 (nI e2)) (112 + P.2.1) 1 (nI v2)) 87 4 (nI q3)) 87 5 (nI k3)) 87 6 (nI p3)) (112 + P.2.1) 2 (nI 0)) (112 + P.2.1) 3 (nI 0)) 90 1 (nI (P.2.1 + 0))) 87 6 = nI p3 by rw [up2_row (by omega), up2_row (by omega), up2_row (by omega), up2_s]), (frRD_u (frRD_u (frRD_u (frRD_u (frRD_u (frRD_u (frRD_u (frRD_u (frRD_u (frRD_u (frRD_u (frRD_u hS.2.2.2.2.2.1 (by omega)) (by omega)) (by omega)) (by omega)) (by omega)) (by omega)) (by omega)) (by omega)) (by omega)) (by omega)) (by omega)) (by omega)), _, (RTX_u (RTX_u (RTX_u (RTX_u (RTX_u (RTX_at (RTX_u (RTX_at (RTX_u (RTX_at (RTX_u (RTX_at hS.1 (by first | omega | exact wdT_le hS.1.2.1 | exact skT_le (by omega))) (by omega)) (by first | omega | exact wdT_le hS.1.2.1 | exact skT_le (by omega))) (by omega)) (by first | omega | exact wdT_le hS.1.2.1 | exact skT_le (by omega))) (by omega)) (by first | omega | exact wdT_le hS.1.2.1 | exact skT_le (by omega))) (by omega)) (by omega)) (by omega)) (by omega)) (by omega))⟩, rfl⟩
                          · exact absurd h_15 (by omega)
                      | .ok (v3, e3) =>
                        obtain ⟨he3, hi3, hl3, hv3⟩ := numR_o (by first | omega | exact wdT_le hS.1.2.1) hN3
                        refine X_callVI dX12_clause_301 mkX12_220 (k_87 hSh) (c_rnumOK Γ g (up2 (up2 (up2 (up2 (up2 (up2 mi 87 4 (nI (wdT B n i0))) 87 7 (nI (c + 1))) 87 4 (nI e1)) (112 + P.2.1) 0 (nI v1)) 87 4 (nI e2)) (112 + P.2.1) 1 (nI v2)) ml hSh B n e2 (RTX_u (RTX_at (RTX_u (RTX_at (RTX_u (RTX_at hS.1 (by first | omega | exact wdT_le hS.1.2.1 | exact skT_le (by omega))) (by omega)) (by first | omega | exact wdT_le hS.1.2.1 | exact skT_le (by omega))) (by omega)) (by first | omega | exact wdT_le hS.1.2.1 | exact skT_le (by omega))) (by omega)) (show (up2 (up2 (up2 (up2 (up2 (up2 mi 87 4 (nI (wdT B n i0))) 87 7 (nI (c + 1))) 87 4 (nI e1)) (112 + P.2.1) 0 (nI v1)) 87 4 (nI e2)) (112 + P.2.1) 1 (nI v2)) 87 5 = nI 0 by rw [up2_row (by omega), up2_n (by omega), up2_row (by omega), up2_n (by omega), up2_n (by omega), up2_n (by omega)]; exact hS.2.1) (v2 + 1) 24 (nI 23) (by omega) (by omega) (hH_of (by omega)) hN3) rfl rfl (by decide) (Nat.le_of_ble_eq_true rfl) ?_
                        refine X_iast 2 dX12_clause_304 (kr_111 hSh P.2.1 (by omega)) rfl (by omega) ?_
                        refine X_aload_n dX12_clause_305 rfl ?_
                        refine X_iconst (v := nI 3) dX12_clause_306 (by decide) ?_
                        refine X_aload_n dX12_clause_307 rfl ?_
                        refine X_iconst (v := nI 0) dX12_clause_308 (by decide) ?_
                        refine X_bipush (v := nI 9) dX12_clause_309 (by decide) ?_
                        match hN4 : numR B n e3 0 10 with
                        | .error (k4, p4) =>
                          obtain ⟨hka4, hkb4⟩ := numR_k hN4
                          obtain ⟨q4, hq4, hC4⟩ := c_rnumE Γ g (up2 (up2 (up2 (up2 (up2 (up2 (up2 (up2 mi 87 4 (nI (wdT B n i0))) 87 7 (nI (c + 1))) 87 4 (nI e1)) (112 + P.2.1) 0 (nI v1)) 87 4 (nI e2)) (112 + P.2.1) 1 (nI v2)) 87 4 (nI e3)) (112 + P.2.1) 2 (nI v3)) ml hSh B n e3 (RTX_u (RTX_at (RTX_u (RTX_at (RTX_u (RTX_at (RTX_u (RTX_at hS.1 (by first | omega | exact wdT_le hS.1.2.1 | exact skT_le (by omega))) (by omega)) (by first | omega | exact wdT_le hS.1.2.1 | exact skT_le (by omega))) (by omega)) (by first | omega | exact wdT_le hS.1.2.1 | exact skT_le (by omega))) (by omega)) (by first | omega | exact wdT_le hS.1.2.1 | exact skT_le (by omega))) (by omega)) (show (up2 (up2 (up2 (up2 (up2 (up2 (up2 (up2 mi 87 4 (nI (wdT B n i0))) 87 7 (nI (c + 1))) 87 4 (nI e1)) (112 + P.2.1) 0 (nI v1)) 87 4 (nI e2)) (112 + P.2.1) 1 (nI v2)) 87 4 (nI e3)) (112 + P.2.1) 2 (nI v3)) 87 5 = nI 0 by rw [up2_row (by omega), up2_n (by omega), up2_row (by omega), up2_n (by omega), up2_row (by omega), up2_n (by omega), up2_n (by omega), up2_n (by omega)]; exact hS.2.1) 0 10 (nI 9) (by omega) (by omega) (hH_of (by omega)) hN4
                          refine X_callVI dX12_clause_311 mkX12_220 (k_87 hSh) (hC4) rfl rfl (by decide) (Nat.le_of_ble_eq_true rfl) ?_
                          refine X_iast 3 dX12_clause_314 (kr_111 hSh P.2.1 (by omega)) rfl (by omega) ?_
                          refine X_goto 363 dX12_clause_315 (by decide) ?_
                          refine X_iload_n dX12_clause_363 rfl ?_
                          refine X_iconst (v := nI 2) dX12_clause_364 (by decide) ?_
                          refine X_icmp_geN (a := 1) (b := 2) 389 dX12_clause_365 (by decide) (by omega) (by omega) (fun h_16 => ?_) (fun h_16 => ?_)
                          · exact absurd h_16 (by omega)
                          · refine X_aload_n dX12_clause_368 rfl ?_
                            refine X_getr (a := 90) dX12_clause_369 fkX12_20 rfl (k_87 hSh) (r_87_11 hSh) ?_
                            refine X_iload_n dX12_clause_372 rfl ?_
                            refine X_dup2 dX12_clause_373 rfl rfl ?_
                            refine X_iald 1 dX12_clause_374 (k_90 hSh) rfl (by omega) ?_
                            refine X_topi (show (up2 (up2 (up2 (up2 (up2 (up2 (up2 (up2 (up2 (up2 (up2 (up2 mi 87 4 (nI (wdT B n i0))) 87 7 (nI (c + 1))) 87 4 (nI e1)) (112 + P.2.1) 0 (nI v1)) 87 4 (nI e2)) (112 + P.2.1) 1 (nI v2)) 87 4 (nI e3)) (112 + P.2.1) 2 (nI v3)) 87 4 (nI q4)) 87 5 (nI k4)) 87 6 (nI p4)) (112 + P.2.1) 3 (nI 0)) 90 1 = nI P.2.1 by rw [up2_row (by omega), up2_row (by omega), up2_row (by omega), up2_row (by omega), up2_row (by omega), up2_row (by omega), up2_row (by omega), up2_row (by omega), up2_row (by omega), up2_row (by omega), up2_row (by omega), up2_row (by omega)]; exact hS.2.2.2.1.2.1) ?_
                            refine X_aload_n dX12_clause_375 rfl ?_
                            refine X_geti dX12_clause_376 fkX12_174 rfl (k_87 hSh) ?_
                            refine X_topi (show (up2 (up2 (up2 (up2 (up2 (up2 (up2 (up2 (up2 (up2 (up2 (up2 mi 87 4 (nI (wdT B n i0))) 87 7 (nI (c + 1))) 87 4 (nI e1)) (112 + P.2.1) 0 (nI v1)) 87 4 (nI e2)) (112 + P.2.1) 1 (nI v2)) 87 4 (nI e3)) (112 + P.2.1) 2 (nI v3)) 87 4 (nI q4)) 87 5 (nI k4)) 87 6 (nI p4)) (112 + P.2.1) 3 (nI 0)) 87 5 = nI k4 by rw [up2_row (by omega), up2_n (by omega), up2_s]) ?_
                            refine X_if_neN (a := k4) 386 dX12_clause_379 (by decide) (by omega) (fun h_17 => ?_) (fun h_17 => ?_)
                            · refine X_iconst (v := nI 0) dX12_clause_386 (by decide) ?_
                              refine X_iadd dX12_clause_387 ?_
                              refine X_topi (nI_add P.2.1 0) ?_
                              refine X_iast 1 dX12_clause_388 (k_90 hSh) rfl (by omega) ?_
                              refine X_aload_n dX12_clause_389 rfl ?_
                              refine X_bipush (v := nI 59) dX12_clause_390 (by decide) ?_
                              refine X_callVV dX12_clause_392 mkX12_224 (k_87 hSh) (c_signF Γ g (up2 (up2 (up2 (up2 (up2 (up2 (up2 (up2 (up2 (up2 (up2 (up2 (up2 mi 87 4 (nI (wdT B n i0))) 87 7 (nI (c + 1))) 87 4 (nI e1)) (112 + P.2.1) 0 (nI v1)) 87 4 (nI e2)) (112 + P.2.1) 1 (nI v2)) 87 4 (nI e3)) (112 + P.2.1) 2 (nI v3)) 87 4 (nI q4)) 87 5 (nI k4)) 87 6 (nI p4)) (112 + P.2.1) 3 (nI 0)) 90 1 (nI (P.2.1 + 0))) ml hSh (by rw [(show (up2 (up2 (up2 (up2 (up2 (up2 (up2 (up2 (up2 (up2 (up2 (up2 (up2 mi 87 4 (nI (wdT B n i0))) 87 7 (nI (c + 1))) 87 4 (nI e1)) (112 + P.2.1) 0 (nI v1)) 87 4 (nI e2)) (112 + P.2.1) 1 (nI v2)) 87 4 (nI e3)) (112 + P.2.1) 2 (nI v3)) 87 4 (nI q4)) 87 5 (nI k4)) 87 6 (nI p4)) (112 + P.2.1) 3 (nI 0)) 90 1 (nI (P.2.1 + 0))) 87 5 = nI k4 by rw [up2_row (by omega), up2_row (by omega), up2_n (by omega), up2_s])]; exact nI_ne0 (by omega) (by omega)) (nI 59)) rfl rfl (by decide) (Nat.le_of_ble_eq_true rfl) ?_
                              exact X_vret dX12_clause_395 rfl ⟨rfl, rfl, by rw [show clR B n i0 c P = .error (k4, p4) from by simp only [clR, hW, rdNu, rdGu, hN1, hN2, hN3, hN4]; exact if_neg (by omega)]; exact ⟨(show (up2 (up2 (up2 (up2 (up2 (up2 (up2 (up2 (up2 (up2 (up2 (up2 (up2 mi 87 4 (nI (wdT B n i0))) 87 7 (nI (c + 1))) 87 4 (nI e1)) (112 + P.2.1) 0 (nI v1)) 87 4 (nI e2)) (112 + P.2.1) 1 (nI v2)) 87 4 (nI e3)) (112 + P.2.1) 2 (nI v3)) 87 4 (nI q4)) 87 5 (nI k4)) 87 6 (nI p4)) (112 + P.2.1) 3 (nI 0)) 90 1 (nI (P.2.1 + 0))) 87 5 = nI k4 by rw [up2_row (by omega), up2_row (by omega), up2_n (by omega), up2_s]), by omega, by omega, (show (up2 (up2 (up2 (up2 (up2 (up2 (up2 (up2 (up2 (up2 (up2 (up2 (up2 mi 87 4 (nI (wdT B n i0))) 87 7 (nI (c + 1))) 87 4 (nI e1)) (112 + P.2.1) 0 (nI v1)) 87 4 (nI e2)) (112 + P.2.1) 1 (nI v2)) 87 4 (nI e3)) (112 + P.2.1) 2 (nI v3)) 87 4 (nI q4)) 87 5 (nI k4)) 87 6 (nI p4)) (112 + P.2.1) 3 (nI 0)) 90 1 (nI (P.2.1 + 0))) 87 6 = nI p4 by rw [up2_row (by omega), up2_row (by omega), up2_s]), (frRD_u (frRD_u (frRD_u (frRD_u (frRD_u (frRD_u (frRD_u (frRD_u (frRD_u (frRD_u (frRD_u (frRD_u (frRD_u hS.2.2.2.2.2.1 (by omega)) (by omega)) (by omega)) (by omega)) (by omega)) (by omega)) (by omega)) (by omega)) (by omega)) (by omega)) (by omega)) (by omega)) (by omega)), _, (RTX_u (RTX_u (RTX_u (RTX_u (RTX_at (RTX_u (RTX_at (RTX_u (RTX_at (RTX_u (RTX_at (RTX_u (RTX_at hS.1 (by first | omega | exact wdT_le hS.1.2.1 | exact skT_le (by omega))) (by omega)) (by first | omega | exact wdT_le hS.1.2.1 | exact skT_le (by omega))) (by omega)) (by first | omega | exact wdT_le hS.1.2.1 | exact skT_le (by omega))) (by omega)) (by first | omega | exact wdT_le hS.1.2.1 | exact skT_le (by omega))) (by omega)) (by first | omega | exact wdT_le hS.1.2.1 | exact skT_le (by omega))) (by omega)) (by omega)) (by omega)) (by omega))⟩, rfl⟩
                            · exact absurd h_17 (by omega)
                        | .ok (v4, e4) =>
                          obtain ⟨he4, hi4, hl4, hv4⟩ := numR_o (by first | omega | exact wdT_le hS.1.2.1) hN4
                          refine X_callVI dX12_clause_311 mkX12_220 (k_87 hSh) (c_rnumOK Γ g (up2 (up2 (up2 (up2 (up2 (up2 (up2 (up2 mi 87 4 (nI (wdT B n i0))) 87 7 (nI (c + 1))) 87 4 (nI e1)) (112 + P.2.1) 0 (nI v1)) 87 4 (nI e2)) (112 + P.2.1) 1 (nI v2)) 87 4 (nI e3)) (112 + P.2.1) 2 (nI v3)) ml hSh B n e3 (RTX_u (RTX_at (RTX_u (RTX_at (RTX_u (RTX_at (RTX_u (RTX_at hS.1 (by first | omega | exact wdT_le hS.1.2.1 | exact skT_le (by omega))) (by omega)) (by first | omega | exact wdT_le hS.1.2.1 | exact skT_le (by omega))) (by omega)) (by first | omega | exact wdT_le hS.1.2.1 | exact skT_le (by omega))) (by omega)) (by first | omega | exact wdT_le hS.1.2.1 | exact skT_le (by omega))) (by omega)) (show (up2 (up2 (up2 (up2 (up2 (up2 (up2 (up2 mi 87 4 (nI (wdT B n i0))) 87 7 (nI (c + 1))) 87 4 (nI e1)) (112 + P.2.1) 0 (nI v1)) 87 4 (nI e2)) (112 + P.2.1) 1 (nI v2)) 87 4 (nI e3)) (112 + P.2.1) 2 (nI v3)) 87 5 = nI 0 by rw [up2_row (by omega), up2_n (by omega), up2_row (by omega), up2_n (by omega), up2_row (by omega), up2_n (by omega), up2_n (by omega), up2_n (by omega)]; exact hS.2.1) 0 10 (nI 9) (by omega) (by omega) (hH_of (by omega)) hN4) rfl rfl (by decide) (Nat.le_of_ble_eq_true rfl) ?_
                          refine X_iast 3 dX12_clause_314 (kr_111 hSh P.2.1 (by omega)) rfl (by omega) ?_
                          refine X_goto 363 dX12_clause_315 (by decide) ?_
                          refine X_iload_n dX12_clause_363 rfl ?_
                          refine X_iconst (v := nI 2) dX12_clause_364 (by decide) ?_
                          refine X_icmp_geN (a := 1) (b := 2) 389 dX12_clause_365 (by decide) (by omega) (by omega) (fun h_18 => ?_) (fun h_18 => ?_)
                          · exact absurd h_18 (by omega)
                          · refine X_aload_n dX12_clause_368 rfl ?_
                            refine X_getr (a := 90) dX12_clause_369 fkX12_20 rfl (k_87 hSh) (r_87_11 hSh) ?_
                            refine X_iload_n dX12_clause_372 rfl ?_
                            refine X_dup2 dX12_clause_373 rfl rfl ?_
                            refine X_iald 1 dX12_clause_374 (k_90 hSh) rfl (by omega) ?_
                            refine X_topi (show (up2 (up2 (up2 (up2 (up2 (up2 (up2 (up2 (up2 (up2 mi 87 4 (nI (wdT B n i0))) 87 7 (nI (c + 1))) 87 4 (nI e1)) (112 + P.2.1) 0 (nI v1)) 87 4 (nI e2)) (112 + P.2.1) 1 (nI v2)) 87 4 (nI e3)) (112 + P.2.1) 2 (nI v3)) 87 4 (nI e4)) (112 + P.2.1) 3 (nI v4)) 90 1 = nI P.2.1 by rw [up2_row (by omega), up2_row (by omega), up2_row (by omega), up2_row (by omega), up2_row (by omega), up2_row (by omega), up2_row (by omega), up2_row (by omega), up2_row (by omega), up2_row (by omega)]; exact hS.2.2.2.1.2.1) ?_
                            refine X_aload_n dX12_clause_375 rfl ?_
                            refine X_geti dX12_clause_376 fkX12_174 rfl (k_87 hSh) ?_
                            refine X_topi (show (up2 (up2 (up2 (up2 (up2 (up2 (up2 (up2 (up2 (up2 mi 87 4 (nI (wdT B n i0))) 87 7 (nI (c + 1))) 87 4 (nI e1)) (112 + P.2.1) 0 (nI v1)) 87 4 (nI e2)) (112 + P.2.1) 1 (nI v2)) 87 4 (nI e3)) (112 + P.2.1) 2 (nI v3)) 87 4 (nI e4)) (112 + P.2.1) 3 (nI v4)) 87 5 = nI 0 by rw [up2_row (by omega), up2_n (by omega), up2_row (by omega), up2_n (by omega), up2_row (by omega), up2_n (by omega), up2_row (by omega), up2_n (by omega), up2_n (by omega), up2_n (by omega)]; exact hS.2.1) ?_
                            refine X_if_neN (a := 0) 386 dX12_clause_379 (by decide) (by omega) (fun h_19 => ?_) (fun h_19 => ?_)
                            · exact absurd rfl h_19
                            · refine X_iconst (v := nI 1) dX12_clause_382 (by decide) ?_
                              refine X_goto 387 dX12_clause_383 (by decide) ?_
                              refine X_iadd dX12_clause_387 ?_
                              refine X_topi (nI_add P.2.1 1) ?_
                              refine X_iast 1 dX12_clause_388 (k_90 hSh) rfl (by omega) ?_
                              refine X_aload_n dX12_clause_389 rfl ?_
                              refine X_bipush (v := nI 59) dX12_clause_390 (by decide) ?_
                              by_cases hs : byT B n (skT B n e4) = nI 59
                              ·
                                refine X_callVV dX12_clause_392 mkX12_224 (k_87 hSh) (c_sign1 Γ g (up2 (up2 (up2 (up2 (up2 (up2 (up2 (up2 (up2 (up2 (up2 mi 87 4 (nI (wdT B n i0))) 87 7 (nI (c + 1))) 87 4 (nI e1)) (112 + P.2.1) 0 (nI v1)) 87 4 (nI e2)) (112 + P.2.1) 1 (nI v2)) 87 4 (nI e3)) (112 + P.2.1) 2 (nI v3)) 87 4 (nI e4)) (112 + P.2.1) 3 (nI v4)) 90 1 (nI (P.2.1 + 1))) ml hSh B n e4 (RTX_u (RTX_u (RTX_at (RTX_u (RTX_at (RTX_u (RTX_at (RTX_u (RTX_at (RTX_u (RTX_at hS.1 (by first | omega | exact wdT_le hS.1.2.1 | exact skT_le (by omega))) (by omega)) (by first | omega | exact wdT_le hS.1.2.1 | exact skT_le (by omega))) (by omega)) (by first | omega | exact wdT_le hS.1.2.1 | exact skT_le (by omega))) (by omega)) (by first | omega | exact wdT_le hS.1.2.1 | exact skT_le (by omega))) (by omega)) (by first | omega | exact wdT_le hS.1.2.1 | exact skT_le (by omega))) (by omega)) (by omega)) (show (up2 (up2 (up2 (up2 (up2 (up2 (up2 (up2 (up2 (up2 (up2 mi 87 4 (nI (wdT B n i0))) 87 7 (nI (c + 1))) 87 4 (nI e1)) (112 + P.2.1) 0 (nI v1)) 87 4 (nI e2)) (112 + P.2.1) 1 (nI v2)) 87 4 (nI e3)) (112 + P.2.1) 2 (nI v3)) 87 4 (nI e4)) (112 + P.2.1) 3 (nI v4)) 90 1 (nI (P.2.1 + 1))) 87 5 = nI 0 by rw [up2_row (by omega), up2_row (by omega), up2_n (by omega), up2_row (by omega), up2_n (by omega), up2_row (by omega), up2_n (by omega), up2_row (by omega), up2_n (by omega), up2_n (by omega), up2_n (by omega)]; exact hS.2.1) (nI 59) hs) rfl rfl (by decide) (Nat.le_of_ble_eq_true rfl) ?_
                                exact X_vret dX12_clause_395 rfl ⟨rfl, rfl, by rw [show clR B n i0 c P = .ok (skT B n e4 + 1, adGu P v1 v2 v3 v4) from by simp only [clR, hW, rdNu, rdGu, hN1, hN2, hN3, hN4, sgR, hs, if_true]; exact if_neg (by omega)]; exact ⟨(RTX_at (RTX_u (RTX_u (RTX_at (RTX_u (RTX_at (RTX_u (RTX_at (RTX_u (RTX_at (RTX_u (RTX_at hS.1 (by first | omega | exact wdT_le hS.1.2.1 | exact skT_le (by omega))) (by omega)) (by first | omega | exact wdT_le hS.1.2.1 | exact skT_le (by omega))) (by omega)) (by first | omega | exact wdT_le hS.1.2.1 | exact skT_le (by omega))) (by omega)) (by first | omega | exact wdT_le hS.1.2.1 | exact skT_le (by omega))) (by omega)) (by first | omega | exact wdT_le hS.1.2.1 | exact skT_le (by omega))) (by omega)) (by omega)) (by_lt hs)), (show (up2 (up2 (up2 (up2 (up2 (up2 (up2 (up2 (up2 (up2 (up2 (up2 mi 87 4 (nI (wdT B n i0))) 87 7 (nI (c + 1))) 87 4 (nI e1)) (112 + P.2.1) 0 (nI v1)) 87 4 (nI e2)) (112 + P.2.1) 1 (nI v2)) 87 4 (nI e3)) (112 + P.2.1) 2 (nI v3)) 87 4 (nI e4)) (112 + P.2.1) 3 (nI v4)) 90 1 (nI (P.2.1 + 1))) 87 4 (nI (skT B n e4 + 1))) 87 5 = nI 0 by rw [up2_n (by omega), up2_row (by omega), up2_row (by omega), up2_n (by omega), up2_row (by omega), up2_n (by omega), up2_row (by omega), up2_n (by omega), up2_row (by omega), up2_n (by omega), up2_n (by omega), up2_n (by omega)]; exact hS.2.1), (show (up2 (up2 (up2 (up2 (up2 (up2 (up2 (up2 (up2 (up2 (up2 (up2 mi 87 4 (nI (wdT B n i0))) 87 7 (nI (c + 1))) 87 4 (nI e1)) (112 + P.2.1) 0 (nI v1)) 87 4 (nI e2)) (112 + P.2.1) 1 (nI v2)) 87 4 (nI e3)) (112 + P.2.1) 2 (nI v3)) 87 4 (nI e4)) (112 + P.2.1) 3 (nI v4)) 90 1 (nI (P.2.1 + 1))) 87 4 (nI (skT B n e4 + 1))) 87 7 = nI (c + 1) by rw [up2_n (by omega), up2_row (by omega), up2_row (by omega), up2_n (by omega), up2_row (by omega), up2_n (by omega), up2_row (by omega), up2_n (by omega), up2_row (by omega), up2_n (by omega), up2_s]), rdP_gu hS.2.2.2.1 (by omega) hP8 (fun i hi => by funext j; simp [up2, hi]), ok_gu hP (by omega) hv1 hv2 (by omega) hv3 hv4, (frRD_u (frRD_u (frRD_u (frRD_u (frRD_u (frRD_u (frRD_u (frRD_u (frRD_u (frRD_u (frRD_u (frRD_u hS.2.2.2.2.2.1 (by omega)) (by omega)) (by omega)) (by omega)) (by omega)) (by omega)) (by omega)) (by omega)) (by omega)) (by omega)) (by omega)) (by omega)), (show (up2 (up2 (up2 (up2 (up2 (up2 (up2 (up2 (up2 (up2 (up2 (up2 mi 87 4 (nI (wdT B n i0))) 87 7 (nI (c + 1))) 87 4 (nI e1)) (112 + P.2.1) 0 (nI v1)) 87 4 (nI e2)) (112 + P.2.1) 1 (nI v2)) 87 4 (nI e3)) (112 + P.2.1) 2 (nI v3)) 87 4 (nI e4)) (112 + P.2.1) 3 (nI v4)) 90 1 (nI (P.2.1 + 1))) 87 4 (nI (skT B n e4 + 1))) 87 6 = m0 87 6 by rw [up2_n (by omega), up2_row (by omega), up2_row (by omega), up2_n (by omega), up2_row (by omega), up2_n (by omega), up2_row (by omega), up2_n (by omega), up2_row (by omega), up2_n (by omega), up2_n (by omega), up2_n (by omega)]; exact hS.2.2.2.2.2.2)⟩, rfl⟩
                              ·
                                refine X_callVV dX12_clause_392 mkX12_224 (k_87 hSh) (c_sign0 Γ g (up2 (up2 (up2 (up2 (up2 (up2 (up2 (up2 (up2 (up2 (up2 mi 87 4 (nI (wdT B n i0))) 87 7 (nI (c + 1))) 87 4 (nI e1)) (112 + P.2.1) 0 (nI v1)) 87 4 (nI e2)) (112 + P.2.1) 1 (nI v2)) 87 4 (nI e3)) (112 + P.2.1) 2 (nI v3)) 87 4 (nI e4)) (112 + P.2.1) 3 (nI v4)) 90 1 (nI (P.2.1 + 1))) ml hSh B n e4 (RTX_u (RTX_u (RTX_at (RTX_u (RTX_at (RTX_u (RTX_at (RTX_u (RTX_at (RTX_u (RTX_at hS.1 (by first | omega | exact wdT_le hS.1.2.1 | exact skT_le (by omega))) (by omega)) (by first | omega | exact wdT_le hS.1.2.1 | exact skT_le (by omega))) (by omega)) (by first | omega | exact wdT_le hS.1.2.1 | exact skT_le (by omega))) (by omega)) (by first | omega | exact wdT_le hS.1.2.1 | exact skT_le (by omega))) (by omega)) (by first | omega | exact wdT_le hS.1.2.1 | exact skT_le (by omega))) (by omega)) (by omega)) (show (up2 (up2 (up2 (up2 (up2 (up2 (up2 (up2 (up2 (up2 (up2 mi 87 4 (nI (wdT B n i0))) 87 7 (nI (c + 1))) 87 4 (nI e1)) (112 + P.2.1) 0 (nI v1)) 87 4 (nI e2)) (112 + P.2.1) 1 (nI v2)) 87 4 (nI e3)) (112 + P.2.1) 2 (nI v3)) 87 4 (nI e4)) (112 + P.2.1) 3 (nI v4)) 90 1 (nI (P.2.1 + 1))) 87 5 = nI 0 by rw [up2_row (by omega), up2_row (by omega), up2_n (by omega), up2_row (by omega), up2_n (by omega), up2_row (by omega), up2_n (by omega), up2_row (by omega), up2_n (by omega), up2_n (by omega), up2_n (by omega)]; exact hS.2.1) (nI 59) hs) rfl rfl (by decide) (Nat.le_of_ble_eq_true rfl) ?_
                                exact X_vret dX12_clause_395 rfl ⟨rfl, rfl, by rw [show clR B n i0 c P = .error (1, skT B n e4) from by simp only [clR, hW, rdNu, rdGu, hN1, hN2, hN3, hN4, sgR, hs, if_false]; exact if_neg (by omega)]; exact ⟨(show (up2 (up2 (up2 (up2 (up2 (up2 (up2 (up2 (up2 (up2 (up2 (up2 (up2 (up2 mi 87 4 (nI (wdT B n i0))) 87 7 (nI (c + 1))) 87 4 (nI e1)) (112 + P.2.1) 0 (nI v1)) 87 4 (nI e2)) (112 + P.2.1) 1 (nI v2)) 87 4 (nI e3)) (112 + P.2.1) 2 (nI v3)) 87 4 (nI e4)) (112 + P.2.1) 3 (nI v4)) 90 1 (nI (P.2.1 + 1))) 87 4 (nI (skT B n e4))) 87 5 (nI 1)) 87 6 (nI (skT B n e4))) 87 5 = nI 1 by rw [up2_n (by omega), up2_s]), by omega, by omega, (show (up2 (up2 (up2 (up2 (up2 (up2 (up2 (up2 (up2 (up2 (up2 (up2 (up2 (up2 mi 87 4 (nI (wdT B n i0))) 87 7 (nI (c + 1))) 87 4 (nI e1)) (112 + P.2.1) 0 (nI v1)) 87 4 (nI e2)) (112 + P.2.1) 1 (nI v2)) 87 4 (nI e3)) (112 + P.2.1) 2 (nI v3)) 87 4 (nI e4)) (112 + P.2.1) 3 (nI v4)) 90 1 (nI (P.2.1 + 1))) 87 4 (nI (skT B n e4))) 87 5 (nI 1)) 87 6 (nI (skT B n e4))) 87 6 = nI (skT B n e4) by rw [up2_s]), (frRD_u (frRD_u (frRD_u (frRD_u (frRD_u (frRD_u (frRD_u (frRD_u (frRD_u (frRD_u (frRD_u (frRD_u (frRD_u (frRD_u hS.2.2.2.2.2.1 (by omega)) (by omega)) (by omega)) (by omega)) (by omega)) (by omega)) (by omega)) (by omega)) (by omega)) (by omega)) (by omega)) (by omega)) (by omega)) (by omega)), _, (RTX_u (RTX_u (RTX_at (RTX_u (RTX_u (RTX_at (RTX_u (RTX_at (RTX_u (RTX_at (RTX_u (RTX_at (RTX_u (RTX_at hS.1 (by first | omega | exact wdT_le hS.1.2.1 | exact skT_le (by omega))) (by omega)) (by first | omega | exact wdT_le hS.1.2.1 | exact skT_le (by omega))) (by omega)) (by first | omega | exact wdT_le hS.1.2.1 | exact skT_le (by omega))) (by omega)) (by first | omega | exact wdT_le hS.1.2.1 | exact skT_le (by omega))) (by omega)) (by first | omega | exact wdT_le hS.1.2.1 | exact skT_le (by omega))) (by omega)) (by omega)) (by first | omega | exact wdT_le hS.1.2.1 | exact skT_le (by omega))) (by omega)) (by omega))⟩, rfl⟩
                · exact absurd h_9 (by omega)
              · refine X_aload_n dX12_clause_160 rfl ?_
                refine X_iconst (v := nI 3) dX12_clause_161 (by decide) ?_
                refine X_aload_n dX12_clause_162 rfl ?_
                refine X_geti dX12_clause_163 fkX12_167 rfl (k_87 hSh) ?_
                rw [hS.1.2.2.2.2]
                refine X_callVV dX12_clause_166 mkX12_187 (k_87 hSh) (c_wrong0 Γ g mi ml hSh hS.2.1 (nI 3) (nI i0)) rfl rfl (by decide) (Nat.le_of_ble_eq_true rfl) ?_
                refine X_aload_n dX12_clause_169 rfl ?_
                refine X_geti dX12_clause_170 fkX12_174 rfl (k_87 hSh) ?_
                refine X_topi (show (up2 (up2 mi 87 5 (nI 3)) 87 6 (nI i0)) 87 5 = nI 3 by rw [up2_n (by omega), up2_s]) ?_
                refine X_if_eqN (a := 3) 177 dX12_clause_173 (by decide) (by omega) (fun h_20 => ?_) (fun h_20 => ?_)
                · exact absurd h_20 (by omega)
                · exact X_vret dX12_clause_176 rfl ⟨rfl, rfl, by rw [show clR B n i0 c P = .error (3, i0) from by unfold clR; rw [hW]; exact if_pos (by omega)]; exact ⟨(show (up2 (up2 mi 87 5 (nI 3)) 87 6 (nI i0)) 87 5 = nI 3 by rw [up2_n (by omega), up2_s]), by omega, by omega, (show (up2 (up2 mi 87 5 (nI 3)) 87 6 (nI i0)) 87 6 = nI i0 by rw [up2_s]), (frRD_u (frRD_u hS.2.2.2.2.2.1 (by omega)) (by omega)), _, (RTX_u (RTX_u hS.1 (by omega)) (by omega))⟩, rfl⟩
          · exact absurd h_6 (by omega)
      · exact absurd h_3 (nI_m1 (by omega))
  · exact absurd h_1 (by omega)
set_option maxRecDepth 100000 in
set_option maxHeartbeats 4000000 in
theorem c_clause2 (Γ : pTG) (g : pGG) (mi : pMI) (ml : pML) (hSh : Sh g) (m0 : pMI) (B : Nat → Int32) (n i0 c : Nat) (P : PD) (hS : RPS m0 mi B n i0 c P) (hsk : skT B n i0 = i0) (hc : c ≤ 60) (hW : wIx 0 B n i0 = some 2) : rV Γ 6 mX12_clause [.ref 87] g mi ml (fun m l => RRS m0 B n c (clR B n i0 c P) m ∧ l = ml) := by
  refine rV_of (by decide +kernel) (Nat.le_of_ble_eq_true rfl) ?_
  have hP := hS.2.2.2.2.1
  have hP8 := hP.1
  have hG8 := hP.2.1
  have hn6 := hS.1.1
  have hin := hS.1.2.1
  refine X_aload_n dX12_clause_0 rfl ?_
  refine X_iconst (v := nI 3) dX12_clause_1 (by decide) ?_
  refine X_bipush (v := nI 8) dX12_clause_2 (by decide) ?_
  refine X_iconst (v := nI 1) dX12_clause_4 (by decide) ?_
  refine X_bipush (v := nI 9) dX12_clause_5 (by decide) ?_
  refine X_bipush (v := nI 18) dX12_clause_7 (by decide) ?_
  refine X_iconst (v := nI 0) dX12_clause_9 (by decide) ?_
  refine X_callVI dX12_clause_10 mkX12_207 (k_87 hSh) (c_isW0 Γ g mi ml hSh B n i0 hS.1 hsk hS.2.1 3 8 1 9 18 0 (by decide) (by decide) (by decide) (by decide) (fun q => by have h9 := wq_0_0.mp q; rw [hW] at h9; cases h9)) rfl rfl (by decide) (Nat.le_of_ble_eq_true rfl) ?_
  refine X_if_eqN (a := 0) 20 dX12_clause_13 (by decide) (by omega) (fun h_1 => ?_) (fun h_1 => ?_)
  · refine X_aload_n dX12_clause_20 rfl ?_
    refine X_bipush (v := nI 7) dX12_clause_21 (by decide) ?_
    refine X_bipush (v := nI 21) dX12_clause_23 (by decide) ?_
    refine X_iconst (v := nI 5) dX12_clause_25 (by decide) ?_
    refine X_bipush (v := nI 19) dX12_clause_26 (by decide) ?_
    refine X_bipush (v := nI 20) dX12_clause_28 (by decide) ?_
    refine X_iconst (v := nI 0) dX12_clause_30 (by decide) ?_
    refine X_callVI dX12_clause_31 mkX12_207 (k_87 hSh) (c_isW0 Γ g mi ml hSh B n i0 hS.1 hsk hS.2.1 7 21 5 19 20 0 (by decide) (by decide) (by decide) (by decide) (fun q => by have h9 := wq_0_1.mp q; rw [hW] at h9; cases h9)) rfl rfl (by decide) (Nat.le_of_ble_eq_true rfl) ?_
    refine X_if_eqN (a := 0) 41 dX12_clause_34 (by decide) (by omega) (fun h_2 => ?_) (fun h_2 => ?_)
    · refine X_aload_n dX12_clause_41 rfl ?_
      refine X_bipush (v := nI 7) dX12_clause_42 (by decide) ?_
      refine X_bipush (v := nI 15) dX12_clause_44 (by decide) ?_
      refine X_iconst (v := nI 5) dX12_clause_46 (by decide) ?_
      refine X_bipush (v := nI 19) dX12_clause_47 (by decide) ?_
      refine X_iconst (v := nI 0) dX12_clause_49 (by decide) ?_
      refine X_iconst (v := nI 0) dX12_clause_50 (by decide) ?_
      refine X_callVI dX12_clause_51 mkX12_207 (k_87 hSh) (c_isW1 Γ g mi ml hSh B n i0 hS.1 hsk hS.2.1 7 15 5 19 0 0 (by decide) (by decide) (by decide) (by decide) (wq_0_2.mpr hW)) rfl rfl (by decide) (Nat.le_of_ble_eq_true rfl) ?_
      refine X_if_eqN (a := 1) 61 dX12_clause_54 (by decide) (by omega) (fun h_3 => ?_) (fun h_3 => ?_)
      · exact absurd h_3 (by omega)
      · refine X_iconst (v := nI 2) dX12_clause_57 (by decide) ?_
        refine X_goto 102 dX12_clause_58 (by decide) ?_
        refine X_istore_n dX12_clause_102 (by decide) ?_
        refine X_iload_n dX12_clause_103 rfl ?_
        refine X_iconst (v := -1) dX12_clause_104 (by decide) ?_
        refine X_icmp_ne 120 dX12_clause_105 (by decide) (fun h_4 => ?_) (fun h_4 => ?_)
        · refine X_aload_n dX12_clause_120 rfl ?_
          refine X_geti dX12_clause_121 fkX12_214 rfl (k_87 hSh) ?_
          rw [hS.2.2.1]
          refine X_bipush (v := nI 60) dX12_clause_124 (by decide) ?_
          refine X_icmp_eqN (a := c) (b := 60) 160 dX12_clause_126 (by decide) (by omega) (by omega) (fun h_5 => ?_) (fun h_5 => ?_)
          · refine X_aload_n dX12_clause_160 rfl ?_
            refine X_iconst (v := nI 3) dX12_clause_161 (by decide) ?_
            refine X_aload_n dX12_clause_162 rfl ?_
            refine X_geti dX12_clause_163 fkX12_167 rfl (k_87 hSh) ?_
            rw [hS.1.2.2.2.2]
            refine X_callVV dX12_clause_166 mkX12_187 (k_87 hSh) (c_wrong0 Γ g mi ml hSh hS.2.1 (nI 3) (nI i0)) rfl rfl (by decide) (Nat.le_of_ble_eq_true rfl) ?_
            refine X_aload_n dX12_clause_169 rfl ?_
            refine X_geti dX12_clause_170 fkX12_174 rfl (k_87 hSh) ?_
            refine X_topi (show (up2 (up2 mi 87 5 (nI 3)) 87 6 (nI i0)) 87 5 = nI 3 by rw [up2_n (by omega), up2_s]) ?_
            refine X_if_eqN (a := 3) 177 dX12_clause_173 (by decide) (by omega) (fun h_6 => ?_) (fun h_6 => ?_)
            · exact absurd h_6 (by omega)
            · exact X_vret dX12_clause_176 rfl ⟨rfl, rfl, by rw [show clR B n i0 c P = .error (3, i0) from by unfold clR; rw [hW]; exact if_pos (by omega)]; exact ⟨(show (up2 (up2 mi 87 5 (nI 3)) 87 6 (nI i0)) 87 5 = nI 3 by rw [up2_n (by omega), up2_s]), by omega, by omega, (show (up2 (up2 mi 87 5 (nI 3)) 87 6 (nI i0)) 87 6 = nI i0 by rw [up2_s]), (frRD_u (frRD_u hS.2.2.2.2.2.1 (by omega)) (by omega)), _, (RTX_u (RTX_u hS.1 (by omega)) (by omega))⟩, rfl⟩
          · refine X_iload_n dX12_clause_129 rfl ?_
            refine X_if_neN (a := 2) 144 dX12_clause_130 (by decide) (by omega) (fun h_7 => ?_) (fun h_7 => ?_)
            · refine X_iload_n dX12_clause_144 rfl ?_
              refine X_iconst (v := nI 1) dX12_clause_145 (by decide) ?_
              refine X_icmp_neN (a := 2) (b := 1) 169 dX12_clause_146 (by decide) (by omega) (by omega) (fun h_8 => ?_) (fun h_8 => ?_)
              · refine X_aload_n dX12_clause_169 rfl ?_
                refine X_geti dX12_clause_170 fkX12_174 rfl (k_87 hSh) ?_
                rw [hS.2.1]
                refine X_if_eqN (a := 0) 177 dX12_clause_173 (by decide) (by omega) (fun h_9 => ?_) (fun h_9 => ?_)
                · refine X_aload_n dX12_clause_177 rfl ?_
                  refine X_callVV dX12_clause_178 mkX12_211 (k_87 hSh) (c_skipWord Γ g mi ml hSh B n i0 hS.1) rfl rfl (by decide) (Nat.le_of_ble_eq_true rfl) ?_
                  refine X_aload_n dX12_clause_181 rfl ?_
                  refine X_dup dX12_clause_182 rfl ?_
                  refine X_geti dX12_clause_183 fkX12_214 rfl (k_87 hSh) ?_
                  refine X_topi (show (up2 mi 87 4 (nI (wdT B n i0))) 87 7 = nI c by rw [up2_n (by omega)]; exact hS.2.2.1) ?_
                  refine X_iconst (v := nI 1) dX12_clause_186 (by decide) ?_
                  refine X_iadd dX12_clause_187 ?_
                  refine X_topi (nI_add c 1) ?_
                  refine X_puti dX12_clause_188 fkX12_214 rfl rfl (k_87 hSh) ?_
                  refine X_iload_n dX12_clause_191 rfl ?_
                  refine X_tableIn 318 dX12_clause_192 (by decide) (by decide) rfl (by decide) ?_
                  refine X_aload_n dX12_clause_318 rfl ?_
                  refine X_getr (a := 90) dX12_clause_319 fkX12_20 rfl (k_87 hSh) (r_87_11 hSh) ?_
                  refine X_iconst (v := nI 2) dX12_clause_322 (by decide) ?_
                  refine X_aload_n dX12_clause_323 rfl ?_
                  refine X_iconst (v := nI 0) dX12_clause_324 (by decide) ?_
                  refine X_bipush (v := nI 23) dX12_clause_325 (by decide) ?_
                  match hN1 : numR B n (wdT B n i0) 0 24 with
                  | .error (k1, p1) =>
                    obtain ⟨hka1, hkb1⟩ := numR_k hN1
                    obtain ⟨q1, hq1, hC1⟩ := c_rnumE Γ g (up2 (up2 mi 87 4 (nI (wdT B n i0))) 87 7 (nI (c + 1))) ml hSh B n (wdT B n i0) (RTX_u (RTX_at hS.1 (by first | omega | exact wdT_le hS.1.2.1 | exact skT_le (by omega))) (by omega)) (show (up2 (up2 mi 87 4 (nI (wdT B n i0))) 87 7 (nI (c + 1))) 87 5 = nI 0 by rw [up2_n (by omega), up2_n (by omega)]; exact hS.2.1) 0 24 (nI 23) (by omega) (by omega) (hH_of (by omega)) hN1
                    refine X_callVI dX12_clause_327 mkX12_220 (k_87 hSh) (hC1) rfl rfl (by decide) (Nat.le_of_ble_eq_true rfl) ?_
                    refine X_iast 2 dX12_clause_330 (k_90 hSh) rfl (by omega) ?_
                    refine X_goto 363 dX12_clause_331 (by decide) ?_
                    refine X_iload_n dX12_clause_363 rfl ?_
                    refine X_iconst (v := nI 2) dX12_clause_364 (by decide) ?_
                    refine X_icmp_geN (a := 2) (b := 2) 389 dX12_clause_365 (by decide) (by omega) (by omega) (fun h_10 => ?_) (fun h_10 => ?_)
                    · refine X_aload_n dX12_clause_389 rfl ?_
                      refine X_bipush (v := nI 59) dX12_clause_390 (by decide) ?_
                      refine X_callVV dX12_clause_392 mkX12_224 (k_87 hSh) (c_signF Γ g (up2 (up2 (up2 (up2 (up2 (up2 mi 87 4 (nI (wdT B n i0))) 87 7 (nI (c + 1))) 87 4 (nI q1)) 87 5 (nI k1)) 87 6 (nI p1)) 90 2 (nI 0)) ml hSh (by rw [(show (up2 (up2 (up2 (up2 (up2 (up2 mi 87 4 (nI (wdT B n i0))) 87 7 (nI (c + 1))) 87 4 (nI q1)) 87 5 (nI k1)) 87 6 (nI p1)) 90 2 (nI 0)) 87 5 = nI k1 by rw [up2_row (by omega), up2_n (by omega), up2_s])]; exact nI_ne0 (by omega) (by omega)) (nI 59)) rfl rfl (by decide) (Nat.le_of_ble_eq_true rfl) ?_
                      exact X_vret dX12_clause_395 rfl ⟨rfl, rfl, by rw [show clR B n i0 c P = .error (k1, p1) from by simp only [clR, hW, rdNu, rd1, hN1]; exact if_neg (by omega)]; exact ⟨(show (up2 (up2 (up2 (up2 (up2 (up2 mi 87 4 (nI (wdT B n i0))) 87 7 (nI (c + 1))) 87 4 (nI q1)) 87 5 (nI k1)) 87 6 (nI p1)) 90 2 (nI 0)) 87 5 = nI k1 by rw [up2_row (by omega), up2_n (by omega), up2_s]), by omega, by omega, (show (up2 (up2 (up2 (up2 (up2 (up2 mi 87 4 (nI (wdT B n i0))) 87 7 (nI (c + 1))) 87 4 (nI q1)) 87 5 (nI k1)) 87 6 (nI p1)) 90 2 (nI 0)) 87 6 = nI p1 by rw [up2_row (by omega), up2_s]), (frRD_u (frRD_u (frRD_u (frRD_u (frRD_u (frRD_u hS.2.2.2.2.2.1 (by omega)) (by omega)) (by omega)) (by omega)) (by omega)) (by omega)), _, (RTX_u (RTX_u (RTX_u (RTX_at (RTX_u (RTX_at hS.1 (by first | omega | exact wdT_le hS.1.2.1 | exact skT_le (by omega))) (by omega)) (by first | omega | exact wdT_le hS.1.2.1 | exact skT_le (by omega))) (by omega)) (by omega)) (by omega))⟩, rfl⟩
                    · exact absurd h_10 (by omega)
                  | .ok (v1, e1) =>
                    obtain ⟨he1, hi1, hl1, hv1⟩ := numR_o (by first | omega | exact wdT_le hS.1.2.1) hN1
                    refine X_callVI dX12_clause_327 mkX12_220 (k_87 hSh) (c_rnumOK Γ g (up2 (up2 mi 87 4 (nI (wdT B n i0))) 87 7 (nI (c + 1))) ml hSh B n (wdT B n i0) (RTX_u (RTX_at hS.1 (by first | omega | exact wdT_le hS.1.2.1 | exact skT_le (by omega))) (by omega)) (show (up2 (up2 mi 87 4 (nI (wdT B n i0))) 87 7 (nI (c + 1))) 87 5 = nI 0 by rw [up2_n (by omega), up2_n (by omega)]; exact hS.2.1) 0 24 (nI 23) (by omega) (by omega) (hH_of (by omega)) hN1) rfl rfl (by decide) (Nat.le_of_ble_eq_true rfl) ?_
                    refine X_iast 2 dX12_clause_330 (k_90 hSh) rfl (by omega) ?_
                    refine X_goto 363 dX12_clause_331 (by decide) ?_
                    refine X_iload_n dX12_clause_363 rfl ?_
                    refine X_iconst (v := nI 2) dX12_clause_364 (by decide) ?_
                    refine X_icmp_geN (a := 2) (b := 2) 389 dX12_clause_365 (by decide) (by omega) (by omega) (fun h_11 => ?_) (fun h_11 => ?_)
                    · refine X_aload_n dX12_clause_389 rfl ?_
                      refine X_bipush (v := nI 59) dX12_clause_390 (by decide) ?_
                      by_cases hs : byT B n (skT B n e1) = nI 59
                      ·
                        refine X_callVV dX12_clause_392 mkX12_224 (k_87 hSh) (c_sign1 Γ g (up2 (up2 (up2 (up2 mi 87 4 (nI (wdT B n i0))) 87 7 (nI (c + 1))) 87 4 (nI e1)) 90 2 (nI v1)) ml hSh B n e1 (RTX_u (RTX_at (RTX_u (RTX_at hS.1 (by first | omega | exact wdT_le hS.1.2.1 | exact skT_le (by omega))) (by omega)) (by first | omega | exact wdT_le hS.1.2.1 | exact skT_le (by omega))) (by omega)) (show (up2 (up2 (up2 (up2 mi 87 4 (nI (wdT B n i0))) 87 7 (nI (c + 1))) 87 4 (nI e1)) 90 2 (nI v1)) 87 5 = nI 0 by rw [up2_row (by omega), up2_n (by omega), up2_n (by omega), up2_n (by omega)]; exact hS.2.1) (nI 59) hs) rfl rfl (by decide) (Nat.le_of_ble_eq_true rfl) ?_
                        exact X_vret dX12_clause_395 rfl ⟨rfl, rfl, by rw [show clR B n i0 c P = .ok (skT B n e1 + 1, seGo P v1) from by simp only [clR, hW, rdNu, rd1, hN1, sgR, hs, if_true]; exact if_neg (by omega)]; exact ⟨(RTX_at (RTX_u (RTX_at (RTX_u (RTX_at hS.1 (by first | omega | exact wdT_le hS.1.2.1 | exact skT_le (by omega))) (by omega)) (by first | omega | exact wdT_le hS.1.2.1 | exact skT_le (by omega))) (by omega)) (by_lt hs)), (show (up2 (up2 (up2 (up2 (up2 mi 87 4 (nI (wdT B n i0))) 87 7 (nI (c + 1))) 87 4 (nI e1)) 90 2 (nI v1)) 87 4 (nI (skT B n e1 + 1))) 87 5 = nI 0 by rw [up2_n (by omega), up2_row (by omega), up2_n (by omega), up2_n (by omega), up2_n (by omega)]; exact hS.2.1), (show (up2 (up2 (up2 (up2 (up2 mi 87 4 (nI (wdT B n i0))) 87 7 (nI (c + 1))) 87 4 (nI e1)) 90 2 (nI v1)) 87 4 (nI (skT B n e1 + 1))) 87 7 = nI (c + 1) by rw [up2_n (by omega), up2_row (by omega), up2_n (by omega), up2_s]), rdP_f (k := 2) hS.2.2.2.1 (Or.inl ⟨rfl, rfl⟩) hP8 (fun i hi => by funext j; simp [up2, hi]), ⟨hP.1, hP.2.1, hv1, hP.2.2.2⟩, (frRD_u (frRD_u (frRD_u (frRD_u (frRD_u hS.2.2.2.2.2.1 (by omega)) (by omega)) (by omega)) (by omega)) (by omega)), (show (up2 (up2 (up2 (up2 (up2 mi 87 4 (nI (wdT B n i0))) 87 7 (nI (c + 1))) 87 4 (nI e1)) 90 2 (nI v1)) 87 4 (nI (skT B n e1 + 1))) 87 6 = m0 87 6 by rw [up2_n (by omega), up2_row (by omega), up2_n (by omega), up2_n (by omega), up2_n (by omega)]; exact hS.2.2.2.2.2.2)⟩, rfl⟩
                      ·
                        refine X_callVV dX12_clause_392 mkX12_224 (k_87 hSh) (c_sign0 Γ g (up2 (up2 (up2 (up2 mi 87 4 (nI (wdT B n i0))) 87 7 (nI (c + 1))) 87 4 (nI e1)) 90 2 (nI v1)) ml hSh B n e1 (RTX_u (RTX_at (RTX_u (RTX_at hS.1 (by first | omega | exact wdT_le hS.1.2.1 | exact skT_le (by omega))) (by omega)) (by first | omega | exact wdT_le hS.1.2.1 | exact skT_le (by omega))) (by omega)) (show (up2 (up2 (up2 (up2 mi 87 4 (nI (wdT B n i0))) 87 7 (nI (c + 1))) 87 4 (nI e1)) 90 2 (nI v1)) 87 5 = nI 0 by rw [up2_row (by omega), up2_n (by omega), up2_n (by omega), up2_n (by omega)]; exact hS.2.1) (nI 59) hs) rfl rfl (by decide) (Nat.le_of_ble_eq_true rfl) ?_
                        exact X_vret dX12_clause_395 rfl ⟨rfl, rfl, by rw [show clR B n i0 c P = .error (1, skT B n e1) from by simp only [clR, hW, rdNu, rd1, hN1, sgR, hs, if_false]; exact if_neg (by omega)]; exact ⟨(show (up2 (up2 (up2 (up2 (up2 (up2 (up2 mi 87 4 (nI (wdT B n i0))) 87 7 (nI (c + 1))) 87 4 (nI e1)) 90 2 (nI v1)) 87 4 (nI (skT B n e1))) 87 5 (nI 1)) 87 6 (nI (skT B n e1))) 87 5 = nI 1 by rw [up2_n (by omega), up2_s]), by omega, by omega, (show (up2 (up2 (up2 (up2 (up2 (up2 (up2 mi 87 4 (nI (wdT B n i0))) 87 7 (nI (c + 1))) 87 4 (nI e1)) 90 2 (nI v1)) 87 4 (nI (skT B n e1))) 87 5 (nI 1)) 87 6 (nI (skT B n e1))) 87 6 = nI (skT B n e1) by rw [up2_s]), (frRD_u (frRD_u (frRD_u (frRD_u (frRD_u (frRD_u (frRD_u hS.2.2.2.2.2.1 (by omega)) (by omega)) (by omega)) (by omega)) (by omega)) (by omega)) (by omega)), _, (RTX_u (RTX_u (RTX_at (RTX_u (RTX_at (RTX_u (RTX_at hS.1 (by first | omega | exact wdT_le hS.1.2.1 | exact skT_le (by omega))) (by omega)) (by first | omega | exact wdT_le hS.1.2.1 | exact skT_le (by omega))) (by omega)) (by first | omega | exact wdT_le hS.1.2.1 | exact skT_le (by omega))) (by omega)) (by omega))⟩, rfl⟩
                    · exact absurd h_11 (by omega)
                · exact absurd h_9 (by omega)
              · exact absurd h_8 (by omega)
            · exact absurd h_7 (by omega)
        · exact absurd h_4 (nI_m1 (by omega))
    · exact absurd h_2 (by omega)
  · exact absurd h_1 (by omega)
set_option maxRecDepth 100000 in
set_option maxHeartbeats 4000000 in
theorem c_clause3 (Γ : pTG) (g : pGG) (mi : pMI) (ml : pML) (hSh : Sh g) (m0 : pMI) (B : Nat → Int32) (n i0 c : Nat) (P : PD) (hS : RPS m0 mi B n i0 c P) (hsk : skT B n i0 = i0) (hc : c ≤ 60) (hW : wIx 0 B n i0 = some 3) : rV Γ 6 mX12_clause [.ref 87] g mi ml (fun m l => RRS m0 B n c (clR B n i0 c P) m ∧ l = ml) := by
  refine rV_of (by decide +kernel) (Nat.le_of_ble_eq_true rfl) ?_
  have hP := hS.2.2.2.2.1
  have hP8 := hP.1
  have hG8 := hP.2.1
  have hn6 := hS.1.1
  have hin := hS.1.2.1
  refine X_aload_n dX12_clause_0 rfl ?_
  refine X_iconst (v := nI 3) dX12_clause_1 (by decide) ?_
  refine X_bipush (v := nI 8) dX12_clause_2 (by decide) ?_
  refine X_iconst (v := nI 1) dX12_clause_4 (by decide) ?_
  refine X_bipush (v := nI 9) dX12_clause_5 (by decide) ?_
  refine X_bipush (v := nI 18) dX12_clause_7 (by decide) ?_
  refine X_iconst (v := nI 0) dX12_clause_9 (by decide) ?_
  refine X_callVI dX12_clause_10 mkX12_207 (k_87 hSh) (c_isW0 Γ g mi ml hSh B n i0 hS.1 hsk hS.2.1 3 8 1 9 18 0 (by decide) (by decide) (by decide) (by decide) (fun q => by have h9 := wq_0_0.mp q; rw [hW] at h9; cases h9)) rfl rfl (by decide) (Nat.le_of_ble_eq_true rfl) ?_
  refine X_if_eqN (a := 0) 20 dX12_clause_13 (by decide) (by omega) (fun h_1 => ?_) (fun h_1 => ?_)
  · refine X_aload_n dX12_clause_20 rfl ?_
    refine X_bipush (v := nI 7) dX12_clause_21 (by decide) ?_
    refine X_bipush (v := nI 21) dX12_clause_23 (by decide) ?_
    refine X_iconst (v := nI 5) dX12_clause_25 (by decide) ?_
    refine X_bipush (v := nI 19) dX12_clause_26 (by decide) ?_
    refine X_bipush (v := nI 20) dX12_clause_28 (by decide) ?_
    refine X_iconst (v := nI 0) dX12_clause_30 (by decide) ?_
    refine X_callVI dX12_clause_31 mkX12_207 (k_87 hSh) (c_isW0 Γ g mi ml hSh B n i0 hS.1 hsk hS.2.1 7 21 5 19 20 0 (by decide) (by decide) (by decide) (by decide) (fun q => by have h9 := wq_0_1.mp q; rw [hW] at h9; cases h9)) rfl rfl (by decide) (Nat.le_of_ble_eq_true rfl) ?_
    refine X_if_eqN (a := 0) 41 dX12_clause_34 (by decide) (by omega) (fun h_2 => ?_) (fun h_2 => ?_)
    · refine X_aload_n dX12_clause_41 rfl ?_
      refine X_bipush (v := nI 7) dX12_clause_42 (by decide) ?_
      refine X_bipush (v := nI 15) dX12_clause_44 (by decide) ?_
      refine X_iconst (v := nI 5) dX12_clause_46 (by decide) ?_
      refine X_bipush (v := nI 19) dX12_clause_47 (by decide) ?_
      refine X_iconst (v := nI 0) dX12_clause_49 (by decide) ?_
      refine X_iconst (v := nI 0) dX12_clause_50 (by decide) ?_
      refine X_callVI dX12_clause_51 mkX12_207 (k_87 hSh) (c_isW0 Γ g mi ml hSh B n i0 hS.1 hsk hS.2.1 7 15 5 19 0 0 (by decide) (by decide) (by decide) (by decide) (fun q => by have h9 := wq_0_2.mp q; rw [hW] at h9; cases h9)) rfl rfl (by decide) (Nat.le_of_ble_eq_true rfl) ?_
      refine X_if_eqN (a := 0) 61 dX12_clause_54 (by decide) (by omega) (fun h_3 => ?_) (fun h_3 => ?_)
      · refine X_aload_n dX12_clause_61 rfl ?_
        refine X_bipush (v := nI 15) dX12_clause_62 (by decide) ?_
        refine X_bipush (v := nI 6) dX12_clause_64 (by decide) ?_
        refine X_bipush (v := nI 6) dX12_clause_66 (by decide) ?_
        refine X_iconst (v := nI 0) dX12_clause_68 (by decide) ?_
        refine X_iconst (v := nI 0) dX12_clause_69 (by decide) ?_
        refine X_iconst (v := nI 0) dX12_clause_70 (by decide) ?_
        refine X_callVI dX12_clause_71 mkX12_207 (k_87 hSh) (c_isW1 Γ g mi ml hSh B n i0 hS.1 hsk hS.2.1 15 6 6 0 0 0 (by decide) (by decide) (by decide) (by decide) (wq_0_3.mpr hW)) rfl rfl (by decide) (Nat.le_of_ble_eq_true rfl) ?_
        refine X_if_eqN (a := 1) 81 dX12_clause_74 (by decide) (by omega) (fun h_4 => ?_) (fun h_4 => ?_)
        · exact absurd h_4 (by omega)
        · refine X_iconst (v := nI 3) dX12_clause_77 (by decide) ?_
          refine X_goto 102 dX12_clause_78 (by decide) ?_
          refine X_istore_n dX12_clause_102 (by decide) ?_
          refine X_iload_n dX12_clause_103 rfl ?_
          refine X_iconst (v := -1) dX12_clause_104 (by decide) ?_
          refine X_icmp_ne 120 dX12_clause_105 (by decide) (fun h_5 => ?_) (fun h_5 => ?_)
          · refine X_aload_n dX12_clause_120 rfl ?_
            refine X_geti dX12_clause_121 fkX12_214 rfl (k_87 hSh) ?_
            rw [hS.2.2.1]
            refine X_bipush (v := nI 60) dX12_clause_124 (by decide) ?_
            refine X_icmp_eqN (a := c) (b := 60) 160 dX12_clause_126 (by decide) (by omega) (by omega) (fun h_6 => ?_) (fun h_6 => ?_)
            · refine X_aload_n dX12_clause_160 rfl ?_
              refine X_iconst (v := nI 3) dX12_clause_161 (by decide) ?_
              refine X_aload_n dX12_clause_162 rfl ?_
              refine X_geti dX12_clause_163 fkX12_167 rfl (k_87 hSh) ?_
              rw [hS.1.2.2.2.2]
              refine X_callVV dX12_clause_166 mkX12_187 (k_87 hSh) (c_wrong0 Γ g mi ml hSh hS.2.1 (nI 3) (nI i0)) rfl rfl (by decide) (Nat.le_of_ble_eq_true rfl) ?_
              refine X_aload_n dX12_clause_169 rfl ?_
              refine X_geti dX12_clause_170 fkX12_174 rfl (k_87 hSh) ?_
              refine X_topi (show (up2 (up2 mi 87 5 (nI 3)) 87 6 (nI i0)) 87 5 = nI 3 by rw [up2_n (by omega), up2_s]) ?_
              refine X_if_eqN (a := 3) 177 dX12_clause_173 (by decide) (by omega) (fun h_7 => ?_) (fun h_7 => ?_)
              · exact absurd h_7 (by omega)
              · exact X_vret dX12_clause_176 rfl ⟨rfl, rfl, by rw [show clR B n i0 c P = .error (3, i0) from by unfold clR; rw [hW]; exact if_pos (by omega)]; exact ⟨(show (up2 (up2 mi 87 5 (nI 3)) 87 6 (nI i0)) 87 5 = nI 3 by rw [up2_n (by omega), up2_s]), by omega, by omega, (show (up2 (up2 mi 87 5 (nI 3)) 87 6 (nI i0)) 87 6 = nI i0 by rw [up2_s]), (frRD_u (frRD_u hS.2.2.2.2.2.1 (by omega)) (by omega)), _, (RTX_u (RTX_u hS.1 (by omega)) (by omega))⟩, rfl⟩
            · refine X_iload_n dX12_clause_129 rfl ?_
              refine X_if_neN (a := 3) 144 dX12_clause_130 (by decide) (by omega) (fun h_8 => ?_) (fun h_8 => ?_)
              · refine X_iload_n dX12_clause_144 rfl ?_
                refine X_iconst (v := nI 1) dX12_clause_145 (by decide) ?_
                refine X_icmp_neN (a := 3) (b := 1) 169 dX12_clause_146 (by decide) (by omega) (by omega) (fun h_9 => ?_) (fun h_9 => ?_)
                · refine X_aload_n dX12_clause_169 rfl ?_
                  refine X_geti dX12_clause_170 fkX12_174 rfl (k_87 hSh) ?_
                  rw [hS.2.1]
                  refine X_if_eqN (a := 0) 177 dX12_clause_173 (by decide) (by omega) (fun h_10 => ?_) (fun h_10 => ?_)
                  · refine X_aload_n dX12_clause_177 rfl ?_
                    refine X_callVV dX12_clause_178 mkX12_211 (k_87 hSh) (c_skipWord Γ g mi ml hSh B n i0 hS.1) rfl rfl (by decide) (Nat.le_of_ble_eq_true rfl) ?_
                    refine X_aload_n dX12_clause_181 rfl ?_
                    refine X_dup dX12_clause_182 rfl ?_
                    refine X_geti dX12_clause_183 fkX12_214 rfl (k_87 hSh) ?_
                    refine X_topi (show (up2 mi 87 4 (nI (wdT B n i0))) 87 7 = nI c by rw [up2_n (by omega)]; exact hS.2.2.1) ?_
                    refine X_iconst (v := nI 1) dX12_clause_186 (by decide) ?_
                    refine X_iadd dX12_clause_187 ?_
                    refine X_topi (nI_add c 1) ?_
                    refine X_puti dX12_clause_188 fkX12_214 rfl rfl (k_87 hSh) ?_
                    refine X_iload_n dX12_clause_191 rfl ?_
                    refine X_tableIn 334 dX12_clause_192 (by decide) (by decide) rfl (by decide) ?_
                    refine X_aload_n dX12_clause_334 rfl ?_
                    refine X_getr (a := 90) dX12_clause_335 fkX12_20 rfl (k_87 hSh) (r_87_11 hSh) ?_
                    refine X_iconst (v := nI 3) dX12_clause_338 (by decide) ?_
                    refine X_aload_n dX12_clause_339 rfl ?_
                    refine X_iconst (v := nI 1) dX12_clause_340 (by decide) ?_
                    refine X_bipush (v := nI 23) dX12_clause_341 (by decide) ?_
                    match hN1 : numR B n (wdT B n i0) 1 24 with
                    | .error (k1, p1) =>
                      obtain ⟨hka1, hkb1⟩ := numR_k hN1
                      obtain ⟨q1, hq1, hC1⟩ := c_rnumE Γ g (up2 (up2 mi 87 4 (nI (wdT B n i0))) 87 7 (nI (c + 1))) ml hSh B n (wdT B n i0) (RTX_u (RTX_at hS.1 (by first | omega | exact wdT_le hS.1.2.1 | exact skT_le (by omega))) (by omega)) (show (up2 (up2 mi 87 4 (nI (wdT B n i0))) 87 7 (nI (c + 1))) 87 5 = nI 0 by rw [up2_n (by omega), up2_n (by omega)]; exact hS.2.1) 1 24 (nI 23) (by omega) (by omega) (hH_of (by omega)) hN1
                      refine X_callVI dX12_clause_343 mkX12_220 (k_87 hSh) (hC1) rfl rfl (by decide) (Nat.le_of_ble_eq_true rfl) ?_
                      refine X_iast 3 dX12_clause_346 (k_90 hSh) rfl (by omega) ?_
                      refine X_goto 363 dX12_clause_347 (by decide) ?_
                      refine X_iload_n dX12_clause_363 rfl ?_
                      refine X_iconst (v := nI 2) dX12_clause_364 (by decide) ?_
                      refine X_icmp_geN (a := 3) (b := 2) 389 dX12_clause_365 (by decide) (by omega) (by omega) (fun h_11 => ?_) (fun h_11 => ?_)
                      · refine X_aload_n dX12_clause_389 rfl ?_
                        refine X_bipush (v := nI 59) dX12_clause_390 (by decide) ?_
                        refine X_callVV dX12_clause_392 mkX12_224 (k_87 hSh) (c_signF Γ g (up2 (up2 (up2 (up2 (up2 (up2 mi 87 4 (nI (wdT B n i0))) 87 7 (nI (c + 1))) 87 4 (nI q1)) 87 5 (nI k1)) 87 6 (nI p1)) 90 3 (nI 0)) ml hSh (by rw [(show (up2 (up2 (up2 (up2 (up2 (up2 mi 87 4 (nI (wdT B n i0))) 87 7 (nI (c + 1))) 87 4 (nI q1)) 87 5 (nI k1)) 87 6 (nI p1)) 90 3 (nI 0)) 87 5 = nI k1 by rw [up2_row (by omega), up2_n (by omega), up2_s])]; exact nI_ne0 (by omega) (by omega)) (nI 59)) rfl rfl (by decide) (Nat.le_of_ble_eq_true rfl) ?_
                        exact X_vret dX12_clause_395 rfl ⟨rfl, rfl, by rw [show clR B n i0 c P = .error (k1, p1) from by simp only [clR, hW, rdNu, rd1, hN1]; exact if_neg (by omega)]; exact ⟨(show (up2 (up2 (up2 (up2 (up2 (up2 mi 87 4 (nI (wdT B n i0))) 87 7 (nI (c + 1))) 87 4 (nI q1)) 87 5 (nI k1)) 87 6 (nI p1)) 90 3 (nI 0)) 87 5 = nI k1 by rw [up2_row (by omega), up2_n (by omega), up2_s]), by omega, by omega, (show (up2 (up2 (up2 (up2 (up2 (up2 mi 87 4 (nI (wdT B n i0))) 87 7 (nI (c + 1))) 87 4 (nI q1)) 87 5 (nI k1)) 87 6 (nI p1)) 90 3 (nI 0)) 87 6 = nI p1 by rw [up2_row (by omega), up2_s]), (frRD_u (frRD_u (frRD_u (frRD_u (frRD_u (frRD_u hS.2.2.2.2.2.1 (by omega)) (by omega)) (by omega)) (by omega)) (by omega)) (by omega)), _, (RTX_u (RTX_u (RTX_u (RTX_at (RTX_u (RTX_at hS.1 (by first | omega | exact wdT_le hS.1.2.1 | exact skT_le (by omega))) (by omega)) (by first | omega | exact wdT_le hS.1.2.1 | exact skT_le (by omega))) (by omega)) (by omega)) (by omega))⟩, rfl⟩
                      · exact absurd h_11 (by omega)
                    | .ok (v1, e1) =>
                      obtain ⟨he1, hi1, hl1, hv1⟩ := numR_o (by first | omega | exact wdT_le hS.1.2.1) hN1
                      refine X_callVI dX12_clause_343 mkX12_220 (k_87 hSh) (c_rnumOK Γ g (up2 (up2 mi 87 4 (nI (wdT B n i0))) 87 7 (nI (c + 1))) ml hSh B n (wdT B n i0) (RTX_u (RTX_at hS.1 (by first | omega | exact wdT_le hS.1.2.1 | exact skT_le (by omega))) (by omega)) (show (up2 (up2 mi 87 4 (nI (wdT B n i0))) 87 7 (nI (c + 1))) 87 5 = nI 0 by rw [up2_n (by omega), up2_n (by omega)]; exact hS.2.1) 1 24 (nI 23) (by omega) (by omega) (hH_of (by omega)) hN1) rfl rfl (by decide) (Nat.le_of_ble_eq_true rfl) ?_
                      refine X_iast 3 dX12_clause_346 (k_90 hSh) rfl (by omega) ?_
                      refine X_goto 363 dX12_clause_347 (by decide) ?_
                      refine X_iload_n dX12_clause_363 rfl ?_
                      refine X_iconst (v := nI 2) dX12_clause_364 (by decide) ?_
                      refine X_icmp_geN (a := 3) (b := 2) 389 dX12_clause_365 (by decide) (by omega) (by omega) (fun h_12 => ?_) (fun h_12 => ?_)
                      · refine X_aload_n dX12_clause_389 rfl ?_
                        refine X_bipush (v := nI 59) dX12_clause_390 (by decide) ?_
                        by_cases hs : byT B n (skT B n e1) = nI 59
                        ·
                          refine X_callVV dX12_clause_392 mkX12_224 (k_87 hSh) (c_sign1 Γ g (up2 (up2 (up2 (up2 mi 87 4 (nI (wdT B n i0))) 87 7 (nI (c + 1))) 87 4 (nI e1)) 90 3 (nI v1)) ml hSh B n e1 (RTX_u (RTX_at (RTX_u (RTX_at hS.1 (by first | omega | exact wdT_le hS.1.2.1 | exact skT_le (by omega))) (by omega)) (by first | omega | exact wdT_le hS.1.2.1 | exact skT_le (by omega))) (by omega)) (show (up2 (up2 (up2 (up2 mi 87 4 (nI (wdT B n i0))) 87 7 (nI (c + 1))) 87 4 (nI e1)) 90 3 (nI v1)) 87 5 = nI 0 by rw [up2_row (by omega), up2_n (by omega), up2_n (by omega), up2_n (by omega)]; exact hS.2.1) (nI 59) hs) rfl rfl (by decide) (Nat.le_of_ble_eq_true rfl) ?_
                          exact X_vret dX12_clause_395 rfl ⟨rfl, rfl, by rw [show clR B n i0 c P = .ok (skT B n e1 + 1, seUn P v1) from by simp only [clR, hW, rdNu, rd1, hN1, sgR, hs, if_true]; exact if_neg (by omega)]; exact ⟨(RTX_at (RTX_u (RTX_at (RTX_u (RTX_at hS.1 (by first | omega | exact wdT_le hS.1.2.1 | exact skT_le (by omega))) (by omega)) (by first | omega | exact wdT_le hS.1.2.1 | exact skT_le (by omega))) (by omega)) (by_lt hs)), (show (up2 (up2 (up2 (up2 (up2 mi 87 4 (nI (wdT B n i0))) 87 7 (nI (c + 1))) 87 4 (nI e1)) 90 3 (nI v1)) 87 4 (nI (skT B n e1 + 1))) 87 5 = nI 0 by rw [up2_n (by omega), up2_row (by omega), up2_n (by omega), up2_n (by omega), up2_n (by omega)]; exact hS.2.1), (show (up2 (up2 (up2 (up2 (up2 mi 87 4 (nI (wdT B n i0))) 87 7 (nI (c + 1))) 87 4 (nI e1)) 90 3 (nI v1)) 87 4 (nI (skT B n e1 + 1))) 87 7 = nI (c + 1) by rw [up2_n (by omega), up2_row (by omega), up2_n (by omega), up2_s]), rdP_f (k := 3) hS.2.2.2.1 (Or.inr (Or.inl ⟨rfl, rfl⟩)) hP8 (fun i hi => by funext j; simp [up2, hi]), ⟨hP.1, hP.2.1, hP.2.2.1, hl1, hv1, hP.2.2.2.2.2⟩, (frRD_u (frRD_u (frRD_u (frRD_u (frRD_u hS.2.2.2.2.2.1 (by omega)) (by omega)) (by omega)) (by omega)) (by omega)), (show (up2 (up2 (up2 (up2 (up2 mi 87 4 (nI (wdT B n i0))) 87 7 (nI (c + 1))) 87 4 (nI e1)) 90 3 (nI v1)) 87 4 (nI (skT B n e1 + 1))) 87 6 = m0 87 6 by rw [up2_n (by omega), up2_row (by omega), up2_n (by omega), up2_n (by omega), up2_n (by omega)]; exact hS.2.2.2.2.2.2)⟩, rfl⟩
                        ·
                          refine X_callVV dX12_clause_392 mkX12_224 (k_87 hSh) (c_sign0 Γ g (up2 (up2 (up2 (up2 mi 87 4 (nI (wdT B n i0))) 87 7 (nI (c + 1))) 87 4 (nI e1)) 90 3 (nI v1)) ml hSh B n e1 (RTX_u (RTX_at (RTX_u (RTX_at hS.1 (by first | omega | exact wdT_le hS.1.2.1 | exact skT_le (by omega))) (by omega)) (by first | omega | exact wdT_le hS.1.2.1 | exact skT_le (by omega))) (by omega)) (show (up2 (up2 (up2 (up2 mi 87 4 (nI (wdT B n i0))) 87 7 (nI (c + 1))) 87 4 (nI e1)) 90 3 (nI v1)) 87 5 = nI 0 by rw [up2_row (by omega), up2_n (by omega), up2_n (by omega), up2_n (by omega)]; exact hS.2.1) (nI 59) hs) rfl rfl (by decide) (Nat.le_of_ble_eq_true rfl) ?_
                          exact X_vret dX12_clause_395 rfl ⟨rfl, rfl, by rw [show clR B n i0 c P = .error (1, skT B n e1) from by simp only [clR, hW, rdNu, rd1, hN1, sgR, hs, if_false]; exact if_neg (by omega)]; exact ⟨(show (up2 (up2 (up2 (up2 (up2 (up2 (up2 mi 87 4 (nI (wdT B n i0))) 87 7 (nI (c + 1))) 87 4 (nI e1)) 90 3 (nI v1)) 87 4 (nI (skT B n e1))) 87 5 (nI 1)) 87 6 (nI (skT B n e1))) 87 5 = nI 1 by rw [up2_n (by omega), up2_s]), by omega, by omega, (show (up2 (up2 (up2 (up2 (up2 (up2 (up2 mi 87 4 (nI (wdT B n i0))) 87 7 (nI (c + 1))) 87 4 (nI e1)) 90 3 (nI v1)) 87 4 (nI (skT B n e1))) 87 5 (nI 1)) 87 6 (nI (skT B n e1))) 87 6 = nI (skT B n e1) by rw [up2_s]), (frRD_u (frRD_u (frRD_u (frRD_u (frRD_u (frRD_u (frRD_u hS.2.2.2.2.2.1 (by omega)) (by omega)) (by omega)) (by omega)) (by omega)) (by omega)) (by omega)), _, (RTX_u (RTX_u (RTX_at (RTX_u (RTX_at (RTX_u (RTX_at hS.1 (by first | omega | exact wdT_le hS.1.2.1 | exact skT_le (by omega))) (by omega)) (by first | omega | exact wdT_le hS.1.2.1 | exact skT_le (by omega))) (by omega)) (by first | omega | exact wdT_le hS.1.2.1 | exact skT_le (by omega))) (by omega)) (by omega))⟩, rfl⟩
                      · exact absurd h_12 (by omega)
                  · exact absurd h_10 (by omega)
                · exact absurd h_9 (by omega)
              · exact absurd h_8 (by omega)
          · exact absurd h_5 (nI_m1 (by omega))
      · exact absurd h_3 (by omega)
    · exact absurd h_2 (by omega)
  · exact absurd h_1 (by omega)
set_option maxRecDepth 100000 in
set_option maxHeartbeats 4000000 in
theorem c_clause4 (Γ : pTG) (g : pGG) (mi : pMI) (ml : pML) (hSh : Sh g) (m0 : pMI) (B : Nat → Int32) (n i0 c : Nat) (P : PD) (hS : RPS m0 mi B n i0 c P) (hsk : skT B n i0 = i0) (hc : c ≤ 60) (hW : wIx 0 B n i0 = some 4) : rV Γ 6 mX12_clause [.ref 87] g mi ml (fun m l => RRS m0 B n c (clR B n i0 c P) m ∧ l = ml) := by
  refine rV_of (by decide +kernel) (Nat.le_of_ble_eq_true rfl) ?_
  have hP := hS.2.2.2.2.1
  have hP8 := hP.1
  have hG8 := hP.2.1
  have hn6 := hS.1.1
  have hin := hS.1.2.1
  refine X_aload_n dX12_clause_0 rfl ?_
  refine X_iconst (v := nI 3) dX12_clause_1 (by decide) ?_
  refine X_bipush (v := nI 8) dX12_clause_2 (by decide) ?_
  refine X_iconst (v := nI 1) dX12_clause_4 (by decide) ?_
  refine X_bipush (v := nI 9) dX12_clause_5 (by decide) ?_
  refine X_bipush (v := nI 18) dX12_clause_7 (by decide) ?_
  refine X_iconst (v := nI 0) dX12_clause_9 (by decide) ?_
  refine X_callVI dX12_clause_10 mkX12_207 (k_87 hSh) (c_isW0 Γ g mi ml hSh B n i0 hS.1 hsk hS.2.1 3 8 1 9 18 0 (by decide) (by decide) (by decide) (by decide) (fun q => by have h9 := wq_0_0.mp q; rw [hW] at h9; cases h9)) rfl rfl (by decide) (Nat.le_of_ble_eq_true rfl) ?_
  refine X_if_eqN (a := 0) 20 dX12_clause_13 (by decide) (by omega) (fun h_1 => ?_) (fun h_1 => ?_)
  · refine X_aload_n dX12_clause_20 rfl ?_
    refine X_bipush (v := nI 7) dX12_clause_21 (by decide) ?_
    refine X_bipush (v := nI 21) dX12_clause_23 (by decide) ?_
    refine X_iconst (v := nI 5) dX12_clause_25 (by decide) ?_
    refine X_bipush (v := nI 19) dX12_clause_26 (by decide) ?_
    refine X_bipush (v := nI 20) dX12_clause_28 (by decide) ?_
    refine X_iconst (v := nI 0) dX12_clause_30 (by decide) ?_
    refine X_callVI dX12_clause_31 mkX12_207 (k_87 hSh) (c_isW0 Γ g mi ml hSh B n i0 hS.1 hsk hS.2.1 7 21 5 19 20 0 (by decide) (by decide) (by decide) (by decide) (fun q => by have h9 := wq_0_1.mp q; rw [hW] at h9; cases h9)) rfl rfl (by decide) (Nat.le_of_ble_eq_true rfl) ?_
    refine X_if_eqN (a := 0) 41 dX12_clause_34 (by decide) (by omega) (fun h_2 => ?_) (fun h_2 => ?_)
    · refine X_aload_n dX12_clause_41 rfl ?_
      refine X_bipush (v := nI 7) dX12_clause_42 (by decide) ?_
      refine X_bipush (v := nI 15) dX12_clause_44 (by decide) ?_
      refine X_iconst (v := nI 5) dX12_clause_46 (by decide) ?_
      refine X_bipush (v := nI 19) dX12_clause_47 (by decide) ?_
      refine X_iconst (v := nI 0) dX12_clause_49 (by decide) ?_
      refine X_iconst (v := nI 0) dX12_clause_50 (by decide) ?_
      refine X_callVI dX12_clause_51 mkX12_207 (k_87 hSh) (c_isW0 Γ g mi ml hSh B n i0 hS.1 hsk hS.2.1 7 15 5 19 0 0 (by decide) (by decide) (by decide) (by decide) (fun q => by have h9 := wq_0_2.mp q; rw [hW] at h9; cases h9)) rfl rfl (by decide) (Nat.le_of_ble_eq_true rfl) ?_
      refine X_if_eqN (a := 0) 61 dX12_clause_54 (by decide) (by omega) (fun h_3 => ?_) (fun h_3 => ?_)
      · refine X_aload_n dX12_clause_61 rfl ?_
        refine X_bipush (v := nI 15) dX12_clause_62 (by decide) ?_
        refine X_bipush (v := nI 6) dX12_clause_64 (by decide) ?_
        refine X_bipush (v := nI 6) dX12_clause_66 (by decide) ?_
        refine X_iconst (v := nI 0) dX12_clause_68 (by decide) ?_
        refine X_iconst (v := nI 0) dX12_clause_69 (by decide) ?_
        refine X_iconst (v := nI 0) dX12_clause_70 (by decide) ?_
        refine X_callVI dX12_clause_71 mkX12_207 (k_87 hSh) (c_isW0 Γ g mi ml hSh B n i0 hS.1 hsk hS.2.1 15 6 6 0 0 0 (by decide) (by decide) (by decide) (by decide) (fun q => by have h9 := wq_0_3.mp q; rw [hW] at h9; cases h9)) rfl rfl (by decide) (Nat.le_of_ble_eq_true rfl) ?_
        refine X_if_eqN (a := 0) 81 dX12_clause_74 (by decide) (by omega) (fun h_4 => ?_) (fun h_4 => ?_)
        · refine X_aload_n dX12_clause_81 rfl ?_
          refine X_bipush (v := nI 8) dX12_clause_82 (by decide) ?_
          refine X_bipush (v := nI 9) dX12_clause_84 (by decide) ?_
          refine X_bipush (v := nI 18) dX12_clause_86 (by decide) ?_
          refine X_iconst (v := nI 5) dX12_clause_88 (by decide) ?_
          refine X_iconst (v := nI 0) dX12_clause_89 (by decide) ?_
          refine X_iconst (v := nI 0) dX12_clause_90 (by decide) ?_
          refine X_callVI dX12_clause_91 mkX12_207 (k_87 hSh) (c_isW1 Γ g mi ml hSh B n i0 hS.1 hsk hS.2.1 8 9 18 5 0 0 (by decide) (by decide) (by decide) (by decide) (wq_0_4.mpr hW)) rfl rfl (by decide) (Nat.le_of_ble_eq_true rfl) ?_
          refine X_if_eqN (a := 1) 101 dX12_clause_94 (by decide) (by omega) (fun h_5 => ?_) (fun h_5 => ?_)
          · exact absurd h_5 (by omega)
          · refine X_iconst (v := nI 4) dX12_clause_97 (by decide) ?_
            refine X_goto 102 dX12_clause_98 (by decide) ?_
            refine X_istore_n dX12_clause_102 (by decide) ?_
            refine X_iload_n dX12_clause_103 rfl ?_
            refine X_iconst (v := -1) dX12_clause_104 (by decide) ?_
            refine X_icmp_ne 120 dX12_clause_105 (by decide) (fun h_6 => ?_) (fun h_6 => ?_)
            · refine X_aload_n dX12_clause_120 rfl ?_
              refine X_geti dX12_clause_121 fkX12_214 rfl (k_87 hSh) ?_
              rw [hS.2.2.1]
              refine X_bipush (v := nI 60) dX12_clause_124 (by decide) ?_
              refine X_icmp_eqN (a := c) (b := 60) 160 dX12_clause_126 (by decide) (by omega) (by omega) (fun h_7 => ?_) (fun h_7 => ?_)
              · refine X_aload_n dX12_clause_160 rfl ?_
                refine X_iconst (v := nI 3) dX12_clause_161 (by decide) ?_
                refine X_aload_n dX12_clause_162 rfl ?_
                refine X_geti dX12_clause_163 fkX12_167 rfl (k_87 hSh) ?_
                rw [hS.1.2.2.2.2]
                refine X_callVV dX12_clause_166 mkX12_187 (k_87 hSh) (c_wrong0 Γ g mi ml hSh hS.2.1 (nI 3) (nI i0)) rfl rfl (by decide) (Nat.le_of_ble_eq_true rfl) ?_
                refine X_aload_n dX12_clause_169 rfl ?_
                refine X_geti dX12_clause_170 fkX12_174 rfl (k_87 hSh) ?_
                refine X_topi (show (up2 (up2 mi 87 5 (nI 3)) 87 6 (nI i0)) 87 5 = nI 3 by rw [up2_n (by omega), up2_s]) ?_
                refine X_if_eqN (a := 3) 177 dX12_clause_173 (by decide) (by omega) (fun h_8 => ?_) (fun h_8 => ?_)
                · exact absurd h_8 (by omega)
                · exact X_vret dX12_clause_176 rfl ⟨rfl, rfl, by rw [show clR B n i0 c P = .error (3, i0) from by unfold clR; rw [hW]; exact if_pos (by omega)]; exact ⟨(show (up2 (up2 mi 87 5 (nI 3)) 87 6 (nI i0)) 87 5 = nI 3 by rw [up2_n (by omega), up2_s]), by omega, by omega, (show (up2 (up2 mi 87 5 (nI 3)) 87 6 (nI i0)) 87 6 = nI i0 by rw [up2_s]), (frRD_u (frRD_u hS.2.2.2.2.2.1 (by omega)) (by omega)), _, (RTX_u (RTX_u hS.1 (by omega)) (by omega))⟩, rfl⟩
              · refine X_iload_n dX12_clause_129 rfl ?_
                refine X_if_neN (a := 4) 144 dX12_clause_130 (by decide) (by omega) (fun h_9 => ?_) (fun h_9 => ?_)
                · refine X_iload_n dX12_clause_144 rfl ?_
                  refine X_iconst (v := nI 1) dX12_clause_145 (by decide) ?_
                  refine X_icmp_neN (a := 4) (b := 1) 169 dX12_clause_146 (by decide) (by omega) (by omega) (fun h_10 => ?_) (fun h_10 => ?_)
                  · refine X_aload_n dX12_clause_169 rfl ?_
                    refine X_geti dX12_clause_170 fkX12_174 rfl (k_87 hSh) ?_
                    rw [hS.2.1]
                    refine X_if_eqN (a := 0) 177 dX12_clause_173 (by decide) (by omega) (fun h_11 => ?_) (fun h_11 => ?_)
                    · refine X_aload_n dX12_clause_177 rfl ?_
                      refine X_callVV dX12_clause_178 mkX12_211 (k_87 hSh) (c_skipWord Γ g mi ml hSh B n i0 hS.1) rfl rfl (by decide) (Nat.le_of_ble_eq_true rfl) ?_
                      refine X_aload_n dX12_clause_181 rfl ?_
                      refine X_dup dX12_clause_182 rfl ?_
                      refine X_geti dX12_clause_183 fkX12_214 rfl (k_87 hSh) ?_
                      refine X_topi (show (up2 mi 87 4 (nI (wdT B n i0))) 87 7 = nI c by rw [up2_n (by omega)]; exact hS.2.2.1) ?_
                      refine X_iconst (v := nI 1) dX12_clause_186 (by decide) ?_
                      refine X_iadd dX12_clause_187 ?_
                      refine X_topi (nI_add c 1) ?_
                      refine X_puti dX12_clause_188 fkX12_214 rfl rfl (k_87 hSh) ?_
                      refine X_iload_n dX12_clause_191 rfl ?_
                      refine X_tableOut 350 dX12_clause_192 (by decide) (by decide) ?_
                      refine X_aload_n dX12_clause_350 rfl ?_
                      refine X_getr (a := 90) dX12_clause_351 fkX12_20 rfl (k_87 hSh) (r_87_11 hSh) ?_
                      refine X_iconst (v := nI 4) dX12_clause_354 (by decide) ?_
                      refine X_aload_n dX12_clause_355 rfl ?_
                      refine X_iconst (v := nI 0) dX12_clause_356 (by decide) ?_
                      refine X_bipush (v := nI 99) dX12_clause_357 (by decide) ?_
                      match hN1 : numR B n (wdT B n i0) 0 100 with
                      | .error (k1, p1) =>
                        obtain ⟨hka1, hkb1⟩ := numR_k hN1
                        obtain ⟨q1, hq1, hC1⟩ := c_rnumE Γ g (up2 (up2 mi 87 4 (nI (wdT B n i0))) 87 7 (nI (c + 1))) ml hSh B n (wdT B n i0) (RTX_u (RTX_at hS.1 (by first | omega | exact wdT_le hS.1.2.1 | exact skT_le (by omega))) (by omega)) (show (up2 (up2 mi 87 4 (nI (wdT B n i0))) 87 7 (nI (c + 1))) 87 5 = nI 0 by rw [up2_n (by omega), up2_n (by omega)]; exact hS.2.1) 0 100 (nI 99) (by omega) (by omega) (hH_of (by omega)) hN1
                        refine X_callVI dX12_clause_359 mkX12_220 (k_87 hSh) (hC1) rfl rfl (by decide) (Nat.le_of_ble_eq_true rfl) ?_
                        refine X_iast 4 dX12_clause_362 (k_90 hSh) rfl (by omega) ?_
                        refine X_iload_n dX12_clause_363 rfl ?_
                        refine X_iconst (v := nI 2) dX12_clause_364 (by decide) ?_
                        refine X_icmp_geN (a := 4) (b := 2) 389 dX12_clause_365 (by decide) (by omega) (by omega) (fun h_12 => ?_) (fun h_12 => ?_)
                        · refine X_aload_n dX12_clause_389 rfl ?_
                          refine X_bipush (v := nI 59) dX12_clause_390 (by decide) ?_
                          refine X_callVV dX12_clause_392 mkX12_224 (k_87 hSh) (c_signF Γ g (up2 (up2 (up2 (up2 (up2 (up2 mi 87 4 (nI (wdT B n i0))) 87 7 (nI (c + 1))) 87 4 (nI q1)) 87 5 (nI k1)) 87 6 (nI p1)) 90 4 (nI 0)) ml hSh (by rw [(show (up2 (up2 (up2 (up2 (up2 (up2 mi 87 4 (nI (wdT B n i0))) 87 7 (nI (c + 1))) 87 4 (nI q1)) 87 5 (nI k1)) 87 6 (nI p1)) 90 4 (nI 0)) 87 5 = nI k1 by rw [up2_row (by omega), up2_n (by omega), up2_s])]; exact nI_ne0 (by omega) (by omega)) (nI 59)) rfl rfl (by decide) (Nat.le_of_ble_eq_true rfl) ?_
                          exact X_vret dX12_clause_395 rfl ⟨rfl, rfl, by rw [show clR B n i0 c P = .error (k1, p1) from by simp only [clR, hW, rdNu, rd1, hN1]; exact if_neg (by omega)]; exact ⟨(show (up2 (up2 (up2 (up2 (up2 (up2 mi 87 4 (nI (wdT B n i0))) 87 7 (nI (c + 1))) 87 4 (nI q1)) 87 5 (nI k1)) 87 6 (nI p1)) 90 4 (nI 0)) 87 5 = nI k1 by rw [up2_row (by omega), up2_n (by omega), up2_s]), by omega, by omega, (show (up2 (up2 (up2 (up2 (up2 (up2 mi 87 4 (nI (wdT B n i0))) 87 7 (nI (c + 1))) 87 4 (nI q1)) 87 5 (nI k1)) 87 6 (nI p1)) 90 4 (nI 0)) 87 6 = nI p1 by rw [up2_row (by omega), up2_s]), (frRD_u (frRD_u (frRD_u (frRD_u (frRD_u (frRD_u hS.2.2.2.2.2.1 (by omega)) (by omega)) (by omega)) (by omega)) (by omega)) (by omega)), _, (RTX_u (RTX_u (RTX_u (RTX_at (RTX_u (RTX_at hS.1 (by first | omega | exact wdT_le hS.1.2.1 | exact skT_le (by omega))) (by omega)) (by first | omega | exact wdT_le hS.1.2.1 | exact skT_le (by omega))) (by omega)) (by omega)) (by omega))⟩, rfl⟩
                        · exact absurd h_12 (by omega)
                      | .ok (v1, e1) =>
                        obtain ⟨he1, hi1, hl1, hv1⟩ := numR_o (by first | omega | exact wdT_le hS.1.2.1) hN1
                        refine X_callVI dX12_clause_359 mkX12_220 (k_87 hSh) (c_rnumOK Γ g (up2 (up2 mi 87 4 (nI (wdT B n i0))) 87 7 (nI (c + 1))) ml hSh B n (wdT B n i0) (RTX_u (RTX_at hS.1 (by first | omega | exact wdT_le hS.1.2.1 | exact skT_le (by omega))) (by omega)) (show (up2 (up2 mi 87 4 (nI (wdT B n i0))) 87 7 (nI (c + 1))) 87 5 = nI 0 by rw [up2_n (by omega), up2_n (by omega)]; exact hS.2.1) 0 100 (nI 99) (by omega) (by omega) (hH_of (by omega)) hN1) rfl rfl (by decide) (Nat.le_of_ble_eq_true rfl) ?_
                        refine X_iast 4 dX12_clause_362 (k_90 hSh) rfl (by omega) ?_
                        refine X_iload_n dX12_clause_363 rfl ?_
                        refine X_iconst (v := nI 2) dX12_clause_364 (by decide) ?_
                        refine X_icmp_geN (a := 4) (b := 2) 389 dX12_clause_365 (by decide) (by omega) (by omega) (fun h_13 => ?_) (fun h_13 => ?_)
                        · refine X_aload_n dX12_clause_389 rfl ?_
                          refine X_bipush (v := nI 59) dX12_clause_390 (by decide) ?_
                          by_cases hs : byT B n (skT B n e1) = nI 59
                          ·
                            refine X_callVV dX12_clause_392 mkX12_224 (k_87 hSh) (c_sign1 Γ g (up2 (up2 (up2 (up2 mi 87 4 (nI (wdT B n i0))) 87 7 (nI (c + 1))) 87 4 (nI e1)) 90 4 (nI v1)) ml hSh B n e1 (RTX_u (RTX_at (RTX_u (RTX_at hS.1 (by first | omega | exact wdT_le hS.1.2.1 | exact skT_le (by omega))) (by omega)) (by first | omega | exact wdT_le hS.1.2.1 | exact skT_le (by omega))) (by omega)) (show (up2 (up2 (up2 (up2 mi 87 4 (nI (wdT B n i0))) 87 7 (nI (c + 1))) 87 4 (nI e1)) 90 4 (nI v1)) 87 5 = nI 0 by rw [up2_row (by omega), up2_n (by omega), up2_n (by omega), up2_n (by omega)]; exact hS.2.1) (nI 59) hs) rfl rfl (by decide) (Nat.le_of_ble_eq_true rfl) ?_
                            exact X_vret dX12_clause_395 rfl ⟨rfl, rfl, by rw [show clR B n i0 c P = .ok (skT B n e1 + 1, sePr P v1) from by simp only [clR, hW, rdNu, rd1, hN1, sgR, hs, if_true]; exact if_neg (by omega)]; exact ⟨(RTX_at (RTX_u (RTX_at (RTX_u (RTX_at hS.1 (by first | omega | exact wdT_le hS.1.2.1 | exact skT_le (by omega))) (by omega)) (by first | omega | exact wdT_le hS.1.2.1 | exact skT_le (by omega))) (by omega)) (by_lt hs)), (show (up2 (up2 (up2 (up2 (up2 mi 87 4 (nI (wdT B n i0))) 87 7 (nI (c + 1))) 87 4 (nI e1)) 90 4 (nI v1)) 87 4 (nI (skT B n e1 + 1))) 87 5 = nI 0 by rw [up2_n (by omega), up2_row (by omega), up2_n (by omega), up2_n (by omega), up2_n (by omega)]; exact hS.2.1), (show (up2 (up2 (up2 (up2 (up2 mi 87 4 (nI (wdT B n i0))) 87 7 (nI (c + 1))) 87 4 (nI e1)) 90 4 (nI v1)) 87 4 (nI (skT B n e1 + 1))) 87 7 = nI (c + 1) by rw [up2_n (by omega), up2_row (by omega), up2_n (by omega), up2_s]), rdP_f (k := 4) hS.2.2.2.1 (Or.inr (Or.inr ⟨rfl, rfl⟩)) hP8 (fun i hi => by funext j; simp [up2, hi]), ⟨hP.1, hP.2.1, hP.2.2.1, hP.2.2.2.1, hP.2.2.2.2.1, hv1, hP.2.2.2.2.2.2⟩, (frRD_u (frRD_u (frRD_u (frRD_u (frRD_u hS.2.2.2.2.2.1 (by omega)) (by omega)) (by omega)) (by omega)) (by omega)), (show (up2 (up2 (up2 (up2 (up2 mi 87 4 (nI (wdT B n i0))) 87 7 (nI (c + 1))) 87 4 (nI e1)) 90 4 (nI v1)) 87 4 (nI (skT B n e1 + 1))) 87 6 = m0 87 6 by rw [up2_n (by omega), up2_row (by omega), up2_n (by omega), up2_n (by omega), up2_n (by omega)]; exact hS.2.2.2.2.2.2)⟩, rfl⟩
                          ·
                            refine X_callVV dX12_clause_392 mkX12_224 (k_87 hSh) (c_sign0 Γ g (up2 (up2 (up2 (up2 mi 87 4 (nI (wdT B n i0))) 87 7 (nI (c + 1))) 87 4 (nI e1)) 90 4 (nI v1)) ml hSh B n e1 (RTX_u (RTX_at (RTX_u (RTX_at hS.1 (by first | omega | exact wdT_le hS.1.2.1 | exact skT_le (by omega))) (by omega)) (by first | omega | exact wdT_le hS.1.2.1 | exact skT_le (by omega))) (by omega)) (show (up2 (up2 (up2 (up2 mi 87 4 (nI (wdT B n i0))) 87 7 (nI (c + 1))) 87 4 (nI e1)) 90 4 (nI v1)) 87 5 = nI 0 by rw [up2_row (by omega), up2_n (by omega), up2_n (by omega), up2_n (by omega)]; exact hS.2.1) (nI 59) hs) rfl rfl (by decide) (Nat.le_of_ble_eq_true rfl) ?_
                            exact X_vret dX12_clause_395 rfl ⟨rfl, rfl, by rw [show clR B n i0 c P = .error (1, skT B n e1) from by simp only [clR, hW, rdNu, rd1, hN1, sgR, hs, if_false]; exact if_neg (by omega)]; exact ⟨(show (up2 (up2 (up2 (up2 (up2 (up2 (up2 mi 87 4 (nI (wdT B n i0))) 87 7 (nI (c + 1))) 87 4 (nI e1)) 90 4 (nI v1)) 87 4 (nI (skT B n e1))) 87 5 (nI 1)) 87 6 (nI (skT B n e1))) 87 5 = nI 1 by rw [up2_n (by omega), up2_s]), by omega, by omega, (show (up2 (up2 (up2 (up2 (up2 (up2 (up2 mi 87 4 (nI (wdT B n i0))) 87 7 (nI (c + 1))) 87 4 (nI e1)) 90 4 (nI v1)) 87 4 (nI (skT B n e1))) 87 5 (nI 1)) 87 6 (nI (skT B n e1))) 87 6 = nI (skT B n e1) by rw [up2_s]), (frRD_u (frRD_u (frRD_u (frRD_u (frRD_u (frRD_u (frRD_u hS.2.2.2.2.2.1 (by omega)) (by omega)) (by omega)) (by omega)) (by omega)) (by omega)) (by omega)), _, (RTX_u (RTX_u (RTX_at (RTX_u (RTX_at (RTX_u (RTX_at hS.1 (by first | omega | exact wdT_le hS.1.2.1 | exact skT_le (by omega))) (by omega)) (by first | omega | exact wdT_le hS.1.2.1 | exact skT_le (by omega))) (by omega)) (by first | omega | exact wdT_le hS.1.2.1 | exact skT_le (by omega))) (by omega)) (by omega))⟩, rfl⟩
                        · exact absurd h_13 (by omega)
                    · exact absurd h_11 (by omega)
                  · exact absurd h_10 (by omega)
                · exact absurd h_9 (by omega)
            · exact absurd h_6 (nI_m1 (by omega))
        · exact absurd h_4 (by omega)
      · exact absurd h_3 (by omega)
    · exact absurd h_2 (by omega)
  · exact absurd h_1 (by omega)
theorem c_clause (Γ : pTG) (g : pGG) (mi : pMI) (ml : pML) (hSh : Sh g) (m0 : pMI) (B : Nat → Int32) (n i0 c : Nat) (P : PD) (hS : RPS m0 mi B n i0 c P) (hsk : skT B n i0 = i0) (hc : c ≤ 60) : rV Γ 6 mX12_clause [.ref 87] g mi ml (fun m l => RRS m0 B n c (clR B n i0 c P) m ∧ l = ml) := by
  match hW : wIx 0 B n i0 with
  | none => exact c_clauseN Γ g mi ml hSh m0 B n i0 c P hS hsk hc hW
  | some k =>
    have hk : k < 5 := (wIx_s hW).1
    match k, hk with
    | 0, _ => exact c_clause0 Γ g mi ml hSh m0 B n i0 c P hS hsk hc hW
    | 1, _ => exact c_clause1 Γ g mi ml hSh m0 B n i0 c P hS hsk hc hW
    | 2, _ => exact c_clause2 Γ g mi ml hSh m0 B n i0 c P hS hsk hc hW
    | 3, _ => exact c_clause3 Γ g mi ml hSh m0 B n i0 c P hS hsk hc hW
    | 4, _ => exact c_clause4 Γ g mi ml hSh m0 B n i0 c P hS hsk hc hW

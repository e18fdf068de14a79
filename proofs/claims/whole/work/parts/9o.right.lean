/-! ===== right, fits ===== -/
def soB (A : AS) (wh : Nat → Nat) (k : Nat) : Bool := decide (sqd (aP A) (aH A) wh (aB A k 0) (aB A k 1) = aB A k 2)
def ldN (p : Nat → Bool) (n : Nat) : Nat := (fE (fun k => !p k) n).getD n
theorem ld_s {p : Nat → Bool} {n i : Nat} (h0 : ∀ k, k < i → p k = true) (h : p i = false) (hi : i < n) : ldN p n = i := by
  unfold ldN
  rw [fE_s (i := i) (fun k hk => by rw [h0 k hk]; rfl) (by rw [h]; rfl) hi]
  rfl
theorem ld_n {p : Nat → Bool} {n : Nat} (h0 : ∀ k, k < n → p k = true) : ldN p n = n := by
  unfold ldN
  rw [fE_n.mpr (fun k hk => by rw [h0 k hk]; rfl)]
  rfl
theorem ld_le {p : Nat → Bool} {n : Nat} : ldN p n ≤ n := by
  unfold ldN
  cases h : fE (fun k => !p k) n with
  | none => exact Nat.le_refl _
  | some e => have := (fE_i h).1; show e ≤ n; omega
theorem ld_iff {p : Nat → Bool} {n : Nat} : ldN p n = n ↔ anB (fun k => !p k) n = false := by
  cases h : fE (fun k => !p k) n with
  | none => exact ⟨fun _ => anB_f.mpr (fE_n.mp h), fun _ => by unfold ldN; rw [h]; rfl⟩
  | some e =>
    have h1 := fE_i h
    refine ⟨fun q => ?_, fun q => ?_⟩
    · unfold ldN at q; rw [h] at q
      have q : e = n := q
      omega
    · have := anB_f.mp q e h1.1
      rw [h1.2.1] at this; cases this
theorem CI_bk {A : AS} {g : pGG} {m : pMI} {l : pML} (h : CI A g m l) : m 24 2 = nI (aBn A) ∧ ∀ k, k < aBn A → ∀ q, q < 3 → m 25 (k * 3 + q) = nI (aB A k q) := by obtain ⟨_, _, _, _, _, _, _, h, _⟩ := h; exact h
theorem CI_X42 {A : AS} {g : pGG} {m x : pMI} {l l' : pML} (h : CI A g m l) (hx : frX 42 m x) (h47 : x 47 10 = nI 0) (h53 : ∀ i, i < 8 → x 53 i = nI i) (hl : l' 30 = l 30) : CI A g x l' := by
  obtain ⟨r, im, st, qi, si, c1, c2, c3, c4, c5, c6, c7, c8, c9, c10, c11, c12, c13⟩ := h
  have e : ∀ i, i < 17 ∨ i = 18 ∨ i = 19 ∨ (21 < i ∧ i < 42) ∨ i = 43 ∨ 56 < i → x i = m i := fun i hi => hx.1 i (by omega) (by omega) (by omega) (by omega) (by omega) (by omega) (by omega)
  refine ⟨r, im, st, qi, si, c1, DOK_row c2 (fun i hi => e i (by omega)) (hx.2.1 5 (by omega)) hl, ?_, ?_, ?_, ?_, ?_, ?_, ?_, ?_, ?_, c12, ?_⟩
  · rw [e 24 (by omega), e 25 (by omega)]; exact c3
  · rw [e 0 (by omega)]; exact c4
  · rw [e 81 (by omega)]; exact ⟨c5.1, chR_row c5.2 (e 82 (by omega))⟩
  · rw [e 81 (by omega)]
    refine ⟨c6.1, c6.2.1, fun k hk => ?_⟩
    have := (c12.2.2.2.2.2.1 k (Nat.lt_of_lt_of_le hk c6.2.1)).2.2.1
    exact imC_row (c6.2.2 k hk) (e _ (by omega)) (e _ (by omega)) (e _ (by omega))
  · rw [e 0 (by omega), e 1 (by omega)]; exact c7
  · rw [e 2 (by omega), e 86 (by omega)]; exact c8
  · rw [e 0 (by omega)]
    rcases c9 with q | ⟨q1, q2⟩
    · exact Or.inl q
    · exact Or.inr ⟨q1, cdy_row (e 58 (by omega)) (e 59 (by omega)) (by rw [e 57 (by omega)]) (e 65 (by omega)) (e 66 (by omega)) q2⟩
  · rw [e 57 (by omega), e 63 (by omega), e 67 (by omega), e 43 (by omega)]; exact ⟨c10.1, c10.2.1, c10.2.2.1, c10.2.2.2.1, h47, h53⟩
  · rw [e 77 (by omega)]
    rcases c11 with q | ⟨q1, q2⟩
    · exact Or.inl q
    · exact Or.inr ⟨q1, GOK_row q2 (by rw [e 77 (by omega)]) (e 78 (by omega)) (e 80 (by omega))⟩
  · intro hst
    have := (c12.2.2.2.2.2.2.2.2 hst).2.2.1
    rw [e si (by omega)]
    exact c13 hst
abbrev f43 (m : pMI) : pMI := fillR m 43 8 nI
theorem f43_e {m : pMI} {i : Nat} (h : i ≠ 43) : f43 m i = m i := by funext j; exact fill_row h
theorem f43_x {m x : pMI} (h : frX 42 m x) : frX 42 (f43 m) (f43 x) := by
  refine ⟨fun i h1 h2 h3 h4 h5 h6 h7 => ?_, fun j hj => ?_, fun j hj => ?_⟩
  · by_cases q : i = 43
    · subst q
      funext j
      unfold f43 fillR
      rw [h.1 43 (by omega) (by omega) (by omega) (by omega) (by omega) (by omega) (by omega)]
    · rw [f43_e q, f43_e q]; exact h.1 i h1 h2 h3 h4 h5 h6 h7
  · rw [f43_e (by omega), f43_e (by omega)]; exact h.2.1 j hj
  · rw [f43_e (by omega), f43_e (by omega)]; exact h.2.2 j hj
/-- days supposed: whose habits -/
def S42 (A : AS) (wh : Nat → Nat) (g : pGG) (m : pMI) (l : pML) : Prop := CI A g (f43 m) l ∧ ∃ r, DOK (aP A) (aH A) wh (aK A) 42 r m l
theorem S42_bk {A : AS} {wh : Nat → Nat} {g : pGG} {m : pMI} {l : pML} (h : S42 A wh g m l) : m 24 2 = nI (aBn A) ∧ ∀ k, k < aBn A → ∀ q, q < 3 → m 25 (k * 3 + q) = nI (aB A k q) := by
  have := CI_bk h.1
  rwa [f43_e (by omega), f43_e (by omega)] at this
theorem c_reachS (Γ : pTG) (g : pGG) (mi : pMI) (ml : pML) (A : AS) (hA : okAS A) (wh : Nat → Nat) (hS : S42 A wh g mi ml) (d : Nat) (hd : d < 200) : rV Γ 6 mX3_reach [.ref 42, .int (nI d)] g mi ml (fun m l => (CI A g (f43 m) l ∧ ∃ r, d < r ∧ DOK (aP A) (aH A) wh (aK A) 42 r m l) ∧ frK mi m ∧ m 43 = mi 43 ∧ l 450 = ml 450) := by
  obtain ⟨hC, r, hD⟩ := hS
  have hSh := CI_Sh hC
  have h8 := hD.2.2.2.2.2.2.2.1
  refine rV_w (rV_c (c_reach42 Γ g mi ml hSh (shC_47 hSh) (aP A) hA.1 (aH A) hA.2.1 wh (aK A) hA.2.2.1 r d (max r (min (d + 1) 200)) (by omega) rfl hD)) (fun m l hm => ?_)
  obtain ⟨rfl, rfl⟩ := hm
  obtain ⟨i1, i2, i3⟩ := reach_r Γ g hSh (shC_47 hSh) (k_44 hSh) hA.1 hA.2.1 hA.2.2.1 (Or.inr rfl) hD (max r (min (d + 1) 200) - r) (by omega)
  refine ⟨⟨CI_X42 hC (f43_x i2) ?_ ?_ ?_, _, ?_, i1⟩, fun i h1 h2 => i2.1 i (by omega) (by omega) (by omega) (by omega) (by omega) (by omega) (by omega), i2.1 43 (by omega) (by omega) (by omega) (by omega) (by omega) (by omega) (by omega), by rw [i3 450 (by omega)]⟩
  · rw [f43_e (by omega)]; exact i1.2.2.2.2.2.1
  · rw [f43_e (by omega)]; exact i1.2.2.2.2.1
  · rw [i3 30 (by omega)]
  · omega
theorem hf_d {A : AS} (hA : okAS A) {wh : Nat → Nat} {dd r d b : Nat} {m : pMI} {l : pML} (hD : DOK (aP A) (aH A) wh (aK A) dd r m l) (hd : d < r) (hb : b < aG A) : hfL (l (dd + 3) d) b = nI (sqd (aP A) (aH A) wh d b) := by
  rw [(hD.2.2.2.2.2.2.2.2.1 d hd).1]
  exact hf_pk hA.1.2.1 hb (fun b _ => sqd_lt hA.1 d b)
theorem S42_0 {A : AS} (hA : okAS A) {g : pGG} {m : pMI} {l : pML} {b c : Nat} (hC : CI A g m l) (hb : b < aG A) (hc : c < aG A) : S42 A (ud id b c) g (up2 (up2 (up2 (up2 m 42 7 (nI 0)) 42 8 (-1)) 42 9 (nI 0)) 43 b (nI c)) l := by
  have hG8 : aG A ≤ 8 := hA.1.2.1
  obtain ⟨r, hr⟩ := CI_r hC
  have hD := CIr_D hr
  have hst := CI_st hC
  have e : ∀ i, i ≠ 42 → i ≠ 43 → up2 (up2 (up2 (up2 m 42 7 (nI 0)) 42 8 (-1)) 42 9 (nI 0)) 43 b (nI c) i = m i := fun i h1 h2 => by rw [up2_row h2, up2_row h1, up2_row h1, up2_row h1]
  have e43 : ∀ j, up2 (up2 (up2 (up2 m 42 7 (nI 0)) 42 8 (-1)) 42 9 (nI 0)) 43 b (nI c) 43 j = if j = b then nI c else m 43 j := fun j => by
    by_cases q : j = b
    · subst q; rw [up2_s, if_pos rfl]
    · rw [up2_n q, up2_row (by omega), up2_row (by omega), up2_row (by omega), if_neg q]
  refine ⟨?_, 0, ?_⟩
  · have : f43 (up2 (up2 (up2 (up2 m 42 7 (nI 0)) 42 8 (-1)) 42 9 (nI 0)) 43 b (nI c)) = up2 (up2 (up2 m 42 7 (nI 0)) 42 8 (-1)) 42 9 (nI 0) := by
      funext i j
      by_cases q : i = 43
      · subst q
        have er : up2 (up2 (up2 m 42 7 (nI 0)) 42 8 (-1)) 42 9 (nI 0) 43 j = m 43 j := by rw [up2_row (by omega), up2_row (by omega), up2_row (by omega)]
        rw [er]
        by_cases h8 : j < 8
        · exact (fill_at h8).trans (hst.2.2.2.1 j h8).symm
        · exact (if_neg (fun z => h8 z.2)).trans ((e43 j).trans (if_neg (by omega)))
      · rw [f43_e q, up2_row q]
    rw [this]
    exact CI_fr hC (frS_u (frS_u (frS_u frS_r (by unfold scR; omega)) (by unfold scR; omega)) (by unfold scR; omega)) rfl
  · refine ⟨clP_row (fun i h1 h2 => e i (by omega) (by omega)) hD.1, clHb_row (e 18 (by omega) (by omega)) (e 19 (by omega) (by omega)) hD.2.1, by rw [e 17 (by omega) (by omega)]; exact hD.2.2.1, fun j hj => ?_, fun i hi => by rw [e 53 (by omega) (by omega)]; exact hst.2.2.2.2.2 i hi, by rw [e 47 (by omega) (by omega)]; exact hst.2.2.2.2.1, ?_, by omega, fun d hd => absurd hd (by omega), 0, 0, ?_, by omega, fun _ => ⟨fun h => absurd h (by omega), fun _ d hd => absurd hd (by omega)⟩, fun h => absurd h (by omega)⟩
    · show up2 _ 43 b (nI c) 43 j = nI (ud id b c j) ∧ ud id b c j < 8
      rw [e43]
      by_cases q : j = b
      · subst q; rw [if_pos rfl, ud_s]; exact ⟨rfl, by omega⟩
      · rw [if_neg q, ud_n q]; exact ⟨hst.2.2.2.1 j hj, hj⟩
    · rw [up2_row (by omega), up2_n (by omega), up2_n (by omega), up2_s]
    · rw [up2_row (by omega), up2_s]
theorem S42_e {A : AS} {wh : Nat → Nat} {g : pGG} {m : pMI} {l : pML} {b c : Nat} (hb : b < 8) (h : S42 A (ud id b c) g m l) : CI A g (up2 m 43 b (nI b)) l := by
  obtain ⟨hC, r, hD⟩ := h
  have : up2 m 43 b (nI b) = f43 m := by
    funext i j
    by_cases q : i = 43
    · subst q
      by_cases hj : j = b
      · subst hj; rw [up2_s]; exact (fill_at hb).symm
      · rw [up2_n hj]
        by_cases h8 : j < 8
        · exact ((hD.2.2.2.1 j h8).1.trans (by rw [ud_n hj]; rfl)).trans (fill_at h8).symm
        · exact (if_neg (fun z => h8 z.2)).symm
    · rw [up2_row q, f43_e q]
  rw [this]
  exact hC
theorem fit_iff {A : AS} {wh : Nat → Nat} {b n : Nat} : ldN (fun k => !decide (aB A k 1 = b) || soB A wh k) n = n ↔ (!anB (fun k => decide (aB A k 1 = b) && !soB A wh k) n) = true := by
  rw [ld_iff, Bool.not_eq_true']
  have : anB (fun k => !(!decide (aB A k 1 = b) || soB A wh k)) n = anB (fun k => decide (aB A k 1 = b) && !soB A wh k) n := anB_eq (fun k _ => by cases decide (aB A k 1 = b) <;> cases soB A wh k <;> rfl)
  rw [this]
set_option maxRecDepth 100000 in
set_option maxHeartbeats 4000000 in
theorem c_firstNot27 (Γ : pTG) (g : pGG) (mi : pMI) (ml : pML) (hSh : Sh g) (A : AS) (hA : okAS A) (hC : CI A g mi ml) : rI Γ 7 mX0_firstNotSo [.ref 24, .int (-1), .ref 27] g mi ml (fun v m l => v = nI (ldN (soB A id) (aBn A)) ∧ CI A g m l ∧ frK mi m ∧ l 450 = ml 450) := by
  refine rI_of (by decide +kernel) (Nat.le_of_ble_eq_true rfl) ?_
  have hG8 : aG A ≤ 8 := hA.1.2.1
  have hb12 := hA.2.2.2.1.1
  refine X_iconst (v := nI 0) dX0_firstNotSo_0 (by decide) ?_
  refine X_istore_n dX0_firstNotSo_1 (by decide) ?_
  refine X_L [(3, .int (nI 0)), (0, .ref 24), (1, .int (-1)), (2, .ref 27)] ⟨rfl, rfl, rfl, rfl, trivial⟩ ?_
  refine X_forR (σ := pMI × pML) 2 (fun i y => [(3, .int (nI i)), (0, .ref 24), (1, .int (-1)), (2, .ref 27)]) (fun y => y.1) (fun y => y.2) (fun i y => CI A g y.1 y.2 ∧ frK mi y.1 ∧ y.2 450 = ml 450 ∧ ∀ k, k < i → (soB A id) k = true) (aBn A) ?_ ?_ (aBn A) 0 (mi, ml) (by omega) ⟨hC, frK_r, rfl, fun k hk => absurd hk (by omega)⟩
  · intro i y hk hI hn
    obtain ⟨hyC, hyK, hyl, hyS⟩ := hI
    have hbk := hA.2.2.2.1.2 i hk
    refine X_iload_n dX0_firstNotSo_2 rfl ?_
    refine X_aload_n dX0_firstNotSo_3 rfl ?_
    refine X_geti dX0_firstNotSo_4 fkX0_18 rfl (k_24 hSh) ?_
    rw [(CI_bk hyC).1]
    refine X_icmp_geN (a := i) (b := aBn A) 78 dX0_firstNotSo_7 (by decide) (by first | omega | (have q9 : sqd (aP A) (aH A) id (aB A i 0) (aB A i 1) < 24 := sqd_lt hA.1 _ _; omega)) (by first | omega | (have q9 : sqd (aP A) (aH A) id (aB A i 0) (aB A i 1) < 24 := sqd_lt hA.1 _ _; omega)) (fun h_1 => ?_) (fun h_1 => ?_)
    · exact absurd h_1 (by omega)
    · refine X_aload_n dX0_firstNotSo_10 rfl ?_
      refine X_getr (a := 25) dX0_firstNotSo_11 fkX0_11 rfl (k_24 hSh) (r_24_0 hSh) ?_
      refine X_iload_n dX0_firstNotSo_14 rfl ?_
      refine X_iconst (v := nI 3) dX0_firstNotSo_15 (by decide) ?_
      refine X_imul dX0_firstNotSo_16 ?_
      refine X_topi (pk_mul i 3) ?_
      refine X_iald (i * 3) dX0_firstNotSo_17 (k_25 hSh) rfl (by first | omega | (have q9 : sqd (aP A) (aH A) id (aB A i 0) (aB A i 1) < 24 := sqd_lt hA.1 _ _; omega)) ?_
      rw [(show y.1 25 (i * 3) = nI (aB A i 0) from (CI_bk hyC).2 i hk 0 (by omega))]
      refine X_istore dX0_firstNotSo_18 (by decide) ?_
      refine X_aload_n dX0_firstNotSo_20 rfl ?_
      refine X_getr (a := 25) dX0_firstNotSo_21 fkX0_11 rfl (k_24 hSh) (r_24_0 hSh) ?_
      refine X_iload_n dX0_firstNotSo_24 rfl ?_
      refine X_iconst (v := nI 3) dX0_firstNotSo_25 (by decide) ?_
      refine X_imul dX0_firstNotSo_26 ?_
      refine X_topi (pk_mul i 3) ?_
      refine X_iconst (v := nI 1) dX0_firstNotSo_27 (by decide) ?_
      refine X_iadd dX0_firstNotSo_28 ?_
      refine X_topi (nI_add (i * 3) 1) ?_
      refine X_iald ((i * 3) + 1) dX0_firstNotSo_29 (k_25 hSh) rfl (by first | omega | (have q9 : sqd (aP A) (aH A) id (aB A i 0) (aB A i 1) < 24 := sqd_lt hA.1 _ _; omega)) ?_
      rw [((CI_bk hyC).2 i hk 1 (by omega))]
      refine X_istore dX0_firstNotSo_30 (by decide) ?_
      refine X_iload_n dX0_firstNotSo_32 rfl ?_
      refine X_iconst (v := -1) dX0_firstNotSo_33 (by decide) ?_
      refine X_icmp_eq 43 dX0_firstNotSo_34 (by decide) (fun h_2 => ?_) (fun h_2 => ?_)
      · refine X_aload_n dX0_firstNotSo_43 rfl ?_
        refine X_iload dX0_firstNotSo_44 rfl ?_
        refine X_callVrV dX0_firstNotSo_46 mkX0_53 (k_27 hSh) (c_reachK Γ g y.1 y.2 A hA hyC (aB A i 0) (by omega)) rfl rfl (by decide) (Nat.le_of_ble_eq_true rfl) (fun m1 l1 hm1 => ?_)
        obtain ⟨⟨r, hrd, hr⟩, hk1, hl1⟩ := hm1
        have hC1 := CIr_CI hr
        have hD1 := CIr_D hr
        refine X_aload_n dX0_firstNotSo_49 rfl ?_
        refine X_iload dX0_firstNotSo_50 rfl ?_
        refine X_iload dX0_firstNotSo_52 rfl ?_
        refine X_callVI dX0_firstNotSo_54 mkX0_59 (k_27 hSh) (c_halfOf27 Γ g m1 l1 hSh (aB A i 0) (aB A i 1) (by omega) (by omega)) rfl rfl (by decide) (Nat.le_of_ble_eq_true rfl) ?_
        refine X_topi (show _ = nI (sqd (aP A) (aH A) id (aB A i 0) (aB A i 1)) from hf_d hA hD1 hrd hbk.2.1) ?_
        refine X_aload_n dX0_firstNotSo_57 rfl ?_
        refine X_getr (a := 25) dX0_firstNotSo_58 fkX0_11 rfl (k_24 hSh) (r_24_0 hSh) ?_
        refine X_iload_n dX0_firstNotSo_61 rfl ?_
        refine X_iconst (v := nI 3) dX0_firstNotSo_62 (by decide) ?_
        refine X_imul dX0_firstNotSo_63 ?_
        refine X_topi (pk_mul i 3) ?_
        refine X_iconst (v := nI 2) dX0_firstNotSo_64 (by decide) ?_
        refine X_iadd dX0_firstNotSo_65 ?_
        refine X_topi (nI_add (i * 3) 2) ?_
        refine X_iald ((i * 3) + 2) dX0_firstNotSo_66 (k_25 hSh) rfl (by first | omega | (have q9 : sqd (aP A) (aH A) id (aB A i 0) (aB A i 1) < 24 := sqd_lt hA.1 _ _; omega)) ?_
        rw [((CI_bk hC1).2 i hk 2 (by omega))]
        refine X_icmp_eqN (a := sqd (aP A) (aH A) id (aB A i 0) (aB A i 1)) (b := aB A i 2) 72 dX0_firstNotSo_67 (by decide) (by first | omega | (have q9 : sqd (aP A) (aH A) id (aB A i 0) (aB A i 1) < 24 := sqd_lt hA.1 _ _; omega)) (by first | omega | (have q9 : sqd (aP A) (aH A) id (aB A i 0) (aB A i 1) < 24 := sqd_lt hA.1 _ _; omega)) (fun h_3 => ?_) (fun h_3 => ?_)
        · refine X_iinc (v := nI (i + 1)) dX0_firstNotSo_72 rfl (nI_1 _) (by decide) ?_
          refine X_goto 2 dX0_firstNotSo_75 (by decide) ?_
          refine X_L [(3, .int (nI (i + 1))), (0, .ref 24), (1, .int (-1)), (2, .ref 27)] ⟨rfl, rfl, rfl, rfl, trivial⟩ ?_
          exact hn (m1, l1) ⟨hC1, frK_t hyK hk1, hl1.trans hyl, fun k h9 => by by_cases q : k = i; (rw [q]; exact decide_eq_true h_3); exact hyS k (by omega)⟩
        · refine X_iload_n dX0_firstNotSo_70 rfl ?_
          exact X_iret dX0_firstNotSo_71 rfl ⟨rfl, _, rfl, congrArg nI (ld_s (p := (soB A id)) hyS (decide_eq_false h_3) hk).symm, hC1, frK_t hyK hk1, hl1.trans hyl⟩
      · exact absurd rfl h_2
  · intro y hI
    obtain ⟨hyC, hyK, hyl, hyS⟩ := hI
    refine X_iload_n dX0_firstNotSo_2 rfl ?_
    refine X_aload_n dX0_firstNotSo_3 rfl ?_
    refine X_geti dX0_firstNotSo_4 fkX0_18 rfl (k_24 hSh) ?_
    rw [(CI_bk hyC).1]
    refine X_icmp_geN (a := aBn A) (b := aBn A) 78 dX0_firstNotSo_7 (by decide) (by first | omega | (have q9 : sqd (aP A) (aH A) id (aB A i 0) (aB A i 1) < 24 := sqd_lt hA.1 _ _; omega)) (by first | omega | (have q9 : sqd (aP A) (aH A) id (aB A i 0) (aB A i 1) < 24 := sqd_lt hA.1 _ _; omega)) (fun h_4 => ?_) (fun h_4 => ?_)
    · refine X_aload_n dX0_firstNotSo_78 rfl ?_
      refine X_geti dX0_firstNotSo_79 fkX0_18 rfl (k_24 hSh) ?_
      rw [(CI_bk hyC).1]
      exact X_iret dX0_firstNotSo_82 rfl ⟨rfl, _, rfl, congrArg nI (ld_n (p := (soB A id)) hyS).symm, hyC, hyK, hyl⟩
    · exact absurd h_4 (by omega)
set_option maxRecDepth 100000 in
set_option maxHeartbeats 4000000 in
theorem c_firstNot42 (Γ : pTG) (g : pGG) (mi : pMI) (ml : pML) (hSh : Sh g) (A : AS) (hA : okAS A) (wh : Nat → Nat) (hS : S42 A wh g mi ml) (b : Nat) (hb : b < 8) : rI Γ 7 mX0_firstNotSo [.ref 24, .int (nI b), .ref 42] g mi ml (fun v m l => v = nI (ldN (fun k => !decide (aB A k 1 = b) || soB A wh k) (aBn A)) ∧ S42 A wh g m l ∧ frK mi m ∧ m 43 = mi 43 ∧ l 450 = ml 450) := by
  refine rI_of (by decide +kernel) (Nat.le_of_ble_eq_true rfl) ?_
  have hG8 : aG A ≤ 8 := hA.1.2.1
  have hb12 := hA.2.2.2.1.1
  refine X_iconst (v := nI 0) dX0_firstNotSo_0 (by decide) ?_
  refine X_istore_n dX0_firstNotSo_1 (by decide) ?_
  refine X_L [(3, .int (nI 0)), (0, .ref 24), (1, .int (nI b)), (2, .ref 42)] ⟨rfl, rfl, rfl, rfl, trivial⟩ ?_
  refine X_forR (σ := pMI × pML) 2 (fun i y => [(3, .int (nI i)), (0, .ref 24), (1, .int (nI b)), (2, .ref 42)]) (fun y => y.1) (fun y => y.2) (fun i y => S42 A wh g y.1 y.2 ∧ frK mi y.1 ∧ y.1 43 = mi 43 ∧ y.2 450 = ml 450 ∧ ∀ k, k < i → (fun k => !decide (aB A k 1 = b) || soB A wh k) k = true) (aBn A) ?_ ?_ (aBn A) 0 (mi, ml) (by omega) ⟨hS, frK_r, rfl, rfl, fun k hk => absurd hk (by omega)⟩
  · intro i y hk hI hn
    obtain ⟨hyC, hyK, hy43, hyl, hyS⟩ := hI
    have hbk := hA.2.2.2.1.2 i hk
    refine X_iload_n dX0_firstNotSo_2 rfl ?_
    refine X_aload_n dX0_firstNotSo_3 rfl ?_
    refine X_geti dX0_firstNotSo_4 fkX0_18 rfl (k_24 hSh) ?_
    rw [(S42_bk hyC).1]
    refine X_icmp_geN (a := i) (b := aBn A) 78 dX0_firstNotSo_7 (by decide) (by first | omega | (have q9 : sqd (aP A) (aH A) wh (aB A i 0) (aB A i 1) < 24 := sqd_lt hA.1 _ _; omega)) (by first | omega | (have q9 : sqd (aP A) (aH A) wh (aB A i 0) (aB A i 1) < 24 := sqd_lt hA.1 _ _; omega)) (fun h_1 => ?_) (fun h_1 => ?_)
    · exact absurd h_1 (by omega)
    · refine X_aload_n dX0_firstNotSo_10 rfl ?_
      refine X_getr (a := 25) dX0_firstNotSo_11 fkX0_11 rfl (k_24 hSh) (r_24_0 hSh) ?_
      refine X_iload_n dX0_firstNotSo_14 rfl ?_
      refine X_iconst (v := nI 3) dX0_firstNotSo_15 (by decide) ?_
      refine X_imul dX0_firstNotSo_16 ?_
      refine X_topi (pk_mul i 3) ?_
      refine X_iald (i * 3) dX0_firstNotSo_17 (k_25 hSh) rfl (by first | omega | (have q9 : sqd (aP A) (aH A) wh (aB A i 0) (aB A i 1) < 24 := sqd_lt hA.1 _ _; omega)) ?_
      rw [(show y.1 25 (i * 3) = nI (aB A i 0) from (S42_bk hyC).2 i hk 0 (by omega))]
      refine X_istore dX0_firstNotSo_18 (by decide) ?_
      refine X_aload_n dX0_firstNotSo_20 rfl ?_
      refine X_getr (a := 25) dX0_firstNotSo_21 fkX0_11 rfl (k_24 hSh) (r_24_0 hSh) ?_
      refine X_iload_n dX0_firstNotSo_24 rfl ?_
      refine X_iconst (v := nI 3) dX0_firstNotSo_25 (by decide) ?_
      refine X_imul dX0_firstNotSo_26 ?_
      refine X_topi (pk_mul i 3) ?_
      refine X_iconst (v := nI 1) dX0_firstNotSo_27 (by decide) ?_
      refine X_iadd dX0_firstNotSo_28 ?_
      refine X_topi (nI_add (i * 3) 1) ?_
      refine X_iald ((i * 3) + 1) dX0_firstNotSo_29 (k_25 hSh) rfl (by first | omega | (have q9 : sqd (aP A) (aH A) wh (aB A i 0) (aB A i 1) < 24 := sqd_lt hA.1 _ _; omega)) ?_
      rw [((S42_bk hyC).2 i hk 1 (by omega))]
      refine X_istore dX0_firstNotSo_30 (by decide) ?_
      refine X_iload_n dX0_firstNotSo_32 rfl ?_
      refine X_iconst (v := -1) dX0_firstNotSo_33 (by decide) ?_
      refine X_icmp_eq 43 dX0_firstNotSo_34 (by decide) (fun h_2 => ?_) (fun h_2 => ?_)
      · exact absurd h_2 (nI_m1 (by first | omega | (have q9 : sqd (aP A) (aH A) wh (aB A i 0) (aB A i 1) < 24 := sqd_lt hA.1 _ _; omega)))
      · refine X_iload_n dX0_firstNotSo_37 rfl ?_
        refine X_iload dX0_firstNotSo_38 rfl ?_
        refine X_icmp_neN (a := b) (b := aB A i 1) 72 dX0_firstNotSo_40 (by decide) (by first | omega | (have q9 : sqd (aP A) (aH A) wh (aB A i 0) (aB A i 1) < 24 := sqd_lt hA.1 _ _; omega)) (by first | omega | (have q9 : sqd (aP A) (aH A) wh (aB A i 0) (aB A i 1) < 24 := sqd_lt hA.1 _ _; omega)) (fun h_3 => ?_) (fun h_3 => ?_)
        · refine X_iinc (v := nI (i + 1)) dX0_firstNotSo_72 rfl (nI_1 _) (by decide) ?_
          refine X_goto 2 dX0_firstNotSo_75 (by decide) ?_
          refine X_L [(3, .int (nI (i + 1))), (0, .ref 24), (1, .int (nI b)), (2, .ref 42)] ⟨rfl, rfl, rfl, rfl, trivial⟩ ?_
          exact hn y ⟨hyC, hyK, hy43, hyl, fun k h9 => by by_cases q : k = i; (rw [q]; show (!decide (aB A i 1 = b) || soB A wh i) = true; rw [decide_eq_false (fun e => h_3 e.symm)]; rfl); exact hyS k (by omega)⟩
        · refine X_aload_n dX0_firstNotSo_43 rfl ?_
          refine X_iload dX0_firstNotSo_44 rfl ?_
          refine X_callVrV dX0_firstNotSo_46 mkX0_53 (k_42 hSh) (c_reachS Γ g y.1 y.2 A hA wh hyC (aB A i 0) (by omega)) rfl rfl (by decide) (Nat.le_of_ble_eq_true rfl) (fun m1 l1 hm1 => ?_)
          obtain ⟨⟨hC1, r, hrd, hD1⟩, hk1, h43, hl1⟩ := hm1
          have hS1 : S42 A wh g m1 l1 := ⟨hC1, r, hD1⟩
          refine X_aload_n dX0_firstNotSo_49 rfl ?_
          refine X_iload dX0_firstNotSo_50 rfl ?_
          refine X_iload dX0_firstNotSo_52 rfl ?_
          refine X_callVI dX0_firstNotSo_54 mkX0_59 (k_42 hSh) (c_halfOf42 Γ g m1 l1 hSh (aB A i 0) (aB A i 1) (by omega) (by omega)) rfl rfl (by decide) (Nat.le_of_ble_eq_true rfl) ?_
          refine X_topi (show _ = nI (sqd (aP A) (aH A) wh (aB A i 0) (aB A i 1)) from hf_d hA hD1 hrd hbk.2.1) ?_
          refine X_aload_n dX0_firstNotSo_57 rfl ?_
          refine X_getr (a := 25) dX0_firstNotSo_58 fkX0_11 rfl (k_24 hSh) (r_24_0 hSh) ?_
          refine X_iload_n dX0_firstNotSo_61 rfl ?_
          refine X_iconst (v := nI 3) dX0_firstNotSo_62 (by decide) ?_
          refine X_imul dX0_firstNotSo_63 ?_
          refine X_topi (pk_mul i 3) ?_
          refine X_iconst (v := nI 2) dX0_firstNotSo_64 (by decide) ?_
          refine X_iadd dX0_firstNotSo_65 ?_
          refine X_topi (nI_add (i * 3) 2) ?_
          refine X_iald ((i * 3) + 2) dX0_firstNotSo_66 (k_25 hSh) rfl (by first | omega | (have q9 : sqd (aP A) (aH A) wh (aB A i 0) (aB A i 1) < 24 := sqd_lt hA.1 _ _; omega)) ?_
          rw [((S42_bk hS1).2 i hk 2 (by omega))]
          refine X_icmp_eqN (a := sqd (aP A) (aH A) wh (aB A i 0) (aB A i 1)) (b := aB A i 2) 72 dX0_firstNotSo_67 (by decide) (by first | omega | (have q9 : sqd (aP A) (aH A) wh (aB A i 0) (aB A i 1) < 24 := sqd_lt hA.1 _ _; omega)) (by first | omega | (have q9 : sqd (aP A) (aH A) wh (aB A i 0) (aB A i 1) < 24 := sqd_lt hA.1 _ _; omega)) (fun h_4 => ?_) (fun h_4 => ?_)
          · refine X_iinc (v := nI (i + 1)) dX0_firstNotSo_72 rfl (nI_1 _) (by decide) ?_
            refine X_goto 2 dX0_firstNotSo_75 (by decide) ?_
            refine X_L [(3, .int (nI (i + 1))), (0, .ref 24), (1, .int (nI b)), (2, .ref 42)] ⟨rfl, rfl, rfl, rfl, trivial⟩ ?_
            exact hn (m1, l1) ⟨hS1, frK_t hyK hk1, h43.trans hy43, hl1.trans hyl, fun k h9 => by by_cases q : k = i; (rw [q]; show (!decide (aB A i 1 = b) || soB A wh i) = true; rw [show soB A wh i = true from decide_eq_true h_4, Bool.or_true]); exact hyS k (by omega)⟩
          · refine X_iload_n dX0_firstNotSo_70 rfl ?_
            exact X_iret dX0_firstNotSo_71 rfl ⟨rfl, _, rfl, congrArg nI (ld_s (p := (fun k => !decide (aB A k 1 = b) || soB A wh k)) hyS (by show (!decide (aB A i 1 = b) || soB A wh i) = false; rw [decide_eq_true (h_3).symm, show soB A wh i = false from decide_eq_false h_4]; rfl) hk).symm, hS1, frK_t hyK hk1, h43.trans hy43, hl1.trans hyl⟩
  · intro y hI
    obtain ⟨hyC, hyK, hy43, hyl, hyS⟩ := hI
    refine X_iload_n dX0_firstNotSo_2 rfl ?_
    refine X_aload_n dX0_firstNotSo_3 rfl ?_
    refine X_geti dX0_firstNotSo_4 fkX0_18 rfl (k_24 hSh) ?_
    rw [(S42_bk hyC).1]
    refine X_icmp_geN (a := aBn A) (b := aBn A) 78 dX0_firstNotSo_7 (by decide) (by first | omega | (have q9 : sqd (aP A) (aH A) wh (aB A i 0) (aB A i 1) < 24 := sqd_lt hA.1 _ _; omega)) (by first | omega | (have q9 : sqd (aP A) (aH A) wh (aB A i 0) (aB A i 1) < 24 := sqd_lt hA.1 _ _; omega)) (fun h_5 => ?_) (fun h_5 => ?_)
    · refine X_aload_n dX0_firstNotSo_78 rfl ?_
      refine X_geti dX0_firstNotSo_79 fkX0_18 rfl (k_24 hSh) ?_
      rw [(S42_bk hyC).1]
      exact X_iret dX0_firstNotSo_82 rfl ⟨rfl, _, rfl, congrArg nI (ld_n (p := (fun k => !decide (aB A k 1 = b) || soB A wh k)) hyS).symm, hyC, hyK, hy43, hyl⟩
    · exact absurd h_5 (by omega)
set_option maxRecDepth 100000 in
set_option maxHeartbeats 4000000 in
theorem k_right (Γ : pTG) (g : pGG) (mi : pMI) (ml : pML) (A : AS) (hA : okAS A) (hC : CI A g mi ml)  : CT Γ 60 20 5000 mX11_right [.ref 0] g mi ml (CQ A (.inl (nI (ldN (soB A id) (aBn A)))) mi ml) := by
  refine CT_of (by decide +kernel) (Nat.le_of_ble_eq_true rfl) ?_
  have hSh := CI_Sh hC
  have hcl := CI_cl hC
  have hP := hA.1
  have hG8 : aG A ≤ 8 := hP.2.1
  have hC8 : (aP A).1 ≤ 8 := hP.1
  refine X_aload_n dX11_right_0 rfl ?_
  refine X_getr (a := 24) dX11_right_1 fkX11_51 rfl (k_0 hSh) (r_0_6 hSh) ?_
  refine X_iconst (v := -1) dX11_right_4 (by decide) ?_
  refine X_aload_n dX11_right_5 rfl ?_
  refine X_getr (a := 27) dX11_right_6 fkX11_60 rfl (k_0 hSh) (r_0_7 hSh) ?_
  refine X_callVrI dX11_right_9 mkX11_352 (k_24 hSh) (c_firstNot27 Γ g mi ml hSh A hA hC) rfl rfl (by decide) (Nat.le_of_ble_eq_true rfl) (fun v1 m1 l1 hm1 => ?_)
  obtain ⟨hv1, hC1, hk1, hl1⟩ := hm1
  rw [hv1]
  exact X_iret dX11_right_12 rfl ⟨rfl, hC1, hk1, hl1⟩
set_option maxRecDepth 100000 in
set_option maxHeartbeats 4000000 in
theorem k_fits_f0 (Γ : pTG) (g : pGG) (mi : pMI) (ml : pML) (A : AS) (hA : okAS A) (hC : CI A g mi ml) (v : Int32) (hf : ¬ ∃ b, b < aG A ∧ v = nI b) : CT Γ 60 20 5000 mX11_fits [.ref 0, .int v] g mi ml (CQ (rfA A 0) (.inr 0) mi ml) := by
  refine CT_of (by decide +kernel) (Nat.le_of_ble_eq_true rfl) ?_
  have hSh := CI_Sh hC
  have hcl := CI_cl hC
  have hP := hA.1
  have hG8 : aG A ≤ 8 := hP.2.1
  have hC8 : (aP A).1 ≤ 8 := hP.1
  refine X_aload_n dX11_fits_0 rfl ?_
  refine X_iload_n dX11_fits_1 rfl ?_
  exact X_need dX11_fits_2 mkX11_147 (k_0 hSh) (c_needGuest Γ g mi ml hSh v) rfl rfl (by decide) (by decide) (by decide) (by decide) (fun _ => ⟨rfl, CI_rf (by decide) hC, frK_86, rfl⟩) (fun h => absurd ((gd_iff hG8).mp (by rw [← hcl.2.1]; exact h)) hf)
set_option maxRecDepth 100000 in
set_option maxHeartbeats 4000000 in
theorem r_fits_f0 (Γ : pTG) (g : pGG) (mi : pMI) (ml : pML) (A : AS) (hA : okAS A) (hSh : Sh g) (hR : RI A mi) (v : Int32) (hf : ¬ ∃ b, b < aG A ∧ v = nI b) : CT Γ 60 0 0 mX12_fits [.ref 87, .int v] g mi ml (RQ (rfA A 0) (.inr 0) cd0 g mi ml) := by
  refine CT_of (by decide +kernel) (Nat.le_of_ble_eq_true rfl) ?_
  have hP := hA.1
  have hG8 : aG A ≤ 8 := hP.2.1
  have hC8 : (aP A).1 ≤ 8 := hP.1
  refine X_aload_n dX12_fits_0 rfl ?_
  refine X_iconst (v := nI 0) dX12_fits_1 (by decide) ?_
  refine X_puti dX12_fits_2 fkX12_158 rfl rfl (k_87 hSh) ?_
  refine X_aload_n dX12_fits_5 rfl ?_
  refine X_aload_n dX12_fits_6 rfl ?_
  refine X_iload_n dX12_fits_7 rfl ?_
  refine X_callVI dX12_fits_8 mkX12_285 (k_87 hSh) (c_isGuest Γ g (up2 mi 87 0 (nI 0)) ml hSh v) rfl rfl (by decide) (Nat.le_of_ble_eq_true rfl) ?_
  refine X_topi (show bI (decide (nI 0 ≤ v) && decide (v ≤ (up2 mi 87 0 (nI 0)) 91 1 - nI 1)) = nI 0 from congrArg bI (show (decide (nI 0 ≤ v) && decide (v ≤ (up2 mi 87 0 (nI 0)) 91 1 - nI 1)) = false from Bool.eq_false_iff.mpr (fun q => hf ((gd_ref hG8).mp (by rw [(show (up2 mi 87 0 (nI 0)) 91 1 = nI (aG A) from ((congrFun (up2_row (by omega)) _).trans hR.1.2.1))] at q; exact q))))) ?_
  refine X_if_neN (a := 0) 18 dX12_fits_11 (by decide) (by omega) (fun h_1 => ?_) (fun h_1 => ?_)
  · exact absurd h_1 (by omega)
  · refine X_iconst (v := nI 1) dX12_fits_14 (by decide) ?_
    refine X_goto 19 dX12_fits_15 (by decide) ?_
    refine X_iconst (v := nI 1) dX12_fits_19 (by decide) ?_
    refine X_iconst (v := nI 0) dX12_fits_20 (by decide) ?_
    refine X_callVI dX12_fits_21 mkX12_228 (k_87 hSh) (c_bad1 Γ g (up2 mi 87 0 (nI 0)) ml hSh 1 0 (by decide) (by decide) (by decide) up2_s) rfl rfl (by decide) (Nat.le_of_ble_eq_true rfl) ?_
    refine X_mi (show _ = mB mi 1 0 from rfl) ?_
    refine X_if_eqN (a := 1) 29 dX12_fits_24 (by decide) (by omega) (fun h_2 => ?_) (fun h_2 => ?_)
    · exact absurd h_2 (by omega)
    · refine X_iconst (v := nI 0) dX12_fits_27 (by decide) ?_
      exact X_iret dX12_fits_28 rfl ⟨rfl, rfl, RI_rf hA (by decide) hR, fr2_B, _, rfl, mB_0⟩
set_option maxRecDepth 100000 in
set_option maxHeartbeats 4000000 in
theorem k_fits (Γ : pTG) (g : pGG) (mi : pMI) (ml : pML) (A : AS) (hA : okAS A) (hC : CI A g mi ml) (b : Nat) (hb : b < aG A) : CT Γ 60 20 5000 mX11_fits [.ref 0, .int (nI b)] g mi ml (CQ A (.inl (mkN (fun c => !anB (fun k => decide (aB A k 1 = b) && !soB A (ud id b c) k) (aBn A)) (aG A))) mi ml) := by
  refine CT_of (by decide +kernel) (Nat.le_of_ble_eq_true rfl) ?_
  have hSh := CI_Sh hC
  have hcl := CI_cl hC
  have hP := hA.1
  have hG8 : aG A ≤ 8 := hP.2.1
  have hC8 : (aP A).1 ≤ 8 := hP.1
  have hb12 := hA.2.2.2.1.1
  refine X_aload_n dX11_fits_0 rfl ?_
  refine X_iload_n dX11_fits_1 rfl ?_
  refine X_need dX11_fits_2 mkX11_147 (k_0 hSh) (c_needGuest Γ g mi ml hSh (nI b)) rfl rfl (by decide) (by decide) (by decide) (by decide) (fun h => absurd (by rw [hcl.2.1]; exact (gd_iff hG8).mpr ⟨b, hb, rfl⟩) h) (fun _ => ?_)
  refine X_iconst (v := nI 0) dX11_fits_5 (by decide) ?_
  refine X_istore_n dX11_fits_6 (by decide) ?_
  refine X_iconst (v := nI 0) dX11_fits_7 (by decide) ?_
  refine X_istore_n dX11_fits_8 (by decide) ?_
  refine X_L [(3, .int (nI 0)), (2, .int (nI 0)), (0, .ref 0), (1, .int (nI b))] ⟨rfl, rfl, rfl, rfl, trivial⟩ ?_
  refine X_L [(3, .int (nI (0))), (2, .int (mkN (fun c => !anB (fun k => decide (aB A k 1 = b) && !soB A (ud id b c) k) (aBn A)) (0))), (0, .ref 0), (1, .int (nI b))] ⟨rfl, rfl, rfl, rfl, trivial⟩ ?_
  refine X_forR (σ := pMI × pML) 9 (fun i y => [(3, .int (nI (i))), (2, .int (mkN (fun c => !anB (fun k => decide (aB A k 1 = b) && !soB A (ud id b c) k) (aBn A)) (i))), (0, .ref 0), (1, .int (nI b))]) (fun y => y.1) (fun y => y.2) (fun i y => CI A g y.1 y.2 ∧ frK mi y.1 ∧ y.2 450 = ml 450) (aG A) ?_ ?_ (aG A) 0 (mi, ml) (by omega) ⟨hC, frK_r, rfl⟩
  · intro i y hi hI hn
    obtain ⟨hyC, hyK, hyl⟩ := hI
    refine X_iload_n dX11_fits_9 rfl ?_
    refine X_aload_n dX11_fits_10 rfl ?_
    refine X_getr (a := 3) dX11_fits_11 fkX11_25 rfl (k_0 hSh) (r_0_2 hSh) ?_
    refine X_geti dX11_fits_14 fkX11_144 rfl (k_3 hSh) ?_
    rw [(CI_cl hyC).2.1]
    refine X_icmp_geN (a := i) (b := aG A) 81 dX11_fits_17 (by decide) (by first | omega | (have q9 := ld_le (p := (fun k => !decide (aB A k 1 = b) || soB A (ud id b i) k)) (n := aBn A); omega)) (by first | omega | (have q9 := ld_le (p := (fun k => !decide (aB A k 1 = b) || soB A (ud id b i) k)) (n := aBn A); omega)) (fun h_1 => ?_) (fun h_1 => ?_)
    · exact absurd h_1 (by omega)
    · refine X_aload_n dX11_fits_20 rfl ?_
      refine X_getr (a := 42) dX11_fits_21 fkX11_64 rfl (k_0 hSh) (r_0_8 hSh) ?_
      refine X_callVV dX11_fits_24 mkX11_351 (k_42 hSh) (c_Dforget Γ g y.1 y.2 42 (k_42 hSh)) rfl rfl (by decide) (Nat.le_of_ble_eq_true rfl) ?_
      refine X_aload_n dX11_fits_27 rfl ?_
      refine X_getr (a := 42) dX11_fits_28 fkX11_64 rfl (k_0 hSh) (r_0_8 hSh) ?_
      refine X_getr (a := 43) dX11_fits_31 fkX11_338 rfl (k_42 hSh) (r_42_3 hSh) ?_
      refine X_iload_n dX11_fits_34 rfl ?_
      refine X_iload_n dX11_fits_35 rfl ?_
      refine X_iast b dX11_fits_36 (k_43 hSh) rfl (by first | omega | (have q9 := ld_le (p := (fun k => !decide (aB A k 1 = b) || soB A (ud id b i) k)) (n := aBn A); omega)) ?_
      refine X_aload_n dX11_fits_37 rfl ?_
      refine X_getr (a := 24) dX11_fits_38 fkX11_51 rfl (k_0 hSh) (r_0_6 hSh) ?_
      refine X_iload_n dX11_fits_41 rfl ?_
      refine X_aload_n dX11_fits_42 rfl ?_
      refine X_getr (a := 42) dX11_fits_43 fkX11_64 rfl (k_0 hSh) (r_0_8 hSh) ?_
      have hS0 := S42_0 hA hyC hb hi
      refine X_callVrI dX11_fits_46 mkX11_352 (k_24 hSh) (c_firstNot42 Γ g (up2 (up2 (up2 (up2 y.1 42 7 (nI 0)) 42 8 (-1)) 42 9 (nI 0)) 43 b (nI i)) y.2 hSh A hA (ud id b i) hS0 b (by omega)) rfl rfl (by decide) (Nat.le_of_ble_eq_true rfl) (fun v1 m1 l1 hm1 => ?_)
      obtain ⟨hv1, hS1, hk1, h43, hl1⟩ := hm1
      rw [hv1]
      refine X_aload_n dX11_fits_49 rfl ?_
      refine X_getr (a := 24) dX11_fits_50 fkX11_51 rfl (k_0 hSh) (r_0_6 hSh) ?_
      refine X_geti dX11_fits_53 fkX11_166 rfl (k_24 hSh) ?_
      rw [(S42_bk hS1).1]
      refine X_icmp_neN (a := ldN (fun k => !decide (aB A k 1 = b) || soB A (ud id b i) k) (aBn A)) (b := aBn A) 65 dX11_fits_56 (by decide) (by first | omega | (have q9 := ld_le (p := (fun k => !decide (aB A k 1 = b) || soB A (ud id b i) k)) (n := aBn A); omega)) (by first | omega | (have q9 := ld_le (p := (fun k => !decide (aB A k 1 = b) || soB A (ud id b i) k)) (n := aBn A); omega)) (fun h_2 => ?_) (fun h_2 => ?_)
      · refine X_aload_n dX11_fits_65 rfl ?_
        refine X_getr (a := 42) dX11_fits_66 fkX11_64 rfl (k_0 hSh) (r_0_8 hSh) ?_
        refine X_getr (a := 43) dX11_fits_69 fkX11_338 rfl (k_42 hSh) (r_42_3 hSh) ?_
        refine X_iload_n dX11_fits_72 rfl ?_
        refine X_iload_n dX11_fits_73 rfl ?_
        refine X_iast b dX11_fits_74 (k_43 hSh) rfl (by first | omega | (have q9 := ld_le (p := (fun k => !decide (aB A k 1 = b) || soB A (ud id b i) k)) (n := aBn A); omega)) ?_
        refine X_iinc (v := nI (i + 1)) dX11_fits_75 rfl (nI_1 _) (by decide) ?_
        refine X_goto 9 dX11_fits_78 (by decide) ?_
        refine X_L [(3, .int (nI (i + 1))), (2, .int (mkN (fun c => !anB (fun k => decide (aB A k 1 = b) && !soB A (ud id b c) k) (aBn A)) i)), (0, .ref 0), (1, .int (nI b))] ⟨rfl, rfl, rfl, rfl, trivial⟩ ?_
        refine X_L [(3, .int (nI (i + 1))), (2, .int (mkN (fun c => !anB (fun k => decide (aB A k 1 = b) && !soB A (ud id b c) k) (aBn A)) (i + 1))), (0, .ref 0), (1, .int (nI b))] ⟨rfl, by rw [show mkN (fun c => !anB (fun k => decide (aB A k 1 = b) && !soB A (ud id b c) k) (aBn A)) (i + 1) = mkN (fun c => !anB (fun k => decide (aB A k 1 = b) && !soB A (ud id b c) k) (aBn A)) i from if_neg (fun q => h_2 (fit_iff.mpr q))]; rfl, rfl, rfl, trivial⟩ ?_
        exact hn ((up2 m1 43 b (nI b)), l1) ⟨S42_e (wh := id) (by omega) hS1, frK_t hyK (frK_u (frK_t (frK_u (frK_u (frK_u (frK_u frK_r (by omega)) (by omega)) (by omega)) (by omega)) hk1) (by omega)), hl1.trans hyl⟩
      · refine X_iload_n dX11_fits_59 rfl ?_
        refine X_iconst (v := nI 1) dX11_fits_60 (by decide) ?_
        refine X_iload_n dX11_fits_61 rfl ?_
        refine X_ishl dX11_fits_62 ?_
        refine X_ior dX11_fits_63 ?_
        refine X_istore_n dX11_fits_64 (by decide) ?_
        refine X_aload_n dX11_fits_65 rfl ?_
        refine X_getr (a := 42) dX11_fits_66 fkX11_64 rfl (k_0 hSh) (r_0_8 hSh) ?_
        refine X_getr (a := 43) dX11_fits_69 fkX11_338 rfl (k_42 hSh) (r_42_3 hSh) ?_
        refine X_iload_n dX11_fits_72 rfl ?_
        refine X_iload_n dX11_fits_73 rfl ?_
        refine X_iast b dX11_fits_74 (k_43 hSh) rfl (by first | omega | (have q9 := ld_le (p := (fun k => !decide (aB A k 1 = b) || soB A (ud id b i) k)) (n := aBn A); omega)) ?_
        refine X_iinc (v := nI (i + 1)) dX11_fits_75 rfl (nI_1 _) (by decide) ?_
        refine X_goto 9 dX11_fits_78 (by decide) ?_
        refine X_L [(3, .int (nI (i + 1))), (2, .int ((mkN (fun c => !anB (fun k => decide (aB A k 1 = b) && !soB A (ud id b c) k) (aBn A)) i) ||| ((nI 1) <<< ((nI i) &&& 31)))), (0, .ref 0), (1, .int (nI b))] ⟨rfl, rfl, rfl, rfl, trivial⟩ ?_
        refine X_L [(3, .int (nI (i + 1))), (2, .int (mkN (fun c => !anB (fun k => decide (aB A k 1 = b) && !soB A (ud id b c) k) (aBn A)) (i + 1))), (0, .ref 0), (1, .int (nI b))] ⟨rfl, by rw [show mkN (fun c => !anB (fun k => decide (aB A k 1 = b) && !soB A (ud id b c) k) (aBn A)) (i + 1) = (mkN (fun c => !anB (fun k => decide (aB A k 1 = b) && !soB A (ud id b c) k) (aBn A)) i) ||| ((nI 1) <<< ((nI i) &&& 31)) from if_pos (fit_iff.mp h_2)]; rfl, rfl, rfl, trivial⟩ ?_
        exact hn ((up2 m1 43 b (nI b)), l1) ⟨S42_e (wh := id) (by omega) hS1, frK_t hyK (frK_u (frK_t (frK_u (frK_u (frK_u (frK_u frK_r (by omega)) (by omega)) (by omega)) (by omega)) hk1) (by omega)), hl1.trans hyl⟩
  · intro y hI
    obtain ⟨hyC, hyK, hyl⟩ := hI
    refine X_iload_n dX11_fits_9 rfl ?_
    refine X_aload_n dX11_fits_10 rfl ?_
    refine X_getr (a := 3) dX11_fits_11 fkX11_25 rfl (k_0 hSh) (r_0_2 hSh) ?_
    refine X_geti dX11_fits_14 fkX11_144 rfl (k_3 hSh) ?_
    rw [(CI_cl hyC).2.1]
    refine X_icmp_geN (a := aG A) (b := aG A) 81 dX11_fits_17 (by decide) (by first | omega | (have q9 := ld_le (p := (fun k => !decide (aB A k 1 = b) || soB A (ud id b i) k)) (n := aBn A); omega)) (by first | omega | (have q9 := ld_le (p := (fun k => !decide (aB A k 1 = b) || soB A (ud id b i) k)) (n := aBn A); omega)) (fun h_3 => ?_) (fun h_3 => ?_)
    · refine X_iload_n dX11_fits_81 rfl ?_
      exact X_iret dX11_fits_82 rfl ⟨rfl, hyC, hyK, hyl⟩
    · exact absurd h_3 (by omega)

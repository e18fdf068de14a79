/-! ===== the start ===== -/
def A00 : AS := (P00, H00, fun _ => false, (0, fun _ _ => 0), 0, (0, fun _ => (0, 0, 0, fun _ => 0)), (0, fun _ => ((0, 0, 0, fun _ => 0), 0, 0, fun _ => (0, 0, 0, fun _ => 0))), (0, fun _ => 0), -1, fun _ => 0)
theorem s_dyn : DYN gS 0 0 (fun _ => 0) 0 := by
  refine ⟨by omega, by omega, ?_, ?_, ?_, fun k hk => absurd hk (by omega), fun j k _ hk => absurd hk (by omega), fun _ => ?_, fun h => absurd h (by omega)⟩
  · decide +kernel
  · decide +kernel
  · decide +kernel
  · decide +kernel
theorem s_cl : clP mS P00 := ⟨by decide +kernel, by decide +kernel, by decide +kernel, by decide +kernel, by decide +kernel, fun c hc => absurd hc (by show ¬ c < 0; omega), fun b hb => absurd hb (by show ¬ b < 0; omega)⟩
theorem s_hb0 : ∀ o, o < 8 → mS 19 o = nI 1 ∧ mS 18 (o * 150) = nI 108 := by decide +kernel
theorem s_hb : clHb mS H00 := fun o ho => ⟨(s_hb0 o ho).1, fun i hi => by
  have hi : i < 1 := hi
  rw [show i = 0 by omega]
  exact (s_hb0 o ho).2⟩
theorem s_st : STC mS := ⟨by decide +kernel, by decide +kernel, by decide +kernel, by decide +kernel, by decide +kernel, by decide +kernel, by decide +kernel, by decide +kernel, by decide +kernel⟩
theorem s_CI : CI (plA A00 P00) gS mS lS := by
  refine CI_mk shS s_dyn s_cl s_hb ?_ s_st ⟨by decide +kernel, by decide +kernel⟩ ⟨?_, fun k hk => absurd hk (by show ¬ k < 0; omega)⟩ ?_ ⟨?_, fun k hk => absurd hk (by show ¬ k < 0; omega)⟩ ⟨?_, Nat.zero_le _, fun k hk => absurd hk (by show ¬ k < 0; omega)⟩ ⟨?_, fun k hk => absurd hk (by show ¬ k < 0; omega)⟩ ⟨?_, ?_⟩ ?_ (Or.inl ?_) (fun h => absurd h (by omega))
  · show mS 17 5 = mkB (fun _ => false); decide +kernel
  · show mS 24 2 = nI 0; decide +kernel
  · show mS 0 18 = nI 0; decide +kernel
  · show mS 81 2 = nI 0; decide +kernel
  · show mS 81 3 = nI 0; decide +kernel
  · show mS 0 17 = nI 0; decide +kernel
  · show mS 2 4 = -1; decide +kernel
  · show ∀ j, j < 3 → mS 86 j = 0; decide +kernel
  · decide +kernel
  · decide +kernel
theorem s_RI : RI (plA A00 P00) mS := by
  refine ⟨⟨by decide +kernel, by decide +kernel, by decide +kernel, by decide +kernel, by decide +kernel, fun c hc => absurd hc (by show ¬ c < 0; omega), fun b hb => absurd hb (by show ¬ b < 0; omega)⟩, fun o ho => Or.inl ⟨?_, rfl⟩, ?_, ⟨?_, fun k hk => absurd hk (by show ¬ k < 0; omega)⟩, ?_, ⟨?_, fun k hk => absurd hk (by show ¬ k < 0; omega)⟩, ⟨?_, fun k hk => absurd hk (by show ¬ k < 0; omega)⟩, ⟨?_, fun k hk => absurd hk (by show ¬ k < 0; omega)⟩, ?_, ?_⟩
  · exact (show ∀ o, o < 8 → mS 129 o = nI 0 by decide +kernel) o ho
  · exact (show ∀ b, b < 8 → mS 193 b = nI 0 by decide +kernel)
  · show mS 87 28 = nI 0; decide +kernel
  · show mS 87 29 = nI 0; decide +kernel
  · show mS 87 30 = nI 0; decide +kernel
  · show mS 87 31 = nI 0; decide +kernel
  · show mS 87 1 = nI 0; decide +kernel
  · show mS 87 3 = -1; decide +kernel
  · show ∀ j, j < 3 → mS 89 j = 0; decide +kernel
theorem s_LI : LI (plA A00 P00) gS mS lS := ⟨ok_pl ok_P00, s_CI, s_RI⟩
/-- what is owed of the law's body in the pure layer -/
def LawOK : Prop := ∀ Γ : pTG, Γ.2.2.2.2.1.1 ≤ 4096 → XW Γ 100 601024 7293034 mL_law 0 [(0, .ref 999)] [] g00 (fun _ _ => 0) (fun _ _ => 0) (fun r _ _ _ => r = .inl (some (.int 1)))
set_option maxRecDepth 100000 in
theorem law_ok : LawOK := by
  intro Γ hL
  refine X_new dL_law_0 nwL_8 (by decide) (by decide) (by decide) ?_
  refine X_gml (g' := gC1) (mi' := mC1) (ml' := lC1) rfl rfl rfl ?_
  refine X_topr (a' := 0) (show g00.1 = 0 from rfl) ?_
  refine X_dup dL_law_3 rfl ?_
  refine X_callI (As := []) dL_law_4 miL_118 (ct21_X11_init Γ) (fun E _ _ _ h => by cases h.1) rfl rfl (by decide) (by decide) (by decide) (Nat.le_of_ble_eq_true rfl) (fun v g' m' l' h => ?_)
  obtain ⟨h1, rfl, rfl, rfl⟩ := h
  cases h1
  refine X_astore_n dL_law_7 (by decide) ?_
  refine X_new dL_law_8 nwL_119 (by decide +kernel) (by decide) (by decide) ?_
  refine X_gml (g' := gC260) (mi' := mC260) (ml' := lC260) rfl rfl rfl ?_
  refine X_topr (a' := 87) (show gC237.1 = 87 by decide +kernel) ?_
  refine X_dup dL_law_11 rfl ?_
  refine X_callI (As := []) dL_law_12 miL_121 (ct24_X12_init Γ) (fun E _ _ _ h => by cases h.1) rfl rfl (by decide) (by decide) (by decide) (Nat.le_of_ble_eq_true rfl) (fun v g' m' l' h => ?_)
  obtain ⟨h1, rfl, rfl, rfl⟩ := h
  cases h1
  refine X_astore_n dL_law_15 (by decide) ?_
  refine X_iconst (v := nI 1) dL_law_16 (by decide) ?_
  refine X_newL (len := 1) dL_law_17 acL rfl (by decide) (by decide +kernel) (by decide) (by decide) ?_
  refine X_gml (g' := gS) (mi' := mS) (ml' := lS) rfl rfl rfl ?_
  refine X_topr (a' := 450) (show gC351.1 = 450 by decide +kernel) ?_
  refine X_astore_n dL_law_19 (by decide) ?_
  refine X_iconst (v := nI 0) dL_law_20 (by decide) ?_
  refine X_istore dL_law_21 (by decide) ?_
  refine X_L [(4, .int (nI 0)), (0, .ref 999), (1, .ref 0), (2, .ref 87), (3, .ref 450)] ⟨rfl, rfl, rfl, rfl, rfl, trivial⟩ ?_
  exact law_loop Γ hL 512 0 _ _ (plA A00 P00) gS mS lS (by omega) (by omega) (by decide) (by decide) s_LI

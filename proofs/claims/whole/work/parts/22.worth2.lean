theorem nI_max {a b : Nat} (ha : a < 2147483648) (hb : b < 2147483648) : (if nI b < nI a then nI a else nI b) = nI (max a b) := by
  by_cases h : b < a
  · rw [if_pos ((nI_ltI hb ha).mpr h), Nat.max_eq_left (by omega)]
  · rw [if_neg (fun q => h ((nI_ltI hb ha).mp q)), Nat.max_eq_right (by omega)]
theorem nI_min {a b : Nat} (ha : a < 2147483648) (hb : b < 2147483648) : (if nI a < nI b then nI a else nI b) = nI (min a b) := by
  by_cases h : a < b
  · rw [if_pos ((nI_ltI ha hb).mpr h), Nat.min_eq_left (by omega)]
  · rw [if_neg (fun q => h ((nI_ltI ha hb).mp q)), Nat.min_eq_right (by omega)]
set_option maxRecDepth 100000 in
set_option maxHeartbeats 4000000 in
theorem c_worthOf (Γ : pTG) (g : pGG) (mi : pMI) (ml : pML) (hSh : Sh g) (gi ci fr f t : Nat) (h1 : gi < 8) (h2 : ci < 9) (h3 : fr < 100) (hf : mi (121 + gi) 1 = nI f) (ht : mi (121 + gi) 2 = nI t) (hf2 : f < 100) (ht2 : t < 100) : cI Γ 2 mX12_worthOf [.ref 87, .int (nI gi), .int (nI ci), .int (nI fr)] g mi ml (sW (mi (102 + ci) 0) (mi (102 + ci) 1) (max fr f) t) mi := by
  refine cI_of (by decide +kernel) (Nat.le_of_ble_eq_true rfl) ?_
  refine X_iconst (v := nI 0) dX12_worthOf_0 (by decide) ?_
  refine X_istore dX12_worthOf_1 (by decide) ?_
  refine X_iload_n dX12_worthOf_3 rfl ?_
  refine X_aload_n dX12_worthOf_4 rfl ?_
  refine X_getr (a := 120) dX12_worthOf_5 fkX12_37 rfl (k_87 hSh) (r_87_16 hSh) ?_
  refine X_iload_n dX12_worthOf_8 rfl ?_
  refine X_aaldr (b := 121 + gi) gi dX12_worthOf_9 (k_120 hSh) rfl (by omega) (o_120 hSh gi (by omega)) ?_
  refine X_iconst (v := nI 1) dX12_worthOf_10 (by decide) ?_
  refine X_iald 1 dX12_worthOf_11 (kr_120 hSh gi (by omega)) rfl (by omega) ?_
  rw [hf]
  refine X_callSI dX12_worthOf_12 mkX12_291 (c_greater Γ g mi ml _ _) rfl rfl (by decide) (by decide) ?_
  refine X_topi (nI_max (by omega) (by omega)) ?_
  refine X_istore dX12_worthOf_15 (by decide) ?_
  generalize hs : max fr f = s
  refine X_L [(5, .int (nI s)), (4, .int (nI 0)), (0, .ref 87), (1, .int (nI gi)), (2, .int (nI ci)), (3, .int (nI fr))] ⟨rfl, rfl, rfl, rfl, rfl, rfl, trivial⟩ ?_
  by_cases hst : s ≤ t
  · refine X_for (σ := Int32) 17 (fun i x => [(5, .int (nI i)), (4, .int x), (0, .ref 87), (1, .int (nI gi)), (2, .int (nI ci)), (3, .int (nI fr))]) (fun _ => mi) (fun _ => ml) (fun i x => x + (if i < 12 then mi (102 + ci) 0 else mi (102 + ci) 1)) (fun i x => s ≤ i ∧ x = sW (mi (102 + ci) 0) (mi (102 + ci) 1) s i) t ?_ (t - s) s (nI 0) (by omega) ⟨Nat.le_refl _, (sW_0 _ _ (Nat.le_refl _)).symm⟩ ?_
    · intro i x hi hI
      refine ⟨⟨by omega, by rw [hI.2, sW_s _ _ hI.1]⟩, fun hn => ?_⟩
      refine X_iload dX12_worthOf_17 rfl ?_
      refine X_aload_n dX12_worthOf_19 rfl ?_
      refine X_getr (a := 120) dX12_worthOf_20 fkX12_37 rfl (k_87 hSh) (r_87_16 hSh) ?_
      refine X_iload_n dX12_worthOf_23 rfl ?_
      refine X_aaldr (b := 121 + gi) gi dX12_worthOf_24 (k_120 hSh) rfl (by omega) (o_120 hSh gi (by omega)) ?_
      refine X_iconst (v := nI 2) dX12_worthOf_25 (by decide) ?_
      refine X_iald 2 dX12_worthOf_26 (kr_120 hSh gi (by omega)) rfl (by omega) ?_
      rw [ht]
      refine X_icmp_geN (a := i) (b := t) 60 dX12_worthOf_27 (by decide) (by omega) (by omega) (fun h_1 => ?_) (fun h_1 => ?_)
      · exact absurd hi (by omega)
      · refine X_iload dX12_worthOf_30 rfl ?_
        refine X_aload_n dX12_worthOf_32 rfl ?_
        refine X_getr (a := 101) dX12_worthOf_33 fkX12_31 rfl (k_87 hSh) (r_87_14 hSh) ?_
        refine X_iload_n dX12_worthOf_36 rfl ?_
        refine X_aaldr (b := 102 + ci) ci dX12_worthOf_37 (k_101 hSh) rfl (by omega) (o_101 hSh ci (by omega)) ?_
        refine X_iload dX12_worthOf_38 rfl ?_
        refine X_bipush (v := nI 12) dX12_worthOf_40 (by decide) ?_
        refine X_icmp_geN (a := i) (b := 12) 49 dX12_worthOf_42 (by decide) (by omega) (by omega) (fun h_2 => ?_) (fun h_2 => ?_)
        · refine X_iconst (v := nI 1) dX12_worthOf_49 (by decide) ?_
          refine X_iald 1 dX12_worthOf_50 (kr_101 hSh ci (by omega)) rfl (by omega) ?_
          refine X_iadd dX12_worthOf_51 ?_
          refine X_istore dX12_worthOf_52 (by decide) ?_
          refine X_iinc (v := nI (i + 1)) dX12_worthOf_54 rfl (nI_1 _) (by decide) ?_
          refine X_goto 17 dX12_worthOf_57 (by decide) ?_
          refine X_L [(5, .int (nI (i + 1))), (4, .int (x + (mi (102 + ci) 1))), (0, .ref 87), (1, .int (nI gi)), (2, .int (nI ci)), (3, .int (nI fr))] ⟨rfl, rfl, rfl, rfl, rfl, rfl, trivial⟩ ?_
          rw [if_neg (show ¬ i < 12 by omega)] at hn
          exact hn
        · refine X_iconst (v := nI 0) dX12_worthOf_45 (by decide) ?_
          refine X_goto 50 dX12_worthOf_46 (by decide) ?_
          refine X_iald 0 dX12_worthOf_50 (kr_101 hSh ci (by omega)) rfl (by omega) ?_
          refine X_iadd dX12_worthOf_51 ?_
          refine X_istore dX12_worthOf_52 (by decide) ?_
          refine X_iinc (v := nI (i + 1)) dX12_worthOf_54 rfl (nI_1 _) (by decide) ?_
          refine X_goto 17 dX12_worthOf_57 (by decide) ?_
          refine X_L [(5, .int (nI (i + 1))), (4, .int (x + (mi (102 + ci) 0))), (0, .ref 87), (1, .int (nI gi)), (2, .int (nI ci)), (3, .int (nI fr))] ⟨rfl, rfl, rfl, rfl, rfl, rfl, trivial⟩ ?_
          rw [if_pos (show i < 12 by omega)] at hn
          exact hn
    · intro hI
      refine X_iload dX12_worthOf_17 rfl ?_
      refine X_aload_n dX12_worthOf_19 rfl ?_
      refine X_getr (a := 120) dX12_worthOf_20 fkX12_37 rfl (k_87 hSh) (r_87_16 hSh) ?_
      refine X_iload_n dX12_worthOf_23 rfl ?_
      refine X_aaldr (b := 121 + gi) gi dX12_worthOf_24 (k_120 hSh) rfl (by omega) (o_120 hSh gi (by omega)) ?_
      refine X_iconst (v := nI 2) dX12_worthOf_25 (by decide) ?_
      refine X_iald 2 dX12_worthOf_26 (kr_120 hSh gi (by omega)) rfl (by omega) ?_
      rw [ht]
      refine X_icmp_geN (a := t) (b := t) 60 dX12_worthOf_27 (by decide) (by omega) (by omega) (fun h_3 => ?_) (fun h_3 => ?_)
      · refine X_iload dX12_worthOf_60 rfl ?_
        exact X_iret dX12_worthOf_62 rfl ⟨by rw [hI.2], rfl, rfl, rfl⟩
      · exact absurd h_3 (by omega)
  · refine X_iload dX12_worthOf_17 rfl ?_
    refine X_aload_n dX12_worthOf_19 rfl ?_
    refine X_getr (a := 120) dX12_worthOf_20 fkX12_37 rfl (k_87 hSh) (r_87_16 hSh) ?_
    refine X_iload_n dX12_worthOf_23 rfl ?_
    refine X_aaldr (b := 121 + gi) gi dX12_worthOf_24 (k_120 hSh) rfl (by omega) (o_120 hSh gi (by omega)) ?_
    refine X_iconst (v := nI 2) dX12_worthOf_25 (by decide) ?_
    refine X_iald 2 dX12_worthOf_26 (kr_120 hSh gi (by omega)) rfl (by omega) ?_
    rw [ht]
    refine X_icmp_geN (a := s) (b := t) 60 dX12_worthOf_27 (by decide) (by omega) (by omega) (fun h_4 => ?_) (fun h_4 => ?_)
    · refine X_iload dX12_worthOf_60 rfl ?_
      exact X_iret dX12_worthOf_62 rfl ⟨by rw [sW_0 _ _ (by omega)], rfl, rfl, rfl⟩
    · exact absurd h_4 (by omega)

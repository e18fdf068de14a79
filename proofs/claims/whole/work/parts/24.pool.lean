set_option maxRecDepth 100000 in
set_option maxHeartbeats 4000000 in
theorem c_value (Γ : pTG) (g : pGG) (mi : pMI) (ml : pML) (hSh : Sh g) (gi ci h f t : Nat) (h1 : gi < 8) (h2 : ci < 8) (h3 : h < 100) (hf : mi 7 gi = nI f) (ht : mi 8 gi = nI t) (hf2 : f < 100) (ht2 : t < 100) : cI Γ 2 mX8_value [.ref 3, .int (nI gi), .int (nI ci), .int (nI h)] g mi ml (sW (mi 4 ci) (mi 5 ci) (max h f) t) mi := by
  refine cI_of (by decide +kernel) (Nat.le_of_ble_eq_true rfl) ?_
  refine X_iload_n dX8_value_0 rfl ?_
  refine X_aload_n dX8_value_1 rfl ?_
  refine X_getr (a := 7) dX8_value_2 fkX8_21 rfl (k_3 hSh) (r_3_3 hSh) ?_
  refine X_iload_n dX8_value_5 rfl ?_
  refine X_iald gi dX8_value_6 (k_7 hSh) rfl (by omega) ?_
  rw [hf]
  refine X_icmp_geN (a := h) (b := f) 19 dX8_value_7 (by decide) (by omega) (by omega) (fun h_1 => ?_) (fun h_1 => ?_)
  · refine X_iload_n dX8_value_19 rfl ?_
    refine X_istore dX8_value_20 (by decide) ?_
    refine X_aload_n dX8_value_22 rfl ?_
    refine X_getr (a := 4) dX8_value_23 fkX8_9 rfl (k_3 hSh) (r_3_0 hSh) ?_
    refine X_iload_n dX8_value_26 rfl ?_
    refine X_iald ci dX8_value_27 (k_4 hSh) rfl (by omega) ?_
    refine X_aload_n dX8_value_28 rfl ?_
    refine X_getr (a := 5) dX8_value_29 fkX8_15 rfl (k_3 hSh) (r_3_1 hSh) ?_
    refine X_iload_n dX8_value_32 rfl ?_
    refine X_iald ci dX8_value_33 (k_5 hSh) rfl (by omega) ?_
    refine X_iload dX8_value_34 rfl ?_
    refine X_aload_n dX8_value_36 rfl ?_
    refine X_getr (a := 8) dX8_value_37 fkX8_24 rfl (k_3 hSh) (r_3_4 hSh) ?_
    refine X_iload_n dX8_value_40 rfl ?_
    refine X_iald gi dX8_value_41 (k_8 hSh) rfl (by omega) ?_
    rw [ht]
    refine X_callSI dX8_value_42 mkX8_99 (c_stretch Γ g mi ml (mi 4 ci) (mi 5 ci) h t (by omega) (by omega)) rfl rfl (by decide) (by decide) ?_
    exact X_iret dX8_value_45 rfl ⟨by first | rw [Nat.max_eq_left (by omega)] | rw [Nat.max_eq_right (by omega)], rfl, rfl, rfl⟩
  · refine X_aload_n dX8_value_10 rfl ?_
    refine X_getr (a := 7) dX8_value_11 fkX8_21 rfl (k_3 hSh) (r_3_3 hSh) ?_
    refine X_iload_n dX8_value_14 rfl ?_
    refine X_iald gi dX8_value_15 (k_7 hSh) rfl (by omega) ?_
    rw [hf]
    refine X_goto 20 dX8_value_16 (by decide) ?_
    refine X_istore dX8_value_20 (by decide) ?_
    refine X_aload_n dX8_value_22 rfl ?_
    refine X_getr (a := 4) dX8_value_23 fkX8_9 rfl (k_3 hSh) (r_3_0 hSh) ?_
    refine X_iload_n dX8_value_26 rfl ?_
    refine X_iald ci dX8_value_27 (k_4 hSh) rfl (by omega) ?_
    refine X_aload_n dX8_value_28 rfl ?_
    refine X_getr (a := 5) dX8_value_29 fkX8_15 rfl (k_3 hSh) (r_3_1 hSh) ?_
    refine X_iload_n dX8_value_32 rfl ?_
    refine X_iald ci dX8_value_33 (k_5 hSh) rfl (by omega) ?_
    refine X_iload dX8_value_34 rfl ?_
    refine X_aload_n dX8_value_36 rfl ?_
    refine X_getr (a := 8) dX8_value_37 fkX8_24 rfl (k_3 hSh) (r_3_4 hSh) ?_
    refine X_iload_n dX8_value_40 rfl ?_
    refine X_iald gi dX8_value_41 (k_8 hSh) rfl (by omega) ?_
    rw [ht]
    refine X_callSI dX8_value_42 mkX8_99 (c_stretch Γ g mi ml (mi 4 ci) (mi 5 ci) f t (by omega) (by omega)) rfl rfl (by decide) (by decide) ?_
    exact X_iret dX8_value_45 rfl ⟨by first | rw [Nat.max_eq_left (by omega)] | rw [Nat.max_eq_right (by omega)], rfl, rfl, rfl⟩
def gB (go h : Nat) : Bool := decide (0 < go) && decide (0 < h) && decide (h % go = 0)
set_option maxRecDepth 100000 in
set_option maxHeartbeats 4000000 in
theorem c_goesBy (Γ : pTG) (g : pGG) (mi : pMI) (ml : pML) (hSh : Sh g) (h go : Nat) (hg : mi 3 6 = nI go) (h1 : go < 100) (h2 : h < 100) : cI Γ 1 mX8_goesBy [.ref 3, .int (nI h)] g mi ml (bI (gB go h)) mi := by
  refine cI_of (by decide +kernel) (Nat.le_of_ble_eq_true rfl) ?_
  refine X_aload_n dX8_goesBy_0 rfl ?_
  refine X_geti dX8_goesBy_1 fkX8_37 rfl (k_3 hSh) ?_
  rw [hg]
  refine X_if_leN (a := go) 24 dX8_goesBy_4 (by decide) (by first | omega | exact Nat.lt_trans (Nat.mod_lt _ (by omega)) (by omega)) (fun h_1 => ?_) (fun h_1 => ?_)
  · refine X_iconst (v := nI 0) dX8_goesBy_24 (by decide) ?_
    exact X_zret (ty := .boolean) dX8_goesBy_25 rfl (by first | decide | (rcases bI_01 _ with q | q <;> rw [q] <;> decide)) ⟨by simp_all [bI, gB], rfl, rfl, rfl⟩
  · refine X_iload_n dX8_goesBy_7 rfl ?_
    refine X_if_leN (a := h) 24 dX8_goesBy_8 (by decide) (by first | omega | exact Nat.lt_trans (Nat.mod_lt _ (by omega)) (by omega)) (fun h_2 => ?_) (fun h_2 => ?_)
    · refine X_iconst (v := nI 0) dX8_goesBy_24 (by decide) ?_
      exact X_zret (ty := .boolean) dX8_goesBy_25 rfl (by first | decide | (rcases bI_01 _ with q | q <;> rw [q] <;> decide)) ⟨by simp_all [bI, gB], rfl, rfl, rfl⟩
    · refine X_iload_n dX8_goesBy_11 rfl ?_
      refine X_aload_n dX8_goesBy_12 rfl ?_
      refine X_geti dX8_goesBy_13 fkX8_37 rfl (k_3 hSh) ?_
      rw [hg]
      refine X_irem dX8_goesBy_16 (nI_ne0 (by first | omega | exact Nat.lt_trans (Nat.mod_lt _ (by omega)) (by omega)) (by first | omega | exact Nat.lt_trans (Nat.mod_lt _ (by omega)) (by omega))) ?_
      refine X_topi (pk_rem (a := h) (d := go) (by first | omega | exact Nat.lt_trans (Nat.mod_lt _ (by omega)) (by omega)) (by first | omega | exact Nat.lt_trans (Nat.mod_lt _ (by omega)) (by omega)) (by first | omega | exact Nat.lt_trans (Nat.mod_lt _ (by omega)) (by omega))) ?_
      refine X_if_neN (a := h % go) 24 dX8_goesBy_17 (by decide) (by first | omega | exact Nat.lt_trans (Nat.mod_lt _ (by omega)) (by omega)) (fun h_3 => ?_) (fun h_3 => ?_)
      · refine X_iconst (v := nI 0) dX8_goesBy_24 (by decide) ?_
        exact X_zret (ty := .boolean) dX8_goesBy_25 rfl (by first | decide | (rcases bI_01 _ with q | q <;> rw [q] <;> decide)) ⟨by simp_all [bI, gB], rfl, rfl, rfl⟩
      · refine X_iconst (v := nI 1) dX8_goesBy_20 (by decide) ?_
        refine X_goto 25 dX8_goesBy_21 (by decide) ?_
        exact X_zret (ty := .boolean) dX8_goesBy_25 rfl (by first | decide | (rcases bI_01 _ with q | q <;> rw [q] <;> decide)) ⟨by simp_all [bI, gB], rfl, rfl, rfl⟩

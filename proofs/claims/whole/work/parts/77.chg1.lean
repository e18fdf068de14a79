/-! ===== changes ===== -/
def adW (m : pMI) (n : Nat) (k a b : Int32) : pMI := up2 (up2 (up2 (up2 m 82 (n * 3) k) 82 (n * 3 + 1) a) 82 (n * 3 + 2) b) 81 2 (nI (n + 1))
set_option maxRecDepth 100000 in
set_option maxHeartbeats 4000000 in
theorem c_add1 (Γ : pTG) (g : pGG) (mi : pMI) (ml : pML) (hSh : Sh g) (n : Nat) (hn : mi 81 2 = nI n) (h20 : n < 20) (k a b : Int32) : cI Γ 1 mX1_add [.ref 81, .int k, .int a, .int b] g mi ml (nI 1) (adW mi n k a b) := by
  refine cI_of (by decide +kernel) (Nat.le_of_ble_eq_true rfl) ?_
  refine X_aload_n dX1_add_0 rfl ?_
  refine X_geti dX1_add_1 fkX1_21 rfl (k_81 hSh) ?_
  rw [hn]
  refine X_bipush (v := nI 20) dX1_add_4 (by decide) ?_
  refine X_icmp_ltN (a := n) (b := 20) 11 dX1_add_6 (by decide) (by omega) (by omega) (fun h_1 => ?_) (fun h_1 => ?_)
  · refine X_aload_n dX1_add_11 rfl ?_
    refine X_getr (a := 82) dX1_add_12 fkX1_11 rfl (k_81 hSh) (r_81_0 hSh) ?_
    refine X_aload_n dX1_add_15 rfl ?_
    refine X_geti dX1_add_16 fkX1_21 rfl (k_81 hSh) ?_
    rw [hn]
    refine X_iconst (v := nI 3) dX1_add_19 (by decide) ?_
    refine X_imul dX1_add_20 ?_
    refine X_topi (pk_mul n 3) ?_
    refine X_iload_n dX1_add_21 rfl ?_
    refine X_iast (n * 3) dX1_add_22 (k_82 hSh) rfl (by omega) ?_
    refine X_aload_n dX1_add_23 rfl ?_
    refine X_getr (a := 82) dX1_add_24 fkX1_11 rfl (k_81 hSh) (r_81_0 hSh) ?_
    refine X_aload_n dX1_add_27 rfl ?_
    refine X_geti dX1_add_28 fkX1_21 rfl (k_81 hSh) ?_
    refine X_topi (show (up2 mi 82 (n * 3) k) 81 2 = nI n by rw [up2_row (by omega)]; exact hn) ?_
    refine X_iconst (v := nI 3) dX1_add_31 (by decide) ?_
    refine X_imul dX1_add_32 ?_
    refine X_topi (pk_mul n 3) ?_
    refine X_iconst (v := nI 1) dX1_add_33 (by decide) ?_
    refine X_iadd dX1_add_34 ?_
    refine X_topi (nI_add (n * 3) 1) ?_
    refine X_iload_n dX1_add_35 rfl ?_
    refine X_iast ((n * 3) + 1) dX1_add_36 (k_82 hSh) rfl (by omega) ?_
    refine X_aload_n dX1_add_37 rfl ?_
    refine X_getr (a := 82) dX1_add_38 fkX1_11 rfl (k_81 hSh) (r_81_0 hSh) ?_
    refine X_aload_n dX1_add_41 rfl ?_
    refine X_geti dX1_add_42 fkX1_21 rfl (k_81 hSh) ?_
    refine X_topi (show (up2 (up2 mi 82 (n * 3) k) 82 ((n * 3) + 1) a) 81 2 = nI n by rw [up2_row (by omega), up2_row (by omega)]; exact hn) ?_
    refine X_iconst (v := nI 3) dX1_add_45 (by decide) ?_
    refine X_imul dX1_add_46 ?_
    refine X_topi (pk_mul n 3) ?_
    refine X_iconst (v := nI 2) dX1_add_47 (by decide) ?_
    refine X_iadd dX1_add_48 ?_
    refine X_topi (nI_add (n * 3) 2) ?_
    refine X_iload_n dX1_add_49 rfl ?_
    refine X_iast ((n * 3) + 2) dX1_add_50 (k_82 hSh) rfl (by omega) ?_
    refine X_aload_n dX1_add_51 rfl ?_
    refine X_dup dX1_add_52 rfl ?_
    refine X_geti dX1_add_53 fkX1_21 rfl (k_81 hSh) ?_
    refine X_topi (show (up2 (up2 (up2 mi 82 (n * 3) k) 82 ((n * 3) + 1) a) 82 ((n * 3) + 2) b) 81 2 = nI n by rw [up2_row (by omega), up2_row (by omega), up2_row (by omega)]; exact hn) ?_
    refine X_iconst (v := nI 1) dX1_add_56 (by decide) ?_
    refine X_iadd dX1_add_57 ?_
    refine X_topi (nI_add n 1) ?_
    refine X_puti dX1_add_58 fkX1_21 rfl rfl (k_81 hSh) ?_
    refine X_iconst (v := nI 1) dX1_add_61 (by decide) ?_
    exact X_zret (ty := .boolean) dX1_add_62 rfl (by first | decide | (rcases bI_01 _ with q | q <;> rw [q] <;> decide)) ⟨by rfl, rfl, rfl, rfl⟩
  · exact absurd h_1 (by omega)
set_option maxRecDepth 100000 in
set_option maxHeartbeats 4000000 in
theorem c_add0 (Γ : pTG) (g : pGG) (mi : pMI) (ml : pML) (hSh : Sh g) (hn : mi 81 2 = nI 20) (k a b : Int32) : cI Γ 1 mX1_add [.ref 81, .int k, .int a, .int b] g mi ml (nI 0) mi := by
  refine cI_of (by decide +kernel) (Nat.le_of_ble_eq_true rfl) ?_
  refine X_aload_n dX1_add_0 rfl ?_
  refine X_geti dX1_add_1 fkX1_21 rfl (k_81 hSh) ?_
  rw [hn]
  refine X_bipush (v := nI 20) dX1_add_4 (by decide) ?_
  refine X_icmp_ltN (a := 20) (b := 20) 11 dX1_add_6 (by decide) (by omega) (by omega) (fun h_1 => ?_) (fun h_1 => ?_)
  · exact absurd h_1 (by omega)
  · refine X_iconst (v := nI 0) dX1_add_9 (by decide) ?_
    exact X_zret (ty := .boolean) dX1_add_10 rfl (by first | decide | (rcases bI_01 _ with q | q <;> rw [q] <;> decide)) ⟨by rfl, rfl, rfl, rfl⟩
set_option maxRecDepth 100000 in
set_option maxHeartbeats 4000000 in
theorem c_takeBack0 (Γ : pTG) (g : pGG) (mi : pMI) (ml : pML) (hSh : Sh g) (n a b : Nat) (hn : mi 81 2 = nI n) (h0 : 0 < n) (h20 : n ≤ 20) (hk : mi 82 ((n - 1) * 3) = nI 0) (ha : mi 82 ((n - 1) * 3 + 1) = nI a) (hb : mi 82 ((n - 1) * 3 + 2) = nI b) : cV Γ 1 mX1_takeBack [.ref 81, .ref 3] g mi ml (up2 (up2 (up2 mi 81 2 (nI (n - 1))) 3 6 (nI a)) 3 7 (nI b)) ml := by
  refine cV_of (by decide +kernel) (Nat.le_of_ble_eq_true rfl) ?_
  refine X_aload_n dX1_takeBack_0 rfl ?_
  refine X_geti dX1_takeBack_1 fkX1_21 rfl (k_81 hSh) ?_
  rw [hn]
  refine X_if_neN (a := n) 8 dX1_takeBack_4 (by decide) (by omega) (fun h_1 => ?_) (fun h_1 => ?_)
  · refine X_aload_n dX1_takeBack_8 rfl ?_
    refine X_dup dX1_takeBack_9 rfl ?_
    refine X_geti dX1_takeBack_10 fkX1_21 rfl (k_81 hSh) ?_
    rw [hn]
    refine X_iconst (v := nI 1) dX1_takeBack_13 (by decide) ?_
    refine X_isub dX1_takeBack_14 ?_
    refine X_topi (pk_sub (a := n) (b := 1) (by omega)) ?_
    refine X_puti dX1_takeBack_15 fkX1_21 rfl rfl (k_81 hSh) ?_
    refine X_aload_n dX1_takeBack_18 rfl ?_
    refine X_getr (a := 82) dX1_takeBack_19 fkX1_11 rfl (k_81 hSh) (r_81_0 hSh) ?_
    refine X_aload_n dX1_takeBack_22 rfl ?_
    refine X_geti dX1_takeBack_23 fkX1_21 rfl (k_81 hSh) ?_
    refine X_topi (show (up2 mi 81 2 (nI (n - 1))) 81 2 = nI (n - 1) by rw [up2_s]) ?_
    refine X_iconst (v := nI 3) dX1_takeBack_26 (by decide) ?_
    refine X_imul dX1_takeBack_27 ?_
    refine X_topi (pk_mul (n - 1) 3) ?_
    refine X_iconst (v := nI 1) dX1_takeBack_28 (by decide) ?_
    refine X_iadd dX1_takeBack_29 ?_
    refine X_topi (nI_add ((n - 1) * 3) 1) ?_
    refine X_iald (((n - 1) * 3) + 1) dX1_takeBack_30 (k_82 hSh) rfl (by omega) ?_
    refine X_topi (show (up2 mi 81 2 (nI (n - 1))) 82 (((n - 1) * 3) + 1) = nI a by rw [up2_row (by omega)]; exact ha) ?_
    refine X_istore_n dX1_takeBack_31 (by decide) ?_
    refine X_aload_n dX1_takeBack_32 rfl ?_
    refine X_getr (a := 82) dX1_takeBack_33 fkX1_11 rfl (k_81 hSh) (r_81_0 hSh) ?_
    refine X_aload_n dX1_takeBack_36 rfl ?_
    refine X_geti dX1_takeBack_37 fkX1_21 rfl (k_81 hSh) ?_
    refine X_topi (show (up2 mi 81 2 (nI (n - 1))) 81 2 = nI (n - 1) by rw [up2_s]) ?_
    refine X_iconst (v := nI 3) dX1_takeBack_40 (by decide) ?_
    refine X_imul dX1_takeBack_41 ?_
    refine X_topi (pk_mul (n - 1) 3) ?_
    refine X_iconst (v := nI 2) dX1_takeBack_42 (by decide) ?_
    refine X_iadd dX1_takeBack_43 ?_
    refine X_topi (nI_add ((n - 1) * 3) 2) ?_
    refine X_iald (((n - 1) * 3) + 2) dX1_takeBack_44 (k_82 hSh) rfl (by omega) ?_
    refine X_topi (show (up2 mi 81 2 (nI (n - 1))) 82 (((n - 1) * 3) + 2) = nI b by rw [up2_row (by omega)]; exact hb) ?_
    refine X_istore_n dX1_takeBack_45 (by decide) ?_
    refine X_aload_n dX1_takeBack_46 rfl ?_
    refine X_getr (a := 82) dX1_takeBack_47 fkX1_11 rfl (k_81 hSh) (r_81_0 hSh) ?_
    refine X_aload_n dX1_takeBack_50 rfl ?_
    refine X_geti dX1_takeBack_51 fkX1_21 rfl (k_81 hSh) ?_
    refine X_topi (show (up2 mi 81 2 (nI (n - 1))) 81 2 = nI (n - 1) by rw [up2_s]) ?_
    refine X_iconst (v := nI 3) dX1_takeBack_54 (by decide) ?_
    refine X_imul dX1_takeBack_55 ?_
    refine X_topi (pk_mul (n - 1) 3) ?_
    refine X_iald ((n - 1) * 3) dX1_takeBack_56 (k_82 hSh) rfl (by omega) ?_
    refine X_topi (show (up2 mi 81 2 (nI (n - 1))) 82 ((n - 1) * 3) = nI 0 by rw [up2_row (by omega)]; exact hk) ?_
    refine X_lookup 84 dX1_takeBack_57 (by decide) rfl (by decide) ?_
    refine X_aload_n dX1_takeBack_84 rfl ?_
    refine X_iload_n dX1_takeBack_85 rfl ?_
    refine X_puti dX1_takeBack_86 fkX1_28 rfl rfl (k_3 hSh) ?_
    refine X_aload_n dX1_takeBack_89 rfl ?_
    refine X_iload_n dX1_takeBack_90 rfl ?_
    refine X_puti dX1_takeBack_91 fkX1_33 rfl rfl (k_3 hSh) ?_
    refine X_goto 112 dX1_takeBack_94 (by decide) ?_
    exact X_vret dX1_takeBack_112 rfl ⟨rfl, rfl, rfl, rfl⟩
  · exact absurd h_1 (by omega)
set_option maxRecDepth 100000 in
set_option maxHeartbeats 4000000 in
theorem c_takeBack1 (Γ : pTG) (g : pGG) (mi : pMI) (ml : pML) (hSh : Sh g) (n a b : Nat) (hn : mi 81 2 = nI n) (h0 : 0 < n) (h20 : n ≤ 20) (hk : mi 82 ((n - 1) * 3) = nI 1) (ha : mi 82 ((n - 1) * 3 + 1) = nI a) (hb : mi 82 ((n - 1) * 3 + 2) = nI b) : cV Γ 1 mX1_takeBack [.ref 81, .ref 3] g mi ml (up2 (up2 mi 81 2 (nI (n - 1))) 3 8 (nI a)) ml := by
  refine cV_of (by decide +kernel) (Nat.le_of_ble_eq_true rfl) ?_
  refine X_aload_n dX1_takeBack_0 rfl ?_
  refine X_geti dX1_takeBack_1 fkX1_21 rfl (k_81 hSh) ?_
  rw [hn]
  refine X_if_neN (a := n) 8 dX1_takeBack_4 (by decide) (by omega) (fun h_1 => ?_) (fun h_1 => ?_)
  · refine X_aload_n dX1_takeBack_8 rfl ?_
    refine X_dup dX1_takeBack_9 rfl ?_
    refine X_geti dX1_takeBack_10 fkX1_21 rfl (k_81 hSh) ?_
    rw [hn]
    refine X_iconst (v := nI 1) dX1_takeBack_13 (by decide) ?_
    refine X_isub dX1_takeBack_14 ?_
    refine X_topi (pk_sub (a := n) (b := 1) (by omega)) ?_
    refine X_puti dX1_takeBack_15 fkX1_21 rfl rfl (k_81 hSh) ?_
    refine X_aload_n dX1_takeBack_18 rfl ?_
    refine X_getr (a := 82) dX1_takeBack_19 fkX1_11 rfl (k_81 hSh) (r_81_0 hSh) ?_
    refine X_aload_n dX1_takeBack_22 rfl ?_
    refine X_geti dX1_takeBack_23 fkX1_21 rfl (k_81 hSh) ?_
    refine X_topi (show (up2 mi 81 2 (nI (n - 1))) 81 2 = nI (n - 1) by rw [up2_s]) ?_
    refine X_iconst (v := nI 3) dX1_takeBack_26 (by decide) ?_
    refine X_imul dX1_takeBack_27 ?_
    refine X_topi (pk_mul (n - 1) 3) ?_
    refine X_iconst (v := nI 1) dX1_takeBack_28 (by decide) ?_
    refine X_iadd dX1_takeBack_29 ?_
    refine X_topi (nI_add ((n - 1) * 3) 1) ?_
    refine X_iald (((n - 1) * 3) + 1) dX1_takeBack_30 (k_82 hSh) rfl (by omega) ?_
    refine X_topi (show (up2 mi 81 2 (nI (n - 1))) 82 (((n - 1) * 3) + 1) = nI a by rw [up2_row (by omega)]; exact ha) ?_
    refine X_istore_n dX1_takeBack_31 (by decide) ?_
    refine X_aload_n dX1_takeBack_32 rfl ?_
    refine X_getr (a := 82) dX1_takeBack_33 fkX1_11 rfl (k_81 hSh) (r_81_0 hSh) ?_
    refine X_aload_n dX1_takeBack_36 rfl ?_
    refine X_geti dX1_takeBack_37 fkX1_21 rfl (k_81 hSh) ?_
    refine X_topi (show (up2 mi 81 2 (nI (n - 1))) 81 2 = nI (n - 1) by rw [up2_s]) ?_
    refine X_iconst (v := nI 3) dX1_takeBack_40 (by decide) ?_
    refine X_imul dX1_takeBack_41 ?_
    refine X_topi (pk_mul (n - 1) 3) ?_
    refine X_iconst (v := nI 2) dX1_takeBack_42 (by decide) ?_
    refine X_iadd dX1_takeBack_43 ?_
    refine X_topi (nI_add ((n - 1) * 3) 2) ?_
    refine X_iald (((n - 1) * 3) + 2) dX1_takeBack_44 (k_82 hSh) rfl (by omega) ?_
    refine X_topi (show (up2 mi 81 2 (nI (n - 1))) 82 (((n - 1) * 3) + 2) = nI b by rw [up2_row (by omega)]; exact hb) ?_
    refine X_istore_n dX1_takeBack_45 (by decide) ?_
    refine X_aload_n dX1_takeBack_46 rfl ?_
    refine X_getr (a := 82) dX1_takeBack_47 fkX1_11 rfl (k_81 hSh) (r_81_0 hSh) ?_
    refine X_aload_n dX1_takeBack_50 rfl ?_
    refine X_geti dX1_takeBack_51 fkX1_21 rfl (k_81 hSh) ?_
    refine X_topi (show (up2 mi 81 2 (nI (n - 1))) 81 2 = nI (n - 1) by rw [up2_s]) ?_
    refine X_iconst (v := nI 3) dX1_takeBack_54 (by decide) ?_
    refine X_imul dX1_takeBack_55 ?_
    refine X_topi (pk_mul (n - 1) 3) ?_
    refine X_iald ((n - 1) * 3) dX1_takeBack_56 (k_82 hSh) rfl (by omega) ?_
    refine X_topi (show (up2 mi 81 2 (nI (n - 1))) 82 ((n - 1) * 3) = nI 1 by rw [up2_row (by omega)]; exact hk) ?_
    refine X_lookup 97 dX1_takeBack_57 (by decide) rfl (by decide) ?_
    refine X_aload_n dX1_takeBack_97 rfl ?_
    refine X_iload_n dX1_takeBack_98 rfl ?_
    refine X_puti dX1_takeBack_99 fkX1_36 rfl rfl (k_3 hSh) ?_
    refine X_goto 112 dX1_takeBack_102 (by decide) ?_
    exact X_vret dX1_takeBack_112 rfl ⟨rfl, rfl, rfl, rfl⟩
  · exact absurd h_1 (by omega)
set_option maxRecDepth 100000 in
set_option maxHeartbeats 4000000 in
theorem c_takeBack2 (Γ : pTG) (g : pGG) (mi : pMI) (ml : pML) (hSh : Sh g) (n a b : Nat) (hn : mi 81 2 = nI n) (h0 : 0 < n) (h20 : n ≤ 20) (hk : mi 82 ((n - 1) * 3) = nI 2) (ha : mi 82 ((n - 1) * 3 + 1) = nI a) (hb : mi 82 ((n - 1) * 3 + 2) = nI b) (ha8 : a < 8) : cV Γ 1 mX1_takeBack [.ref 81, .ref 3] g mi ml (up2 (up2 mi 81 2 (nI (n - 1))) 6 a (nI b)) ml := by
  refine cV_of (by decide +kernel) (Nat.le_of_ble_eq_true rfl) ?_
  refine X_aload_n dX1_takeBack_0 rfl ?_
  refine X_geti dX1_takeBack_1 fkX1_21 rfl (k_81 hSh) ?_
  rw [hn]
  refine X_if_neN (a := n) 8 dX1_takeBack_4 (by decide) (by omega) (fun h_1 => ?_) (fun h_1 => ?_)
  · refine X_aload_n dX1_takeBack_8 rfl ?_
    refine X_dup dX1_takeBack_9 rfl ?_
    refine X_geti dX1_takeBack_10 fkX1_21 rfl (k_81 hSh) ?_
    rw [hn]
    refine X_iconst (v := nI 1) dX1_takeBack_13 (by decide) ?_
    refine X_isub dX1_takeBack_14 ?_
    refine X_topi (pk_sub (a := n) (b := 1) (by omega)) ?_
    refine X_puti dX1_takeBack_15 fkX1_21 rfl rfl (k_81 hSh) ?_
    refine X_aload_n dX1_takeBack_18 rfl ?_
    refine X_getr (a := 82) dX1_takeBack_19 fkX1_11 rfl (k_81 hSh) (r_81_0 hSh) ?_
    refine X_aload_n dX1_takeBack_22 rfl ?_
    refine X_geti dX1_takeBack_23 fkX1_21 rfl (k_81 hSh) ?_
    refine X_topi (show (up2 mi 81 2 (nI (n - 1))) 81 2 = nI (n - 1) by rw [up2_s]) ?_
    refine X_iconst (v := nI 3) dX1_takeBack_26 (by decide) ?_
    refine X_imul dX1_takeBack_27 ?_
    refine X_topi (pk_mul (n - 1) 3) ?_
    refine X_iconst (v := nI 1) dX1_takeBack_28 (by decide) ?_
    refine X_iadd dX1_takeBack_29 ?_
    refine X_topi (nI_add ((n - 1) * 3) 1) ?_
    refine X_iald (((n - 1) * 3) + 1) dX1_takeBack_30 (k_82 hSh) rfl (by omega) ?_
    refine X_topi (show (up2 mi 81 2 (nI (n - 1))) 82 (((n - 1) * 3) + 1) = nI a by rw [up2_row (by omega)]; exact ha) ?_
    refine X_istore_n dX1_takeBack_31 (by decide) ?_
    refine X_aload_n dX1_takeBack_32 rfl ?_
    refine X_getr (a := 82) dX1_takeBack_33 fkX1_11 rfl (k_81 hSh) (r_81_0 hSh) ?_
    refine X_aload_n dX1_takeBack_36 rfl ?_
    refine X_geti dX1_takeBack_37 fkX1_21 rfl (k_81 hSh) ?_
    refine X_topi (show (up2 mi 81 2 (nI (n - 1))) 81 2 = nI (n - 1) by rw [up2_s]) ?_
    refine X_iconst (v := nI 3) dX1_takeBack_40 (by decide) ?_
    refine X_imul dX1_takeBack_41 ?_
    refine X_topi (pk_mul (n - 1) 3) ?_
    refine X_iconst (v := nI 2) dX1_takeBack_42 (by decide) ?_
    refine X_iadd dX1_takeBack_43 ?_
    refine X_topi (nI_add ((n - 1) * 3) 2) ?_
    refine X_iald (((n - 1) * 3) + 2) dX1_takeBack_44 (k_82 hSh) rfl (by omega) ?_
    refine X_topi (show (up2 mi 81 2 (nI (n - 1))) 82 (((n - 1) * 3) + 2) = nI b by rw [up2_row (by omega)]; exact hb) ?_
    refine X_istore_n dX1_takeBack_45 (by decide) ?_
    refine X_aload_n dX1_takeBack_46 rfl ?_
    refine X_getr (a := 82) dX1_takeBack_47 fkX1_11 rfl (k_81 hSh) (r_81_0 hSh) ?_
    refine X_aload_n dX1_takeBack_50 rfl ?_
    refine X_geti dX1_takeBack_51 fkX1_21 rfl (k_81 hSh) ?_
    refine X_topi (show (up2 mi 81 2 (nI (n - 1))) 81 2 = nI (n - 1) by rw [up2_s]) ?_
    refine X_iconst (v := nI 3) dX1_takeBack_54 (by decide) ?_
    refine X_imul dX1_takeBack_55 ?_
    refine X_topi (pk_mul (n - 1) 3) ?_
    refine X_iald ((n - 1) * 3) dX1_takeBack_56 (k_82 hSh) rfl (by omega) ?_
    refine X_topi (show (up2 mi 81 2 (nI (n - 1))) 82 ((n - 1) * 3) = nI 2 by rw [up2_row (by omega)]; exact hk) ?_
    refine X_lookup 105 dX1_takeBack_57 (by decide) rfl (by decide) ?_
    refine X_aload_n dX1_takeBack_105 rfl ?_
    refine X_getr (a := 6) dX1_takeBack_106 fkX1_39 rfl (k_3 hSh) (r_3_2 hSh) ?_
    refine X_iload_n dX1_takeBack_109 rfl ?_
    refine X_iload_n dX1_takeBack_110 rfl ?_
    refine X_iast a dX1_takeBack_111 (k_6 hSh) rfl (by omega) ?_
    exact X_vret dX1_takeBack_112 rfl ⟨rfl, rfl, rfl, rfl⟩
  · exact absurd h_1 (by omega)
theorem up2_same {m : pMI} {a b : Nat} : up2 m a b (m a b) = m := by
  funext i j; unfold up2; split
  · rename_i h; rw [h.1, h.2]
  · rfl
theorem up2_val {m : pMI} {a b : Nat} {v : Int32} (h : m a b = v) : up2 m a b v = m := by subst h; exact up2_same
set_option maxRecDepth 100000 in
set_option maxHeartbeats 4000000 in
theorem c_puts0 (Γ : pTG) (g : pGG) (mi : pMI) (ml : pML) (hSh : Sh g) (t0 L0 sp : Nat) (hk : g.2.1 t0 = (20, L0)) (hL : L0 < 60000) (hs : mi 87 32 = nI sp) (hsp : sp < L0) (ht0 : t0 ≠ 87) (v : Int32) : cI Γ 1 mX12_puts [.ref 87, .ref t0, .int v, .int (nI 0)] g mi ml v (up2 (up2 mi t0 sp v) 87 32 (nI (sp + 1))) := by
  refine cI_of (by decide +kernel) (Nat.le_of_ble_eq_true rfl) ?_
  refine X_iload_n dX12_puts_0 rfl ?_
  refine X_if_neN (a := 0) 11 dX12_puts_1 (by decide) (by omega) (fun h_1 => ?_) (fun h_1 => ?_)
  · exact absurd rfl h_1
  · refine X_aload_n dX12_puts_4 rfl ?_
    refine X_aload_n dX12_puts_5 rfl ?_
    refine X_geti dX12_puts_6 fkX12_400 rfl (k_87 hSh) ?_
    rw [hs]
    refine X_iload_n dX12_puts_9 rfl ?_
    refine X_iast sp dX12_puts_10 hk rfl (by omega) ?_
    refine X_aload_n dX12_puts_11 rfl ?_
    refine X_dup dX12_puts_12 rfl ?_
    refine X_geti dX12_puts_13 fkX12_400 rfl (k_87 hSh) ?_
    refine X_topi (show (up2 mi t0 sp v) 87 32 = nI sp by rw [up2_row (by omega)]; exact hs) ?_
    refine X_iconst (v := nI 1) dX12_puts_16 (by decide) ?_
    refine X_iadd dX12_puts_17 ?_
    refine X_topi (nI_add sp 1) ?_
    refine X_puti dX12_puts_18 fkX12_400 rfl rfl (k_87 hSh) ?_
    refine X_aload_n dX12_puts_21 rfl ?_
    refine X_aload_n dX12_puts_22 rfl ?_
    refine X_geti dX12_puts_23 fkX12_400 rfl (k_87 hSh) ?_
    refine X_topi (show (up2 (up2 mi t0 sp v) 87 32 (nI (sp + 1))) 87 32 = nI (sp + 1) by rw [up2_s]) ?_
    refine X_iconst (v := nI 1) dX12_puts_26 (by decide) ?_
    refine X_isub dX12_puts_27 ?_
    refine X_topi (pk_sub (a := sp + 1) (b := 1) (by omega)) ?_
    refine X_iald ((sp + 1) - 1) dX12_puts_28 hk rfl (by omega) ?_
    exact X_iret dX12_puts_29 rfl ⟨by rw [show sp + 1 - 1 = sp by omega, up2_row (by omega), up2_s], rfl, rfl, rfl⟩
set_option maxRecDepth 100000 in
set_option maxHeartbeats 4000000 in
theorem c_puts1 (Γ : pTG) (g : pGG) (mi : pMI) (ml : pML) (hSh : Sh g) (t0 L0 sp : Nat) (hk : g.2.1 t0 = (20, L0)) (hL : L0 < 60000) (hs : mi 87 32 = nI sp) (hsp : sp < L0) (ht0 : t0 ≠ 87) (v : Int32) : cI Γ 1 mX12_puts [.ref 87, .ref t0, .int v, .int (nI 1)] g mi ml (mi t0 sp) (up2 mi 87 32 (nI (sp + 1))) := by
  refine cI_of (by decide +kernel) (Nat.le_of_ble_eq_true rfl) ?_
  refine X_iload_n dX12_puts_0 rfl ?_
  refine X_if_neN (a := 1) 11 dX12_puts_1 (by decide) (by omega) (fun h_1 => ?_) (fun h_1 => ?_)
  · refine X_aload_n dX12_puts_11 rfl ?_
    refine X_dup dX12_puts_12 rfl ?_
    refine X_geti dX12_puts_13 fkX12_400 rfl (k_87 hSh) ?_
    rw [hs]
    refine X_iconst (v := nI 1) dX12_puts_16 (by decide) ?_
    refine X_iadd dX12_puts_17 ?_
    refine X_topi (nI_add sp 1) ?_
    refine X_puti dX12_puts_18 fkX12_400 rfl rfl (k_87 hSh) ?_
    refine X_aload_n dX12_puts_21 rfl ?_
    refine X_aload_n dX12_puts_22 rfl ?_
    refine X_geti dX12_puts_23 fkX12_400 rfl (k_87 hSh) ?_
    refine X_topi (show (up2 mi 87 32 (nI (sp + 1))) 87 32 = nI (sp + 1) by rw [up2_s]) ?_
    refine X_iconst (v := nI 1) dX12_puts_26 (by decide) ?_
    refine X_isub dX12_puts_27 ?_
    refine X_topi (pk_sub (a := sp + 1) (b := 1) (by omega)) ?_
    refine X_iald ((sp + 1) - 1) dX12_puts_28 hk rfl (by omega) ?_
    exact X_iret dX12_puts_29 rfl ⟨by rw [show sp + 1 - 1 = sp by omega, up2_row (by omega)], rfl, rfl, rfl⟩
  · exact absurd h_1 (by omega)

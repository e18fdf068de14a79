theorem pbF_t {m : pMI} {t0 sp k j : Nat} (h1 : t0 ≠ 91) (h2 : t0 < 121 ∨ 129 ≤ t0) (h3 : t0 ≠ 87) (h4 : k ≤ 13 ∨ t0 < 169 ∨ 189 ≤ t0) : pbF m t0 sp k t0 j = m t0 j := by
  unfold pbF
  rw [if_neg (by omega), if_neg (by omega), if_neg (by omega), if_neg (by omega), if_neg (by omega), if_neg (by omega)]
theorem pbF_32 {m : pMI} {t0 sp k : Nat} : pbF m t0 sp k 87 32 = nI (sp + k) := by
  unfold pbF
  rw [if_neg (by omega), if_neg (by omega), if_pos ⟨rfl, rfl⟩]
theorem src_1 {m : pMI} {k : Nat} (h : k < 3) : srcN m k = m 91 (2 + k) := if_pos h
theorem src_2 {m : pMI} {b : Nat} (h : b < 8) : srcN m (3 + b) = m (121 + b) 0 := (if_neg (by omega)).trans ((if_pos (by omega)).trans (by rw [show 3 + b - 3 = b by omega]))
theorem ds_1 {k : Nat} (h : k < 3) : dsR k = 91 ∧ dsI k = 2 + k := ⟨if_pos h, if_pos h⟩
theorem ds_2 {b : Nat} (h : b < 8) : dsR (3 + b) = 121 + b ∧ dsI (3 + b) = 0 := ⟨(if_neg (by omega)).trans ((if_pos (by omega)).trans (by omega)), (if_neg (by omega)).trans (if_pos (by omega))⟩
theorem src_5 {m : pMI} {k i : Nat} (hi : i < 11) : srcN m (13 + 11 * k + i) = m (169 + k) i := by
  unfold srcN
  rw [if_neg (by omega), if_neg (by omega), if_neg (by omega), if_neg (by omega), show (13 + 11 * k + i - 13) / 11 = k by omega, show (13 + 11 * k + i - 13) % 11 = i by omega]
theorem ds_5 {k i : Nat} (hi : i < 11) : dsR (13 + 11 * k + i) = 169 + k ∧ dsI (13 + 11 * k + i) = i := by
  unfold dsR dsI
  rw [if_neg (by omega), if_neg (by omega), if_neg (by omega), if_neg (by omega), if_neg (by omega), if_neg (by omega), if_neg (by omega)]
  exact ⟨by omega, by omega⟩
set_option maxRecDepth 100000 in
set_option maxHeartbeats 4000000 in
theorem c_putsChanged0 (Γ : pTG) (g : pGG) (mi : pMI) (ml : pML) (hSh : Sh g) (t0 L0 sp : Nat) (hk : g.2.1 t0 = (20, L0)) (hL : L0 < 60000) (hs : mi 87 32 = nI sp) (hsp : sp + 11 ≤ L0) (ht0 : 169 ≤ t0 ∧ t0 ≤ 192) : cV Γ 2 mX12_putsChanged [.ref 87, .ref t0, .int (nI 0)] g mi ml (pwF mi t0 sp (srcN mi) 11) ml := by
  refine cV_of (by decide +kernel) (Nat.le_of_ble_eq_true rfl) ?_
  refine X_iconst (v := nI 2) dX12_putsChanged_0 (by decide) ?_
  refine X_istore_n dX12_putsChanged_1 (by decide) ?_
  refine X_L [(3, .int (nI 2)), (0, .ref 87), (1, .ref t0), (2, .int (nI 0))] ⟨rfl, rfl, rfl, rfl, trivial⟩ ?_
  refine X_mi (show _ = pwF mi t0 sp (srcN mi) 0 from pwF_0 hs) ?_
  refine X_for3 2 (fun i => [(3, .int (nI (2 + i))), (0, .ref 87), (1, .ref t0), (2, .int (nI 0))]) (fun i => pwF mi t0 sp (srcN mi) (i)) 3 ?_ 3 0 (by omega) ?_
  · intro i hi hn
    refine X_iload_n dX12_putsChanged_2 rfl ?_
    refine X_iconst (v := nI 5) dX12_putsChanged_3 (by decide) ?_
    refine X_icmp_geN (a := 2 + i) (b := 5) 31 dX12_putsChanged_4 (by decide) (by omega) (by omega) (fun h_1 => ?_) (fun h_1 => ?_)
    · exact absurd hi (by omega)
    · refine X_aload_n dX12_putsChanged_7 rfl ?_
      refine X_getr (a := 91) dX12_putsChanged_8 fkX12_23 rfl (k_87 hSh) (r_87_12 hSh) ?_
      refine X_iload_n dX12_putsChanged_11 rfl ?_
      refine X_aload_n dX12_putsChanged_12 rfl ?_
      refine X_aload_n dX12_putsChanged_13 rfl ?_
      refine X_aload_n dX12_putsChanged_14 rfl ?_
      refine X_getr (a := 91) dX12_putsChanged_15 fkX12_23 rfl (k_87 hSh) (r_87_12 hSh) ?_
      refine X_iload_n dX12_putsChanged_18 rfl ?_
      refine X_iald (2 + i) dX12_putsChanged_19 (k_91 hSh) rfl (by omega) ?_
      rw [(show (pwF mi t0 sp (srcN mi) (i)) 91 (2 + i) = srcN mi (i) from (pwF_r (by omega) (by omega)).trans (src_1 hi).symm)]
      refine X_iload_n dX12_putsChanged_20 rfl ?_
      refine X_callVI dX12_putsChanged_21 mkX12_403 (k_87 hSh) (c_puts0 Γ g (pwF mi t0 sp (srcN mi) (i)) ml hSh t0 L0 (sp + (i)) hk hL (pwF_32 (by omega)) (by omega) (by omega) (srcN mi (i))) rfl rfl (by decide) (Nat.le_of_ble_eq_true rfl) ?_
      refine X_iast (2 + i) dX12_putsChanged_24 (k_91 hSh) rfl (by omega) ?_
      refine X_iinc (v := nI (2 + i + 1)) dX12_putsChanged_25 rfl (nI_1 _) (by decide) ?_
      refine X_goto 2 dX12_putsChanged_28 (by decide) ?_
      refine X_L [(3, .int (nI (2 + i + 1))), (0, .ref 87), (1, .ref t0), (2, .int (nI 0))] ⟨rfl, rfl, rfl, rfl, trivial⟩ ?_
      refine X_mi (pwF_s (by omega) (by omega) (by omega) (src_1 hi).symm) ?_
      exact hn
  · refine X_iload_n dX12_putsChanged_2 rfl ?_
    refine X_iconst (v := nI 5) dX12_putsChanged_3 (by decide) ?_
    refine X_icmp_geN (a := 2 + 3) (b := 5) 31 dX12_putsChanged_4 (by decide) (by omega) (by omega) (fun h_2 => ?_) (fun h_2 => ?_)
    · refine X_iconst (v := nI 0) dX12_putsChanged_31 (by decide) ?_
      refine X_istore_n dX12_putsChanged_32 (by decide) ?_
      refine X_L [(3, .int (nI 0)), (0, .ref 87), (1, .ref t0), (2, .int (nI 0))] ⟨rfl, rfl, rfl, rfl, trivial⟩ ?_
      refine X_for3 33 (fun i => [(3, .int (nI (i))), (0, .ref 87), (1, .ref t0), (2, .int (nI 0))]) (fun i => pwF mi t0 sp (srcN mi) (3 + i)) 8 ?_ 8 0 (by omega) ?_
      · intro i hi hn
        refine X_iload_n dX12_putsChanged_33 rfl ?_
        refine X_bipush (v := nI 8) dX12_putsChanged_34 (by decide) ?_
        refine X_icmp_geN (a := i) (b := 8) 67 dX12_putsChanged_36 (by decide) (by omega) (by omega) (fun h_3 => ?_) (fun h_3 => ?_)
        · exact absurd hi (by omega)
        · refine X_aload_n dX12_putsChanged_39 rfl ?_
          refine X_getr (a := 120) dX12_putsChanged_40 fkX12_37 rfl (k_87 hSh) (r_87_16 hSh) ?_
          refine X_iload_n dX12_putsChanged_43 rfl ?_
          refine X_aaldr (b := 121 + i) i dX12_putsChanged_44 (k_120 hSh) rfl (by omega) (o_120 hSh i (by omega)) ?_
          refine X_iconst (v := nI 0) dX12_putsChanged_45 (by decide) ?_
          refine X_aload_n dX12_putsChanged_46 rfl ?_
          refine X_aload_n dX12_putsChanged_47 rfl ?_
          refine X_aload_n dX12_putsChanged_48 rfl ?_
          refine X_getr (a := 120) dX12_putsChanged_49 fkX12_37 rfl (k_87 hSh) (r_87_16 hSh) ?_
          refine X_iload_n dX12_putsChanged_52 rfl ?_
          refine X_aaldr (b := 121 + i) i dX12_putsChanged_53 (k_120 hSh) rfl (by omega) (o_120 hSh i (by omega)) ?_
          refine X_iconst (v := nI 0) dX12_putsChanged_54 (by decide) ?_
          refine X_iald 0 dX12_putsChanged_55 (kr_120 hSh i (by omega)) rfl (by omega) ?_
          rw [(show (pwF mi t0 sp (srcN mi) (3 + i)) (121 + i) 0 = srcN mi (3 + i) from (pwF_r (by omega) (by omega)).trans (src_2 hi).symm)]
          refine X_iload_n dX12_putsChanged_56 rfl ?_
          refine X_callVI dX12_putsChanged_57 mkX12_403 (k_87 hSh) (c_puts0 Γ g (pwF mi t0 sp (srcN mi) (3 + i)) ml hSh t0 L0 (sp + (3 + i)) hk hL (pwF_32 (by omega)) (by omega) (by omega) (srcN mi (3 + i))) rfl rfl (by decide) (Nat.le_of_ble_eq_true rfl) ?_
          refine X_iast 0 dX12_putsChanged_60 (kr_120 hSh i (by omega)) rfl (by omega) ?_
          refine X_iinc (v := nI (i + 1)) dX12_putsChanged_61 rfl (nI_1 _) (by decide) ?_
          refine X_goto 33 dX12_putsChanged_64 (by decide) ?_
          refine X_L [(3, .int (nI (i + 1))), (0, .ref 87), (1, .ref t0), (2, .int (nI 0))] ⟨rfl, rfl, rfl, rfl, trivial⟩ ?_
          refine X_mi (pwF_s (by omega) (by omega) (by omega) (src_2 hi).symm) ?_
          exact hn
      · refine X_iload_n dX12_putsChanged_33 rfl ?_
        refine X_bipush (v := nI 8) dX12_putsChanged_34 (by decide) ?_
        refine X_icmp_geN (a := 8) (b := 8) 67 dX12_putsChanged_36 (by decide) (by omega) (by omega) (fun h_4 => ?_) (fun h_4 => ?_)
        · exact X_vret dX12_putsChanged_67 rfl ⟨rfl, rfl, rfl, rfl⟩
        · exact absurd h_4 (by omega)
    · exact absurd h_2 (by omega)
set_option maxRecDepth 100000 in
set_option maxHeartbeats 4000000 in
theorem c_putsChanged1 (Γ : pTG) (g : pGG) (mi : pMI) (ml : pML) (hSh : Sh g) (t0 L0 sp : Nat) (hk : g.2.1 t0 = (20, L0)) (hL : L0 < 60000) (hs : mi 87 32 = nI sp) (hsp : sp + 11 ≤ L0) (ht0 : 169 ≤ t0 ∧ t0 ≤ 192) : cV Γ 2 mX12_putsChanged [.ref 87, .ref t0, .int (nI 1)] g mi ml (pbF mi t0 sp 11) ml := by
  refine cV_of (by decide +kernel) (Nat.le_of_ble_eq_true rfl) ?_
  refine X_iconst (v := nI 2) dX12_putsChanged_0 (by decide) ?_
  refine X_istore_n dX12_putsChanged_1 (by decide) ?_
  refine X_L [(3, .int (nI 2)), (0, .ref 87), (1, .ref t0), (2, .int (nI 1))] ⟨rfl, rfl, rfl, rfl, trivial⟩ ?_
  refine X_mi (show _ = pbF mi t0 sp 0 from pbF_0 hs) ?_
  refine X_for3 2 (fun i => [(3, .int (nI (2 + i))), (0, .ref 87), (1, .ref t0), (2, .int (nI 1))]) (fun i => pbF mi t0 sp (i)) 3 ?_ 3 0 (by omega) ?_
  · intro i hi hn
    refine X_iload_n dX12_putsChanged_2 rfl ?_
    refine X_iconst (v := nI 5) dX12_putsChanged_3 (by decide) ?_
    refine X_icmp_geN (a := 2 + i) (b := 5) 31 dX12_putsChanged_4 (by decide) (by omega) (by omega) (fun h_1 => ?_) (fun h_1 => ?_)
    · exact absurd hi (by omega)
    · refine X_aload_n dX12_putsChanged_7 rfl ?_
      refine X_getr (a := 91) dX12_putsChanged_8 fkX12_23 rfl (k_87 hSh) (r_87_12 hSh) ?_
      refine X_iload_n dX12_putsChanged_11 rfl ?_
      refine X_aload_n dX12_putsChanged_12 rfl ?_
      refine X_aload_n dX12_putsChanged_13 rfl ?_
      refine X_aload_n dX12_putsChanged_14 rfl ?_
      refine X_getr (a := 91) dX12_putsChanged_15 fkX12_23 rfl (k_87 hSh) (r_87_12 hSh) ?_
      refine X_iload_n dX12_putsChanged_18 rfl ?_
      refine X_iald (2 + i) dX12_putsChanged_19 (k_91 hSh) rfl (by omega) ?_
      refine X_iload_n dX12_putsChanged_20 rfl ?_
      refine X_callVI dX12_putsChanged_21 mkX12_403 (k_87 hSh) (c_puts1 Γ g (pbF mi t0 sp (i)) ml hSh t0 L0 (sp + (i)) hk hL pbF_32 (by omega) (by omega) ((pbF mi t0 sp (i)) 91 (2 + i))) rfl rfl (by decide) (Nat.le_of_ble_eq_true rfl) ?_
      refine X_topi (pbF_t (by omega) (by omega) (by omega) (by omega)) ?_
      refine X_iast (2 + i) dX12_putsChanged_24 (k_91 hSh) rfl (by omega) ?_
      refine X_iinc (v := nI (2 + i + 1)) dX12_putsChanged_25 rfl (nI_1 _) (by decide) ?_
      refine X_goto 2 dX12_putsChanged_28 (by decide) ?_
      refine X_L [(3, .int (nI (2 + i + 1))), (0, .ref 87), (1, .ref t0), (2, .int (nI 1))] ⟨rfl, rfl, rfl, rfl, trivial⟩ ?_
      refine X_mi (show _ = pbF mi t0 sp (i + 1) by rw [← pbF_s (by omega), (ds_1 hi).1, (ds_1 hi).2]) ?_
      exact hn
  · refine X_iload_n dX12_putsChanged_2 rfl ?_
    refine X_iconst (v := nI 5) dX12_putsChanged_3 (by decide) ?_
    refine X_icmp_geN (a := 2 + 3) (b := 5) 31 dX12_putsChanged_4 (by decide) (by omega) (by omega) (fun h_2 => ?_) (fun h_2 => ?_)
    · refine X_iconst (v := nI 0) dX12_putsChanged_31 (by decide) ?_
      refine X_istore_n dX12_putsChanged_32 (by decide) ?_
      refine X_L [(3, .int (nI 0)), (0, .ref 87), (1, .ref t0), (2, .int (nI 1))] ⟨rfl, rfl, rfl, rfl, trivial⟩ ?_
      refine X_for3 33 (fun i => [(3, .int (nI (i))), (0, .ref 87), (1, .ref t0), (2, .int (nI 1))]) (fun i => pbF mi t0 sp (3 + i)) 8 ?_ 8 0 (by omega) ?_
      · intro i hi hn
        refine X_iload_n dX12_putsChanged_33 rfl ?_
        refine X_bipush (v := nI 8) dX12_putsChanged_34 (by decide) ?_
        refine X_icmp_geN (a := i) (b := 8) 67 dX12_putsChanged_36 (by decide) (by omega) (by omega) (fun h_3 => ?_) (fun h_3 => ?_)
        · exact absurd hi (by omega)
        · refine X_aload_n dX12_putsChanged_39 rfl ?_
          refine X_getr (a := 120) dX12_putsChanged_40 fkX12_37 rfl (k_87 hSh) (r_87_16 hSh) ?_
          refine X_iload_n dX12_putsChanged_43 rfl ?_
          refine X_aaldr (b := 121 + i) i dX12_putsChanged_44 (k_120 hSh) rfl (by omega) (o_120 hSh i (by omega)) ?_
          refine X_iconst (v := nI 0) dX12_putsChanged_45 (by decide) ?_
          refine X_aload_n dX12_putsChanged_46 rfl ?_
          refine X_aload_n dX12_putsChanged_47 rfl ?_
          refine X_aload_n dX12_putsChanged_48 rfl ?_
          refine X_getr (a := 120) dX12_putsChanged_49 fkX12_37 rfl (k_87 hSh) (r_87_16 hSh) ?_
          refine X_iload_n dX12_putsChanged_52 rfl ?_
          refine X_aaldr (b := 121 + i) i dX12_putsChanged_53 (k_120 hSh) rfl (by omega) (o_120 hSh i (by omega)) ?_
          refine X_iconst (v := nI 0) dX12_putsChanged_54 (by decide) ?_
          refine X_iald 0 dX12_putsChanged_55 (kr_120 hSh i (by omega)) rfl (by omega) ?_
          refine X_iload_n dX12_putsChanged_56 rfl ?_
          refine X_callVI dX12_putsChanged_57 mkX12_403 (k_87 hSh) (c_puts1 Γ g (pbF mi t0 sp (3 + i)) ml hSh t0 L0 (sp + (3 + i)) hk hL pbF_32 (by omega) (by omega) ((pbF mi t0 sp (3 + i)) (121 + i) 0)) rfl rfl (by decide) (Nat.le_of_ble_eq_true rfl) ?_
          refine X_topi (pbF_t (by omega) (by omega) (by omega) (by omega)) ?_
          refine X_iast 0 dX12_putsChanged_60 (kr_120 hSh i (by omega)) rfl (by omega) ?_
          refine X_iinc (v := nI (i + 1)) dX12_putsChanged_61 rfl (nI_1 _) (by decide) ?_
          refine X_goto 33 dX12_putsChanged_64 (by decide) ?_
          refine X_L [(3, .int (nI (i + 1))), (0, .ref 87), (1, .ref t0), (2, .int (nI 1))] ⟨rfl, rfl, rfl, rfl, trivial⟩ ?_
          refine X_mi (show _ = pbF mi t0 sp (3 + i + 1) by rw [← pbF_s (by omega), (ds_2 hi).1, (ds_2 hi).2]) ?_
          exact hn
      · refine X_iload_n dX12_putsChanged_33 rfl ?_
        refine X_bipush (v := nI 8) dX12_putsChanged_34 (by decide) ?_
        refine X_icmp_geN (a := 8) (b := 8) 67 dX12_putsChanged_36 (by decide) (by omega) (by omega) (fun h_4 => ?_) (fun h_4 => ?_)
        · exact X_vret dX12_putsChanged_67 rfl ⟨rfl, rfl, rfl, rfl⟩
        · exact absurd h_4 (by omega)
    · exact absurd h_2 (by omega)
set_option maxRecDepth 100000 in
set_option maxHeartbeats 4000000 in
theorem c_putsAll0 (Γ : pTG) (g : pGG) (mi : pMI) (ml : pML) (hSh : Sh g) (t0 : Nat) (hk : g.2.1 t0 = (20, 233)) (ht0 : 190 ≤ t0 ∧ t0 ≤ 192) : cV Γ 3 mX12_putsAll [.ref 87, .ref t0, .int (nI 0)] g mi ml (pwF (up2 mi 87 32 (nI 0)) t0 0 (srcN (up2 mi 87 32 (nI 0))) 233) ml := by
  refine cV_of (by decide +kernel) (Nat.le_of_ble_eq_true rfl) ?_
  refine X_aload_n dX12_putsAll_0 rfl ?_
  refine X_iconst (v := nI 0) dX12_putsAll_1 (by decide) ?_
  refine X_puti dX12_putsAll_2 fkX12_400 rfl rfl (k_87 hSh) ?_
  refine X_aload_n dX12_putsAll_5 rfl ?_
  refine X_aload_n dX12_putsAll_6 rfl ?_
  refine X_iload_n dX12_putsAll_7 rfl ?_
  refine X_callVV dX12_putsAll_8 mkX12_407 (k_87 hSh) (c_putsChanged0 Γ g (up2 mi 87 32 (nI 0)) ml hSh t0 233 0 hk (by omega) up2_s (by omega) (by omega)) rfl rfl (by decide) (Nat.le_of_ble_eq_true rfl) ?_
  refine X_aload_n dX12_putsAll_11 rfl ?_
  refine X_aload_n dX12_putsAll_12 rfl ?_
  refine X_aload_n dX12_putsAll_13 rfl ?_
  refine X_aload_n dX12_putsAll_14 rfl ?_
  refine X_geti dX12_putsAll_15 fkX12_244 rfl (k_87 hSh) ?_
  rw [(show (pwF (up2 mi 87 32 (nI 0)) t0 0 (srcN (up2 mi 87 32 (nI 0))) 11) 87 29 = srcN (up2 mi 87 32 (nI 0)) 11 from pwF_r (by omega) (by omega))]
  refine X_iload_n dX12_putsAll_18 rfl ?_
  refine X_callVI dX12_putsAll_19 mkX12_403 (k_87 hSh) (c_puts0 Γ g (pwF (up2 mi 87 32 (nI 0)) t0 0 (srcN (up2 mi 87 32 (nI 0))) (11)) ml hSh t0 233 (0 + (11)) hk (by omega) (pwF_32 (by omega)) (by omega) (by omega) (srcN (up2 mi 87 32 (nI 0)) (11))) rfl rfl (by decide) (Nat.le_of_ble_eq_true rfl) ?_
  refine X_puti dX12_putsAll_22 fkX12_244 rfl rfl (k_87 hSh) ?_
  refine X_mi (show _ = pwF (up2 mi 87 32 (nI 0)) t0 0 (srcN (up2 mi 87 32 (nI 0))) 12 from pwF_s (R := 87) (I := 29) (k := 11) (by omega) (by omega) (by omega) rfl) ?_
  refine X_aload_n dX12_putsAll_25 rfl ?_
  refine X_aload_n dX12_putsAll_26 rfl ?_
  refine X_aload_n dX12_putsAll_27 rfl ?_
  refine X_aload_n dX12_putsAll_28 rfl ?_
  refine X_geti dX12_putsAll_29 fkX12_247 rfl (k_87 hSh) ?_
  rw [(show (pwF (up2 mi 87 32 (nI 0)) t0 0 (srcN (up2 mi 87 32 (nI 0))) 12) 87 30 = srcN (up2 mi 87 32 (nI 0)) 12 from pwF_r (by omega) (by omega))]
  refine X_iload_n dX12_putsAll_32 rfl ?_
  refine X_callVI dX12_putsAll_33 mkX12_403 (k_87 hSh) (c_puts0 Γ g (pwF (up2 mi 87 32 (nI 0)) t0 0 (srcN (up2 mi 87 32 (nI 0))) (12)) ml hSh t0 233 (0 + (12)) hk (by omega) (pwF_32 (by omega)) (by omega) (by omega) (srcN (up2 mi 87 32 (nI 0)) (12))) rfl rfl (by decide) (Nat.le_of_ble_eq_true rfl) ?_
  refine X_puti dX12_putsAll_36 fkX12_247 rfl rfl (k_87 hSh) ?_
  refine X_mi (show _ = pwF (up2 mi 87 32 (nI 0)) t0 0 (srcN (up2 mi 87 32 (nI 0))) 13 from pwF_s (R := 87) (I := 30) (k := 12) (by omega) (by omega) (by omega) rfl) ?_
  refine X_iconst (v := nI 0) dX12_putsAll_39 (by decide) ?_
  refine X_istore_n dX12_putsAll_40 (by decide) ?_
  refine X_L [(3, .int (nI 0)), (0, .ref 87), (1, .ref t0), (2, .int (nI 0))] ⟨rfl, rfl, rfl, rfl, trivial⟩ ?_
  refine X_for3 41 (fun i => [(3, .int (nI i)), (0, .ref 87), (1, .ref t0), (2, .int (nI 0))]) (fun i => pwF (up2 mi 87 32 (nI 0)) t0 0 (srcN (up2 mi 87 32 (nI 0))) (13 + 11 * i)) 20 ?_ 20 0 (by omega) ?_
  · intro i hi hn
    refine X_iload_n dX12_putsAll_41 rfl ?_
    refine X_bipush (v := nI 20) dX12_putsAll_42 (by decide) ?_
    refine X_icmp_geN (a := i) (b := 20) 93 dX12_putsAll_44 (by decide) (by omega) (by omega) (fun h_1 => ?_) (fun h_1 => ?_)
    · exact absurd hi (by omega)
    · refine X_iconst (v := nI 0) dX12_putsAll_47 (by decide) ?_
      refine X_istore dX12_putsAll_48 (by decide) ?_
      refine X_L [(4, .int (nI 0)), (3, .int (nI i)), (0, .ref 87), (1, .ref t0), (2, .int (nI 0))] ⟨rfl, rfl, rfl, rfl, rfl, trivial⟩ ?_
      refine X_for3 50 (fun j => [(4, .int (nI j)), (3, .int (nI i)), (0, .ref 87), (1, .ref t0), (2, .int (nI 0))]) (fun j => pwF (up2 mi 87 32 (nI 0)) t0 0 (srcN (up2 mi 87 32 (nI 0))) (13 + 11 * i + j)) 11 ?_ 11 0 (by omega) ?_
      · intro j hj hn2
        refine X_iload dX12_putsAll_50 rfl ?_
        refine X_bipush (v := nI 11) dX12_putsAll_52 (by decide) ?_
        refine X_icmp_geN (a := j) (b := 11) 87 dX12_putsAll_54 (by decide) (by omega) (by omega) (fun h_2 => ?_) (fun h_2 => ?_)
        · exact absurd hj (by omega)
        · refine X_aload_n dX12_putsAll_57 rfl ?_
          refine X_getr (a := 168) dX12_putsAll_58 fkX12_61 rfl (k_87 hSh) (r_87_24 hSh) ?_
          refine X_iload_n dX12_putsAll_61 rfl ?_
          refine X_aaldr (b := 169 + i) i dX12_putsAll_62 (k_168 hSh) rfl (by omega) (o_168 hSh i (by omega)) ?_
          refine X_iload dX12_putsAll_63 rfl ?_
          refine X_aload_n dX12_putsAll_65 rfl ?_
          refine X_aload_n dX12_putsAll_66 rfl ?_
          refine X_aload_n dX12_putsAll_67 rfl ?_
          refine X_getr (a := 168) dX12_putsAll_68 fkX12_61 rfl (k_87 hSh) (r_87_24 hSh) ?_
          refine X_iload_n dX12_putsAll_71 rfl ?_
          refine X_aaldr (b := 169 + i) i dX12_putsAll_72 (k_168 hSh) rfl (by omega) (o_168 hSh i (by omega)) ?_
          refine X_iload dX12_putsAll_73 rfl ?_
          refine X_iald j dX12_putsAll_75 (kr_168 hSh i (by omega)) rfl (by omega) ?_
          rw [(show (pwF (up2 mi 87 32 (nI 0)) t0 0 (srcN (up2 mi 87 32 (nI 0))) (13 + 11 * i + j)) (169 + i) j = srcN (up2 mi 87 32 (nI 0)) (13 + 11 * i + j) from (pwF_r (by omega) (by omega)).trans (src_5 hj).symm)]
          refine X_iload_n dX12_putsAll_76 rfl ?_
          refine X_callVI dX12_putsAll_77 mkX12_403 (k_87 hSh) (c_puts0 Γ g (pwF (up2 mi 87 32 (nI 0)) t0 0 (srcN (up2 mi 87 32 (nI 0))) (13 + 11 * i + j)) ml hSh t0 233 (0 + (13 + 11 * i + j)) hk (by omega) (pwF_32 (by omega)) (by omega) (by omega) (srcN (up2 mi 87 32 (nI 0)) (13 + 11 * i + j))) rfl rfl (by decide) (Nat.le_of_ble_eq_true rfl) ?_
          refine X_iast j dX12_putsAll_80 (kr_168 hSh i (by omega)) rfl (by omega) ?_
          refine X_iinc (v := nI (j + 1)) dX12_putsAll_81 rfl (nI_1 _) (by decide) ?_
          refine X_goto 50 dX12_putsAll_84 (by decide) ?_
          refine X_L [(4, .int (nI (j + 1))), (3, .int (nI i)), (0, .ref 87), (1, .ref t0), (2, .int (nI 0))] ⟨rfl, rfl, rfl, rfl, rfl, trivial⟩ ?_
          refine X_mi (pwF_s (by omega) (by omega) (by omega) (src_5 hj).symm) ?_
          exact hn2
      · refine X_mi (show pwF (up2 mi 87 32 (nI 0)) t0 0 (srcN (up2 mi 87 32 (nI 0))) (13 + 11 * i + 11) = pwF (up2 mi 87 32 (nI 0)) t0 0 (srcN (up2 mi 87 32 (nI 0))) (13 + 11 * (i + 1)) by rw [show 13 + 11 * i + 11 = 13 + 11 * (i + 1) by omega]) ?_
        refine X_iload dX12_putsAll_50 rfl ?_
        refine X_bipush (v := nI 11) dX12_putsAll_52 (by decide) ?_
        refine X_icmp_geN (a := 11) (b := 11) 87 dX12_putsAll_54 (by decide) (by omega) (by omega) (fun h_3 => ?_) (fun h_3 => ?_)
        · refine X_iinc (v := nI (i + 1)) dX12_putsAll_87 rfl (nI_1 _) (by decide) ?_
          refine X_goto 41 dX12_putsAll_90 (by decide) ?_
          refine X_L [(3, .int (nI (i + 1))), (0, .ref 87), (1, .ref t0), (2, .int (nI 0))] ⟨rfl, rfl, rfl, rfl, trivial⟩ ?_
          exact hn
        · exact absurd h_3 (by omega)
  · refine X_iload_n dX12_putsAll_41 rfl ?_
    refine X_bipush (v := nI 20) dX12_putsAll_42 (by decide) ?_
    refine X_icmp_geN (a := 20) (b := 20) 93 dX12_putsAll_44 (by decide) (by omega) (by omega) (fun h_4 => ?_) (fun h_4 => ?_)
    · exact X_vret dX12_putsAll_93 rfl ⟨rfl, rfl, rfl, rfl⟩
    · exact absurd h_4 (by omega)
set_option maxRecDepth 100000 in
set_option maxHeartbeats 4000000 in
theorem c_putsAll1 (Γ : pTG) (g : pGG) (mi : pMI) (ml : pML) (hSh : Sh g) (t0 : Nat) (hk : g.2.1 t0 = (20, 233)) (ht0 : 190 ≤ t0 ∧ t0 ≤ 192) : cV Γ 3 mX12_putsAll [.ref 87, .ref t0, .int (nI 1)] g mi ml (pbF (up2 mi 87 32 (nI 0)) t0 0 233) ml := by
  refine cV_of (by decide +kernel) (Nat.le_of_ble_eq_true rfl) ?_
  refine X_aload_n dX12_putsAll_0 rfl ?_
  refine X_iconst (v := nI 0) dX12_putsAll_1 (by decide) ?_
  refine X_puti dX12_putsAll_2 fkX12_400 rfl rfl (k_87 hSh) ?_
  refine X_aload_n dX12_putsAll_5 rfl ?_
  refine X_aload_n dX12_putsAll_6 rfl ?_
  refine X_iload_n dX12_putsAll_7 rfl ?_
  refine X_callVV dX12_putsAll_8 mkX12_407 (k_87 hSh) (c_putsChanged1 Γ g (up2 mi 87 32 (nI 0)) ml hSh t0 233 0 hk (by omega) up2_s (by omega) (by omega)) rfl rfl (by decide) (Nat.le_of_ble_eq_true rfl) ?_
  refine X_aload_n dX12_putsAll_11 rfl ?_
  refine X_aload_n dX12_putsAll_12 rfl ?_
  refine X_aload_n dX12_putsAll_13 rfl ?_
  refine X_aload_n dX12_putsAll_14 rfl ?_
  refine X_geti dX12_putsAll_15 fkX12_244 rfl (k_87 hSh) ?_
  refine X_iload_n dX12_putsAll_18 rfl ?_
  refine X_callVI dX12_putsAll_19 mkX12_403 (k_87 hSh) (c_puts1 Γ g (pbF (up2 mi 87 32 (nI 0)) t0 0 (11)) ml hSh t0 233 (0 + (11)) hk (by omega) pbF_32 (by omega) (by omega) ((pbF (up2 mi 87 32 (nI 0)) t0 0 11) 87 29)) rfl rfl (by decide) (Nat.le_of_ble_eq_true rfl) ?_
  refine X_topi (pbF_t (by omega) (by omega) (by omega) (by omega)) ?_
  refine X_puti dX12_putsAll_22 fkX12_244 rfl rfl (k_87 hSh) ?_
  refine X_mi (show _ = pbF (up2 mi 87 32 (nI 0)) t0 0 12 from pbF_s (k := 11) (by omega)) ?_
  refine X_aload_n dX12_putsAll_25 rfl ?_
  refine X_aload_n dX12_putsAll_26 rfl ?_
  refine X_aload_n dX12_putsAll_27 rfl ?_
  refine X_aload_n dX12_putsAll_28 rfl ?_
  refine X_geti dX12_putsAll_29 fkX12_247 rfl (k_87 hSh) ?_
  refine X_iload_n dX12_putsAll_32 rfl ?_
  refine X_callVI dX12_putsAll_33 mkX12_403 (k_87 hSh) (c_puts1 Γ g (pbF (up2 mi 87 32 (nI 0)) t0 0 (12)) ml hSh t0 233 (0 + (12)) hk (by omega) pbF_32 (by omega) (by omega) ((pbF (up2 mi 87 32 (nI 0)) t0 0 12) 87 30)) rfl rfl (by decide) (Nat.le_of_ble_eq_true rfl) ?_
  refine X_topi (pbF_t (by omega) (by omega) (by omega) (by omega)) ?_
  refine X_puti dX12_putsAll_36 fkX12_247 rfl rfl (k_87 hSh) ?_
  refine X_mi (show _ = pbF (up2 mi 87 32 (nI 0)) t0 0 13 from pbF_s (k := 12) (by omega)) ?_
  refine X_iconst (v := nI 0) dX12_putsAll_39 (by decide) ?_
  refine X_istore_n dX12_putsAll_40 (by decide) ?_
  refine X_L [(3, .int (nI 0)), (0, .ref 87), (1, .ref t0), (2, .int (nI 1))] ⟨rfl, rfl, rfl, rfl, trivial⟩ ?_
  refine X_for3 41 (fun i => [(3, .int (nI i)), (0, .ref 87), (1, .ref t0), (2, .int (nI 1))]) (fun i => pbF (up2 mi 87 32 (nI 0)) t0 0 (13 + 11 * i)) 20 ?_ 20 0 (by omega) ?_
  · intro i hi hn
    refine X_iload_n dX12_putsAll_41 rfl ?_
    refine X_bipush (v := nI 20) dX12_putsAll_42 (by decide) ?_
    refine X_icmp_geN (a := i) (b := 20) 93 dX12_putsAll_44 (by decide) (by omega) (by omega) (fun h_1 => ?_) (fun h_1 => ?_)
    · exact absurd hi (by omega)
    · refine X_iconst (v := nI 0) dX12_putsAll_47 (by decide) ?_
      refine X_istore dX12_putsAll_48 (by decide) ?_
      refine X_L [(4, .int (nI 0)), (3, .int (nI i)), (0, .ref 87), (1, .ref t0), (2, .int (nI 1))] ⟨rfl, rfl, rfl, rfl, rfl, trivial⟩ ?_
      refine X_for3 50 (fun j => [(4, .int (nI j)), (3, .int (nI i)), (0, .ref 87), (1, .ref t0), (2, .int (nI 1))]) (fun j => pbF (up2 mi 87 32 (nI 0)) t0 0 (13 + 11 * i + j)) 11 ?_ 11 0 (by omega) ?_
      · intro j hj hn2
        refine X_iload dX12_putsAll_50 rfl ?_
        refine X_bipush (v := nI 11) dX12_putsAll_52 (by decide) ?_
        refine X_icmp_geN (a := j) (b := 11) 87 dX12_putsAll_54 (by decide) (by omega) (by omega) (fun h_2 => ?_) (fun h_2 => ?_)
        · exact absurd hj (by omega)
        · refine X_aload_n dX12_putsAll_57 rfl ?_
          refine X_getr (a := 168) dX12_putsAll_58 fkX12_61 rfl (k_87 hSh) (r_87_24 hSh) ?_
          refine X_iload_n dX12_putsAll_61 rfl ?_
          refine X_aaldr (b := 169 + i) i dX12_putsAll_62 (k_168 hSh) rfl (by omega) (o_168 hSh i (by omega)) ?_
          refine X_iload dX12_putsAll_63 rfl ?_
          refine X_aload_n dX12_putsAll_65 rfl ?_
          refine X_aload_n dX12_putsAll_66 rfl ?_
          refine X_aload_n dX12_putsAll_67 rfl ?_
          refine X_getr (a := 168) dX12_putsAll_68 fkX12_61 rfl (k_87 hSh) (r_87_24 hSh) ?_
          refine X_iload_n dX12_putsAll_71 rfl ?_
          refine X_aaldr (b := 169 + i) i dX12_putsAll_72 (k_168 hSh) rfl (by omega) (o_168 hSh i (by omega)) ?_
          refine X_iload dX12_putsAll_73 rfl ?_
          refine X_iald j dX12_putsAll_75 (kr_168 hSh i (by omega)) rfl (by omega) ?_
          refine X_iload_n dX12_putsAll_76 rfl ?_
          refine X_callVI dX12_putsAll_77 mkX12_403 (k_87 hSh) (c_puts1 Γ g (pbF (up2 mi 87 32 (nI 0)) t0 0 (13 + 11 * i + j)) ml hSh t0 233 (0 + (13 + 11 * i + j)) hk (by omega) pbF_32 (by omega) (by omega) ((pbF (up2 mi 87 32 (nI 0)) t0 0 (13 + 11 * i + j)) (169 + i) j)) rfl rfl (by decide) (Nat.le_of_ble_eq_true rfl) ?_
          refine X_topi (pbF_t (by omega) (by omega) (by omega) (by omega)) ?_
          refine X_iast j dX12_putsAll_80 (kr_168 hSh i (by omega)) rfl (by omega) ?_
          refine X_iinc (v := nI (j + 1)) dX12_putsAll_81 rfl (nI_1 _) (by decide) ?_
          refine X_goto 50 dX12_putsAll_84 (by decide) ?_
          refine X_L [(4, .int (nI (j + 1))), (3, .int (nI i)), (0, .ref 87), (1, .ref t0), (2, .int (nI 1))] ⟨rfl, rfl, rfl, rfl, rfl, trivial⟩ ?_
          refine X_mi (show _ = pbF (up2 mi 87 32 (nI 0)) t0 0 (13 + 11 * i + j + 1) by rw [← pbF_s (by omega), (ds_5 hj).1, (ds_5 hj).2]) ?_
          exact hn2
      · refine X_mi (show pbF (up2 mi 87 32 (nI 0)) t0 0 (13 + 11 * i + 11) = pbF (up2 mi 87 32 (nI 0)) t0 0 (13 + 11 * (i + 1)) by rw [show 13 + 11 * i + 11 = 13 + 11 * (i + 1) by omega]) ?_
        refine X_iload dX12_putsAll_50 rfl ?_
        refine X_bipush (v := nI 11) dX12_putsAll_52 (by decide) ?_
        refine X_icmp_geN (a := 11) (b := 11) 87 dX12_putsAll_54 (by decide) (by omega) (by omega) (fun h_3 => ?_) (fun h_3 => ?_)
        · refine X_iinc (v := nI (i + 1)) dX12_putsAll_87 rfl (nI_1 _) (by decide) ?_
          refine X_goto 41 dX12_putsAll_90 (by decide) ?_
          refine X_L [(3, .int (nI (i + 1))), (0, .ref 87), (1, .ref t0), (2, .int (nI 1))] ⟨rfl, rfl, rfl, rfl, trivial⟩ ?_
          exact hn
        · exact absurd h_3 (by omega)
  · refine X_iload_n dX12_putsAll_41 rfl ?_
    refine X_bipush (v := nI 20) dX12_putsAll_42 (by decide) ?_
    refine X_icmp_geN (a := 20) (b := 20) 93 dX12_putsAll_44 (by decide) (by omega) (by omega) (fun h_4 => ?_) (fun h_4 => ?_)
    · exact X_vret dX12_putsAll_93 rfl ⟨rfl, rfl, rfl, rfl⟩
    · exact absurd h_4 (by omega)

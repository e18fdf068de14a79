theorem X_i2c {Γ : pTG} {d k n : Nat} {M : pMD} {pc : Nat} {L : List (Nat × Value)} {S : List Value} {g : pGG} {mi : pMI} {ml : pML} {Q : pQ} {x : Int32} (hd : decode M.2.1 pc = .ok (.i2c, 1)) (h : XW Γ d k n M (pc + 1) L (.int (x.toUInt32 % 65536).toInt32 :: S) g mi ml Q) : XW Γ d k n M pc L (.int x :: S) g mi ml Q := by
  intro p e s m args below meth c H locs cells slots mc ms ls ad ad0 n0 R P
  obtain ⟨hc, hE, hS, hl, hRep, hoL, hoS, hr, ha⟩ := P
  exact lv_i2c hc.1 hc.2.1 hd rfl (h p e s m args below meth c H locs cells slots mc ms ls ad ad0 n0 R ⟨hc, hE, hS, hl, hRep, hoL, okS_c okv_i (okS_t hoS), hr, ha⟩)
theorem X_callTI {Γ : pTG} {d k n : Nat} {M : pMD} {pc : Nat} {L : List (Nat × Value)} {S : List Value} {g : pGG} {mi : pMI} {ml : pML} {Q : pQ} {d' idx j na : Nat} {M' : pMD} {As S0 : List Value} {r : Int32} {mi' : pMI} (hd : decode M.2.1 pc = .ok (.invokevirtual idx, 3)) (hm : MLT M.1.cls idx M' na) (hj : j < 4) (hC : cI Γ d' M' (.ref (1000 + j) :: As) g mi ml r mi') (hS0 : S0 = As.reverse ++ .ref (1000 + j) :: S) (hA : As.length = na) (hd' : d' + 1 ≤ d) (hcat : (S.map (fun v => v.category)).sum ≤ 8) (kk : XW Γ d k n M (pc + 3) L (.int r :: S) g mi' ml Q) : XW Γ d k n M pc L S0 g mi ml Q :=
  X_callT hd hm hj hC hS0 hA hd' (Nat.zero_le _) (Nat.zero_le _) hcat (fun E _ _ _ h => by cases h.1) (fun v _ _ _ h => by obtain ⟨h1, rfl, rfl, rfl⟩ := h; cases h1; exact kk)
theorem mtJ0_335 : MLT RJ0 335 mJ0_coder_7d493 0 := ⟨rfl, uxW_all (by decide +kernel), ⟨by decide, by decide, by decide +kernel⟩, by decide⟩
theorem mtJ0_492 : MLT RJ0 492 mJ0_isLatin1_aae02 0 := ⟨rfl, uxW_all (by decide +kernel), ⟨by decide, by decide, by decide +kernel⟩, by decide⟩
theorem msJ0_495 : MLS RJ0 495 mJ1_charAt_3b067 2 := ⟨uxW_all (by decide +kernel), ⟨by decide, by decide, by decide +kernel⟩, by decide⟩
theorem msJ1_9 : MLS RJ1 9 mJ0_checkIndex_df160 2 := ⟨uxW_all (by decide +kernel), ⟨by decide, by decide, by decide +kernel⟩, by decide⟩
theorem msJ0_1059 : MLS RJ0 1059 mJ3_checkIndex_8e157 3 := ⟨uxW_all (by decide +kernel), ⟨by decide, by decide, by decide +kernel⟩, by decide⟩
theorem mtX10_56 : MLT RX10 56 mJ0_length_8abf5 0 := ⟨rfl, uxW_all (by decide +kernel), ⟨by decide, by decide, by decide +kernel⟩, by decide⟩
theorem mtX10_60 : MLT RX10 60 mJ0_charAt_5068e 1 := ⟨rfl, uxW_all (by decide +kernel), ⟨by decide, by decide, by decide +kernel⟩, by decide⟩
theorem flV : Cond.fieldLink RJ0 9 "java/lang/String" "value" "[B" ∈ uxW := (uxW_of (by decide +kernel) (by decide +kernel))
theorem flC : Cond.fieldLink RJ0 15 "java/lang/String" "coder" "B" ∈ uxW := (uxW_of (by decide +kernel) (by decide +kernel))
theorem flP : Cond.fieldLink RJ0 38 "java/lang/String" "COMPACT_STRINGS" "Z" ∈ uxW := (uxW_of (by decide +kernel) (by decide +kernel))
theorem flF : Cond.fieldLink RJ0 1053 "jdk/internal/util/Preconditions" "SIOOBE_FORMATTER" "Ljava/util/function/BiFunction;" ∈ uxW := (uxW_of (by decide +kernel) (by decide +kernel))
def chS (j q : Nat) : Int32 := (strByt.getD j []).getD q 0
theorem chS_ok : ∀ j, j < 4 → ∀ q, q < strLen.getD j 0 → (((strByt.getD j []).getD q 0 &&& nI 255).toUInt32 % 65536).toInt32 = chS j q ∧ narrow .char (.int (chS j q)) = .int (chS j q) := by decide +kernel
theorem sLen_ok : ∀ j, j < 4 → strLen.getD j 0 < 100 ∧ nI (strLen.getD j 0) >>> (nI 0 &&& 31) = nI (strLen.getD j 0) := by decide +kernel
theorem c_coder (Γ : pTG) (g : pGG) (mi : pMI) (ml : pML) (j : Nat) (hj : j < 4) : cI Γ 1 mJ0_coder_7d493 [.ref (1000 + j)] g mi ml (nI 0) mi := by
  refine cI_of (by decide +kernel) (Nat.le_of_ble_eq_true rfl) ?_
  refine X_scmp dJ0_coder_7d493_0 flP ?_
  refine X_if_eqN (a := 1) 13 dJ0_coder_7d493_3 (by decide) (by omega) (fun h => absurd h (by omega)) (fun _ => ?_)
  refine X_aload_n dJ0_coder_7d493_6 rfl ?_
  refine X_scod hj dJ0_coder_7d493_7 flC ?_
  refine X_goto 14 dJ0_coder_7d493_10 (by decide) ?_
  exact X_zret (ty := .byte) dJ0_coder_7d493_14 rfl (by decide) ⟨rfl, rfl, rfl, rfl⟩
theorem c_isLatin1 (Γ : pTG) (g : pGG) (mi : pMI) (ml : pML) (j : Nat) (hj : j < 4) : cI Γ 1 mJ0_isLatin1_aae02 [.ref (1000 + j)] g mi ml (nI 1) mi := by
  refine cI_of (by decide +kernel) (Nat.le_of_ble_eq_true rfl) ?_
  refine X_scmp dJ0_isLatin1_aae02_0 flP ?_
  refine X_if_eqN (a := 1) 17 dJ0_isLatin1_aae02_3 (by decide) (by omega) (fun h => absurd h (by omega)) (fun _ => ?_)
  refine X_aload_n dJ0_isLatin1_aae02_6 rfl ?_
  refine X_scod hj dJ0_isLatin1_aae02_7 flC ?_
  refine X_if_neN (a := 0) 17 dJ0_isLatin1_aae02_10 (by decide) (by omega) (fun h => absurd rfl h) (fun _ => ?_)
  refine X_iconst (v := nI 1) dJ0_isLatin1_aae02_13 (by decide) ?_
  refine X_goto 18 dJ0_isLatin1_aae02_14 (by decide) ?_
  exact X_zret (ty := .boolean) dJ0_isLatin1_aae02_18 rfl (by decide) ⟨rfl, rfl, rfl, rfl⟩
theorem c_slength (Γ : pTG) (g : pGG) (mi : pMI) (ml : pML) (j : Nat) (hj : j < 4) : cI Γ 2 mJ0_length_8abf5 [.ref (1000 + j)] g mi ml (nI (strLen.getD j 0)) mi := by
  refine cI_of (by decide +kernel) (Nat.le_of_ble_eq_true rfl) ?_
  refine X_aload_n dJ0_length_8abf5_0 rfl ?_
  refine X_sval hj dJ0_length_8abf5_1 flV ?_
  refine X_slen hj dJ0_length_8abf5_4 ?_
  refine X_aload_n dJ0_length_8abf5_5 rfl ?_
  refine X_callTI dJ0_length_8abf5_6 mtJ0_335 hj (c_coder Γ g mi ml j hj) rfl rfl (by decide) (Nat.le_of_ble_eq_true rfl) ?_
  refine X_ishr dJ0_length_8abf5_9 ?_
  refine X_topi (sLen_ok j hj).2 ?_
  exact X_iret dJ0_length_8abf5_10 rfl ⟨rfl, rfl, rfl, rfl⟩
theorem c_J3check0 (Γ : pTG) (g : pGG) (mi : pMI) (ml : pML) (q N : Nat) (hq : q < N) (hN : N < 1000) : cI Γ 1 mJ3_checkIndex_8e157 [.int (nI q), .int (nI N), .null] g mi ml (nI q) mi := by
  refine cI_of (by decide +kernel) (Nat.le_of_ble_eq_true rfl) ?_
  refine X_iload_n dJ3_checkIndex_8e157_0 rfl ?_
  refine X_if_ltN (a := q) 9 dJ3_checkIndex_8e157_1 (by decide) (by omega) (fun h => h.elim) (fun _ => ?_)
  refine X_iload_n dJ3_checkIndex_8e157_4 rfl ?_
  refine X_iload_n dJ3_checkIndex_8e157_5 rfl ?_
  refine X_icmp_ltN (a := q) (b := N) 16 dJ3_checkIndex_8e157_6 (by decide) (by omega) (by omega) (fun _ => ?_) (fun h => absurd hq (by omega))
  refine X_iload_n dJ3_checkIndex_8e157_16 rfl ?_
  exact X_iret dJ3_checkIndex_8e157_17 rfl ⟨rfl, rfl, rfl, rfl⟩
theorem c_J3check1 (Γ : pTG) (g : pGG) (mi : pMI) (ml : pML) (q N : Nat) (hq : q < N) (hN : N < 1000) : cI Γ 1 mJ3_checkIndex_8e157 [.int (nI q), .int (nI N), .ref 1010] g mi ml (nI q) mi := by
  refine cI_of (by decide +kernel) (Nat.le_of_ble_eq_true rfl) ?_
  refine X_iload_n dJ3_checkIndex_8e157_0 rfl ?_
  refine X_if_ltN (a := q) 9 dJ3_checkIndex_8e157_1 (by decide) (by omega) (fun h => h.elim) (fun _ => ?_)
  refine X_iload_n dJ3_checkIndex_8e157_4 rfl ?_
  refine X_iload_n dJ3_checkIndex_8e157_5 rfl ?_
  refine X_icmp_ltN (a := q) (b := N) 16 dJ3_checkIndex_8e157_6 (by decide) (by omega) (by omega) (fun _ => ?_) (fun h => absurd hq (by omega))
  refine X_iload_n dJ3_checkIndex_8e157_16 rfl ?_
  exact X_iret dJ3_checkIndex_8e157_17 rfl ⟨rfl, rfl, rfl, rfl⟩
theorem c_J0check (Γ : pTG) (g : pGG) (mi : pMI) (ml : pML) (q N : Nat) (hq : q < N) (hN : N < 1000) : cV Γ 2 mJ0_checkIndex_df160 [.int (nI q), .int (nI N)] g mi ml mi ml := by
  refine cV_of (by decide +kernel) (Nat.le_of_ble_eq_true rfl) ?_
  refine X_iload_n dJ0_checkIndex_df160_0 rfl ?_
  refine X_iload_n dJ0_checkIndex_df160_1 rfl ?_
  refine X_sfmt dJ0_checkIndex_df160_2 flF ?_ ?_
  · refine X_callSI dJ0_checkIndex_df160_5 msJ0_1059 (c_J3check0 Γ g mi ml q N hq hN) rfl rfl (by decide) (Nat.le_of_ble_eq_true rfl) ?_
    refine X_pop dJ0_checkIndex_df160_8 rfl ?_
    exact X_vret dJ0_checkIndex_df160_9 rfl ⟨rfl, rfl, rfl, rfl⟩
  · refine X_callSI dJ0_checkIndex_df160_5 msJ0_1059 (c_J3check1 Γ g mi ml q N hq hN) rfl rfl (by decide) (Nat.le_of_ble_eq_true rfl) ?_
    refine X_pop dJ0_checkIndex_df160_8 rfl ?_
    exact X_vret dJ0_checkIndex_df160_9 rfl ⟨rfl, rfl, rfl, rfl⟩
theorem c_J1charAt (Γ : pTG) (g : pGG) (mi : pMI) (ml : pML) (j q : Nat) (hj : j < 4) (hq : q < strLen.getD j 0) : cI Γ 3 mJ1_charAt_3b067 [.ref (1100 + j), .int (nI q)] g mi ml (chS j q) mi := by
  refine cI_of (by decide +kernel) (Nat.le_of_ble_eq_true rfl) ?_
  refine X_iload_n dJ1_charAt_3b067_0 rfl ?_
  refine X_aload_n dJ1_charAt_3b067_1 rfl ?_
  refine X_slen hj dJ1_charAt_3b067_2 ?_
  refine X_callSV dJ1_charAt_3b067_3 msJ1_9 (c_J0check Γ g mi ml q (strLen.getD j 0) hq (by have := (sLen_ok j hj).1; omega)) rfl rfl (by decide) (Nat.le_of_ble_eq_true rfl) ?_
  refine X_aload_n dJ1_charAt_3b067_6 rfl ?_
  refine X_iload_n dJ1_charAt_3b067_7 rfl ?_
  refine X_sbal hj hq dJ1_charAt_3b067_8 ?_
  refine X_sipush (v := nI 255) dJ1_charAt_3b067_9 (by decide) ?_
  refine X_iand dJ1_charAt_3b067_12 ?_
  refine X_i2c dJ1_charAt_3b067_13 ?_
  refine X_topi (chS_ok j hj q hq).1 ?_
  exact X_zret (ty := .char) dJ1_charAt_3b067_14 rfl (chS_ok j hj q hq).2 ⟨rfl, rfl, rfl, rfl⟩
theorem c_scharAt (Γ : pTG) (g : pGG) (mi : pMI) (ml : pML) (j q : Nat) (hj : j < 4) (hq : q < strLen.getD j 0) : cI Γ 4 mJ0_charAt_5068e [.ref (1000 + j), .int (nI q)] g mi ml (chS j q) mi := by
  refine cI_of (by decide +kernel) (Nat.le_of_ble_eq_true rfl) ?_
  refine X_aload_n dJ0_charAt_5068e_0 rfl ?_
  refine X_callTI dJ0_charAt_5068e_1 mtJ0_492 hj (c_isLatin1 Γ g mi ml j hj) rfl rfl (by decide) (Nat.le_of_ble_eq_true rfl) ?_
  refine X_if_eqN (a := 1) 16 dJ0_charAt_5068e_4 (by decide) (by omega) (fun h => absurd h (by omega)) (fun _ => ?_)
  refine X_aload_n dJ0_charAt_5068e_7 rfl ?_
  refine X_sval hj dJ0_charAt_5068e_8 flV ?_
  refine X_iload_n dJ0_charAt_5068e_11 rfl ?_
  refine X_callSI dJ0_charAt_5068e_12 msJ0_495 (c_J1charAt Γ g mi ml j q hj hq) rfl rfl (by decide) (Nat.le_of_ble_eq_true rfl) ?_
  exact X_zret (ty := .char) dJ0_charAt_5068e_15 rfl (chS_ok j hj q hq).2 ⟨rfl, rfl, rfl, rfl⟩

def sumN (f : Nat → Int32) : Nat → Int32
  | 0 => nI 0
  | n + 1 => sumN f n + f n
def lostM (mi : pMI) (b : Nat) : Int32 := if mi (121 + b) 0 - mi 194 b < nI 0 then nI 0 else mi (121 + b) 0 - mi 194 b
def netM (mi : pMI) (b : Nat) : Int32 := mi 200 b - mi (121 + b) 3 * lostM mi b - mi 91 4 * mi 201 b
set_option maxRecDepth 100000 in
set_option maxHeartbeats 4000000 in
theorem c_lostOf (Γ : pTG) (g : pGG) (mi : pMI) (ml : pML) (hSh : Sh g) (b : Nat) (hb : b < 8) : cI Γ 2 mX12_lostOf [.ref 87, .int (nI b)] g mi ml (lostM mi b) mi := by
  refine cI_of (by decide +kernel) (Nat.le_of_ble_eq_true rfl) ?_
  refine X_iconst (v := nI 0) dX12_lostOf_0 (by decide) ?_
  refine X_aload_n dX12_lostOf_1 rfl ?_
  refine X_getr (a := 120) dX12_lostOf_2 fkX12_37 rfl (k_87 hSh) (r_87_16 hSh) ?_
  refine X_iload_n dX12_lostOf_5 rfl ?_
  refine X_aaldr (b := 121 + b) b dX12_lostOf_6 (k_120 hSh) rfl (by omega) (o_120 hSh b (by omega)) ?_
  refine X_iconst (v := nI 0) dX12_lostOf_7 (by decide) ?_
  refine X_iald 0 dX12_lostOf_8 (kr_120 hSh b (by omega)) rfl (by omega) ?_
  refine X_aload_n dX12_lostOf_9 rfl ?_
  refine X_getr (a := 194) dX12_lostOf_10 fkX12_71 rfl (k_87 hSh) (r_87_34 hSh) ?_
  refine X_iload_n dX12_lostOf_13 rfl ?_
  refine X_iald b dX12_lostOf_14 (k_194 hSh) rfl (by omega) ?_
  refine X_isub dX12_lostOf_15 ?_
  refine X_callSI dX12_lostOf_16 mkX12_291 (c_greater Γ g mi ml (nI 0) ((mi (121 + b) 0) - (mi 194 b))) rfl rfl (by decide) (Nat.le_of_ble_eq_true rfl) ?_
  exact X_iret dX12_lostOf_19 rfl ⟨by rfl, rfl, rfl, rfl⟩
set_option maxRecDepth 100000 in
set_option maxHeartbeats 4000000 in
theorem c_netOf (Γ : pTG) (g : pGG) (mi : pMI) (ml : pML) (hSh : Sh g) (b : Nat) (hb : b < 8) : cI Γ 3 mX12_netOf [.ref 87, .int (nI b)] g mi ml (netM mi b) mi := by
  refine cI_of (by decide +kernel) (Nat.le_of_ble_eq_true rfl) ?_
  refine X_aload_n dX12_netOf_0 rfl ?_
  refine X_getr (a := 200) dX12_netOf_1 fkX12_89 rfl (k_87 hSh) (r_87_40 hSh) ?_
  refine X_iload_n dX12_netOf_4 rfl ?_
  refine X_iald b dX12_netOf_5 (k_200 hSh) rfl (by omega) ?_
  refine X_aload_n dX12_netOf_6 rfl ?_
  refine X_getr (a := 120) dX12_netOf_7 fkX12_37 rfl (k_87 hSh) (r_87_16 hSh) ?_
  refine X_iload_n dX12_netOf_10 rfl ?_
  refine X_aaldr (b := 121 + b) b dX12_netOf_11 (k_120 hSh) rfl (by omega) (o_120 hSh b (by omega)) ?_
  refine X_iconst (v := nI 3) dX12_netOf_12 (by decide) ?_
  refine X_iald 3 dX12_netOf_13 (kr_120 hSh b (by omega)) rfl (by omega) ?_
  refine X_aload_n dX12_netOf_14 rfl ?_
  refine X_iload_n dX12_netOf_15 rfl ?_
  refine X_callVI dX12_netOf_16 mkX12_335 (k_87 hSh) (c_lostOf Γ g mi ml hSh b (by omega)) rfl rfl (by decide) (Nat.le_of_ble_eq_true rfl) ?_
  refine X_imul dX12_netOf_19 ?_
  refine X_isub dX12_netOf_20 ?_
  refine X_aload_n dX12_netOf_21 rfl ?_
  refine X_getr (a := 91) dX12_netOf_22 fkX12_23 rfl (k_87 hSh) (r_87_12 hSh) ?_
  refine X_iconst (v := nI 4) dX12_netOf_25 (by decide) ?_
  refine X_iald 4 dX12_netOf_26 (k_91 hSh) rfl (by omega) ?_
  refine X_aload_n dX12_netOf_27 rfl ?_
  refine X_getr (a := 201) dX12_netOf_28 fkX12_92 rfl (k_87 hSh) (r_87_41 hSh) ?_
  refine X_iload_n dX12_netOf_31 rfl ?_
  refine X_iald b dX12_netOf_32 (k_201 hSh) rfl (by omega) ?_
  refine X_imul dX12_netOf_33 ?_
  refine X_isub dX12_netOf_34 ?_
  exact X_iret dX12_netOf_35 rfl ⟨by rfl, rfl, rfl, rfl⟩
set_option maxRecDepth 100000 in
set_option maxHeartbeats 4000000 in
theorem c_allGot (Γ : pTG) (g : pGG) (mi : pMI) (ml : pML) (hSh : Sh g) (nG : Nat) (hc : mi 91 1 = nI nG) (h8 : nG ≤ 8) : cI Γ 1 mX12_allGot [.ref 87] g mi ml (sumN (fun b => mi 200 b) nG) mi := by
  refine cI_of (by decide +kernel) (Nat.le_of_ble_eq_true rfl) ?_
  refine X_iconst (v := nI 0) dX12_allGot_0 (by decide) ?_
  refine X_istore_n dX12_allGot_1 (by decide) ?_
  refine X_iconst (v := nI 0) dX12_allGot_2 (by decide) ?_
  refine X_istore_n dX12_allGot_3 (by decide) ?_
  refine X_L [(2, .int (nI 0)), (1, .int (nI 0)), (0, .ref 87)] ⟨rfl, rfl, rfl, trivial⟩ ?_
  refine X_for2 (σ := Unit) 4 (fun i x => [(2, .int (nI i)), (1, .int (sumN (fun b => mi 200 b) i)), (0, .ref 87)]) (fun x => mi) (fun x => ml) (fun _ x => x) (fun _ _ => True) nG ?_ nG 0 () (by omega) trivial ?_
  · intro i x hi hI
    refine ⟨trivial, fun hn => ?_⟩
    refine X_iload_n dX12_allGot_4 rfl ?_
    refine X_aload_n dX12_allGot_5 rfl ?_
    refine X_getr (a := 91) dX12_allGot_6 fkX12_23 rfl (k_87 hSh) (r_87_12 hSh) ?_
    refine X_iconst (v := nI 1) dX12_allGot_9 (by decide) ?_
    refine X_iald 1 dX12_allGot_10 (k_91 hSh) rfl (by omega) ?_
    rw [hc]
    refine X_icmp_geN (a := i) (b := nG) 29 dX12_allGot_11 (by decide) (by omega) (by omega) (fun h_1 => ?_) (fun h_1 => ?_)
    · exact absurd hi (by omega)
    · refine X_iload_n dX12_allGot_14 rfl ?_
      refine X_aload_n dX12_allGot_15 rfl ?_
      refine X_getr (a := 200) dX12_allGot_16 fkX12_89 rfl (k_87 hSh) (r_87_40 hSh) ?_
      refine X_iload_n dX12_allGot_19 rfl ?_
      refine X_iald i dX12_allGot_20 (k_200 hSh) rfl (by omega) ?_
      refine X_iadd dX12_allGot_21 ?_
      refine X_istore_n dX12_allGot_22 (by decide) ?_
      refine X_iinc (v := nI (i + 1)) dX12_allGot_23 rfl (nI_1 _) (by decide) ?_
      refine X_goto 4 dX12_allGot_26 (by decide) ?_
      refine X_L [(2, .int (nI (i + 1))), (1, .int ((sumN (fun b => mi 200 b) i) + (mi 200 i))), (0, .ref 87)] ⟨rfl, rfl, rfl, trivial⟩ ?_
      exact hn
  · intro x hI
    refine X_iload_n dX12_allGot_4 rfl ?_
    refine X_aload_n dX12_allGot_5 rfl ?_
    refine X_getr (a := 91) dX12_allGot_6 fkX12_23 rfl (k_87 hSh) (r_87_12 hSh) ?_
    refine X_iconst (v := nI 1) dX12_allGot_9 (by decide) ?_
    refine X_iald 1 dX12_allGot_10 (k_91 hSh) rfl (by omega) ?_
    rw [hc]
    refine X_icmp_geN (a := nG) (b := nG) 29 dX12_allGot_11 (by decide) (by omega) (by omega) (fun h_2 => ?_) (fun h_2 => ?_)
    · refine X_iload_n dX12_allGot_29 rfl ?_
      exact X_iret dX12_allGot_30 rfl ⟨by rfl, rfl, rfl, rfl⟩
    · exact absurd h_2 (by omega)
set_option maxRecDepth 100000 in
set_option maxHeartbeats 4000000 in
theorem c_allIdle (Γ : pTG) (g : pGG) (mi : pMI) (ml : pML) (hSh : Sh g) (nC : Nat) (hc : mi 91 0 = nI nC) (h8 : nC ≤ 8) : cI Γ 1 mX12_allIdle [.ref 87] g mi ml (sumN (fun b => mi 207 b) nC) mi := by
  refine cI_of (by decide +kernel) (Nat.le_of_ble_eq_true rfl) ?_
  refine X_iconst (v := nI 0) dX12_allIdle_0 (by decide) ?_
  refine X_istore_n dX12_allIdle_1 (by decide) ?_
  refine X_iconst (v := nI 0) dX12_allIdle_2 (by decide) ?_
  refine X_istore_n dX12_allIdle_3 (by decide) ?_
  refine X_L [(2, .int (nI 0)), (1, .int (nI 0)), (0, .ref 87)] ⟨rfl, rfl, rfl, trivial⟩ ?_
  refine X_for2 (σ := Unit) 4 (fun i x => [(2, .int (nI i)), (1, .int (sumN (fun b => mi 207 b) i)), (0, .ref 87)]) (fun x => mi) (fun x => ml) (fun _ x => x) (fun _ _ => True) nC ?_ nC 0 () (by omega) trivial ?_
  · intro i x hi hI
    refine ⟨trivial, fun hn => ?_⟩
    refine X_iload_n dX12_allIdle_4 rfl ?_
    refine X_aload_n dX12_allIdle_5 rfl ?_
    refine X_getr (a := 91) dX12_allIdle_6 fkX12_23 rfl (k_87 hSh) (r_87_12 hSh) ?_
    refine X_iconst (v := nI 0) dX12_allIdle_9 (by decide) ?_
    refine X_iald 0 dX12_allIdle_10 (k_91 hSh) rfl (by omega) ?_
    rw [hc]
    refine X_icmp_geN (a := i) (b := nC) 29 dX12_allIdle_11 (by decide) (by omega) (by omega) (fun h_1 => ?_) (fun h_1 => ?_)
    · exact absurd hi (by omega)
    · refine X_iload_n dX12_allIdle_14 rfl ?_
      refine X_aload_n dX12_allIdle_15 rfl ?_
      refine X_getr (a := 207) dX12_allIdle_16 fkX12_110 rfl (k_87 hSh) (r_87_47 hSh) ?_
      refine X_iload_n dX12_allIdle_19 rfl ?_
      refine X_iald i dX12_allIdle_20 (k_207 hSh) rfl (by omega) ?_
      refine X_iadd dX12_allIdle_21 ?_
      refine X_istore_n dX12_allIdle_22 (by decide) ?_
      refine X_iinc (v := nI (i + 1)) dX12_allIdle_23 rfl (nI_1 _) (by decide) ?_
      refine X_goto 4 dX12_allIdle_26 (by decide) ?_
      refine X_L [(2, .int (nI (i + 1))), (1, .int ((sumN (fun b => mi 207 b) i) + (mi 207 i))), (0, .ref 87)] ⟨rfl, rfl, rfl, trivial⟩ ?_
      exact hn
  · intro x hI
    refine X_iload_n dX12_allIdle_4 rfl ?_
    refine X_aload_n dX12_allIdle_5 rfl ?_
    refine X_getr (a := 91) dX12_allIdle_6 fkX12_23 rfl (k_87 hSh) (r_87_12 hSh) ?_
    refine X_iconst (v := nI 0) dX12_allIdle_9 (by decide) ?_
    refine X_iald 0 dX12_allIdle_10 (k_91 hSh) rfl (by omega) ?_
    rw [hc]
    refine X_icmp_geN (a := nC) (b := nC) 29 dX12_allIdle_11 (by decide) (by omega) (by omega) (fun h_2 => ?_) (fun h_2 => ?_)
    · refine X_iload_n dX12_allIdle_29 rfl ?_
      exact X_iret dX12_allIdle_30 rfl ⟨by rfl, rfl, rfl, rfl⟩
    · exact absurd h_2 (by omega)
set_option maxRecDepth 100000 in
set_option maxHeartbeats 4000000 in
theorem c_allLost (Γ : pTG) (g : pGG) (mi : pMI) (ml : pML) (hSh : Sh g) (nG : Nat) (hc : mi 91 1 = nI nG) (h8 : nG ≤ 8) : cI Γ 3 mX12_allLost [.ref 87] g mi ml (sumN (fun b => lostM mi b) nG) mi := by
  refine cI_of (by decide +kernel) (Nat.le_of_ble_eq_true rfl) ?_
  refine X_iconst (v := nI 0) dX12_allLost_0 (by decide) ?_
  refine X_istore_n dX12_allLost_1 (by decide) ?_
  refine X_iconst (v := nI 0) dX12_allLost_2 (by decide) ?_
  refine X_istore_n dX12_allLost_3 (by decide) ?_
  refine X_L [(2, .int (nI 0)), (1, .int (nI 0)), (0, .ref 87)] ⟨rfl, rfl, rfl, trivial⟩ ?_
  refine X_for2 (σ := Unit) 4 (fun i x => [(2, .int (nI i)), (1, .int (sumN (fun b => lostM mi b) i)), (0, .ref 87)]) (fun x => mi) (fun x => ml) (fun _ x => x) (fun _ _ => True) nG ?_ nG 0 () (by omega) trivial ?_
  · intro i x hi hI
    refine ⟨trivial, fun hn => ?_⟩
    refine X_iload_n dX12_allLost_4 rfl ?_
    refine X_aload_n dX12_allLost_5 rfl ?_
    refine X_getr (a := 91) dX12_allLost_6 fkX12_23 rfl (k_87 hSh) (r_87_12 hSh) ?_
    refine X_iconst (v := nI 1) dX12_allLost_9 (by decide) ?_
    refine X_iald 1 dX12_allLost_10 (k_91 hSh) rfl (by omega) ?_
    rw [hc]
    refine X_icmp_geN (a := i) (b := nG) 28 dX12_allLost_11 (by decide) (by omega) (by omega) (fun h_1 => ?_) (fun h_1 => ?_)
    · exact absurd hi (by omega)
    · refine X_iload_n dX12_allLost_14 rfl ?_
      refine X_aload_n dX12_allLost_15 rfl ?_
      refine X_iload_n dX12_allLost_16 rfl ?_
      refine X_callVI dX12_allLost_17 mkX12_335 (k_87 hSh) (c_lostOf Γ g mi ml hSh i (by omega)) rfl rfl (by decide) (Nat.le_of_ble_eq_true rfl) ?_
      refine X_iadd dX12_allLost_20 ?_
      refine X_istore_n dX12_allLost_21 (by decide) ?_
      refine X_iinc (v := nI (i + 1)) dX12_allLost_22 rfl (nI_1 _) (by decide) ?_
      refine X_goto 4 dX12_allLost_25 (by decide) ?_
      refine X_L [(2, .int (nI (i + 1))), (1, .int ((sumN (fun b => lostM mi b) i) + (lostM mi i))), (0, .ref 87)] ⟨rfl, rfl, rfl, trivial⟩ ?_
      exact hn
  · intro x hI
    refine X_iload_n dX12_allLost_4 rfl ?_
    refine X_aload_n dX12_allLost_5 rfl ?_
    refine X_getr (a := 91) dX12_allLost_6 fkX12_23 rfl (k_87 hSh) (r_87_12 hSh) ?_
    refine X_iconst (v := nI 1) dX12_allLost_9 (by decide) ?_
    refine X_iald 1 dX12_allLost_10 (k_91 hSh) rfl (by omega) ?_
    rw [hc]
    refine X_icmp_geN (a := nG) (b := nG) 28 dX12_allLost_11 (by decide) (by omega) (by omega) (fun h_2 => ?_) (fun h_2 => ?_)
    · refine X_iload_n dX12_allLost_28 rfl ?_
      exact X_iret dX12_allLost_29 rfl ⟨by rfl, rfl, rfl, rfl⟩
    · exact absurd h_2 (by omega)
def byM (mi : pMI) (k : Nat) : Int32 := if mi 87 2 ≤ nI k then -1 else mi 88 k
set_option maxRecDepth 100000 in
set_option maxHeartbeats 4000000 in
theorem c_byteAt (Γ : pTG) (g : pGG) (mi : pMI) (ml : pML) (hSh : Sh g) (k : Nat) (hk : k < 600 ∨ mi 87 2 ≤ nI k) : cI Γ 1 mX12_byteAt [.ref 87, .int (nI k)] g mi ml (byM mi k) mi := by
  refine cI_of (by decide +kernel) (Nat.le_of_ble_eq_true rfl) ?_
  refine X_iload_n dX12_byteAt_0 rfl ?_
  refine X_aload_n dX12_byteAt_1 rfl ?_
  refine X_geti dX12_byteAt_2 fkX12_164 rfl (k_87 hSh) ?_
  refine X_icmp_lt 12 dX12_byteAt_5 (by decide) (fun h_1 => ?_) (fun h_1 => ?_)
  · refine X_aload_n dX12_byteAt_12 rfl ?_
    refine X_getr (a := 88) dX12_byteAt_13 fkX12_13 rfl (k_87 hSh) (r_87_9 hSh) ?_
    refine X_iload_n dX12_byteAt_16 rfl ?_
    refine X_iald k dX12_byteAt_17 (k_88 hSh) rfl (by first | omega | (rcases hk with q | q; exact q; exact absurd q (Int32.not_le.mpr ‹_›))) ?_
    exact X_iret dX12_byteAt_18 rfl ⟨by first | (rw [byM, if_neg (Int32.not_le.mpr ‹_›)]) | (rw [byM, if_pos (by first | assumption | exact Int32.not_lt.mp ‹_›)]), rfl, rfl, rfl⟩
  · refine X_iconst (v := -1) dX12_byteAt_8 (by decide) ?_
    refine X_goto 18 dX12_byteAt_9 (by decide) ?_
    exact X_iret dX12_byteAt_18 rfl ⟨by first | (rw [byM, if_neg (Int32.not_le.mpr ‹_›)]) | (rw [byM, if_pos (by first | assumption | exact Int32.not_lt.mp ‹_›)]), rfl, rfl, rfl⟩
set_option maxRecDepth 100000 in
set_option maxHeartbeats 4000000 in
theorem c_ends (Γ : pTG) (g : pGG) (mi : pMI) (ml : pML) (hSh : Sh g)  : cI Γ 1 mX12_ends [.ref 87] g mi ml (mi 87 5 - nI 10) (up2 mi 87 3 (mi 87 6)) := by
  refine cI_of (by decide +kernel) (Nat.le_of_ble_eq_true rfl) ?_
  refine X_aload_n dX12_ends_0 rfl ?_
  refine X_aload_n dX12_ends_1 rfl ?_
  refine X_geti dX12_ends_2 fkX12_177 rfl (k_87 hSh) ?_
  refine X_puti dX12_ends_5 fkX12_9 rfl rfl (k_87 hSh) ?_
  refine X_aload_n dX12_ends_8 rfl ?_
  refine X_geti dX12_ends_9 fkX12_174 rfl (k_87 hSh) ?_
  refine X_bipush (v := nI 10) dX12_ends_12 (by decide) ?_
  refine X_isub dX12_ends_14 ?_
  exact X_iret dX12_ends_15 rfl ⟨by simp [up2], rfl, rfl, rfl⟩
set_option maxRecDepth 100000 in
set_option maxHeartbeats 4000000 in
theorem c_Bclear (Γ : pTG) (g : pGG) (mi : pMI) (ml : pML) (hSh : Sh g)  : cV Γ 1 mX0_clear [.ref 24] g mi ml (up2 mi 24 2 (nI 0)) ml := by
  refine cV_of (by decide +kernel) (Nat.le_of_ble_eq_true rfl) ?_
  refine X_aload_n dX0_clear_0 rfl ?_
  refine X_iconst (v := nI 0) dX0_clear_1 (by decide) ?_
  refine X_puti dX0_clear_2 fkX0_18 rfl rfl (k_24 hSh) ?_
  exact X_vret dX0_clear_5 rfl ⟨rfl, rfl, by rfl, rfl⟩
set_option maxRecDepth 100000 in
set_option maxHeartbeats 4000000 in
theorem c_Cclear (Γ : pTG) (g : pGG) (mi : pMI) (ml : pML) (hSh : Sh g)  : cV Γ 1 mX1_clear [.ref 81] g mi ml (up2 (up2 mi 81 2 (nI 0)) 81 3 (nI 0)) ml := by
  refine cV_of (by decide +kernel) (Nat.le_of_ble_eq_true rfl) ?_
  refine X_aload_n dX1_clear_0 rfl ?_
  refine X_iconst (v := nI 0) dX1_clear_1 (by decide) ?_
  refine X_puti dX1_clear_2 fkX1_21 rfl rfl (k_81 hSh) ?_
  refine X_aload_n dX1_clear_5 rfl ?_
  refine X_iconst (v := nI 0) dX1_clear_6 (by decide) ?_
  refine X_puti dX1_clear_7 fkX1_25 rfl rfl (k_81 hSh) ?_
  exact X_vret dX1_clear_10 rfl ⟨rfl, rfl, by rfl, rfl⟩
set_option maxRecDepth 100000 in
set_option maxHeartbeats 4000000 in
theorem c_Gforget (Γ : pTG) (g : pGG) (mi : pMI) (ml : pML) (hSh : Sh g)  : cV Γ 1 mX4_forget [.ref 77] g mi ml (up2 mi 77 4 (nI 0)) ml := by
  refine cV_of (by decide +kernel) (Nat.le_of_ble_eq_true rfl) ?_
  refine X_aload_n dX4_forget_0 rfl ?_
  refine X_iconst (v := nI 0) dX4_forget_1 (by decide) ?_
  refine X_putz dX4_forget_2 fkX4_25 rfl (by first | exact Or.inl rfl | exact Or.inr rfl | assumption) rfl (k_77 hSh) ?_
  exact X_vret dX4_forget_5 rfl ⟨rfl, rfl, by rfl, rfl⟩
set_option maxRecDepth 100000 in
set_option maxHeartbeats 4000000 in
theorem c_Dforget (Γ : pTG) (g : pGG) (mi : pMI) (ml : pML) (t : Nat) (hk : g.2.1 t = (3, 0)) : cV Γ 1 mX3_forget [.ref t] g mi ml (up2 (up2 (up2 mi t 7 (nI 0)) t 8 (-1)) t 9 (nI 0)) ml := by
  refine cV_of (by decide +kernel) (Nat.le_of_ble_eq_true rfl) ?_
  refine X_aload_n dX3_forget_0 rfl ?_
  refine X_iconst (v := nI 0) dX3_forget_1 (by decide) ?_
  refine X_puti dX3_forget_2 fkX3_42 rfl rfl hk ?_
  refine X_aload_n dX3_forget_5 rfl ?_
  refine X_iconst (v := -1) dX3_forget_6 (by decide) ?_
  refine X_puti dX3_forget_7 fkX3_46 rfl rfl hk ?_
  refine X_aload_n dX3_forget_10 rfl ?_
  refine X_iconst (v := nI 0) dX3_forget_11 (by decide) ?_
  refine X_puti dX3_forget_12 fkX3_49 rfl rfl hk ?_
  exact X_vret dX3_forget_15 rfl ⟨rfl, rfl, by rfl, rfl⟩
set_option maxRecDepth 100000 in
set_option maxHeartbeats 4000000 in
theorem c_begin (Γ : pTG) (g : pGG) (mi : pMI) (ml : pML) (hSh : Sh g) (n : Int32) : cV Γ 1 mX10_begin [.ref 2, .int n] g mi ml (up2 (up2 (up2 (up2 mi 2 1 n) 2 2 (nI 0)) 2 3 (nI 0)) 2 4 (-1)) ml := by
  refine cV_of (by decide +kernel) (Nat.le_of_ble_eq_true rfl) ?_
  refine X_aload_n dX10_begin_0 rfl ?_
  refine X_iload_n dX10_begin_1 rfl ?_
  refine X_puti dX10_begin_2 fkX10_19 rfl rfl (k_2 hSh) ?_
  refine X_aload_n dX10_begin_5 rfl ?_
  refine X_iconst (v := nI 0) dX10_begin_6 (by decide) ?_
  refine X_puti dX10_begin_7 fkX10_22 rfl rfl (k_2 hSh) ?_
  refine X_aload_n dX10_begin_10 rfl ?_
  refine X_iconst (v := nI 0) dX10_begin_11 (by decide) ?_
  refine X_puti dX10_begin_12 fkX10_25 rfl rfl (k_2 hSh) ?_
  refine X_aload_n dX10_begin_15 rfl ?_
  refine X_iconst (v := -1) dX10_begin_16 (by decide) ?_
  refine X_puti dX10_begin_17 fkX10_9 rfl rfl (k_2 hSh) ?_
  exact X_vret dX10_begin_20 rfl ⟨rfl, rfl, by rfl, rfl⟩
set_option maxRecDepth 100000 in
set_option maxHeartbeats 4000000 in
theorem c_fail (Γ : pTG) (g : pGG) (mi : pMI) (ml : pML) (hSh : Sh g) (a b : Int32) : cI Γ 1 mX10_fail [.ref 2, .int a, .int b] g mi ml (nI 0) (up2 (up2 mi 2 3 a) 2 4 b) := by
  refine cI_of (by decide +kernel) (Nat.le_of_ble_eq_true rfl) ?_
  refine X_aload_n dX10_fail_0 rfl ?_
  refine X_iload_n dX10_fail_1 rfl ?_
  refine X_puti dX10_fail_2 fkX10_25 rfl rfl (k_2 hSh) ?_
  refine X_aload_n dX10_fail_5 rfl ?_
  refine X_iload_n dX10_fail_6 rfl ?_
  refine X_puti dX10_fail_7 fkX10_9 rfl rfl (k_2 hSh) ?_
  refine X_iconst (v := nI 0) dX10_fail_10 (by decide) ?_
  exact X_zret (ty := .boolean) dX10_fail_11 rfl (by first | decide | (rcases bI_01 _ with q | q <;> rw [q] <;> decide)) ⟨by rfl, rfl, rfl, rfl⟩
set_option maxRecDepth 100000 in
set_option maxHeartbeats 4000000 in
theorem c_Pclear3 (Γ : pTG) (g : pGG) (mi : pMI) (ml : pML) (hSh : Sh g)  : cV Γ 1 mX8_clear [.ref 3] g mi ml (up2 (up2 (up2 (up2 (up2 mi 3 9 (nI 0)) 3 10 (nI 0)) 3 6 (nI 0)) 3 7 (nI 2)) 3 8 (nI 0)) ml := by
  refine cV_of (by decide +kernel) (Nat.le_of_ble_eq_true rfl) ?_
  refine X_aload_n dX8_clear_0 rfl ?_
  refine X_iconst (v := nI 0) dX8_clear_1 (by decide) ?_
  refine X_puti dX8_clear_2 fkX8_30 rfl rfl (k_3 hSh) ?_
  refine X_aload_n dX8_clear_5 rfl ?_
  refine X_iconst (v := nI 0) dX8_clear_6 (by decide) ?_
  refine X_puti dX8_clear_7 fkX8_34 rfl rfl (k_3 hSh) ?_
  refine X_aload_n dX8_clear_10 rfl ?_
  refine X_iconst (v := nI 0) dX8_clear_11 (by decide) ?_
  refine X_puti dX8_clear_12 fkX8_37 rfl rfl (k_3 hSh) ?_
  refine X_aload_n dX8_clear_15 rfl ?_
  refine X_iconst (v := nI 2) dX8_clear_16 (by decide) ?_
  refine X_puti dX8_clear_17 fkX8_40 rfl rfl (k_3 hSh) ?_
  refine X_aload_n dX8_clear_20 rfl ?_
  refine X_iconst (v := nI 0) dX8_clear_21 (by decide) ?_
  refine X_puti dX8_clear_22 fkX8_43 rfl rfl (k_3 hSh) ?_
  exact X_vret dX8_clear_25 rfl ⟨rfl, rfl, by rfl, rfl⟩
set_option maxRecDepth 100000 in
set_option maxHeartbeats 4000000 in
theorem c_Pclear10 (Γ : pTG) (g : pGG) (mi : pMI) (ml : pML) (hSh : Sh g)  : cV Γ 1 mX8_clear [.ref 10] g mi ml (up2 (up2 (up2 (up2 (up2 mi 10 9 (nI 0)) 10 10 (nI 0)) 10 6 (nI 0)) 10 7 (nI 2)) 10 8 (nI 0)) ml := by
  refine cV_of (by decide +kernel) (Nat.le_of_ble_eq_true rfl) ?_
  refine X_aload_n dX8_clear_0 rfl ?_
  refine X_iconst (v := nI 0) dX8_clear_1 (by decide) ?_
  refine X_puti dX8_clear_2 fkX8_30 rfl rfl (k_10 hSh) ?_
  refine X_aload_n dX8_clear_5 rfl ?_
  refine X_iconst (v := nI 0) dX8_clear_6 (by decide) ?_
  refine X_puti dX8_clear_7 fkX8_34 rfl rfl (k_10 hSh) ?_
  refine X_aload_n dX8_clear_10 rfl ?_
  refine X_iconst (v := nI 0) dX8_clear_11 (by decide) ?_
  refine X_puti dX8_clear_12 fkX8_37 rfl rfl (k_10 hSh) ?_
  refine X_aload_n dX8_clear_15 rfl ?_
  refine X_iconst (v := nI 2) dX8_clear_16 (by decide) ?_
  refine X_puti dX8_clear_17 fkX8_40 rfl rfl (k_10 hSh) ?_
  refine X_aload_n dX8_clear_20 rfl ?_
  refine X_iconst (v := nI 0) dX8_clear_21 (by decide) ?_
  refine X_puti dX8_clear_22 fkX8_43 rfl rfl (k_10 hSh) ?_
  exact X_vret dX8_clear_25 rfl ⟨rfl, rfl, by rfl, rfl⟩

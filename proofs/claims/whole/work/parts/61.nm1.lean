/-! ===== mornings ===== -/
def stO (m : pMI) (a h l o : Int32) : pMI := up2 (up2 (up2 (up2 m 20 0 a) 20 3 h) 20 4 l) 20 5 o
def stG (m : pMI) (b : Nat) : pMI := up2 (up2 m 20 7 (m 7 b)) 20 8 (m 6 b)
def stC (m : pMI) (f l d : Int32) : pMI := up2 (up2 (up2 (up2 (up2 m 20 1 f) 20 2 l) 20 6 d) 20 9 (m 3 9)) 20 10 (m 3 10)
def g0 (v : Int32) : Int32 := if v ≤ 0 then nI 0 else nI 1
set_option maxRecDepth 100000 in
set_option maxHeartbeats 4000000 in
theorem c_setOwn (Γ : pTG) (g : pGG) (mi : pMI) (ml : pML) (hSh : Sh g) (a h l o : Int32) : cV Γ 1 mX6_setOwn [.ref 17, .int a, .int h, .int l, .int o] g mi ml (stO mi a h l o) ml := by
  refine cV_of (by decide +kernel) (Nat.le_of_ble_eq_true rfl) ?_
  refine X_aload_n dX6_setOwn_0 rfl ?_
  refine X_getr (a := 20) dX6_setOwn_1 fkX6_18 rfl (k_17 hSh) (r_17_2 hSh) ?_
  refine X_iconst (v := nI 0) dX6_setOwn_4 (by decide) ?_
  refine X_iload_n dX6_setOwn_5 rfl ?_
  refine X_iast 0 dX6_setOwn_6 (k_20 hSh) rfl (by omega) ?_
  refine X_aload_n dX6_setOwn_7 rfl ?_
  refine X_getr (a := 20) dX6_setOwn_8 fkX6_18 rfl (k_17 hSh) (r_17_2 hSh) ?_
  refine X_iconst (v := nI 3) dX6_setOwn_11 (by decide) ?_
  refine X_iload_n dX6_setOwn_12 rfl ?_
  refine X_iast 3 dX6_setOwn_13 (k_20 hSh) rfl (by omega) ?_
  refine X_aload_n dX6_setOwn_14 rfl ?_
  refine X_getr (a := 20) dX6_setOwn_15 fkX6_18 rfl (k_17 hSh) (r_17_2 hSh) ?_
  refine X_iconst (v := nI 4) dX6_setOwn_18 (by decide) ?_
  refine X_iload_n dX6_setOwn_19 rfl ?_
  refine X_iast 4 dX6_setOwn_20 (k_20 hSh) rfl (by omega) ?_
  refine X_aload_n dX6_setOwn_21 rfl ?_
  refine X_getr (a := 20) dX6_setOwn_22 fkX6_18 rfl (k_17 hSh) (r_17_2 hSh) ?_
  refine X_iconst (v := nI 5) dX6_setOwn_25 (by decide) ?_
  refine X_iload dX6_setOwn_26 rfl ?_
  refine X_iast 5 dX6_setOwn_28 (k_20 hSh) rfl (by omega) ?_
  exact X_vret dX6_setOwn_29 rfl ⟨rfl, rfl, rfl, rfl⟩
set_option maxRecDepth 100000 in
set_option maxHeartbeats 4000000 in
theorem c_setGuest (Γ : pTG) (g : pGG) (mi : pMI) (ml : pML) (hSh : Sh g) (b : Nat) (hb : b < 8) : cV Γ 1 mX6_setGuest [.ref 17, .ref 3, .int (nI b)] g mi ml (stG mi b) ml := by
  refine cV_of (by decide +kernel) (Nat.le_of_ble_eq_true rfl) ?_
  refine X_aload_n dX6_setGuest_0 rfl ?_
  refine X_getr (a := 20) dX6_setGuest_1 fkX6_18 rfl (k_17 hSh) (r_17_2 hSh) ?_
  refine X_bipush (v := nI 7) dX6_setGuest_4 (by decide) ?_
  refine X_aload_n dX6_setGuest_6 rfl ?_
  refine X_getr (a := 7) dX6_setGuest_7 fkX6_52 rfl (k_3 hSh) (r_3_3 hSh) ?_
  refine X_iload_n dX6_setGuest_10 rfl ?_
  refine X_iald b dX6_setGuest_11 (k_7 hSh) rfl (by omega) ?_
  refine X_iast 7 dX6_setGuest_12 (k_20 hSh) rfl (by omega) ?_
  refine X_aload_n dX6_setGuest_13 rfl ?_
  refine X_getr (a := 20) dX6_setGuest_14 fkX6_18 rfl (k_17 hSh) (r_17_2 hSh) ?_
  refine X_bipush (v := nI 8) dX6_setGuest_17 (by decide) ?_
  refine X_aload_n dX6_setGuest_19 rfl ?_
  refine X_getr (a := 6) dX6_setGuest_20 fkX6_55 rfl (k_3 hSh) (r_3_2 hSh) ?_
  refine X_iload_n dX6_setGuest_23 rfl ?_
  refine X_iald b dX6_setGuest_24 (k_6 hSh) rfl (by omega) ?_
  refine X_topi (show (up2 mi 20 7 (mi 7 b)) 6 b = mi 6 b by rw [up2_row (by omega)]) ?_
  refine X_iast 8 dX6_setGuest_25 (k_20 hSh) rfl (by omega) ?_
  exact X_vret dX6_setGuest_26 rfl ⟨rfl, rfl, rfl, rfl⟩
set_option maxRecDepth 100000 in
set_option maxHeartbeats 4000000 in
theorem c_setCommon (Γ : pTG) (g : pGG) (mi : pMI) (ml : pML) (hSh : Sh g) (f l d : Int32) : cV Γ 1 mX6_setCommon [.ref 17, .ref 3, .int f, .int l, .int d] g mi ml (stC mi f l d) ml := by
  refine cV_of (by decide +kernel) (Nat.le_of_ble_eq_true rfl) ?_
  refine X_aload_n dX6_setCommon_0 rfl ?_
  refine X_getr (a := 20) dX6_setCommon_1 fkX6_18 rfl (k_17 hSh) (r_17_2 hSh) ?_
  refine X_iconst (v := nI 1) dX6_setCommon_4 (by decide) ?_
  refine X_iload_n dX6_setCommon_5 rfl ?_
  refine X_iast 1 dX6_setCommon_6 (k_20 hSh) rfl (by omega) ?_
  refine X_aload_n dX6_setCommon_7 rfl ?_
  refine X_getr (a := 20) dX6_setCommon_8 fkX6_18 rfl (k_17 hSh) (r_17_2 hSh) ?_
  refine X_iconst (v := nI 2) dX6_setCommon_11 (by decide) ?_
  refine X_iload_n dX6_setCommon_12 rfl ?_
  refine X_iast 2 dX6_setCommon_13 (k_20 hSh) rfl (by omega) ?_
  refine X_aload_n dX6_setCommon_14 rfl ?_
  refine X_getr (a := 20) dX6_setCommon_15 fkX6_18 rfl (k_17 hSh) (r_17_2 hSh) ?_
  refine X_bipush (v := nI 6) dX6_setCommon_18 (by decide) ?_
  refine X_iload dX6_setCommon_20 rfl ?_
  refine X_iast 6 dX6_setCommon_22 (k_20 hSh) rfl (by omega) ?_
  refine X_aload_n dX6_setCommon_23 rfl ?_
  refine X_getr (a := 20) dX6_setCommon_24 fkX6_18 rfl (k_17 hSh) (r_17_2 hSh) ?_
  refine X_bipush (v := nI 9) dX6_setCommon_27 (by decide) ?_
  refine X_aload_n dX6_setCommon_29 rfl ?_
  refine X_geti dX6_setCommon_30 fkX6_44 rfl (k_3 hSh) ?_
  refine X_topi (show (up2 (up2 (up2 mi 20 1 f) 20 2 l) 20 6 d) 3 9 = mi 3 9 by rw [up2_row (by omega), up2_row (by omega), up2_row (by omega)]) ?_
  refine X_iast 9 dX6_setCommon_33 (k_20 hSh) rfl (by omega) ?_
  refine X_aload_n dX6_setCommon_34 rfl ?_
  refine X_getr (a := 20) dX6_setCommon_35 fkX6_18 rfl (k_17 hSh) (r_17_2 hSh) ?_
  refine X_bipush (v := nI 10) dX6_setCommon_38 (by decide) ?_
  refine X_aload_n dX6_setCommon_40 rfl ?_
  refine X_geti dX6_setCommon_41 fkX6_49 rfl (k_3 hSh) ?_
  refine X_topi (show (up2 (up2 (up2 (up2 mi 20 1 f) 20 2 l) 20 6 d) 20 9 (mi 3 9)) 3 10 = mi 3 10 by rw [up2_row (by omega), up2_row (by omega), up2_row (by omega), up2_row (by omega)]) ?_
  refine X_iast 10 dX6_setCommon_44 (k_20 hSh) rfl (by omega) ?_
  exact X_vret dX6_setCommon_45 rfl ⟨rfl, rfl, rfl, rfl⟩
set_option maxRecDepth 100000 in
set_option maxHeartbeats 4000000 in
theorem c_total (Γ : pTG) (g : pGG) (mi : pMI) (ml : pML) (hSh : Sh g) (t : Nat) (hC : ShC g t) (nG : Nat) (hG : mi 3 10 = nI nG) (h8 : nG ≤ 8) (j : Nat) (hj : j < 8) : cI Γ 1 mX2_total [.ref t, .int (nI j)] g mi ml (sumN (fun b => mi (t + 1) (b * 8 + j)) nG) mi := by
  refine cI_of (by decide +kernel) (Nat.le_of_ble_eq_true rfl) ?_
  refine X_iconst (v := nI 0) dX2_total_0 (by decide) ?_
  refine X_istore_n dX2_total_1 (by decide) ?_
  refine X_iconst (v := nI 0) dX2_total_2 (by decide) ?_
  refine X_istore_n dX2_total_3 (by decide) ?_
  refine X_L [(3, .int (nI 0)), (2, .int (nI 0)), (0, .ref t), (1, .int (nI j))] ⟨rfl, rfl, rfl, rfl, trivial⟩ ?_
  refine X_for2 (σ := Unit) 4 (fun i x => [(3, .int (nI i)), (2, .int (sumN (fun b => mi (t + 1) (b * 8 + j)) i)), (0, .ref t), (1, .int (nI j))]) (fun x => mi) (fun x => ml) (fun _ x => x) (fun _ _ => True) nG ?_ nG 0 () (by omega) trivial ?_
  · intro i x hi hI
    refine ⟨trivial, fun hn => ?_⟩
    refine X_iload_n dX2_total_4 rfl ?_
    refine X_aload_n dX2_total_5 rfl ?_
    refine X_getr (a := 3) dX2_total_6 fkX2_33 rfl (sck_0 hC) (scr_0 hC) ?_
    refine X_geti dX2_total_9 fkX2_50 rfl (k_3 hSh) ?_
    rw [hG]
    refine X_icmp_geN (a := i) (b := nG) 35 dX2_total_12 (by decide) (by omega) (by omega) (fun h_1 => ?_) (fun h_1 => ?_)
    · exact absurd hi (by omega)
    · refine X_iload_n dX2_total_15 rfl ?_
      refine X_aload_n dX2_total_16 rfl ?_
      refine X_getr (a := t + 1) dX2_total_17 fkX2_9 rfl (sck_0 hC) (scr_1 hC) ?_
      refine X_iload_n dX2_total_20 rfl ?_
      refine X_bipush (v := nI 8) dX2_total_21 (by decide) ?_
      refine X_imul dX2_total_23 ?_
      refine X_topi (pk_mul i 8) ?_
      refine X_iload_n dX2_total_24 rfl ?_
      refine X_iadd dX2_total_25 ?_
      refine X_topi (nI_add (i * 8) j) ?_
      refine X_iald ((i * 8) + j) dX2_total_26 (sck_1 hC) rfl (by omega) ?_
      refine X_iadd dX2_total_27 ?_
      refine X_istore_n dX2_total_28 (by decide) ?_
      refine X_iinc (v := nI (i + 1)) dX2_total_29 rfl (nI_1 _) (by decide) ?_
      refine X_goto 4 dX2_total_32 (by decide) ?_
      refine X_L [(3, .int (nI (i + 1))), (2, .int ((sumN (fun b => mi (t + 1) (b * 8 + j)) i) + (mi (t + 1) ((i * 8) + j)))), (0, .ref t), (1, .int (nI j))] ⟨rfl, rfl, rfl, rfl, trivial⟩ ?_
      exact hn
  · intro x hI
    refine X_iload_n dX2_total_4 rfl ?_
    refine X_aload_n dX2_total_5 rfl ?_
    refine X_getr (a := 3) dX2_total_6 fkX2_33 rfl (sck_0 hC) (scr_0 hC) ?_
    refine X_geti dX2_total_9 fkX2_50 rfl (k_3 hSh) ?_
    rw [hG]
    refine X_icmp_geN (a := nG) (b := nG) 35 dX2_total_12 (by decide) (by omega) (by omega) (fun h_2 => ?_) (fun h_2 => ?_)
    · refine X_iload_n dX2_total_35 rfl ?_
      exact X_iret dX2_total_36 rfl ⟨by rfl, rfl, rfl, rfl⟩
    · exact absurd h_2 (by omega)
set_option maxRecDepth 100000 in
set_option maxHeartbeats 4000000 in
theorem c_idle (Γ : pTG) (g : pGG) (mi : pMI) (ml : pML) (hSh : Sh g) (t : Nat) (hC : ShC g t) (nC : Nat) (hG : mi 3 9 = nI nC) (h8 : nC ≤ 8) : cI Γ 1 mX2_idle [.ref t] g mi ml (sumN (fun c => mi (t + 2) (c * 3 + 1)) nC) mi := by
  refine cI_of (by decide +kernel) (Nat.le_of_ble_eq_true rfl) ?_
  refine X_iconst (v := nI 0) dX2_idle_0 (by decide) ?_
  refine X_istore_n dX2_idle_1 (by decide) ?_
  refine X_iconst (v := nI 0) dX2_idle_2 (by decide) ?_
  refine X_istore_n dX2_idle_3 (by decide) ?_
  refine X_L [(2, .int (nI 0)), (1, .int (nI 0)), (0, .ref t)] ⟨rfl, rfl, rfl, trivial⟩ ?_
  refine X_for2 (σ := Unit) 4 (fun i x => [(2, .int (nI i)), (1, .int (sumN (fun c => mi (t + 2) (c * 3 + 1)) i)), (0, .ref t)]) (fun x => mi) (fun x => ml) (fun _ x => x) (fun _ _ => True) nC ?_ nC 0 () (by omega) trivial ?_
  · intro i x hi hI
    refine ⟨trivial, fun hn => ?_⟩
    refine X_iload_n dX2_idle_4 rfl ?_
    refine X_aload_n dX2_idle_5 rfl ?_
    refine X_getr (a := 3) dX2_idle_6 fkX2_33 rfl (sck_0 hC) (scr_0 hC) ?_
    refine X_geti dX2_idle_9 fkX2_88 rfl (k_3 hSh) ?_
    rw [hG]
    refine X_icmp_geN (a := i) (b := nC) 34 dX2_idle_12 (by decide) (by omega) (by omega) (fun h_1 => ?_) (fun h_1 => ?_)
    · exact absurd hi (by omega)
    · refine X_iload_n dX2_idle_15 rfl ?_
      refine X_aload_n dX2_idle_16 rfl ?_
      refine X_getr (a := t + 2) dX2_idle_17 fkX2_15 rfl (sck_0 hC) (scr_2 hC) ?_
      refine X_iload_n dX2_idle_20 rfl ?_
      refine X_iconst (v := nI 3) dX2_idle_21 (by decide) ?_
      refine X_imul dX2_idle_22 ?_
      refine X_topi (pk_mul i 3) ?_
      refine X_iconst (v := nI 1) dX2_idle_23 (by decide) ?_
      refine X_iadd dX2_idle_24 ?_
      refine X_topi (nI_add (i * 3) 1) ?_
      refine X_iald ((i * 3) + 1) dX2_idle_25 (sck_2 hC) rfl (by omega) ?_
      refine X_iadd dX2_idle_26 ?_
      refine X_istore_n dX2_idle_27 (by decide) ?_
      refine X_iinc (v := nI (i + 1)) dX2_idle_28 rfl (nI_1 _) (by decide) ?_
      refine X_goto 4 dX2_idle_31 (by decide) ?_
      refine X_L [(2, .int (nI (i + 1))), (1, .int ((sumN (fun c => mi (t + 2) (c * 3 + 1)) i) + (mi (t + 2) ((i * 3) + 1)))), (0, .ref t)] ⟨rfl, rfl, rfl, trivial⟩ ?_
      exact hn
  · intro x hI
    refine X_iload_n dX2_idle_4 rfl ?_
    refine X_aload_n dX2_idle_5 rfl ?_
    refine X_getr (a := 3) dX2_idle_6 fkX2_33 rfl (sck_0 hC) (scr_0 hC) ?_
    refine X_geti dX2_idle_9 fkX2_88 rfl (k_3 hSh) ?_
    rw [hG]
    refine X_icmp_geN (a := nC) (b := nC) 34 dX2_idle_12 (by decide) (by omega) (by omega) (fun h_2 => ?_) (fun h_2 => ?_)
    · refine X_iload_n dX2_idle_34 rfl ?_
      exact X_iret dX2_idle_35 rfl ⟨by rfl, rfl, rfl, rfl⟩
    · exact absurd h_2 (by omega)
def loC (t : Nat) (mi : pMI) (b : Nat) : Int32 := if mi 6 b - mi (t + 1) (b * 8 + 0) ≤ 0 then nI 0 else mi 6 b - mi (t + 1) (b * 8 + 0)
set_option maxRecDepth 100000 in
set_option maxHeartbeats 4000000 in
theorem c_sleepLostBy2 (Γ : pTG) (g : pGG) (mi : pMI) (ml : pML) (hSh : Sh g) (t : Nat) (hC : ShC g t) (b : Nat) (hb : b < 8) : cI Γ 1 mX2_sleepLostBy [.ref t, .int (nI b)] g mi ml (loC t mi b) mi := by
  refine cI_of (by decide +kernel) (Nat.le_of_ble_eq_true rfl) ?_
  refine X_aload_n dX2_sleepLostBy_0 rfl ?_
  refine X_getr (a := 3) dX2_sleepLostBy_1 fkX2_33 rfl (sck_0 hC) (scr_0 hC) ?_
  refine X_getr (a := 6) dX2_sleepLostBy_4 fkX2_141 rfl (k_3 hSh) (r_3_2 hSh) ?_
  refine X_iload_n dX2_sleepLostBy_7 rfl ?_
  refine X_iald b dX2_sleepLostBy_8 (k_6 hSh) rfl (by omega) ?_
  refine X_aload_n dX2_sleepLostBy_9 rfl ?_
  refine X_getr (a := t + 1) dX2_sleepLostBy_10 fkX2_9 rfl (sck_0 hC) (scr_1 hC) ?_
  refine X_iload_n dX2_sleepLostBy_13 rfl ?_
  refine X_bipush (v := nI 8) dX2_sleepLostBy_14 (by decide) ?_
  refine X_imul dX2_sleepLostBy_16 ?_
  refine X_topi (pk_mul b 8) ?_
  refine X_iconst (v := nI 0) dX2_sleepLostBy_17 (by decide) ?_
  refine X_iadd dX2_sleepLostBy_18 ?_
  refine X_topi (nI_add (b * 8) 0) ?_
  refine X_iald ((b * 8) + 0) dX2_sleepLostBy_19 (sck_1 hC) rfl (by omega) ?_
  refine X_isub dX2_sleepLostBy_20 ?_
  refine X_istore_n dX2_sleepLostBy_21 (by decide) ?_
  refine X_iload_n dX2_sleepLostBy_22 rfl ?_
  refine X_if_le 30 dX2_sleepLostBy_23 (by decide) (fun h_1 => ?_) (fun h_1 => ?_)
  · refine X_iconst (v := nI 0) dX2_sleepLostBy_30 (by decide) ?_
    exact X_iret dX2_sleepLostBy_31 rfl ⟨by unfold loC; first | rw [if_pos (by assumption)] | rw [if_neg (by assumption)], rfl, rfl, rfl⟩
  · refine X_iload_n dX2_sleepLostBy_26 rfl ?_
    refine X_goto 31 dX2_sleepLostBy_27 (by decide) ?_
    exact X_iret dX2_sleepLostBy_31 rfl ⟨by unfold loC; first | rw [if_pos (by assumption)] | rw [if_neg (by assumption)], rfl, rfl, rfl⟩
set_option maxRecDepth 100000 in
set_option maxHeartbeats 4000000 in
theorem c_sleepLost (Γ : pTG) (g : pGG) (mi : pMI) (ml : pML) (hSh : Sh g) (t : Nat) (hC : ShC g t) (nG : Nat) (hG : mi 3 10 = nI nG) (h8 : nG ≤ 8) : cI Γ 2 mX2_sleepLost [.ref t] g mi ml (sumN (fun b => loC t mi b) nG) mi := by
  refine cI_of (by decide +kernel) (Nat.le_of_ble_eq_true rfl) ?_
  refine X_iconst (v := nI 0) dX2_sleepLost_0 (by decide) ?_
  refine X_istore_n dX2_sleepLost_1 (by decide) ?_
  refine X_iconst (v := nI 0) dX2_sleepLost_2 (by decide) ?_
  refine X_istore_n dX2_sleepLost_3 (by decide) ?_
  refine X_L [(2, .int (nI 0)), (1, .int (nI 0)), (0, .ref t)] ⟨rfl, rfl, rfl, trivial⟩ ?_
  refine X_for2 (σ := Unit) 4 (fun i x => [(2, .int (nI i)), (1, .int (sumN (fun b => loC t mi b) i)), (0, .ref t)]) (fun x => mi) (fun x => ml) (fun _ x => x) (fun _ _ => True) nG ?_ nG 0 () (by omega) trivial ?_
  · intro i x hi hI
    refine ⟨trivial, fun hn => ?_⟩
    refine X_iload_n dX2_sleepLost_4 rfl ?_
    refine X_aload_n dX2_sleepLost_5 rfl ?_
    refine X_getr (a := 3) dX2_sleepLost_6 fkX2_33 rfl (sck_0 hC) (scr_0 hC) ?_
    refine X_geti dX2_sleepLost_9 fkX2_50 rfl (k_3 hSh) ?_
    rw [hG]
    refine X_icmp_geN (a := i) (b := nG) 29 dX2_sleepLost_12 (by decide) (by omega) (by omega) (fun h_1 => ?_) (fun h_1 => ?_)
    · exact absurd hi (by omega)
    · refine X_iload_n dX2_sleepLost_15 rfl ?_
      refine X_aload_n dX2_sleepLost_16 rfl ?_
      refine X_iload_n dX2_sleepLost_17 rfl ?_
      refine X_callVI dX2_sleepLost_18 mkX2_134 (sck_0 hC) (c_sleepLostBy2 Γ g mi ml hSh t hC i (by omega)) rfl rfl (by decide) (Nat.le_of_ble_eq_true rfl) ?_
      refine X_iadd dX2_sleepLost_21 ?_
      refine X_istore_n dX2_sleepLost_22 (by decide) ?_
      refine X_iinc (v := nI (i + 1)) dX2_sleepLost_23 rfl (nI_1 _) (by decide) ?_
      refine X_goto 4 dX2_sleepLost_26 (by decide) ?_
      refine X_L [(2, .int (nI (i + 1))), (1, .int ((sumN (fun b => loC t mi b) i) + (loC t mi i))), (0, .ref t)] ⟨rfl, rfl, rfl, trivial⟩ ?_
      exact hn
  · intro x hI
    refine X_iload_n dX2_sleepLost_4 rfl ?_
    refine X_aload_n dX2_sleepLost_5 rfl ?_
    refine X_getr (a := 3) dX2_sleepLost_6 fkX2_33 rfl (sck_0 hC) (scr_0 hC) ?_
    refine X_geti dX2_sleepLost_9 fkX2_50 rfl (k_3 hSh) ?_
    rw [hG]
    refine X_icmp_geN (a := nG) (b := nG) 29 dX2_sleepLost_12 (by decide) (by omega) (by omega) (fun h_2 => ?_) (fun h_2 => ?_)
    · refine X_iload_n dX2_sleepLost_29 rfl ?_
      exact X_iret dX2_sleepLost_30 rfl ⟨by rfl, rfl, rfl, rfl⟩
    · exact absurd h_2 (by omega)
/-- guests that p is true of, as bits -/
def stN (p : Nat → Bool) : Nat → Int32 := mkN p
set_option maxRecDepth 100000 in
set_option maxHeartbeats 4000000 in
theorem c_seated (Γ : pTG) (g : pGG) (mi : pMI) (ml : pML) (hSh : Sh g) (t : Nat) (hC : ShC g t) (nG : Nat) (hG : mi 3 10 = nI nG) (h8 : nG ≤ 8) : cI Γ 1 mX2_seated [.ref t] g mi ml (mkN (fun b => !decide (mi (t + 1) (b * 8 + 5) ≤ 0)) nG) mi := by
  refine cI_of (by decide +kernel) (Nat.le_of_ble_eq_true rfl) ?_
  refine X_iconst (v := nI 0) dX2_seated_0 (by decide) ?_
  refine X_istore_n dX2_seated_1 (by decide) ?_
  refine X_iconst (v := nI 0) dX2_seated_2 (by decide) ?_
  refine X_istore_n dX2_seated_3 (by decide) ?_
  refine X_L [(2, .int (nI 0)), (1, .int (nI 0)), (0, .ref t)] ⟨rfl, rfl, rfl, trivial⟩ ?_
  refine X_for2 (σ := Unit) 4 (fun i x => [(2, .int (nI i)), (1, .int (mkN (fun b => !decide (mi (t + 1) (b * 8 + 5) ≤ 0)) i)), (0, .ref t)]) (fun x => mi) (fun x => ml) (fun _ x => x) (fun _ _ => True) nG ?_ nG 0 () (by omega) trivial ?_
  · intro i x hi hI
    refine ⟨trivial, fun hn => ?_⟩
    refine X_iload_n dX2_seated_4 rfl ?_
    refine X_aload_n dX2_seated_5 rfl ?_
    refine X_getr (a := 3) dX2_seated_6 fkX2_33 rfl (sck_0 hC) (scr_0 hC) ?_
    refine X_geti dX2_seated_9 fkX2_50 rfl (k_3 hSh) ?_
    rw [hG]
    refine X_icmp_geN (a := i) (b := nG) 41 dX2_seated_12 (by decide) (by omega) (by omega) (fun h_1 => ?_) (fun h_1 => ?_)
    · exact absurd hi (by omega)
    · refine X_aload_n dX2_seated_15 rfl ?_
      refine X_getr (a := t + 1) dX2_seated_16 fkX2_9 rfl (sck_0 hC) (scr_1 hC) ?_
      refine X_iload_n dX2_seated_19 rfl ?_
      refine X_bipush (v := nI 8) dX2_seated_20 (by decide) ?_
      refine X_imul dX2_seated_22 ?_
      refine X_topi (pk_mul i 8) ?_
      refine X_iconst (v := nI 5) dX2_seated_23 (by decide) ?_
      refine X_iadd dX2_seated_24 ?_
      refine X_topi (nI_add (i * 8) 5) ?_
      refine X_iald ((i * 8) + 5) dX2_seated_25 (sck_1 hC) rfl (by omega) ?_
      refine X_if_le 35 dX2_seated_26 (by decide) (fun h_2 => ?_) (fun h_2 => ?_)
      · refine X_iinc (v := nI (i + 1)) dX2_seated_35 rfl (nI_1 _) (by decide) ?_
        refine X_goto 4 dX2_seated_38 (by decide) ?_
        refine X_L [(2, .int (nI (i + 1))), (1, .int (mkN (fun b => !decide (mi (t + 1) (b * 8 + 5) ≤ 0)) i)), (0, .ref t)] ⟨rfl, rfl, rfl, trivial⟩ ?_
        rw [show mkN (fun b => !decide (mi (t + 1) (b * 8 + 5) ≤ 0)) (i + 1) = mkN (fun b => !decide (mi (t + 1) (b * 8 + 5) ≤ 0)) i from by show (if (!decide (mi (t + 1) (i * 8 + 5) ≤ 0)) = true then _ else _) = _; first | rw [if_pos (by simp; first | assumption | (apply Int32.not_le.mp; assumption))] | rw [if_neg (by simp; assumption)]] at hn
        exact hn
      · refine X_iload_n dX2_seated_29 rfl ?_
        refine X_iconst (v := nI 1) dX2_seated_30 (by decide) ?_
        refine X_iload_n dX2_seated_31 rfl ?_
        refine X_ishl dX2_seated_32 ?_
        refine X_ior dX2_seated_33 ?_
        refine X_istore_n dX2_seated_34 (by decide) ?_
        refine X_iinc (v := nI (i + 1)) dX2_seated_35 rfl (nI_1 _) (by decide) ?_
        refine X_goto 4 dX2_seated_38 (by decide) ?_
        refine X_L [(2, .int (nI (i + 1))), (1, .int ((mkN (fun b => !decide (mi (t + 1) (b * 8 + 5) ≤ 0)) i) ||| ((nI 1) <<< ((nI i) &&& 31)))), (0, .ref t)] ⟨rfl, rfl, rfl, trivial⟩ ?_
        rw [show mkN (fun b => !decide (mi (t + 1) (b * 8 + 5) ≤ 0)) (i + 1) = (mkN (fun b => !decide (mi (t + 1) (b * 8 + 5) ≤ 0)) i) ||| ((nI 1) <<< ((nI i) &&& 31)) from by show (if (!decide (mi (t + 1) (i * 8 + 5) ≤ 0)) = true then _ else _) = _; first | rw [if_pos (by simp; first | assumption | (apply Int32.not_le.mp; assumption))] | rw [if_neg (by simp; assumption)]] at hn
        exact hn
  · intro x hI
    refine X_iload_n dX2_seated_4 rfl ?_
    refine X_aload_n dX2_seated_5 rfl ?_
    refine X_getr (a := 3) dX2_seated_6 fkX2_33 rfl (sck_0 hC) (scr_0 hC) ?_
    refine X_geti dX2_seated_9 fkX2_50 rfl (k_3 hSh) ?_
    rw [hG]
    refine X_icmp_geN (a := nG) (b := nG) 41 dX2_seated_12 (by decide) (by omega) (by omega) (fun h_3 => ?_) (fun h_3 => ?_)
    · refine X_iload_n dX2_seated_41 rfl ?_
      exact X_iret dX2_seated_42 rfl ⟨by rfl, rfl, rfl, rfl⟩
    · exact absurd h_3 (by omega)
def fcN (cm : Nat → Nat) : Nat → Nat
  | 0 => 23
  | n + 1 => min (fcN cm n) (cm n)
theorem fcN_lt (cm : Nat → Nat) : ∀ n, fcN cm n < 24
  | 0 => (show 23 < 24 by omega)
  | n + 1 => by have := fcN_lt cm n; unfold fcN; omega
set_option maxRecDepth 100000 in
set_option maxHeartbeats 4000000 in
theorem c_firstCame (Γ : pTG) (g : pGG) (mi : pMI) (ml : pML) (hSh : Sh g) (t : Nat) (hC : ShC g t) (nG : Nat) (hG : mi 3 10 = nI nG) (h8 : nG ≤ 8) (cm : Nat → Nat) (hcm : ∀ b, b < nG → mi (t + 1) (b * 8 + 0) = nI (cm b) ∧ cm b < 24) : cI Γ 1 mX2_firstCame [.ref t] g mi ml (nI (fcN cm nG)) mi := by
  refine cI_of (by decide +kernel) (Nat.le_of_ble_eq_true rfl) ?_
  refine X_bipush (v := nI 23) dX2_firstCame_0 (by decide) ?_
  refine X_istore_n dX2_firstCame_2 (by decide) ?_
  refine X_iconst (v := nI 0) dX2_firstCame_3 (by decide) ?_
  refine X_istore_n dX2_firstCame_4 (by decide) ?_
  refine X_L [(2, .int (nI 0)), (1, .int (nI 23)), (0, .ref t)] ⟨rfl, rfl, rfl, trivial⟩ ?_
  refine X_for2 (σ := Unit) 5 (fun i x => [(2, .int (nI i)), (1, .int (nI (fcN cm i))), (0, .ref t)]) (fun x => mi) (fun x => ml) (fun _ x => x) (fun _ _ => True) nG ?_ nG 0 () (by first | omega | (have := fcN_lt cm i; have := hcm i (by assumption); omega)) trivial ?_
  · intro i x hi hI
    refine ⟨trivial, fun hn => ?_⟩
    refine X_iload_n dX2_firstCame_5 rfl ?_
    refine X_aload_n dX2_firstCame_6 rfl ?_
    refine X_getr (a := 3) dX2_firstCame_7 fkX2_33 rfl (sck_0 hC) (scr_0 hC) ?_
    refine X_geti dX2_firstCame_10 fkX2_50 rfl (k_3 hSh) ?_
    rw [hG]
    refine X_icmp_geN (a := i) (b := nG) 49 dX2_firstCame_13 (by decide) (by first | omega | (have := fcN_lt cm i; have := hcm i (by assumption); omega)) (by first | omega | (have := fcN_lt cm i; have := hcm i (by assumption); omega)) (fun h_1 => ?_) (fun h_1 => ?_)
    · exact absurd hi (by omega)
    · refine X_aload_n dX2_firstCame_16 rfl ?_
      refine X_getr (a := t + 1) dX2_firstCame_17 fkX2_9 rfl (sck_0 hC) (scr_1 hC) ?_
      refine X_iload_n dX2_firstCame_20 rfl ?_
      refine X_bipush (v := nI 8) dX2_firstCame_21 (by decide) ?_
      refine X_imul dX2_firstCame_23 ?_
      refine X_topi (pk_mul i 8) ?_
      refine X_iconst (v := nI 0) dX2_firstCame_24 (by decide) ?_
      refine X_iadd dX2_firstCame_25 ?_
      refine X_topi (nI_add (i * 8) 0) ?_
      refine X_iald ((i * 8) + 0) dX2_firstCame_26 (sck_1 hC) rfl (by first | omega | (have := fcN_lt cm i; have := hcm i (by assumption); omega)) ?_
      rw [(hcm i (by omega)).1]
      refine X_iload_n dX2_firstCame_27 rfl ?_
      refine X_icmp_geN (a := cm i) (b := fcN cm i) 43 dX2_firstCame_28 (by decide) (by first | omega | (have := fcN_lt cm i; have := hcm i (by assumption); omega)) (by first | omega | (have := fcN_lt cm i; have := hcm i (by assumption); omega)) (fun h_2 => ?_) (fun h_2 => ?_)
      · refine X_iinc (v := nI (i + 1)) dX2_firstCame_43 rfl (nI_1 _) (by decide) ?_
        refine X_goto 5 dX2_firstCame_46 (by decide) ?_
        refine X_L [(2, .int (nI (i + 1))), (1, .int (nI (fcN cm i))), (0, .ref t)] ⟨rfl, rfl, rfl, trivial⟩ ?_
        rw [show nI (fcN cm (i + 1)) = nI (fcN cm i) from by show nI (min (fcN cm i) (cm i)) = _; congr 1; omega] at hn
        exact hn
      · refine X_aload_n dX2_firstCame_31 rfl ?_
        refine X_getr (a := t + 1) dX2_firstCame_32 fkX2_9 rfl (sck_0 hC) (scr_1 hC) ?_
        refine X_iload_n dX2_firstCame_35 rfl ?_
        refine X_bipush (v := nI 8) dX2_firstCame_36 (by decide) ?_
        refine X_imul dX2_firstCame_38 ?_
        refine X_topi (pk_mul i 8) ?_
        refine X_iconst (v := nI 0) dX2_firstCame_39 (by decide) ?_
        refine X_iadd dX2_firstCame_40 ?_
        refine X_topi (nI_add (i * 8) 0) ?_
        refine X_iald ((i * 8) + 0) dX2_firstCame_41 (sck_1 hC) rfl (by first | omega | (have := fcN_lt cm i; have := hcm i (by assumption); omega)) ?_
        rw [(hcm i (by omega)).1]
        refine X_istore_n dX2_firstCame_42 (by decide) ?_
        refine X_iinc (v := nI (i + 1)) dX2_firstCame_43 rfl (nI_1 _) (by decide) ?_
        refine X_goto 5 dX2_firstCame_46 (by decide) ?_
        refine X_L [(2, .int (nI (i + 1))), (1, .int (nI (cm i))), (0, .ref t)] ⟨rfl, rfl, rfl, trivial⟩ ?_
        rw [show nI (fcN cm (i + 1)) = nI (cm i) from by show nI (min (fcN cm i) (cm i)) = _; congr 1; omega] at hn
        exact hn
  · intro x hI
    refine X_iload_n dX2_firstCame_5 rfl ?_
    refine X_aload_n dX2_firstCame_6 rfl ?_
    refine X_getr (a := 3) dX2_firstCame_7 fkX2_33 rfl (sck_0 hC) (scr_0 hC) ?_
    refine X_geti dX2_firstCame_10 fkX2_50 rfl (k_3 hSh) ?_
    rw [hG]
    refine X_icmp_geN (a := nG) (b := nG) 49 dX2_firstCame_13 (by decide) (by first | omega | (have := fcN_lt cm i; have := hcm i (by assumption); omega)) (by first | omega | (have := fcN_lt cm i; have := hcm i (by assumption); omega)) (fun h_3 => ?_) (fun h_3 => ?_)
    · refine X_iload_n dX2_firstCame_49 rfl ?_
      exact X_iret dX2_firstCame_50 rfl ⟨by rfl, rfl, rfl, rfl⟩
    · exact absurd h_3 (by omega)

theorem up2_o {α : Type} {m : Nat → Nat → α} {o k : Nat} {v : α} {a b : Nat} (h : ¬ (a = o ∧ b = k)) : up2 m o k v a b = m a b := if_neg h
/-- the reference at a call's beginning; behind a refusal -/
def mT (mi : pMI) : pMI := up2 mi 87 0 (nI 0)
def mB (mi : pMI) (w r : Nat) : pMI := up2 (up2 (mT mi) 87 0 (nI w)) 89 r (mi 89 r + nI 1)
theorem mT_0 (mi : pMI) : mT mi 87 0 = nI 0 := up2_s
set_option maxRecDepth 100000 in
set_option maxHeartbeats 4000000 in
theorem c_isGuest (Γ : pTG) (g : pGG) (mi : pMI) (ml : pML) (hSh : Sh g) (v : Int32) : cI Γ 2 mX12_isGuest [.ref 87, .int v] g mi ml (bI (decide (nI 0 ≤ v) && decide (v ≤ mi 91 1 - nI 1))) mi := by
  refine cI_of (by decide +kernel) (Nat.le_of_ble_eq_true rfl) ?_
  refine X_iload_n dX12_isGuest_0 rfl ?_
  refine X_iconst (v := nI 0) dX12_isGuest_1 (by decide) ?_
  refine X_aload_n dX12_isGuest_2 rfl ?_
  refine X_getr (a := 91) dX12_isGuest_3 fkX12_23 rfl (k_87 hSh) (r_87_12 hSh) ?_
  refine X_iconst (v := nI 1) dX12_isGuest_6 (by decide) ?_
  refine X_iald 1 dX12_isGuest_7 (k_91 hSh) rfl (by omega) ?_
  refine X_iconst (v := nI 1) dX12_isGuest_8 (by decide) ?_
  refine X_isub dX12_isGuest_9 ?_
  refine X_callSI dX12_isGuest_10 mkX12_192 (c_in Γ g mi ml v (nI 0) ((mi 91 1) - (nI 1))) rfl rfl (by decide) (by decide) ?_
  exact X_zret (ty := .boolean) dX12_isGuest_13 rfl (by first | decide | (rcases bI_01 _ with q | q <;> rw [q] <;> decide)) ⟨by rfl, rfl, rfl, rfl⟩
set_option maxRecDepth 100000 in
set_option maxHeartbeats 4000000 in
theorem c_isChair (Γ : pTG) (g : pGG) (mi : pMI) (ml : pML) (hSh : Sh g) (v : Int32) : cI Γ 2 mX12_isChair [.ref 87, .int v] g mi ml (bI (decide (nI 0 ≤ v) && decide (v ≤ mi 91 0 - nI 1))) mi := by
  refine cI_of (by decide +kernel) (Nat.le_of_ble_eq_true rfl) ?_
  refine X_iload_n dX12_isChair_0 rfl ?_
  refine X_iconst (v := nI 0) dX12_isChair_1 (by decide) ?_
  refine X_aload_n dX12_isChair_2 rfl ?_
  refine X_getr (a := 91) dX12_isChair_3 fkX12_23 rfl (k_87 hSh) (r_87_12 hSh) ?_
  refine X_iconst (v := nI 0) dX12_isChair_6 (by decide) ?_
  refine X_iald 0 dX12_isChair_7 (k_91 hSh) rfl (by omega) ?_
  refine X_iconst (v := nI 1) dX12_isChair_8 (by decide) ?_
  refine X_isub dX12_isChair_9 ?_
  refine X_callSI dX12_isChair_10 mkX12_192 (c_in Γ g mi ml v (nI 0) ((mi 91 0) - (nI 1))) rfl rfl (by decide) (by decide) ?_
  exact X_zret (ty := .boolean) dX12_isChair_13 rfl (by first | decide | (rcases bI_01 _ with q | q <;> rw [q] <;> decide)) ⟨by rfl, rfl, rfl, rfl⟩
set_option maxRecDepth 100000 in
set_option maxHeartbeats 4000000 in
theorem c_isHalf (Γ : pTG) (g : pGG) (mi : pMI) (ml : pML) (v : Int32) : cI Γ 2 mX12_isHalf [.int v] g mi ml (bI (decide (nI 0 ≤ v) && decide (v ≤ nI 23))) mi := by
  refine cI_of (by decide +kernel) (Nat.le_of_ble_eq_true rfl) ?_
  refine X_iload_n dX12_isHalf_0 rfl ?_
  refine X_iconst (v := nI 0) dX12_isHalf_1 (by decide) ?_
  refine X_bipush (v := nI 23) dX12_isHalf_2 (by decide) ?_
  refine X_callSI dX12_isHalf_4 mkX12_192 (c_in Γ g mi ml v (nI 0) (nI 23)) rfl rfl (by decide) (by decide) ?_
  exact X_zret (ty := .boolean) dX12_isHalf_7 rfl (by first | decide | (rcases bI_01 _ with q | q <;> rw [q] <;> decide)) ⟨by rfl, rfl, rfl, rfl⟩
set_option maxRecDepth 100000 in
set_option maxHeartbeats 4000000 in
theorem c_bad0 (Γ : pTG) (g : pGG) (mi : pMI) (ml : pML) (hSh : Sh g) (w q : Nat) (hth : mi 87 0 = nI 0) : cI Γ 1 mX12_bad [.ref 87, .int (nI 0), .int (nI w), .int (nI q)] g mi ml (nI 0) mi := by
  refine cI_of (by decide +kernel) (Nat.le_of_ble_eq_true rfl) ?_
  refine X_iload_n dX12_bad_0 rfl ?_
  refine X_if_eqN (a := 0) 26 dX12_bad_1 (by decide) (by omega) (fun h_1 => ?_) (fun h_1 => ?_)
  · refine X_aload_n dX12_bad_26 rfl ?_
    refine X_geti dX12_bad_27 fkX12_158 rfl (k_87 hSh) ?_
    rw [hth]
    refine X_if_eqN (a := 0) 37 dX12_bad_30 (by decide) (by omega) (fun h_2 => ?_) (fun h_2 => ?_)
    · refine X_iconst (v := nI 0) dX12_bad_37 (by decide) ?_
      exact X_zret (ty := .boolean) dX12_bad_38 rfl (by first | decide | (rcases bI_01 _ with q | q <;> rw [q] <;> decide)) ⟨by rfl, rfl, rfl, rfl⟩
    · exact absurd rfl h_2
  · exact absurd rfl h_1
set_option maxRecDepth 100000 in
set_option maxHeartbeats 4000000 in
theorem c_bad1 (Γ : pTG) (g : pGG) (mi : pMI) (ml : pML) (hSh : Sh g) (w q : Nat) (hw : 0 < w) (hw2 : w < 100) (hq : q < 3) (hth : mi 87 0 = nI 0) : cI Γ 1 mX12_bad [.ref 87, .int (nI 1), .int (nI w), .int (nI q)] g mi ml (nI 1) (up2 (up2 mi 87 0 (nI w)) 89 q (mi 89 q + nI 1)) := by
  refine cI_of (by decide +kernel) (Nat.le_of_ble_eq_true rfl) ?_
  have h89 : (up2 mi 87 0 (nI w)) 89 q = mi 89 q := up2_o (by omega)
  have h87 : (up2 (up2 mi 87 0 (nI w)) 89 q (mi 89 q + nI 1)) 87 0 = nI w := (up2_o (by omega)).trans up2_s
  refine X_iload_n dX12_bad_0 rfl ?_
  refine X_if_eqN (a := 1) 26 dX12_bad_1 (by decide) (by omega) (fun h_1 => ?_) (fun h_1 => ?_)
  · exact absurd h_1 (by omega)
  · refine X_aload_n dX12_bad_4 rfl ?_
    refine X_geti dX12_bad_5 fkX12_158 rfl (k_87 hSh) ?_
    rw [hth]
    refine X_if_neN (a := 0) 26 dX12_bad_8 (by decide) (by omega) (fun h_2 => ?_) (fun h_2 => ?_)
    · exact absurd rfl h_2
    · refine X_aload_n dX12_bad_11 rfl ?_
      refine X_iload_n dX12_bad_12 rfl ?_
      refine X_puti dX12_bad_13 fkX12_158 rfl rfl (k_87 hSh) ?_
      refine X_aload_n dX12_bad_16 rfl ?_
      refine X_getr (a := 89) dX12_bad_17 fkX12_17 rfl (k_87 hSh) (r_87_10 hSh) ?_
      refine X_iload_n dX12_bad_20 rfl ?_
      refine X_dup2 dX12_bad_21 rfl rfl ?_
      refine X_iald q dX12_bad_22 (k_89 hSh) rfl (by omega) ?_
      rw [h89]
      refine X_iconst (v := nI 1) dX12_bad_23 (by decide) ?_
      refine X_iadd dX12_bad_24 ?_
      refine X_iast q dX12_bad_25 (k_89 hSh) rfl (by omega) ?_
      refine X_aload_n dX12_bad_26 rfl ?_
      refine X_geti dX12_bad_27 fkX12_158 rfl (k_87 hSh) ?_
      rw [h87]
      refine X_if_eqN (a := w) 37 dX12_bad_30 (by decide) (by omega) (fun h_3 => ?_) (fun h_3 => ?_)
      · exact absurd h_3 (by omega)
      · refine X_iconst (v := nI 1) dX12_bad_33 (by decide) ?_
        refine X_goto 38 dX12_bad_34 (by decide) ?_
        exact X_zret (ty := .boolean) dX12_bad_38 rfl (by first | decide | (rcases bI_01 _ with q | q <;> rw [q] <;> decide)) ⟨by rfl, rfl, rfl, rfl⟩
set_option maxRecDepth 100000 in
set_option maxHeartbeats 4000000 in
theorem c_thrown (Γ : pTG) (g : pGG) (mi : pMI) (ml : pML) (hSh : Sh g)  : cI Γ 1 mX12_thrown [.ref 87] g mi ml (mi 87 0) mi := by
  refine cI_of (by decide +kernel) (Nat.le_of_ble_eq_true rfl) ?_
  refine X_aload_n dX12_thrown_0 rfl ?_
  refine X_geti dX12_thrown_1 fkX12_158 rfl (k_87 hSh) ?_
  exact X_iret dX12_thrown_4 rfl ⟨by rfl, rfl, rfl, rfl⟩
set_option maxRecDepth 100000 in
set_option maxHeartbeats 4000000 in
theorem c_Mfault (Γ : pTG) (g : pGG) (mi : pMI) (ml : pML) (hSh : Sh g)  : cI Γ 1 mX12_fault [.ref 87] g mi ml (mT mi 87 3) (mT mi) := by
  refine cI_of (by decide +kernel) (Nat.le_of_ble_eq_true rfl) ?_
  refine X_aload_n dX12_fault_0 rfl ?_
  refine X_iconst (v := nI 0) dX12_fault_1 (by decide) ?_
  refine X_puti dX12_fault_2 fkX12_158 rfl rfl (k_87 hSh) ?_
  refine X_aload_n dX12_fault_5 rfl ?_
  refine X_geti dX12_fault_6 fkX12_9 rfl (k_87 hSh) ?_
  exact X_iret dX12_fault_9 rfl ⟨by rfl, rfl, rfl, rfl⟩
set_option maxRecDepth 100000 in
set_option maxHeartbeats 4000000 in
theorem c_Mcount (Γ : pTG) (g : pGG) (mi : pMI) (ml : pML) (hSh : Sh g) (v : Int32) : cI Γ 1 mX12_count [.ref 87, .int v] g mi ml (if v = 0 then mi 87 31 else if v = nI 1 then mi 87 1 else if v = nI 2 then mi 87 30 else -1) (mT mi) := by
  refine cI_of (by decide +kernel) (Nat.le_of_ble_eq_true rfl) ?_
  refine X_aload_n dX12_count_0 rfl ?_
  refine X_iconst (v := nI 0) dX12_count_1 (by decide) ?_
  refine X_puti dX12_count_2 fkX12_158 rfl rfl (k_87 hSh) ?_
  refine X_iload_n dX12_count_5 rfl ?_
  refine X_if_ne 16 dX12_count_6 (by decide) (fun h_1 => ?_) (fun h_1 => ?_)
  · refine X_iload_n dX12_count_16 rfl ?_
    refine X_iconst (v := nI 1) dX12_count_17 (by decide) ?_
    refine X_icmp_ne 28 dX12_count_18 (by decide) (fun h_2 => ?_) (fun h_2 => ?_)
    · refine X_iload_n dX12_count_28 rfl ?_
      refine X_iconst (v := nI 2) dX12_count_29 (by decide) ?_
      refine X_icmp_ne 40 dX12_count_30 (by decide) (fun h_3 => ?_) (fun h_3 => ?_)
      · refine X_iconst (v := -1) dX12_count_40 (by decide) ?_
        exact X_iret dX12_count_41 rfl ⟨by simp_all [mT, up2]; done, rfl, rfl, rfl⟩
      · refine X_aload_n dX12_count_33 rfl ?_
        refine X_geti dX12_count_34 fkX12_247 rfl (k_87 hSh) ?_
        refine X_goto 41 dX12_count_37 (by decide) ?_
        exact X_iret dX12_count_41 rfl ⟨by simp_all [mT, up2]; done, rfl, rfl, rfl⟩
    · refine X_aload_n dX12_count_21 rfl ?_
      refine X_geti dX12_count_22 fkX12_161 rfl (k_87 hSh) ?_
      refine X_goto 41 dX12_count_25 (by decide) ?_
      exact X_iret dX12_count_41 rfl ⟨by simp_all [mT, up2]; done, rfl, rfl, rfl⟩
  · refine X_aload_n dX12_count_9 rfl ?_
    refine X_geti dX12_count_10 fkX12_250 rfl (k_87 hSh) ?_
    refine X_goto 41 dX12_count_13 (by decide) ?_
    exact X_iret dX12_count_41 rfl ⟨by simp_all [mT, up2]; done, rfl, rfl, rfl⟩

def bI (b : Bool) : Int32 := cond b (nI 1) (nI 0)
theorem bI_0 {b : Bool} : bI b = 0 ↔ b = false := by cases b <;> decide
theorem bI_n0 {b : Bool} : ¬ bI b = 0 ↔ b = true := by cases b <;> decide
theorem bI_01 (b : Bool) : bI b = 0 ∨ bI b = 1 := by cases b <;> decide
set_option maxRecDepth 100000 in
set_option maxHeartbeats 4000000 in
theorem c_in (Γ : pTG) (g : pGG) (mi : pMI) (ml : pML) (v a b : Int32) : cI Γ 1 mX12_in [.int v, .int a, .int b] g mi ml (bI (decide (a ≤ v) && decide (v ≤ b))) mi := by
  refine cI_of (by decide +kernel) (Nat.le_of_ble_eq_true rfl) ?_
  refine X_iload_n dX12_in_0 rfl ?_
  refine X_iload_n dX12_in_1 rfl ?_
  refine X_icmp_lt 14 dX12_in_2 (by decide) (fun h_1 => ?_) (fun h_1 => ?_)
  · refine X_iconst (v := nI 0) dX12_in_14 (by decide) ?_
    exact X_zret (ty := .boolean) dX12_in_15 rfl (by decide) ⟨by simp_all [bI, ← Int32.not_lt], rfl, rfl, rfl⟩
  · refine X_iload_n dX12_in_5 rfl ?_
    refine X_iload_n dX12_in_6 rfl ?_
    refine X_icmp_gt 14 dX12_in_7 (by decide) (fun h_2 => ?_) (fun h_2 => ?_)
    · refine X_iconst (v := nI 0) dX12_in_14 (by decide) ?_
      exact X_zret (ty := .boolean) dX12_in_15 rfl (by decide) ⟨by simp_all [bI, ← Int32.not_lt], rfl, rfl, rfl⟩
    · refine X_iconst (v := nI 1) dX12_in_10 (by decide) ?_
      refine X_goto 15 dX12_in_11 (by decide) ?_
      exact X_zret (ty := .boolean) dX12_in_15 rfl (by decide) ⟨by simp_all [bI, ← Int32.not_lt], rfl, rfl, rfl⟩
set_option maxRecDepth 100000 in
set_option maxHeartbeats 4000000 in
theorem c_less (Γ : pTG) (g : pGG) (mi : pMI) (ml : pML) (a b : Int32) : cI Γ 1 mX12_less [.int a, .int b] g mi ml (if a < b then a else b) mi := by
  refine cI_of (by decide +kernel) (Nat.le_of_ble_eq_true rfl) ?_
  refine X_iload_n dX12_less_0 rfl ?_
  refine X_iload_n dX12_less_1 rfl ?_
  refine X_icmp_ge 9 dX12_less_2 (by decide) (fun h_1 => ?_) (fun h_1 => ?_)
  · refine X_iload_n dX12_less_9 rfl ?_
    exact X_iret dX12_less_10 rfl ⟨by simp_all [← Int32.not_lt], rfl, rfl, rfl⟩
  · refine X_iload_n dX12_less_5 rfl ?_
    refine X_goto 10 dX12_less_6 (by decide) ?_
    exact X_iret dX12_less_10 rfl ⟨by simp_all [← Int32.not_lt], rfl, rfl, rfl⟩
set_option maxRecDepth 100000 in
set_option maxHeartbeats 4000000 in
theorem c_greater (Γ : pTG) (g : pGG) (mi : pMI) (ml : pML) (a b : Int32) : cI Γ 1 mX12_greater [.int a, .int b] g mi ml (if b < a then a else b) mi := by
  refine cI_of (by decide +kernel) (Nat.le_of_ble_eq_true rfl) ?_
  refine X_iload_n dX12_greater_0 rfl ?_
  refine X_iload_n dX12_greater_1 rfl ?_
  refine X_icmp_le 9 dX12_greater_2 (by decide) (fun h_1 => ?_) (fun h_1 => ?_)
  · refine X_iload_n dX12_greater_9 rfl ?_
    exact X_iret dX12_greater_10 rfl ⟨by simp_all [← Int32.not_lt], rfl, rfl, rfl⟩
  · refine X_iload_n dX12_greater_5 rfl ?_
    refine X_goto 10 dX12_greater_6 (by decide) ?_
    exact X_iret dX12_greater_10 rfl ⟨by simp_all [← Int32.not_lt], rfl, rfl, rfl⟩
set_option maxRecDepth 100000 in
set_option maxHeartbeats 4000000 in
theorem c_isDigit (Γ : pTG) (g : pGG) (mi : pMI) (ml : pML) (a : Int32) : cI Γ 1 mX12_isDigit [.int a] g mi ml (bI (decide (nI 48 ≤ a) && decide (a ≤ nI 57))) mi := by
  refine cI_of (by decide +kernel) (Nat.le_of_ble_eq_true rfl) ?_
  refine X_iload_n dX12_isDigit_0 rfl ?_
  refine X_bipush (v := nI 48) dX12_isDigit_1 (by decide) ?_
  refine X_icmp_lt 16 dX12_isDigit_3 (by decide) (fun h_1 => ?_) (fun h_1 => ?_)
  · refine X_iconst (v := nI 0) dX12_isDigit_16 (by decide) ?_
    exact X_zret (ty := .boolean) dX12_isDigit_17 rfl (by decide) ⟨by simp_all [bI, ← Int32.not_lt], rfl, rfl, rfl⟩
  · refine X_iload_n dX12_isDigit_6 rfl ?_
    refine X_bipush (v := nI 57) dX12_isDigit_7 (by decide) ?_
    refine X_icmp_gt 16 dX12_isDigit_9 (by decide) (fun h_2 => ?_) (fun h_2 => ?_)
    · refine X_iconst (v := nI 0) dX12_isDigit_16 (by decide) ?_
      exact X_zret (ty := .boolean) dX12_isDigit_17 rfl (by decide) ⟨by simp_all [bI, ← Int32.not_lt], rfl, rfl, rfl⟩
    · refine X_iconst (v := nI 1) dX12_isDigit_12 (by decide) ?_
      refine X_goto 17 dX12_isDigit_13 (by decide) ?_
      exact X_zret (ty := .boolean) dX12_isDigit_17 rfl (by decide) ⟨by simp_all [bI, ← Int32.not_lt], rfl, rfl, rfl⟩
set_option maxRecDepth 100000 in
set_option maxHeartbeats 4000000 in
theorem c_isSmall (Γ : pTG) (g : pGG) (mi : pMI) (ml : pML) (a : Int32) : cI Γ 1 mX12_isSmall [.int a] g mi ml (bI (decide (nI 97 ≤ a) && decide (a ≤ nI 122))) mi := by
  refine cI_of (by decide +kernel) (Nat.le_of_ble_eq_true rfl) ?_
  refine X_iload_n dX12_isSmall_0 rfl ?_
  refine X_bipush (v := nI 97) dX12_isSmall_1 (by decide) ?_
  refine X_icmp_lt 16 dX12_isSmall_3 (by decide) (fun h_1 => ?_) (fun h_1 => ?_)
  · refine X_iconst (v := nI 0) dX12_isSmall_16 (by decide) ?_
    exact X_zret (ty := .boolean) dX12_isSmall_17 rfl (by decide) ⟨by simp_all [bI, ← Int32.not_lt], rfl, rfl, rfl⟩
  · refine X_iload_n dX12_isSmall_6 rfl ?_
    refine X_bipush (v := nI 122) dX12_isSmall_7 (by decide) ?_
    refine X_icmp_gt 16 dX12_isSmall_9 (by decide) (fun h_2 => ?_) (fun h_2 => ?_)
    · refine X_iconst (v := nI 0) dX12_isSmall_16 (by decide) ?_
      exact X_zret (ty := .boolean) dX12_isSmall_17 rfl (by decide) ⟨by simp_all [bI, ← Int32.not_lt], rfl, rfl, rfl⟩
    · refine X_iconst (v := nI 1) dX12_isSmall_12 (by decide) ?_
      refine X_goto 17 dX12_isSmall_13 (by decide) ?_
      exact X_zret (ty := .boolean) dX12_isSmall_17 rfl (by decide) ⟨by simp_all [bI, ← Int32.not_lt], rfl, rfl, rfl⟩
set_option maxRecDepth 100000 in
set_option maxHeartbeats 4000000 in
theorem c_TisDigit (Γ : pTG) (g : pGG) (mi : pMI) (ml : pML) (a : Int32) : cI Γ 1 mX10_isDigit [.int a] g mi ml (bI (decide (nI 48 ≤ a) && decide (a ≤ nI 57))) mi := by
  refine cI_of (by decide +kernel) (Nat.le_of_ble_eq_true rfl) ?_
  refine X_iload_n dX10_isDigit_0 rfl ?_
  refine X_bipush (v := nI 48) dX10_isDigit_1 (by decide) ?_
  refine X_icmp_lt 16 dX10_isDigit_3 (by decide) (fun h_1 => ?_) (fun h_1 => ?_)
  · refine X_iconst (v := nI 0) dX10_isDigit_16 (by decide) ?_
    exact X_zret (ty := .boolean) dX10_isDigit_17 rfl (by decide) ⟨by simp_all [bI, ← Int32.not_lt], rfl, rfl, rfl⟩
  · refine X_iload_n dX10_isDigit_6 rfl ?_
    refine X_bipush (v := nI 57) dX10_isDigit_7 (by decide) ?_
    refine X_icmp_gt 16 dX10_isDigit_9 (by decide) (fun h_2 => ?_) (fun h_2 => ?_)
    · refine X_iconst (v := nI 0) dX10_isDigit_16 (by decide) ?_
      exact X_zret (ty := .boolean) dX10_isDigit_17 rfl (by decide) ⟨by simp_all [bI, ← Int32.not_lt], rfl, rfl, rfl⟩
    · refine X_iconst (v := nI 1) dX10_isDigit_12 (by decide) ?_
      refine X_goto 17 dX10_isDigit_13 (by decide) ?_
      exact X_zret (ty := .boolean) dX10_isDigit_17 rfl (by decide) ⟨by simp_all [bI, ← Int32.not_lt], rfl, rfl, rfl⟩

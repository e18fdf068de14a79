/-! ===== habits: what their steps do ===== -/
theorem i_dm1 (u : Int32) : u / (-1) = -u := by
  apply Int32.toInt_inj.mp
  have e : (-1 : Int32).toInt = -1 := by decide
  rw [Int32.toInt_div, e, Int.tdiv_neg, Int.tdiv_one, Int32.toInt_neg]
theorem i_rm1 (u : Int32) : u - u / (-1) * (-1) = 0 := by
  rw [i_dm1, Int32.mul_neg, Int32.mul_one, Int32.neg_neg, Int32.sub_self]
def byO (op : Nat) (u v : Int32) : Int32 := match op with
  | 2 => u + v
  | 3 => u - v
  | 4 => u * v
  | 5 => if v = 0 then nI 0 else u / v
  | 6 => if v = 0 then nI 0 else u - u / v * v
  | 7 => if u < v then u else v
  | 8 => if v < u then u else v
  | 9 => if u < v then nI 1 else nI 0
  | 10 => if v < u then nI 1 else nI 0
  | _ => if u = v then nI 1 else nI 0
theorem byO_2 (u v : Int32) : byO 2 u v = u + v := rfl
theorem byO_3 (u v : Int32) : byO 3 u v = u - v := rfl
theorem byO_4 (u v : Int32) : byO 4 u v = u * v := rfl
theorem byO_5 (u v : Int32) : byO 5 u v = if v = 0 then nI 0 else u / v := rfl
theorem byO_6 (u v : Int32) : byO 6 u v = if v = 0 then nI 0 else u - u / v * v := rfl
theorem byO_7 (u v : Int32) : byO 7 u v = if u < v then u else v := rfl
theorem byO_8 (u v : Int32) : byO 8 u v = if v < u then u else v := rfl
theorem byO_9 (u v : Int32) : byO 9 u v = if u < v then nI 1 else nI 0 := rfl
theorem byO_10 (u v : Int32) : byO 10 u v = if v < u then nI 1 else nI 0 := rfl
theorem byO_11 (u v : Int32) : byO 11 u v = if u = v then nI 1 else nI 0 := rfl
set_option maxRecDepth 100000 in
set_option maxHeartbeats 4000000 in
theorem c_by2 (Γ : pTG) (g : pGG) (mi : pMI) (ml : pML) (u v : Int32) : cI Γ 2 mX12_by [.int (nI 2), .int u, .int v] g mi ml (byO 2 u v) mi := by
  refine cI_of (by decide +kernel) (Nat.le_of_ble_eq_true rfl) ?_
  refine X_iload_n dX12_by_0 rfl ?_
  refine X_tableIn 52 dX12_by_1 (by decide) (by decide) rfl (by decide) ?_
  refine X_iload_n dX12_by_52 rfl ?_
  refine X_iload_n dX12_by_53 rfl ?_
  refine X_iadd dX12_by_54 ?_
  exact X_iret dX12_by_55 rfl ⟨by first | rfl | (rw [byO_2]; done) | (rw [byO_2]; first | (subst_vars; rw [if_neg (by decide)]; first | (rw [i_rm1]; done) | (rw [i_dm1]; done) | (rw [i_rm1]; rfl)) | (split <;> first | rfl | (exfalso; simp_all [Int32.not_lt, Int32.not_le]; done) | (exfalso; rename_i q2; exact absurd q2 (Int32.not_lt.mpr (by assumption))) | (simp_all [i_dm1, i_rm1]; done))), rfl, rfl, rfl⟩
set_option maxRecDepth 100000 in
set_option maxHeartbeats 4000000 in
theorem c_by3 (Γ : pTG) (g : pGG) (mi : pMI) (ml : pML) (u v : Int32) : cI Γ 2 mX12_by [.int (nI 3), .int u, .int v] g mi ml (byO 3 u v) mi := by
  refine cI_of (by decide +kernel) (Nat.le_of_ble_eq_true rfl) ?_
  refine X_iload_n dX12_by_0 rfl ?_
  refine X_tableIn 56 dX12_by_1 (by decide) (by decide) rfl (by decide) ?_
  refine X_iload_n dX12_by_56 rfl ?_
  refine X_iload_n dX12_by_57 rfl ?_
  refine X_isub dX12_by_58 ?_
  exact X_iret dX12_by_59 rfl ⟨by first | rfl | (rw [byO_3]; done) | (rw [byO_3]; first | (subst_vars; rw [if_neg (by decide)]; first | (rw [i_rm1]; done) | (rw [i_dm1]; done) | (rw [i_rm1]; rfl)) | (split <;> first | rfl | (exfalso; simp_all [Int32.not_lt, Int32.not_le]; done) | (exfalso; rename_i q2; exact absurd q2 (Int32.not_lt.mpr (by assumption))) | (simp_all [i_dm1, i_rm1]; done))), rfl, rfl, rfl⟩
set_option maxRecDepth 100000 in
set_option maxHeartbeats 4000000 in
theorem c_by4 (Γ : pTG) (g : pGG) (mi : pMI) (ml : pML) (u v : Int32) : cI Γ 2 mX12_by [.int (nI 4), .int u, .int v] g mi ml (byO 4 u v) mi := by
  refine cI_of (by decide +kernel) (Nat.le_of_ble_eq_true rfl) ?_
  refine X_iload_n dX12_by_0 rfl ?_
  refine X_tableIn 60 dX12_by_1 (by decide) (by decide) rfl (by decide) ?_
  refine X_iload_n dX12_by_60 rfl ?_
  refine X_iload_n dX12_by_61 rfl ?_
  refine X_imul dX12_by_62 ?_
  exact X_iret dX12_by_63 rfl ⟨by first | rfl | (rw [byO_4]; done) | (rw [byO_4]; first | (subst_vars; rw [if_neg (by decide)]; first | (rw [i_rm1]; done) | (rw [i_dm1]; done) | (rw [i_rm1]; rfl)) | (split <;> first | rfl | (exfalso; simp_all [Int32.not_lt, Int32.not_le]; done) | (exfalso; rename_i q2; exact absurd q2 (Int32.not_lt.mpr (by assumption))) | (simp_all [i_dm1, i_rm1]; done))), rfl, rfl, rfl⟩
set_option maxRecDepth 100000 in
set_option maxHeartbeats 4000000 in
theorem c_by5 (Γ : pTG) (g : pGG) (mi : pMI) (ml : pML) (u v : Int32) : cI Γ 2 mX12_by [.int (nI 5), .int u, .int v] g mi ml (byO 5 u v) mi := by
  refine cI_of (by decide +kernel) (Nat.le_of_ble_eq_true rfl) ?_
  refine X_iload_n dX12_by_0 rfl ?_
  refine X_tableIn 64 dX12_by_1 (by decide) (by decide) rfl (by decide) ?_
  refine X_iload_n dX12_by_64 rfl ?_
  refine X_if_ne 72 dX12_by_65 (by decide) (fun h_1 => ?_) (fun h_1 => ?_)
  · refine X_iload_n dX12_by_72 rfl ?_
    refine X_iconst (v := -1) dX12_by_73 (by decide) ?_
    refine X_icmp_ne 82 dX12_by_74 (by decide) (fun h_2 => ?_) (fun h_2 => ?_)
    · refine X_iload_n dX12_by_82 rfl ?_
      refine X_iload_n dX12_by_83 rfl ?_
      refine X_idiv dX12_by_84 (by assumption) ?_
      exact X_iret dX12_by_85 rfl ⟨by first | rfl | (rw [byO_5]; done) | (rw [byO_5]; first | (subst_vars; rw [if_neg (by decide)]; first | (rw [i_rm1]; done) | (rw [i_dm1]; done) | (rw [i_rm1]; rfl)) | (split <;> first | rfl | (exfalso; simp_all [Int32.not_lt, Int32.not_le]; done) | (exfalso; rename_i q2; exact absurd q2 (Int32.not_lt.mpr (by assumption))) | (simp_all [i_dm1, i_rm1]; done))), rfl, rfl, rfl⟩
    · refine X_iload_n dX12_by_77 rfl ?_
      refine X_ineg dX12_by_78 ?_
      refine X_goto 85 dX12_by_79 (by decide) ?_
      exact X_iret dX12_by_85 rfl ⟨by first | rfl | (rw [byO_5]; done) | (rw [byO_5]; first | (subst_vars; rw [if_neg (by decide)]; first | (rw [i_rm1]; done) | (rw [i_dm1]; done) | (rw [i_rm1]; rfl)) | (split <;> first | rfl | (exfalso; simp_all [Int32.not_lt, Int32.not_le]; done) | (exfalso; rename_i q2; exact absurd q2 (Int32.not_lt.mpr (by assumption))) | (simp_all [i_dm1, i_rm1]; done))), rfl, rfl, rfl⟩
  · refine X_iconst (v := nI 0) dX12_by_68 (by decide) ?_
    refine X_goto 85 dX12_by_69 (by decide) ?_
    exact X_iret dX12_by_85 rfl ⟨by first | rfl | (rw [byO_5]; done) | (rw [byO_5]; first | (subst_vars; rw [if_neg (by decide)]; first | (rw [i_rm1]; done) | (rw [i_dm1]; done) | (rw [i_rm1]; rfl)) | (split <;> first | rfl | (exfalso; simp_all [Int32.not_lt, Int32.not_le]; done) | (exfalso; rename_i q2; exact absurd q2 (Int32.not_lt.mpr (by assumption))) | (simp_all [i_dm1, i_rm1]; done))), rfl, rfl, rfl⟩
set_option maxRecDepth 100000 in
set_option maxHeartbeats 4000000 in
theorem c_by6 (Γ : pTG) (g : pGG) (mi : pMI) (ml : pML) (u v : Int32) : cI Γ 2 mX12_by [.int (nI 6), .int u, .int v] g mi ml (byO 6 u v) mi := by
  refine cI_of (by decide +kernel) (Nat.le_of_ble_eq_true rfl) ?_
  refine X_iload_n dX12_by_0 rfl ?_
  refine X_tableIn 86 dX12_by_1 (by decide) (by decide) rfl (by decide) ?_
  refine X_iload_n dX12_by_86 rfl ?_
  refine X_if_eq 95 dX12_by_87 (by decide) (fun h_1 => ?_) (fun h_1 => ?_)
  · refine X_iconst (v := nI 0) dX12_by_95 (by decide) ?_
    refine X_goto 102 dX12_by_96 (by decide) ?_
    exact X_iret dX12_by_102 rfl ⟨by first | rfl | (rw [byO_6]; done) | (rw [byO_6]; first | (subst_vars; rw [if_neg (by decide)]; first | (rw [i_rm1]; done) | (rw [i_dm1]; done) | (rw [i_rm1]; rfl)) | (split <;> first | rfl | (exfalso; simp_all [Int32.not_lt, Int32.not_le]; done) | (exfalso; rename_i q2; exact absurd q2 (Int32.not_lt.mpr (by assumption))) | (simp_all [i_dm1, i_rm1]; done))), rfl, rfl, rfl⟩
  · refine X_iload_n dX12_by_90 rfl ?_
    refine X_iconst (v := -1) dX12_by_91 (by decide) ?_
    refine X_icmp_ne 99 dX12_by_92 (by decide) (fun h_2 => ?_) (fun h_2 => ?_)
    · refine X_iload_n dX12_by_99 rfl ?_
      refine X_iload_n dX12_by_100 rfl ?_
      refine X_irem dX12_by_101 (by assumption) ?_
      exact X_iret dX12_by_102 rfl ⟨by first | rfl | (rw [byO_6]; done) | (rw [byO_6]; first | (subst_vars; rw [if_neg (by decide)]; first | (rw [i_rm1]; done) | (rw [i_dm1]; done) | (rw [i_rm1]; rfl)) | (split <;> first | rfl | (exfalso; simp_all [Int32.not_lt, Int32.not_le]; done) | (exfalso; rename_i q2; exact absurd q2 (Int32.not_lt.mpr (by assumption))) | (simp_all [i_dm1, i_rm1]; done))), rfl, rfl, rfl⟩
    · refine X_iconst (v := nI 0) dX12_by_95 (by decide) ?_
      refine X_goto 102 dX12_by_96 (by decide) ?_
      exact X_iret dX12_by_102 rfl ⟨by first | rfl | (rw [byO_6]; done) | (rw [byO_6]; first | (subst_vars; rw [if_neg (by decide)]; first | (rw [i_rm1]; done) | (rw [i_dm1]; done) | (rw [i_rm1]; rfl)) | (split <;> first | rfl | (exfalso; simp_all [Int32.not_lt, Int32.not_le]; done) | (exfalso; rename_i q2; exact absurd q2 (Int32.not_lt.mpr (by assumption))) | (simp_all [i_dm1, i_rm1]; done))), rfl, rfl, rfl⟩
set_option maxRecDepth 100000 in
set_option maxHeartbeats 4000000 in
theorem c_by7 (Γ : pTG) (g : pGG) (mi : pMI) (ml : pML) (u v : Int32) : cI Γ 2 mX12_by [.int (nI 7), .int u, .int v] g mi ml (byO 7 u v) mi := by
  refine cI_of (by decide +kernel) (Nat.le_of_ble_eq_true rfl) ?_
  refine X_iload_n dX12_by_0 rfl ?_
  refine X_tableIn 103 dX12_by_1 (by decide) (by decide) rfl (by decide) ?_
  refine X_iload_n dX12_by_103 rfl ?_
  refine X_iload_n dX12_by_104 rfl ?_
  refine X_callSI dX12_by_105 mkX12_288 (c_less Γ g mi ml u v) rfl rfl (by decide) (Nat.le_of_ble_eq_true rfl) ?_
  exact X_iret dX12_by_108 rfl ⟨by first | rfl | (rw [byO_7]; done) | (rw [byO_7]; first | (subst_vars; rw [if_neg (by decide)]; first | (rw [i_rm1]; done) | (rw [i_dm1]; done) | (rw [i_rm1]; rfl)) | (split <;> first | rfl | (exfalso; simp_all [Int32.not_lt, Int32.not_le]; done) | (exfalso; rename_i q2; exact absurd q2 (Int32.not_lt.mpr (by assumption))) | (simp_all [i_dm1, i_rm1]; done))), rfl, rfl, rfl⟩
set_option maxRecDepth 100000 in
set_option maxHeartbeats 4000000 in
theorem c_by8 (Γ : pTG) (g : pGG) (mi : pMI) (ml : pML) (u v : Int32) : cI Γ 2 mX12_by [.int (nI 8), .int u, .int v] g mi ml (byO 8 u v) mi := by
  refine cI_of (by decide +kernel) (Nat.le_of_ble_eq_true rfl) ?_
  refine X_iload_n dX12_by_0 rfl ?_
  refine X_tableIn 109 dX12_by_1 (by decide) (by decide) rfl (by decide) ?_
  refine X_iload_n dX12_by_109 rfl ?_
  refine X_iload_n dX12_by_110 rfl ?_
  refine X_callSI dX12_by_111 mkX12_291 (c_greater Γ g mi ml u v) rfl rfl (by decide) (Nat.le_of_ble_eq_true rfl) ?_
  exact X_iret dX12_by_114 rfl ⟨by first | rfl | (rw [byO_8]; done) | (rw [byO_8]; first | (subst_vars; rw [if_neg (by decide)]; first | (rw [i_rm1]; done) | (rw [i_dm1]; done) | (rw [i_rm1]; rfl)) | (split <;> first | rfl | (exfalso; simp_all [Int32.not_lt, Int32.not_le]; done) | (exfalso; rename_i q2; exact absurd q2 (Int32.not_lt.mpr (by assumption))) | (simp_all [i_dm1, i_rm1]; done))), rfl, rfl, rfl⟩
set_option maxRecDepth 100000 in
set_option maxHeartbeats 4000000 in
theorem c_by9 (Γ : pTG) (g : pGG) (mi : pMI) (ml : pML) (u v : Int32) : cI Γ 2 mX12_by [.int (nI 9), .int u, .int v] g mi ml (byO 9 u v) mi := by
  refine cI_of (by decide +kernel) (Nat.le_of_ble_eq_true rfl) ?_
  refine X_iload_n dX12_by_0 rfl ?_
  refine X_tableIn 115 dX12_by_1 (by decide) (by decide) rfl (by decide) ?_
  refine X_iload_n dX12_by_115 rfl ?_
  refine X_iload_n dX12_by_116 rfl ?_
  refine X_icmp_ge 124 dX12_by_117 (by decide) (fun h_1 => ?_) (fun h_1 => ?_)
  · refine X_iconst (v := nI 0) dX12_by_124 (by decide) ?_
    exact X_iret dX12_by_125 rfl ⟨by first | rfl | (rw [byO_9]; done) | (rw [byO_9]; first | (subst_vars; rw [if_neg (by decide)]; first | (rw [i_rm1]; done) | (rw [i_dm1]; done) | (rw [i_rm1]; rfl)) | (split <;> first | rfl | (exfalso; simp_all [Int32.not_lt, Int32.not_le]; done) | (exfalso; rename_i q2; exact absurd q2 (Int32.not_lt.mpr (by assumption))) | (simp_all [i_dm1, i_rm1]; done))), rfl, rfl, rfl⟩
  · refine X_iconst (v := nI 1) dX12_by_120 (by decide) ?_
    refine X_goto 125 dX12_by_121 (by decide) ?_
    exact X_iret dX12_by_125 rfl ⟨by first | rfl | (rw [byO_9]; done) | (rw [byO_9]; first | (subst_vars; rw [if_neg (by decide)]; first | (rw [i_rm1]; done) | (rw [i_dm1]; done) | (rw [i_rm1]; rfl)) | (split <;> first | rfl | (exfalso; simp_all [Int32.not_lt, Int32.not_le]; done) | (exfalso; rename_i q2; exact absurd q2 (Int32.not_lt.mpr (by assumption))) | (simp_all [i_dm1, i_rm1]; done))), rfl, rfl, rfl⟩
set_option maxRecDepth 100000 in
set_option maxHeartbeats 4000000 in
theorem c_by10 (Γ : pTG) (g : pGG) (mi : pMI) (ml : pML) (u v : Int32) : cI Γ 2 mX12_by [.int (nI 10), .int u, .int v] g mi ml (byO 10 u v) mi := by
  refine cI_of (by decide +kernel) (Nat.le_of_ble_eq_true rfl) ?_
  refine X_iload_n dX12_by_0 rfl ?_
  refine X_tableIn 126 dX12_by_1 (by decide) (by decide) rfl (by decide) ?_
  refine X_iload_n dX12_by_126 rfl ?_
  refine X_iload_n dX12_by_127 rfl ?_
  refine X_icmp_le 135 dX12_by_128 (by decide) (fun h_1 => ?_) (fun h_1 => ?_)
  · refine X_iconst (v := nI 0) dX12_by_135 (by decide) ?_
    exact X_iret dX12_by_136 rfl ⟨by first | rfl | (rw [byO_10]; done) | (rw [byO_10]; first | (subst_vars; rw [if_neg (by decide)]; first | (rw [i_rm1]; done) | (rw [i_dm1]; done) | (rw [i_rm1]; rfl)) | (split <;> first | rfl | (exfalso; simp_all [Int32.not_lt, Int32.not_le]; done) | (exfalso; rename_i q2; exact absurd q2 (Int32.not_lt.mpr (by assumption))) | (simp_all [i_dm1, i_rm1]; done))), rfl, rfl, rfl⟩
  · refine X_iconst (v := nI 1) dX12_by_131 (by decide) ?_
    refine X_goto 136 dX12_by_132 (by decide) ?_
    exact X_iret dX12_by_136 rfl ⟨by first | rfl | (rw [byO_10]; done) | (rw [byO_10]; first | (subst_vars; rw [if_neg (by decide)]; first | (rw [i_rm1]; done) | (rw [i_dm1]; done) | (rw [i_rm1]; rfl)) | (split <;> first | rfl | (exfalso; simp_all [Int32.not_lt, Int32.not_le]; done) | (exfalso; rename_i q2; exact absurd q2 (Int32.not_lt.mpr (by assumption))) | (simp_all [i_dm1, i_rm1]; done))), rfl, rfl, rfl⟩
set_option maxRecDepth 100000 in
set_option maxHeartbeats 4000000 in
theorem c_by11 (Γ : pTG) (g : pGG) (mi : pMI) (ml : pML) (u v : Int32) : cI Γ 2 mX12_by [.int (nI 11), .int u, .int v] g mi ml (byO 11 u v) mi := by
  refine cI_of (by decide +kernel) (Nat.le_of_ble_eq_true rfl) ?_
  refine X_iload_n dX12_by_0 rfl ?_
  refine X_tableOut 137 dX12_by_1 (by decide) (by decide) ?_
  refine X_iload_n dX12_by_137 rfl ?_
  refine X_iload_n dX12_by_138 rfl ?_
  refine X_icmp_ne 146 dX12_by_139 (by decide) (fun h_1 => ?_) (fun h_1 => ?_)
  · refine X_iconst (v := nI 0) dX12_by_146 (by decide) ?_
    exact X_iret dX12_by_147 rfl ⟨by first | rfl | (rw [byO_11]; done) | (rw [byO_11]; first | (subst_vars; rw [if_neg (by decide)]; first | (rw [i_rm1]; done) | (rw [i_dm1]; done) | (rw [i_rm1]; rfl)) | (split <;> first | rfl | (exfalso; simp_all [Int32.not_lt, Int32.not_le]; done) | (exfalso; rename_i q2; exact absurd q2 (Int32.not_lt.mpr (by assumption))) | (simp_all [i_dm1, i_rm1]; done))), rfl, rfl, rfl⟩
  · refine X_iconst (v := nI 1) dX12_by_142 (by decide) ?_
    refine X_goto 147 dX12_by_143 (by decide) ?_
    exact X_iret dX12_by_147 rfl ⟨by first | rfl | (rw [byO_11]; done) | (rw [byO_11]; first | (subst_vars; rw [if_neg (by decide)]; first | (rw [i_rm1]; done) | (rw [i_dm1]; done) | (rw [i_rm1]; rfl)) | (split <;> first | rfl | (exfalso; simp_all [Int32.not_lt, Int32.not_le]; done) | (exfalso; rename_i q2; exact absurd q2 (Int32.not_lt.mpr (by assumption))) | (simp_all [i_dm1, i_rm1]; done))), rfl, rfl, rfl⟩
set_option maxRecDepth 100000 in
set_option maxHeartbeats 4000000 in
theorem c_join2 (Γ : pTG) (g : pGG) (mi : pMI) (ml : pML) (u v : Int32) : cI Γ 1 mX6_join [.int (nI 200), .int u, .int v] g mi ml (byO 2 u v) mi := by
  refine cI_of (by decide +kernel) (Nat.le_of_ble_eq_true rfl) ?_
  refine X_iload_n dX6_join_0 rfl ?_
  refine X_tableIn 52 dX6_join_1 (by decide) (by decide) rfl (by decide) ?_
  refine X_iload_n dX6_join_52 rfl ?_
  refine X_iload_n dX6_join_53 rfl ?_
  refine X_iadd dX6_join_54 ?_
  exact X_iret dX6_join_55 rfl ⟨by first | rfl | (rw [byO_2]; done) | (rw [byO_2]; first | (subst_vars; rw [if_neg (by decide)]; first | (rw [i_rm1]; done) | (rw [i_dm1]; done) | (rw [i_rm1]; rfl)) | (split <;> first | rfl | (exfalso; simp_all [Int32.not_lt, Int32.not_le]; done) | (exfalso; rename_i q2; exact absurd q2 (Int32.not_lt.mpr (by assumption))) | (simp_all [i_dm1, i_rm1]; done))), rfl, rfl, rfl⟩
set_option maxRecDepth 100000 in
set_option maxHeartbeats 4000000 in
theorem c_join3 (Γ : pTG) (g : pGG) (mi : pMI) (ml : pML) (u v : Int32) : cI Γ 1 mX6_join [.int (nI 201), .int u, .int v] g mi ml (byO 3 u v) mi := by
  refine cI_of (by decide +kernel) (Nat.le_of_ble_eq_true rfl) ?_
  refine X_iload_n dX6_join_0 rfl ?_
  refine X_tableIn 56 dX6_join_1 (by decide) (by decide) rfl (by decide) ?_
  refine X_iload_n dX6_join_56 rfl ?_
  refine X_iload_n dX6_join_57 rfl ?_
  refine X_isub dX6_join_58 ?_
  exact X_iret dX6_join_59 rfl ⟨by first | rfl | (rw [byO_3]; done) | (rw [byO_3]; first | (subst_vars; rw [if_neg (by decide)]; first | (rw [i_rm1]; done) | (rw [i_dm1]; done) | (rw [i_rm1]; rfl)) | (split <;> first | rfl | (exfalso; simp_all [Int32.not_lt, Int32.not_le]; done) | (exfalso; rename_i q2; exact absurd q2 (Int32.not_lt.mpr (by assumption))) | (simp_all [i_dm1, i_rm1]; done))), rfl, rfl, rfl⟩
set_option maxRecDepth 100000 in
set_option maxHeartbeats 4000000 in
theorem c_join4 (Γ : pTG) (g : pGG) (mi : pMI) (ml : pML) (u v : Int32) : cI Γ 1 mX6_join [.int (nI 202), .int u, .int v] g mi ml (byO 4 u v) mi := by
  refine cI_of (by decide +kernel) (Nat.le_of_ble_eq_true rfl) ?_
  refine X_iload_n dX6_join_0 rfl ?_
  refine X_tableIn 60 dX6_join_1 (by decide) (by decide) rfl (by decide) ?_
  refine X_iload_n dX6_join_60 rfl ?_
  refine X_iload_n dX6_join_61 rfl ?_
  refine X_imul dX6_join_62 ?_
  exact X_iret dX6_join_63 rfl ⟨by first | rfl | (rw [byO_4]; done) | (rw [byO_4]; first | (subst_vars; rw [if_neg (by decide)]; first | (rw [i_rm1]; done) | (rw [i_dm1]; done) | (rw [i_rm1]; rfl)) | (split <;> first | rfl | (exfalso; simp_all [Int32.not_lt, Int32.not_le]; done) | (exfalso; rename_i q2; exact absurd q2 (Int32.not_lt.mpr (by assumption))) | (simp_all [i_dm1, i_rm1]; done))), rfl, rfl, rfl⟩
set_option maxRecDepth 100000 in
set_option maxHeartbeats 4000000 in
theorem c_join5 (Γ : pTG) (g : pGG) (mi : pMI) (ml : pML) (u v : Int32) : cI Γ 1 mX6_join [.int (nI 203), .int u, .int v] g mi ml (byO 5 u v) mi := by
  refine cI_of (by decide +kernel) (Nat.le_of_ble_eq_true rfl) ?_
  refine X_iload_n dX6_join_0 rfl ?_
  refine X_tableIn 64 dX6_join_1 (by decide) (by decide) rfl (by decide) ?_
  refine X_iload_n dX6_join_64 rfl ?_
  refine X_if_ne 72 dX6_join_65 (by decide) (fun h_1 => ?_) (fun h_1 => ?_)
  · refine X_iload_n dX6_join_72 rfl ?_
    refine X_iload_n dX6_join_73 rfl ?_
    refine X_idiv dX6_join_74 (by assumption) ?_
    exact X_iret dX6_join_75 rfl ⟨by first | rfl | (rw [byO_5]; done) | (rw [byO_5]; first | (subst_vars; rw [if_neg (by decide)]; first | (rw [i_rm1]; done) | (rw [i_dm1]; done) | (rw [i_rm1]; rfl)) | (split <;> first | rfl | (exfalso; simp_all [Int32.not_lt, Int32.not_le]; done) | (exfalso; rename_i q2; exact absurd q2 (Int32.not_lt.mpr (by assumption))) | (simp_all [i_dm1, i_rm1]; done))), rfl, rfl, rfl⟩
  · refine X_iconst (v := nI 0) dX6_join_68 (by decide) ?_
    refine X_goto 75 dX6_join_69 (by decide) ?_
    exact X_iret dX6_join_75 rfl ⟨by first | rfl | (rw [byO_5]; done) | (rw [byO_5]; first | (subst_vars; rw [if_neg (by decide)]; first | (rw [i_rm1]; done) | (rw [i_dm1]; done) | (rw [i_rm1]; rfl)) | (split <;> first | rfl | (exfalso; simp_all [Int32.not_lt, Int32.not_le]; done) | (exfalso; rename_i q2; exact absurd q2 (Int32.not_lt.mpr (by assumption))) | (simp_all [i_dm1, i_rm1]; done))), rfl, rfl, rfl⟩
set_option maxRecDepth 100000 in
set_option maxHeartbeats 4000000 in
theorem c_join6 (Γ : pTG) (g : pGG) (mi : pMI) (ml : pML) (u v : Int32) : cI Γ 1 mX6_join [.int (nI 204), .int u, .int v] g mi ml (byO 6 u v) mi := by
  refine cI_of (by decide +kernel) (Nat.le_of_ble_eq_true rfl) ?_
  refine X_iload_n dX6_join_0 rfl ?_
  refine X_tableIn 76 dX6_join_1 (by decide) (by decide) rfl (by decide) ?_
  refine X_iload_n dX6_join_76 rfl ?_
  refine X_if_ne 84 dX6_join_77 (by decide) (fun h_1 => ?_) (fun h_1 => ?_)
  · refine X_iload_n dX6_join_84 rfl ?_
    refine X_iload_n dX6_join_85 rfl ?_
    refine X_irem dX6_join_86 (by assumption) ?_
    exact X_iret dX6_join_87 rfl ⟨by first | rfl | (rw [byO_6]; done) | (rw [byO_6]; first | (subst_vars; rw [if_neg (by decide)]; first | (rw [i_rm1]; done) | (rw [i_dm1]; done) | (rw [i_rm1]; rfl)) | (split <;> first | rfl | (exfalso; simp_all [Int32.not_lt, Int32.not_le]; done) | (exfalso; rename_i q2; exact absurd q2 (Int32.not_lt.mpr (by assumption))) | (simp_all [i_dm1, i_rm1]; done))), rfl, rfl, rfl⟩
  · refine X_iconst (v := nI 0) dX6_join_80 (by decide) ?_
    refine X_goto 87 dX6_join_81 (by decide) ?_
    exact X_iret dX6_join_87 rfl ⟨by first | rfl | (rw [byO_6]; done) | (rw [byO_6]; first | (subst_vars; rw [if_neg (by decide)]; first | (rw [i_rm1]; done) | (rw [i_dm1]; done) | (rw [i_rm1]; rfl)) | (split <;> first | rfl | (exfalso; simp_all [Int32.not_lt, Int32.not_le]; done) | (exfalso; rename_i q2; exact absurd q2 (Int32.not_lt.mpr (by assumption))) | (simp_all [i_dm1, i_rm1]; done))), rfl, rfl, rfl⟩
set_option maxRecDepth 100000 in
set_option maxHeartbeats 4000000 in
theorem c_join7 (Γ : pTG) (g : pGG) (mi : pMI) (ml : pML) (u v : Int32) : cI Γ 1 mX6_join [.int (nI 205), .int u, .int v] g mi ml (byO 7 u v) mi := by
  refine cI_of (by decide +kernel) (Nat.le_of_ble_eq_true rfl) ?_
  refine X_iload_n dX6_join_0 rfl ?_
  refine X_tableIn 88 dX6_join_1 (by decide) (by decide) rfl (by decide) ?_
  refine X_iload_n dX6_join_88 rfl ?_
  refine X_iload_n dX6_join_89 rfl ?_
  refine X_icmp_ge 97 dX6_join_90 (by decide) (fun h_1 => ?_) (fun h_1 => ?_)
  · refine X_iload_n dX6_join_97 rfl ?_
    exact X_iret dX6_join_98 rfl ⟨by first | rfl | (rw [byO_7]; done) | (rw [byO_7]; first | (subst_vars; rw [if_neg (by decide)]; first | (rw [i_rm1]; done) | (rw [i_dm1]; done) | (rw [i_rm1]; rfl)) | (split <;> first | rfl | (exfalso; simp_all [Int32.not_lt, Int32.not_le]; done) | (exfalso; rename_i q2; exact absurd q2 (Int32.not_lt.mpr (by assumption))) | (simp_all [i_dm1, i_rm1]; done))), rfl, rfl, rfl⟩
  · refine X_iload_n dX6_join_93 rfl ?_
    refine X_goto 98 dX6_join_94 (by decide) ?_
    exact X_iret dX6_join_98 rfl ⟨by first | rfl | (rw [byO_7]; done) | (rw [byO_7]; first | (subst_vars; rw [if_neg (by decide)]; first | (rw [i_rm1]; done) | (rw [i_dm1]; done) | (rw [i_rm1]; rfl)) | (split <;> first | rfl | (exfalso; simp_all [Int32.not_lt, Int32.not_le]; done) | (exfalso; rename_i q2; exact absurd q2 (Int32.not_lt.mpr (by assumption))) | (simp_all [i_dm1, i_rm1]; done))), rfl, rfl, rfl⟩
set_option maxRecDepth 100000 in
set_option maxHeartbeats 4000000 in
theorem c_join8 (Γ : pTG) (g : pGG) (mi : pMI) (ml : pML) (u v : Int32) : cI Γ 1 mX6_join [.int (nI 206), .int u, .int v] g mi ml (byO 8 u v) mi := by
  refine cI_of (by decide +kernel) (Nat.le_of_ble_eq_true rfl) ?_
  refine X_iload_n dX6_join_0 rfl ?_
  refine X_tableIn 99 dX6_join_1 (by decide) (by decide) rfl (by decide) ?_
  refine X_iload_n dX6_join_99 rfl ?_
  refine X_iload_n dX6_join_100 rfl ?_
  refine X_icmp_le 108 dX6_join_101 (by decide) (fun h_1 => ?_) (fun h_1 => ?_)
  · refine X_iload_n dX6_join_108 rfl ?_
    exact X_iret dX6_join_109 rfl ⟨by first | rfl | (rw [byO_8]; done) | (rw [byO_8]; first | (subst_vars; rw [if_neg (by decide)]; first | (rw [i_rm1]; done) | (rw [i_dm1]; done) | (rw [i_rm1]; rfl)) | (split <;> first | rfl | (exfalso; simp_all [Int32.not_lt, Int32.not_le]; done) | (exfalso; rename_i q2; exact absurd q2 (Int32.not_lt.mpr (by assumption))) | (simp_all [i_dm1, i_rm1]; done))), rfl, rfl, rfl⟩
  · refine X_iload_n dX6_join_104 rfl ?_
    refine X_goto 109 dX6_join_105 (by decide) ?_
    exact X_iret dX6_join_109 rfl ⟨by first | rfl | (rw [byO_8]; done) | (rw [byO_8]; first | (subst_vars; rw [if_neg (by decide)]; first | (rw [i_rm1]; done) | (rw [i_dm1]; done) | (rw [i_rm1]; rfl)) | (split <;> first | rfl | (exfalso; simp_all [Int32.not_lt, Int32.not_le]; done) | (exfalso; rename_i q2; exact absurd q2 (Int32.not_lt.mpr (by assumption))) | (simp_all [i_dm1, i_rm1]; done))), rfl, rfl, rfl⟩
set_option maxRecDepth 100000 in
set_option maxHeartbeats 4000000 in
theorem c_join9 (Γ : pTG) (g : pGG) (mi : pMI) (ml : pML) (u v : Int32) : cI Γ 1 mX6_join [.int (nI 207), .int u, .int v] g mi ml (byO 9 u v) mi := by
  refine cI_of (by decide +kernel) (Nat.le_of_ble_eq_true rfl) ?_
  refine X_iload_n dX6_join_0 rfl ?_
  refine X_tableIn 110 dX6_join_1 (by decide) (by decide) rfl (by decide) ?_
  refine X_iload_n dX6_join_110 rfl ?_
  refine X_iload_n dX6_join_111 rfl ?_
  refine X_icmp_ge 119 dX6_join_112 (by decide) (fun h_1 => ?_) (fun h_1 => ?_)
  · refine X_iconst (v := nI 0) dX6_join_119 (by decide) ?_
    exact X_iret dX6_join_120 rfl ⟨by first | rfl | (rw [byO_9]; done) | (rw [byO_9]; first | (subst_vars; rw [if_neg (by decide)]; first | (rw [i_rm1]; done) | (rw [i_dm1]; done) | (rw [i_rm1]; rfl)) | (split <;> first | rfl | (exfalso; simp_all [Int32.not_lt, Int32.not_le]; done) | (exfalso; rename_i q2; exact absurd q2 (Int32.not_lt.mpr (by assumption))) | (simp_all [i_dm1, i_rm1]; done))), rfl, rfl, rfl⟩
  · refine X_iconst (v := nI 1) dX6_join_115 (by decide) ?_
    refine X_goto 120 dX6_join_116 (by decide) ?_
    exact X_iret dX6_join_120 rfl ⟨by first | rfl | (rw [byO_9]; done) | (rw [byO_9]; first | (subst_vars; rw [if_neg (by decide)]; first | (rw [i_rm1]; done) | (rw [i_dm1]; done) | (rw [i_rm1]; rfl)) | (split <;> first | rfl | (exfalso; simp_all [Int32.not_lt, Int32.not_le]; done) | (exfalso; rename_i q2; exact absurd q2 (Int32.not_lt.mpr (by assumption))) | (simp_all [i_dm1, i_rm1]; done))), rfl, rfl, rfl⟩
set_option maxRecDepth 100000 in
set_option maxHeartbeats 4000000 in
theorem c_join10 (Γ : pTG) (g : pGG) (mi : pMI) (ml : pML) (u v : Int32) : cI Γ 1 mX6_join [.int (nI 208), .int u, .int v] g mi ml (byO 10 u v) mi := by
  refine cI_of (by decide +kernel) (Nat.le_of_ble_eq_true rfl) ?_
  refine X_iload_n dX6_join_0 rfl ?_
  refine X_tableIn 121 dX6_join_1 (by decide) (by decide) rfl (by decide) ?_
  refine X_iload_n dX6_join_121 rfl ?_
  refine X_iload_n dX6_join_122 rfl ?_
  refine X_icmp_le 130 dX6_join_123 (by decide) (fun h_1 => ?_) (fun h_1 => ?_)
  · refine X_iconst (v := nI 0) dX6_join_130 (by decide) ?_
    exact X_iret dX6_join_131 rfl ⟨by first | rfl | (rw [byO_10]; done) | (rw [byO_10]; first | (subst_vars; rw [if_neg (by decide)]; first | (rw [i_rm1]; done) | (rw [i_dm1]; done) | (rw [i_rm1]; rfl)) | (split <;> first | rfl | (exfalso; simp_all [Int32.not_lt, Int32.not_le]; done) | (exfalso; rename_i q2; exact absurd q2 (Int32.not_lt.mpr (by assumption))) | (simp_all [i_dm1, i_rm1]; done))), rfl, rfl, rfl⟩
  · refine X_iconst (v := nI 1) dX6_join_126 (by decide) ?_
    refine X_goto 131 dX6_join_127 (by decide) ?_
    exact X_iret dX6_join_131 rfl ⟨by first | rfl | (rw [byO_10]; done) | (rw [byO_10]; first | (subst_vars; rw [if_neg (by decide)]; first | (rw [i_rm1]; done) | (rw [i_dm1]; done) | (rw [i_rm1]; rfl)) | (split <;> first | rfl | (exfalso; simp_all [Int32.not_lt, Int32.not_le]; done) | (exfalso; rename_i q2; exact absurd q2 (Int32.not_lt.mpr (by assumption))) | (simp_all [i_dm1, i_rm1]; done))), rfl, rfl, rfl⟩
set_option maxRecDepth 100000 in
set_option maxHeartbeats 4000000 in
theorem c_join11 (Γ : pTG) (g : pGG) (mi : pMI) (ml : pML) (u v : Int32) : cI Γ 1 mX6_join [.int (nI 209), .int u, .int v] g mi ml (byO 11 u v) mi := by
  refine cI_of (by decide +kernel) (Nat.le_of_ble_eq_true rfl) ?_
  refine X_iload_n dX6_join_0 rfl ?_
  refine X_tableOut 132 dX6_join_1 (by decide) (by decide) ?_
  refine X_iload_n dX6_join_132 rfl ?_
  refine X_iload_n dX6_join_133 rfl ?_
  refine X_icmp_ne 141 dX6_join_134 (by decide) (fun h_1 => ?_) (fun h_1 => ?_)
  · refine X_iconst (v := nI 0) dX6_join_141 (by decide) ?_
    exact X_iret dX6_join_142 rfl ⟨by first | rfl | (rw [byO_11]; done) | (rw [byO_11]; first | (subst_vars; rw [if_neg (by decide)]; first | (rw [i_rm1]; done) | (rw [i_dm1]; done) | (rw [i_rm1]; rfl)) | (split <;> first | rfl | (exfalso; simp_all [Int32.not_lt, Int32.not_le]; done) | (exfalso; rename_i q2; exact absurd q2 (Int32.not_lt.mpr (by assumption))) | (simp_all [i_dm1, i_rm1]; done))), rfl, rfl, rfl⟩
  · refine X_iconst (v := nI 1) dX6_join_137 (by decide) ?_
    refine X_goto 142 dX6_join_138 (by decide) ?_
    exact X_iret dX6_join_142 rfl ⟨by first | rfl | (rw [byO_11]; done) | (rw [byO_11]; first | (subst_vars; rw [if_neg (by decide)]; first | (rw [i_rm1]; done) | (rw [i_dm1]; done) | (rw [i_rm1]; rfl)) | (split <;> first | rfl | (exfalso; simp_all [Int32.not_lt, Int32.not_le]; done) | (exfalso; rename_i q2; exact absurd q2 (Int32.not_lt.mpr (by assumption))) | (simp_all [i_dm1, i_rm1]; done))), rfl, rfl, rfl⟩

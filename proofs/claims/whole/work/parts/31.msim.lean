def oI (x : Option Nat) : Int32 := match x with
  | none => -1
  | some c => nI c
theorem nI_m1 {b : Nat} (h : b < 2147483648) : ¬ nI b = -1 := fun q => by
  have h1 : (nI b).toInt = (b : Int) := nI_toInt h
  rw [q] at h1
  have h2 : (-1 : Int32).toInt = -1 := by decide
  omega
theorem nI_m1' {b : Nat} (h : b < 2147483648) : ¬ -1 = nI b := fun q => nI_m1 h q.symm
/-- a row filled to n -/
def fillR (m : pMI) (a n : Nat) (v : Nat → Int32) : pMI := fun i j => if i = a ∧ j < n then v j else m i j
theorem fill_0 (m : pMI) (a : Nat) (v : Nat → Int32) : fillR m a 0 v = m := by funext i j; simp [fillR]
theorem fill_s (m : pMI) (a n : Nat) (v : Nat → Int32) : up2 (fillR m a n v) a n (v n) = fillR m a (n + 1) v := by
  funext i j
  unfold up2 fillR
  by_cases h1 : i = a
  · by_cases h2 : j = n
    · subst h2; simp [h1]
    · by_cases h3 : j < n
      · simp [h1, h2, h3, Nat.lt_succ_of_lt h3]
      · simp [h1, h2, h3, show ¬ j < n + 1 by omega]
  · simp [h1]
set_option maxRecDepth 100000 in
set_option maxHeartbeats 4000000 in
theorem c_ranks (Γ : pTG) (g : pGG) (mi : pMI) (ml : pML) (hSh : Sh g)  : cV Γ 1 mX12_ranksByNumber [.ref 87] g mi ml (fillR mi 197 8 nI) ml := by
  refine cV_of (by decide +kernel) (Nat.le_of_ble_eq_true rfl) ?_
  refine X_iconst (v := nI 0) dX12_ranksByNumber_0 (by decide) ?_
  refine X_istore_n dX12_ranksByNumber_1 (by decide) ?_
  refine X_L [(1, .int (nI 0)), (0, .ref 87)] ⟨rfl, rfl, trivial⟩ ?_
  refine X_for2 (σ := pMI) 2 (fun i x => [(1, .int (nI i)), (0, .ref 87)]) (fun x => x) (fun x => ml) (fun i x => up2 x 197 i (nI i)) (fun i x => x = fillR mi 197 i nI) 8 ?_ 8 0 mi (by omega) (fill_0 _ _ _).symm ?_
  · intro i x hi hI
    refine ⟨by rw [hI, fill_s], fun hn => ?_⟩
    refine X_iload_n dX12_ranksByNumber_2 rfl ?_
    refine X_bipush (v := nI 8) dX12_ranksByNumber_3 (by decide) ?_
    refine X_icmp_geN (a := i) (b := 8) 21 dX12_ranksByNumber_5 (by decide) (by omega) (by omega) (fun h_1 => ?_) (fun h_1 => ?_)
    · exact absurd hi (by omega)
    · refine X_aload_n dX12_ranksByNumber_8 rfl ?_
      refine X_getr (a := 197) dX12_ranksByNumber_9 fkX12_80 rfl (k_87 hSh) (r_87_37 hSh) ?_
      refine X_iload_n dX12_ranksByNumber_12 rfl ?_
      refine X_iload_n dX12_ranksByNumber_13 rfl ?_
      refine X_iast i dX12_ranksByNumber_14 (k_197 hSh) rfl (by omega) ?_
      refine X_iinc (v := nI (i + 1)) dX12_ranksByNumber_15 rfl (nI_1 _) (by decide) ?_
      refine X_goto 2 dX12_ranksByNumber_18 (by decide) ?_
      refine X_L [(1, .int (nI (i + 1))), (0, .ref 87)] ⟨rfl, rfl, trivial⟩ ?_
      exact hn
  · intro x hI
    refine X_iload_n dX12_ranksByNumber_2 rfl ?_
    refine X_bipush (v := nI 8) dX12_ranksByNumber_3 (by decide) ?_
    refine X_icmp_geN (a := 8) (b := 8) 21 dX12_ranksByNumber_5 (by decide) (by omega) (by omega) (fun h_2 => ?_) (fun h_2 => ?_)
    · exact X_vret dX12_ranksByNumber_21 rfl ⟨rfl, rfl, by rw [hI], rfl⟩
    · exact absurd h_2 (by omega)
/-- a guest leaves the chair that is his, if one is -/
def freesF (m : pMI) (gi : Nat) (c : Option Nat) : pMI := match c with
  | none => m
  | some b => up2 (up2 m 204 b (-1)) 195 gi (-1)
set_option maxRecDepth 100000 in
set_option maxHeartbeats 4000000 in
theorem c_frees (Γ : pTG) (g : pGG) (mi : pMI) (ml : pML) (hSh : Sh g) (gi : Nat) (hg : gi < 8) (c : Option Nat) (hs : mi 195 gi = oI c) (hc : ∀ b, c = some b → b < 8) : cV Γ 1 mX12_frees [.ref 87, .int (nI gi)] g mi ml (freesF mi gi c) ml := by
  refine cV_of (by decide +kernel) (Nat.le_of_ble_eq_true rfl) ?_
  cases c with
  | none =>
    refine X_aload_n dX12_frees_0 rfl ?_
    refine X_getr (a := 195) dX12_frees_1 fkX12_74 rfl (k_87 hSh) (r_87_35 hSh) ?_
    refine X_iload_n dX12_frees_4 rfl ?_
    refine X_iald gi dX12_frees_5 (k_195 hSh) rfl (by omega) ?_
    rw [show mi 195 gi = -1 from hs]
    refine X_iconst (v := -1) dX12_frees_6 (by decide) ?_
    refine X_icmp_ne 11 dX12_frees_7 (by decide) (fun h_1 => ?_) (fun h_1 => ?_)
    · exact absurd rfl h_1
    · exact X_vret dX12_frees_10 rfl ⟨rfl, rfl, by rfl, rfl⟩
  | some b =>
    have hb : b < 8 := hc b rfl
    refine X_aload_n dX12_frees_0 rfl ?_
    refine X_getr (a := 195) dX12_frees_1 fkX12_74 rfl (k_87 hSh) (r_87_35 hSh) ?_
    refine X_iload_n dX12_frees_4 rfl ?_
    refine X_iald gi dX12_frees_5 (k_195 hSh) rfl (by omega) ?_
    rw [show mi 195 gi = nI b from hs]
    refine X_iconst (v := -1) dX12_frees_6 (by decide) ?_
    refine X_icmp_ne 11 dX12_frees_7 (by decide) (fun h_2 => ?_) (fun h_2 => ?_)
    · refine X_aload_n dX12_frees_11 rfl ?_
      refine X_getr (a := 204) dX12_frees_12 fkX12_101 rfl (k_87 hSh) (r_87_44 hSh) ?_
      refine X_aload_n dX12_frees_15 rfl ?_
      refine X_getr (a := 195) dX12_frees_16 fkX12_74 rfl (k_87 hSh) (r_87_35 hSh) ?_
      refine X_iload_n dX12_frees_19 rfl ?_
      refine X_iald gi dX12_frees_20 (k_195 hSh) rfl (by omega) ?_
      rw [show mi 195 gi = nI b from hs]
      refine X_iconst (v := -1) dX12_frees_21 (by decide) ?_
      refine X_iast b dX12_frees_22 (k_204 hSh) rfl (by omega) ?_
      refine X_aload_n dX12_frees_23 rfl ?_
      refine X_getr (a := 195) dX12_frees_24 fkX12_74 rfl (k_87 hSh) (r_87_35 hSh) ?_
      refine X_iload_n dX12_frees_27 rfl ?_
      refine X_iconst (v := -1) dX12_frees_28 (by decide) ?_
      refine X_iast gi dX12_frees_29 (k_195 hSh) rfl (by omega) ?_
      exact X_vret dX12_frees_30 rfl ⟨rfl, rfl, by rfl, rfl⟩
    · exact absurd h_2 (nI_m1 (by omega))

/-- the text is B's first n, read as far as i -/
def TXT (mi : pMI) (B : Nat → Int32) (n i : Nat) : Prop := n ≤ 600 ∧ i ≤ n ∧ (∀ k, k < n → mi 1 k = B k) ∧ mi 2 1 = nI n ∧ mi 2 2 = nI i
theorem TXT_at {mi : pMI} {B : Nat → Int32} {n i j : Nat} (h : TXT mi B n i) (hj : j ≤ n) : TXT (up2 mi 2 2 (nI j)) B n j := ⟨h.1, hj, fun k hk => by rw [up2_row (by omega)]; exact h.2.2.1 k hk, (up2_n (by omega)).trans h.2.2.2.1, up2_s⟩
theorem TXT_row {mi x : pMI} {B : Nat → Int32} {n i : Nat} (h : TXT mi B n i) (h1 : x 1 = mi 1) (h2 : x 2 1 = mi 2 1) (h3 : x 2 2 = mi 2 2) : TXT x B n i := ⟨h.1, h.2.1, fun k hk => by rw [h1]; exact h.2.2.1 k hk, h2.trans h.2.2.2.1, h3.trans h.2.2.2.2⟩
def alB (j : Nat) (B : Nat → Int32) (p st sz : Nat) : Bool := !anB (fun i => !decide (B (p + i) = chS j (st + i))) sz
def tbX (j : Nat) : Nat → Nat × Nat
  | 0 => (0, 0)
  | i + 1 => if i = strLen.getD j 0 ∨ chS j i = nI 32 then ((tbX j i).1 + 1, i + 1) else tbX j i
theorem tbX_le (j : Nat) : ∀ i, (tbX j i).2 ≤ i ∧ (tbX j i).1 ≤ i
  | 0 => ⟨Nat.le_refl _, Nat.le_refl _⟩
  | i + 1 => by
    have ih := tbX_le j i
    unfold tbX
    split
    · exact ⟨Nat.le_refl _, by omega⟩
    · exact ⟨by omega, by omega⟩
def whP (j : Nat) (B : Nat → Int32) (p sz i : Nat) : Bool := (decide (i = strLen.getD j 0) || decide (chS j i = nI 32)) && (decide (sz = i - (tbX j i).2) && alB j B p (tbX j i).2 sz)
theorem whP_t {j : Nat} {B : Nat → Int32} {p sz i : Nat} (h : whP j B p sz i = true) : (i = strLen.getD j 0 ∨ chS j i = nI 32) ∧ sz = i - (tbX j i).2 ∧ alB j B p (tbX j i).2 sz = true := by
  unfold whP at h
  rw [Bool.and_eq_true, Bool.and_eq_true, Bool.or_eq_true, decide_eq_true_eq, decide_eq_true_eq, decide_eq_true_eq] at h
  exact h
theorem whP_f {j : Nat} {B : Nat → Int32} {p sz i : Nat} (h : whP j B p sz i = false) (h1 : i = strLen.getD j 0 ∨ chS j i = nI 32) (h2 : sz = i - (tbX j i).2) : alB j B p (tbX j i).2 sz = false := by
  cases hq : alB j B p (tbX j i).2 sz with
  | false => rfl
  | true =>
    have : whP j B p sz i = true := by
      unfold whP
      rw [Bool.and_eq_true, Bool.and_eq_true, Bool.or_eq_true, decide_eq_true_eq, decide_eq_true_eq, decide_eq_true_eq]
      exact ⟨h1, h2, hq⟩
    rw [this] at h; cases h
/-- which word of a list it is -/
def whN (j : Nat) (B : Nat → Int32) (n p : Nat) : Option Nat := (fE (whP j B p (wdT B n p - p)) (strLen.getD j 0 + 1)).map (fun i => (tbX j i).1)
set_option maxRecDepth 100000 in
set_option maxHeartbeats 4000000 in
theorem c_isAlike (Γ : pTG) (g : pGG) (mi : pMI) (ml : pML) (hSh : Sh g) (B : Nat → Int32) (n i0 : Nat) (hT : TXT mi B n i0) (j st sz : Nat) (hj : j < 4) (hsz : i0 + sz ≤ n) (hst : st + sz ≤ strLen.getD j 0) : cI Γ 5 mX10_isAlike [.ref 2, .ref (1000 + j), .int (nI st), .int (nI sz)] g mi ml (bI (alB j B i0 st sz)) mi := by
  refine cI_of (by decide +kernel) (Nat.le_of_ble_eq_true rfl) ?_
  have hn6 := hT.1
  have hs4 := (sLen_ok j hj).1
  refine X_iconst (v := nI 0) dX10_isAlike_0 (by decide) ?_
  refine X_istore dX10_isAlike_1 (by decide) ?_
  refine X_L [(4, .int (nI 0)), (0, .ref 2), (1, .ref (1000 + j)), (2, .int (nI st)), (3, .int (nI sz))] ⟨rfl, rfl, rfl, rfl, rfl, trivial⟩ ?_
  refine X_forE 3 (fun i => [(4, .int (nI i)), (0, .ref 2), (1, .ref (1000 + j)), (2, .int (nI st)), (3, .int (nI sz))]) (fun i => !decide (B (i0 + i) = chS j (st + i))) sz (fun i hi2 h0 => ⟨fun hp => ?_, fun hp hk => ?_⟩) (fun hz => ?_) sz 0 (by omega) (fun b hb => absurd hb (by omega))
  · skip
    refine X_iload dX10_isAlike_3 rfl ?_
    refine X_iload_n dX10_isAlike_5 rfl ?_
    refine X_icmp_geN (a := i) (b := sz) 40 dX10_isAlike_6 (by decide) (by omega) (by omega) (fun h_1 => ?_) (fun h_1 => ?_)
    · exact absurd h_1 (by omega)
    · refine X_aload_n dX10_isAlike_9 rfl ?_
      refine X_getr (a := 1) dX10_isAlike_10 fkX10_15 rfl (k_2 hSh) (r_2_0 hSh) ?_
      refine X_aload_n dX10_isAlike_13 rfl ?_
      refine X_geti dX10_isAlike_14 fkX10_22 rfl (k_2 hSh) ?_
      rw [hT.2.2.2.2]
      refine X_iload dX10_isAlike_17 rfl ?_
      refine X_iadd dX10_isAlike_19 ?_
      refine X_topi (nI_add i0 i) ?_
      refine X_iald (i0 + i) dX10_isAlike_20 (k_1 hSh) rfl (by omega) ?_
      rw [hT.2.2.1 (i0 + i) (by omega)]
      refine X_aload_n dX10_isAlike_21 rfl ?_
      refine X_iload_n dX10_isAlike_22 rfl ?_
      refine X_iload dX10_isAlike_23 rfl ?_
      refine X_iadd dX10_isAlike_25 ?_
      refine X_topi (nI_add st i) ?_
      refine X_callTI dX10_isAlike_26 mtX10_60 hj (c_scharAt Γ g mi ml j (st + i) hj (by omega)) rfl rfl (by decide) (Nat.le_of_ble_eq_true rfl) ?_
      refine X_icmp_eq 34 dX10_isAlike_29 (by decide) (fun h_2 => ?_) (fun h_2 => ?_)
      · exact absurd hp (by simp [h_2])
      · refine X_iconst (v := nI 0) dX10_isAlike_32 (by decide) ?_
        exact X_zret (ty := .boolean) dX10_isAlike_33 rfl (by first | decide | (rcases bI_01 _ with q | q <;> rw [q] <;> decide)) ⟨by unfold alB; rw [anB_t hp hi2]; rfl, rfl, rfl, rfl⟩
  · skip
    refine X_iload dX10_isAlike_3 rfl ?_
    refine X_iload_n dX10_isAlike_5 rfl ?_
    refine X_icmp_geN (a := i) (b := sz) 40 dX10_isAlike_6 (by decide) (by omega) (by omega) (fun h_3 => ?_) (fun h_3 => ?_)
    · exact absurd h_3 (by omega)
    · refine X_aload_n dX10_isAlike_9 rfl ?_
      refine X_getr (a := 1) dX10_isAlike_10 fkX10_15 rfl (k_2 hSh) (r_2_0 hSh) ?_
      refine X_aload_n dX10_isAlike_13 rfl ?_
      refine X_geti dX10_isAlike_14 fkX10_22 rfl (k_2 hSh) ?_
      rw [hT.2.2.2.2]
      refine X_iload dX10_isAlike_17 rfl ?_
      refine X_iadd dX10_isAlike_19 ?_
      refine X_topi (nI_add i0 i) ?_
      refine X_iald (i0 + i) dX10_isAlike_20 (k_1 hSh) rfl (by omega) ?_
      rw [hT.2.2.1 (i0 + i) (by omega)]
      refine X_aload_n dX10_isAlike_21 rfl ?_
      refine X_iload_n dX10_isAlike_22 rfl ?_
      refine X_iload dX10_isAlike_23 rfl ?_
      refine X_iadd dX10_isAlike_25 ?_
      refine X_topi (nI_add st i) ?_
      refine X_callTI dX10_isAlike_26 mtX10_60 hj (c_scharAt Γ g mi ml j (st + i) hj (by omega)) rfl rfl (by decide) (Nat.le_of_ble_eq_true rfl) ?_
      refine X_icmp_eq 34 dX10_isAlike_29 (by decide) (fun h_4 => ?_) (fun h_4 => ?_)
      · refine X_iinc (v := nI (i + 1)) dX10_isAlike_34 rfl (nI_1 _) (by decide) ?_
        refine X_goto 3 dX10_isAlike_37 (by decide) ?_
        refine X_L [(4, .int (nI (i + 1))), (0, .ref 2), (1, .ref (1000 + j)), (2, .int (nI st)), (3, .int (nI sz))] ⟨rfl, rfl, rfl, rfl, rfl, trivial⟩ ?_
        exact hk
      · exact absurd hp (by simp [h_4])
  · skip
    refine X_iload dX10_isAlike_3 rfl ?_
    refine X_iload_n dX10_isAlike_5 rfl ?_
    refine X_icmp_geN (a := sz) (b := sz) 40 dX10_isAlike_6 (by decide) (by omega) (by omega) (fun h_5 => ?_) (fun h_5 => ?_)
    · refine X_iconst (v := nI 1) dX10_isAlike_40 (by decide) ?_
      exact X_zret (ty := .boolean) dX10_isAlike_41 rfl (by first | decide | (rcases bI_01 _ with q | q <;> rw [q] <;> decide)) ⟨by unfold alB; rw [anB_f.mpr hz]; rfl, rfl, rfl, rfl⟩
    · exact absurd h_5 (by omega)
set_option maxRecDepth 100000 in
set_option maxHeartbeats 4000000 in
theorem c_which (Γ : pTG) (g : pGG) (mi : pMI) (ml : pML) (hSh : Sh g) (B : Nat → Int32) (n i0 : Nat) (hT : TXT mi B n i0) (j : Nat) (hj : j < 4) : cI Γ 6 mX10_which [.ref 2, .ref (1000 + j)] g mi ml (oI (whN j B n i0)) mi := by
  refine cI_of (by decide +kernel) (Nat.le_of_ble_eq_true rfl) ?_
  have hn6 := hT.1
  have hin := hT.2.1
  have hs4 := (sLen_ok j hj).1
  have hw1 : i0 ≤ wdT B n i0 := scF_ge _ _ _
  have hw2 : wdT B n i0 ≤ n := scF_le (fun i h => smP_n h) _ _ hT.2.1
  refine X_aload_n dX10_which_0 rfl ?_
  refine X_callVI dX10_which_1 mkX10_53 (k_2 hSh) (c_wordEnd Γ g mi ml hSh B n i0 hT.1 hT.2.1 hT.2.2.1 hT.2.2.2.1 hT.2.2.2.2) rfl rfl (by decide) (Nat.le_of_ble_eq_true rfl) ?_
  refine X_aload_n dX10_which_4 rfl ?_
  refine X_geti dX10_which_5 fkX10_22 rfl (k_2 hSh) ?_
  rw [hT.2.2.2.2]
  refine X_isub dX10_which_8 ?_
  refine X_topi (pk_sub (a := wdT B n i0) (b := i0) (by omega)) ?_
  refine X_istore_n dX10_which_9 (by decide) ?_
  refine X_iconst (v := nI 0) dX10_which_10 (by decide) ?_
  refine X_istore_n dX10_which_11 (by decide) ?_
  refine X_iconst (v := nI 0) dX10_which_12 (by decide) ?_
  refine X_istore dX10_which_13 (by decide) ?_
  refine X_iconst (v := nI 0) dX10_which_15 (by decide) ?_
  refine X_istore dX10_which_16 (by decide) ?_
  refine X_L [(5, .int (nI 0)), (4, .int (nI 0)), (3, .int (nI 0)), (2, .int (nI ((wdT B n i0) - i0))), (0, .ref 2), (1, .ref (1000 + j))] ⟨rfl, rfl, rfl, rfl, rfl, rfl, trivial⟩ ?_
  refine X_forE 18 (fun i => [(5, .int (nI i)), (4, .int (nI (tbX j i).2)), (3, .int (nI (tbX j i).1)), (2, .int (nI (wdT B n i0 - i0))), (0, .ref 2), (1, .ref (1000 + j))]) (whP j B i0 (wdT B n i0 - i0)) (strLen.getD j 0 + 1) (fun i hi2 h0 => ⟨fun hp => ?_, fun hp hk => ?_⟩) (fun hz => ?_) (strLen.getD j 0 + 1) 0 (by omega) (fun b hb => absurd hb (by omega))
  · obtain ⟨hp1, hp2, hp3⟩ := whP_t hp
    have htb := tbX_le j i
    refine X_iload dX10_which_18 rfl ?_
    refine X_aload_n dX10_which_20 rfl ?_
    refine X_callTI dX10_which_21 mtX10_56 hj (c_slength Γ g mi ml j hj) rfl rfl (by decide) (Nat.le_of_ble_eq_true rfl) ?_
    refine X_icmp_gtN (a := i) (b := strLen.getD j 0) 84 dX10_which_24 (by decide) (by omega) (by omega) (fun h_1 => ?_) (fun h_1 => ?_)
    · exact absurd h_1 (by omega)
    · refine X_iload dX10_which_27 rfl ?_
      refine X_aload_n dX10_which_29 rfl ?_
      refine X_callTI dX10_which_30 mtX10_56 hj (c_slength Γ g mi ml j hj) rfl rfl (by decide) (Nat.le_of_ble_eq_true rfl) ?_
      refine X_icmp_eqN (a := i) (b := strLen.getD j 0) 47 dX10_which_33 (by decide) (by omega) (by omega) (fun h_2 => ?_) (fun h_2 => ?_)
      · refine X_iload_n dX10_which_47 rfl ?_
        refine X_iload dX10_which_48 rfl ?_
        refine X_iload dX10_which_50 rfl ?_
        refine X_isub dX10_which_52 ?_
        refine X_topi (pk_sub (a := i) (b := (tbX j i).2) (by omega)) ?_
        refine X_icmp_neN (a := wdT B n i0 - i0) (b := i - ((tbX j i).2)) 69 dX10_which_53 (by decide) (by omega) (by omega) (fun h_3 => ?_) (fun h_3 => ?_)
        · exact absurd hp2 h_3
        · refine X_aload_n dX10_which_56 rfl ?_
          refine X_aload_n dX10_which_57 rfl ?_
          refine X_iload dX10_which_58 rfl ?_
          refine X_iload_n dX10_which_60 rfl ?_
          refine X_callVI dX10_which_61 mkX10_64 (k_2 hSh) (c_isAlike Γ g mi ml hSh B n i0 hT j ((tbX j i).2) (wdT B n i0 - i0) hj (by omega) (by omega)) rfl rfl (by decide) (Nat.le_of_ble_eq_true rfl) ?_
          refine X_if_eq 69 dX10_which_64 (by decide) (fun h_4 => ?_) (fun h_4 => ?_)
          · exact absurd h_4 (by rw [bI_0, hp3]; decide)
          · refine X_iload_n dX10_which_67 rfl ?_
            exact X_iret dX10_which_68 rfl ⟨by unfold whN; rw [fE_s h0 hp hi2]; rfl, rfl, rfl, rfl⟩
      · refine X_aload_n dX10_which_36 rfl ?_
        refine X_iload dX10_which_37 rfl ?_
        refine X_callTI dX10_which_39 mtX10_60 hj (c_scharAt Γ g mi ml j i hj (by omega)) rfl rfl (by decide) (Nat.le_of_ble_eq_true rfl) ?_
        refine X_bipush (v := nI 32) dX10_which_42 (by decide) ?_
        refine X_icmp_ne 78 dX10_which_44 (by decide) (fun h_5 => ?_) (fun h_5 => ?_)
        · exact absurd hp1 (fun q => q.elim (fun q => absurd q (by assumption)) (fun q => absurd q (by assumption)))
        · refine X_iload_n dX10_which_47 rfl ?_
          refine X_iload dX10_which_48 rfl ?_
          refine X_iload dX10_which_50 rfl ?_
          refine X_isub dX10_which_52 ?_
          refine X_topi (pk_sub (a := i) (b := (tbX j i).2) (by omega)) ?_
          refine X_icmp_neN (a := wdT B n i0 - i0) (b := i - ((tbX j i).2)) 69 dX10_which_53 (by decide) (by omega) (by omega) (fun h_6 => ?_) (fun h_6 => ?_)
          · exact absurd hp2 h_6
          · refine X_aload_n dX10_which_56 rfl ?_
            refine X_aload_n dX10_which_57 rfl ?_
            refine X_iload dX10_which_58 rfl ?_
            refine X_iload_n dX10_which_60 rfl ?_
            refine X_callVI dX10_which_61 mkX10_64 (k_2 hSh) (c_isAlike Γ g mi ml hSh B n i0 hT j ((tbX j i).2) (wdT B n i0 - i0) hj (by omega) (by omega)) rfl rfl (by decide) (Nat.le_of_ble_eq_true rfl) ?_
            refine X_if_eq 69 dX10_which_64 (by decide) (fun h_7 => ?_) (fun h_7 => ?_)
            · exact absurd h_7 (by rw [bI_0, hp3]; decide)
            · refine X_iload_n dX10_which_67 rfl ?_
              exact X_iret dX10_which_68 rfl ⟨by unfold whN; rw [fE_s h0 hp hi2]; rfl, rfl, rfl, rfl⟩
  · have htb := tbX_le j i
    refine X_iload dX10_which_18 rfl ?_
    refine X_aload_n dX10_which_20 rfl ?_
    refine X_callTI dX10_which_21 mtX10_56 hj (c_slength Γ g mi ml j hj) rfl rfl (by decide) (Nat.le_of_ble_eq_true rfl) ?_
    refine X_icmp_gtN (a := i) (b := strLen.getD j 0) 84 dX10_which_24 (by decide) (by omega) (by omega) (fun h_8 => ?_) (fun h_8 => ?_)
    · exact absurd h_8 (by omega)
    · refine X_iload dX10_which_27 rfl ?_
      refine X_aload_n dX10_which_29 rfl ?_
      refine X_callTI dX10_which_30 mtX10_56 hj (c_slength Γ g mi ml j hj) rfl rfl (by decide) (Nat.le_of_ble_eq_true rfl) ?_
      refine X_icmp_eqN (a := i) (b := strLen.getD j 0) 47 dX10_which_33 (by decide) (by omega) (by omega) (fun h_9 => ?_) (fun h_9 => ?_)
      · refine X_iload_n dX10_which_47 rfl ?_
        refine X_iload dX10_which_48 rfl ?_
        refine X_iload dX10_which_50 rfl ?_
        refine X_isub dX10_which_52 ?_
        refine X_topi (pk_sub (a := i) (b := (tbX j i).2) (by omega)) ?_
        refine X_icmp_neN (a := wdT B n i0 - i0) (b := i - ((tbX j i).2)) 69 dX10_which_53 (by decide) (by omega) (by omega) (fun h_10 => ?_) (fun h_10 => ?_)
        · refine X_iinc (v := nI ((tbX j i).1 + 1)) dX10_which_69 rfl (nI_1 _) (by decide) ?_
          refine X_iload dX10_which_72 rfl ?_
          refine X_iconst (v := nI 1) dX10_which_74 (by decide) ?_
          refine X_iadd dX10_which_75 ?_
          refine X_topi (nI_add i 1) ?_
          refine X_istore dX10_which_76 (by decide) ?_
          refine X_iinc (v := nI (i + 1)) dX10_which_78 rfl (nI_1 _) (by decide) ?_
          refine X_goto 18 dX10_which_81 (by decide) ?_
          refine X_L [(5, .int (nI (i + 1))), (4, .int (nI (i + 1))), (3, .int (nI ((tbX j i).1 + 1))), (2, .int (nI (wdT B n i0 - i0))), (0, .ref 2), (1, .ref (1000 + j))] ⟨rfl, rfl, rfl, rfl, rfl, rfl, trivial⟩ ?_
          rw [show tbX j (i + 1) = ((tbX j i).1 + 1, i + 1) from if_pos (by first | exact Or.inl (by assumption) | exact Or.inr (by assumption))] at hk
          exact hk
        · refine X_aload_n dX10_which_56 rfl ?_
          refine X_aload_n dX10_which_57 rfl ?_
          refine X_iload dX10_which_58 rfl ?_
          refine X_iload_n dX10_which_60 rfl ?_
          refine X_callVI dX10_which_61 mkX10_64 (k_2 hSh) (c_isAlike Γ g mi ml hSh B n i0 hT j ((tbX j i).2) (wdT B n i0 - i0) hj (by omega) (by omega)) rfl rfl (by decide) (Nat.le_of_ble_eq_true rfl) ?_
          refine X_if_eq 69 dX10_which_64 (by decide) (fun h_11 => ?_) (fun h_11 => ?_)
          · refine X_iinc (v := nI ((tbX j i).1 + 1)) dX10_which_69 rfl (nI_1 _) (by decide) ?_
            refine X_iload dX10_which_72 rfl ?_
            refine X_iconst (v := nI 1) dX10_which_74 (by decide) ?_
            refine X_iadd dX10_which_75 ?_
            refine X_topi (nI_add i 1) ?_
            refine X_istore dX10_which_76 (by decide) ?_
            refine X_iinc (v := nI (i + 1)) dX10_which_78 rfl (nI_1 _) (by decide) ?_
            refine X_goto 18 dX10_which_81 (by decide) ?_
            refine X_L [(5, .int (nI (i + 1))), (4, .int (nI (i + 1))), (3, .int (nI ((tbX j i).1 + 1))), (2, .int (nI (wdT B n i0 - i0))), (0, .ref 2), (1, .ref (1000 + j))] ⟨rfl, rfl, rfl, rfl, rfl, rfl, trivial⟩ ?_
            rw [show tbX j (i + 1) = ((tbX j i).1 + 1, i + 1) from if_pos (by first | exact Or.inl (by assumption) | exact Or.inr (by assumption))] at hk
            exact hk
          · exact absurd (whP_f hp (by first | exact Or.inl (by assumption) | exact Or.inr (by assumption)) (by assumption)) (by intro q; rw [q] at h_11; exact absurd rfl h_11)
      · refine X_aload_n dX10_which_36 rfl ?_
        refine X_iload dX10_which_37 rfl ?_
        refine X_callTI dX10_which_39 mtX10_60 hj (c_scharAt Γ g mi ml j i hj (by omega)) rfl rfl (by decide) (Nat.le_of_ble_eq_true rfl) ?_
        refine X_bipush (v := nI 32) dX10_which_42 (by decide) ?_
        refine X_icmp_ne 78 dX10_which_44 (by decide) (fun h_12 => ?_) (fun h_12 => ?_)
        · refine X_iinc (v := nI (i + 1)) dX10_which_78 rfl (nI_1 _) (by decide) ?_
          refine X_goto 18 dX10_which_81 (by decide) ?_
          refine X_L [(5, .int (nI (i + 1))), (4, .int (nI ((tbX j i).2))), (3, .int (nI ((tbX j i).1))), (2, .int (nI (wdT B n i0 - i0))), (0, .ref 2), (1, .ref (1000 + j))] ⟨rfl, rfl, rfl, rfl, rfl, rfl, trivial⟩ ?_
          rw [show tbX j (i + 1) = tbX j i from if_neg (fun q => q.elim (fun q => absurd q (by assumption)) (fun q => absurd q (by assumption)))] at hk
          exact hk
        · refine X_iload_n dX10_which_47 rfl ?_
          refine X_iload dX10_which_48 rfl ?_
          refine X_iload dX10_which_50 rfl ?_
          refine X_isub dX10_which_52 ?_
          refine X_topi (pk_sub (a := i) (b := (tbX j i).2) (by omega)) ?_
          refine X_icmp_neN (a := wdT B n i0 - i0) (b := i - ((tbX j i).2)) 69 dX10_which_53 (by decide) (by omega) (by omega) (fun h_13 => ?_) (fun h_13 => ?_)
          · refine X_iinc (v := nI ((tbX j i).1 + 1)) dX10_which_69 rfl (nI_1 _) (by decide) ?_
            refine X_iload dX10_which_72 rfl ?_
            refine X_iconst (v := nI 1) dX10_which_74 (by decide) ?_
            refine X_iadd dX10_which_75 ?_
            refine X_topi (nI_add i 1) ?_
            refine X_istore dX10_which_76 (by decide) ?_
            refine X_iinc (v := nI (i + 1)) dX10_which_78 rfl (nI_1 _) (by decide) ?_
            refine X_goto 18 dX10_which_81 (by decide) ?_
            refine X_L [(5, .int (nI (i + 1))), (4, .int (nI (i + 1))), (3, .int (nI ((tbX j i).1 + 1))), (2, .int (nI (wdT B n i0 - i0))), (0, .ref 2), (1, .ref (1000 + j))] ⟨rfl, rfl, rfl, rfl, rfl, rfl, trivial⟩ ?_
            rw [show tbX j (i + 1) = ((tbX j i).1 + 1, i + 1) from if_pos (by first | exact Or.inl (by assumption) | exact Or.inr (by assumption))] at hk
            exact hk
          · refine X_aload_n dX10_which_56 rfl ?_
            refine X_aload_n dX10_which_57 rfl ?_
            refine X_iload dX10_which_58 rfl ?_
            refine X_iload_n dX10_which_60 rfl ?_
            refine X_callVI dX10_which_61 mkX10_64 (k_2 hSh) (c_isAlike Γ g mi ml hSh B n i0 hT j ((tbX j i).2) (wdT B n i0 - i0) hj (by omega) (by omega)) rfl rfl (by decide) (Nat.le_of_ble_eq_true rfl) ?_
            refine X_if_eq 69 dX10_which_64 (by decide) (fun h_14 => ?_) (fun h_14 => ?_)
            · refine X_iinc (v := nI ((tbX j i).1 + 1)) dX10_which_69 rfl (nI_1 _) (by decide) ?_
              refine X_iload dX10_which_72 rfl ?_
              refine X_iconst (v := nI 1) dX10_which_74 (by decide) ?_
              refine X_iadd dX10_which_75 ?_
              refine X_topi (nI_add i 1) ?_
              refine X_istore dX10_which_76 (by decide) ?_
              refine X_iinc (v := nI (i + 1)) dX10_which_78 rfl (nI_1 _) (by decide) ?_
              refine X_goto 18 dX10_which_81 (by decide) ?_
              refine X_L [(5, .int (nI (i + 1))), (4, .int (nI (i + 1))), (3, .int (nI ((tbX j i).1 + 1))), (2, .int (nI (wdT B n i0 - i0))), (0, .ref 2), (1, .ref (1000 + j))] ⟨rfl, rfl, rfl, rfl, rfl, rfl, trivial⟩ ?_
              rw [show tbX j (i + 1) = ((tbX j i).1 + 1, i + 1) from if_pos (by first | exact Or.inl (by assumption) | exact Or.inr (by assumption))] at hk
              exact hk
            · exact absurd (whP_f hp (by first | exact Or.inl (by assumption) | exact Or.inr (by assumption)) (by assumption)) (by intro q; rw [q] at h_14; exact absurd rfl h_14)
  · skip
    have htb := tbX_le j (strLen.getD j 0 + 1)
    refine X_iload dX10_which_18 rfl ?_
    refine X_aload_n dX10_which_20 rfl ?_
    refine X_callTI dX10_which_21 mtX10_56 hj (c_slength Γ g mi ml j hj) rfl rfl (by decide) (Nat.le_of_ble_eq_true rfl) ?_
    refine X_icmp_gtN (a := strLen.getD j 0 + 1) (b := strLen.getD j 0) 84 dX10_which_24 (by decide) (by omega) (by omega) (fun h_15 => ?_) (fun h_15 => ?_)
    · refine X_iconst (v := -1) dX10_which_84 (by decide) ?_
      exact X_iret dX10_which_85 rfl ⟨by unfold whN; rw [fE_n.mpr hz]; rfl, rfl, rfl, rfl⟩
    · exact absurd h_15 (by omega)
set_option maxRecDepth 100000 in
set_option maxHeartbeats 4000000 in
theorem c_takeSign1 (Γ : pTG) (g : pGG) (mi : pMI) (ml : pML) (hSh : Sh g) (B : Nat → Int32) (n i0 : Nat) (hT : TXT mi B n i0) (c : Int32) (hc : byT B n (skT B n i0) = c) : cI Γ 2 mX10_takeSign [.ref 2, .int c] g mi ml (nI 1) (up2 mi 2 2 (nI (skT B n i0 + 1))) := by
  refine cI_of (by decide +kernel) (Nat.le_of_ble_eq_true rfl) ?_
  have hn6 := hT.1
  refine X_aload_n dX10_takeSign_0 rfl ?_
  refine X_callVI dX10_takeSign_1 mkX10_28 (k_2 hSh) (c_peek Γ g mi ml hSh B n i0 hT.1 hT.2.1 hT.2.2.1 hT.2.2.2.1 hT.2.2.2.2) rfl rfl (by decide) (Nat.le_of_ble_eq_true rfl) ?_
  refine X_iload_n dX10_takeSign_4 rfl ?_
  refine X_icmp_eq 18 dX10_takeSign_5 (by decide) (fun h_1 => ?_) (fun h_1 => ?_)
  · refine X_aload_n dX10_takeSign_18 rfl ?_
    refine X_dup dX10_takeSign_19 rfl ?_
    refine X_geti dX10_takeSign_20 fkX10_22 rfl (k_2 hSh) ?_
    refine X_topi (show (up2 mi 2 2 (nI (skT B n i0))) 2 2 = nI (skT B n i0) by rw [up2_s]) ?_
    refine X_iconst (v := nI 1) dX10_takeSign_23 (by decide) ?_
    refine X_iadd dX10_takeSign_24 ?_
    refine X_topi (nI_add (skT B n i0) 1) ?_
    refine X_puti dX10_takeSign_25 fkX10_22 rfl rfl (k_2 hSh) ?_
    refine X_iconst (v := nI 1) dX10_takeSign_28 (by decide) ?_
    exact X_zret (ty := .boolean) dX10_takeSign_29 rfl (by first | decide | (rcases bI_01 _ with q | q <;> rw [q] <;> decide)) ⟨rfl, rfl, up2_up2, rfl⟩
  · exact absurd hc h_1
set_option maxRecDepth 100000 in
set_option maxHeartbeats 4000000 in
theorem c_takeSign0 (Γ : pTG) (g : pGG) (mi : pMI) (ml : pML) (hSh : Sh g) (B : Nat → Int32) (n i0 : Nat) (hT : TXT mi B n i0) (c : Int32) (hc : ¬ byT B n (skT B n i0) = c) : cI Γ 2 mX10_takeSign [.ref 2, .int c] g mi ml (nI 0) (up2 (up2 (up2 mi 2 2 (nI (skT B n i0))) 2 3 (nI 1)) 2 4 (nI (skT B n i0))) := by
  refine cI_of (by decide +kernel) (Nat.le_of_ble_eq_true rfl) ?_
  have hn6 := hT.1
  refine X_aload_n dX10_takeSign_0 rfl ?_
  refine X_callVI dX10_takeSign_1 mkX10_28 (k_2 hSh) (c_peek Γ g mi ml hSh B n i0 hT.1 hT.2.1 hT.2.2.1 hT.2.2.2.1 hT.2.2.2.2) rfl rfl (by decide) (Nat.le_of_ble_eq_true rfl) ?_
  refine X_iload_n dX10_takeSign_4 rfl ?_
  refine X_icmp_eq 18 dX10_takeSign_5 (by decide) (fun h_1 => ?_) (fun h_1 => ?_)
  · exact absurd h_1 hc
  · refine X_aload_n dX10_takeSign_8 rfl ?_
    refine X_iconst (v := nI 1) dX10_takeSign_9 (by decide) ?_
    refine X_aload_n dX10_takeSign_10 rfl ?_
    refine X_geti dX10_takeSign_11 fkX10_22 rfl (k_2 hSh) ?_
    refine X_topi (show (up2 mi 2 2 (nI (skT B n i0))) 2 2 = nI (skT B n i0) by rw [up2_s]) ?_
    refine X_callVI dX10_takeSign_14 mkX10_32 (k_2 hSh) (c_fail Γ g (up2 mi 2 2 (nI (skT B n i0))) ml hSh (nI 1) (nI (skT B n i0))) rfl rfl (by decide) (Nat.le_of_ble_eq_true rfl) ?_
    exact X_zret (ty := .boolean) dX10_takeSign_17 rfl (by first | decide | (rcases bI_01 _ with q | q <;> rw [q] <;> decide)) ⟨by rfl, rfl, rfl, rfl⟩
set_option maxRecDepth 100000 in
set_option maxHeartbeats 4000000 in
theorem c_takeWord1 (Γ : pTG) (g : pGG) (mi : pMI) (ml : pML) (hSh : Sh g) (B : Nat → Int32) (n i0 : Nat) (hT : TXT mi B n i0) (j : Nat) (hj : j < 4) (k : Nat) (hk : k < 100) (hc : whN j B n (skT B n i0) = some k) : cI Γ 7 mX10_takeWord [.ref 2, .ref (1000 + j)] g mi ml (nI 1) (up2 mi 2 2 (nI (wdT B n (skT B n i0)))) := by
  refine cI_of (by decide +kernel) (Nat.le_of_ble_eq_true rfl) ?_
  have hn6 := hT.1
  have hk2 : skT B n i0 ≤ n := scF_le (fun i h => bkP_n h) _ _ hT.2.1
  have hT2 := TXT_at hT hk2
  refine X_aload_n dX10_takeWord_0 rfl ?_
  refine X_callVI dX10_takeWord_1 mkX10_28 (k_2 hSh) (c_peek Γ g mi ml hSh B n i0 hT.1 hT.2.1 hT.2.2.1 hT.2.2.2.1 hT.2.2.2.2) rfl rfl (by decide) (Nat.le_of_ble_eq_true rfl) ?_
  refine X_pop dX10_takeWord_4 rfl ?_
  refine X_aload_n dX10_takeWord_5 rfl ?_
  refine X_aload_n dX10_takeWord_6 rfl ?_
  refine X_callVI dX10_takeWord_7 mkX10_36 (k_2 hSh) (c_which Γ g (up2 mi 2 2 (nI (skT B n i0))) ml hSh B n (skT B n i0) hT2 j hj) rfl rfl (by decide) (Nat.le_of_ble_eq_true rfl) ?_
  refine X_iconst (v := -1) dX10_takeWord_10 (by decide) ?_
  refine X_icmp_ne 24 dX10_takeWord_11 (by decide) (fun h_1 => ?_) (fun h_1 => ?_)
  · refine X_aload_n dX10_takeWord_24 rfl ?_
    refine X_callVV dX10_takeWord_25 mkX10_40 (k_2 hSh) (c_passWord Γ g (up2 mi 2 2 (nI (skT B n i0))) ml hSh B n (skT B n i0) hT2.1 hT2.2.1 hT2.2.2.1 hT2.2.2.2.1 hT2.2.2.2.2) rfl rfl (by decide) (Nat.le_of_ble_eq_true rfl) ?_
    refine X_iconst (v := nI 1) dX10_takeWord_28 (by decide) ?_
    exact X_zret (ty := .boolean) dX10_takeWord_29 rfl (by first | decide | (rcases bI_01 _ with q | q <;> rw [q] <;> decide)) ⟨rfl, rfl, by first | rfl | exact up2_up2, rfl⟩
  · exact absurd h_1 (by rw [hc]; exact nI_m1 (by omega))
set_option maxRecDepth 100000 in
set_option maxHeartbeats 4000000 in
theorem c_takeWord0 (Γ : pTG) (g : pGG) (mi : pMI) (ml : pML) (hSh : Sh g) (B : Nat → Int32) (n i0 : Nat) (hT : TXT mi B n i0) (j : Nat) (hj : j < 4) (hc : whN j B n (skT B n i0) = none) : cI Γ 7 mX10_takeWord [.ref 2, .ref (1000 + j)] g mi ml (nI 0) (up2 (up2 (up2 mi 2 2 (nI (skT B n i0))) 2 3 (nI 1)) 2 4 (nI (skT B n i0))) := by
  refine cI_of (by decide +kernel) (Nat.le_of_ble_eq_true rfl) ?_
  have hn6 := hT.1
  have hk2 : skT B n i0 ≤ n := scF_le (fun i h => bkP_n h) _ _ hT.2.1
  have hT2 := TXT_at hT hk2
  refine X_aload_n dX10_takeWord_0 rfl ?_
  refine X_callVI dX10_takeWord_1 mkX10_28 (k_2 hSh) (c_peek Γ g mi ml hSh B n i0 hT.1 hT.2.1 hT.2.2.1 hT.2.2.2.1 hT.2.2.2.2) rfl rfl (by decide) (Nat.le_of_ble_eq_true rfl) ?_
  refine X_pop dX10_takeWord_4 rfl ?_
  refine X_aload_n dX10_takeWord_5 rfl ?_
  refine X_aload_n dX10_takeWord_6 rfl ?_
  refine X_callVI dX10_takeWord_7 mkX10_36 (k_2 hSh) (c_which Γ g (up2 mi 2 2 (nI (skT B n i0))) ml hSh B n (skT B n i0) hT2 j hj) rfl rfl (by decide) (Nat.le_of_ble_eq_true rfl) ?_
  refine X_iconst (v := -1) dX10_takeWord_10 (by decide) ?_
  refine X_icmp_ne 24 dX10_takeWord_11 (by decide) (fun h_1 => ?_) (fun h_1 => ?_)
  · exact absurd (by rw [hc]; rfl) h_1
  · refine X_aload_n dX10_takeWord_14 rfl ?_
    refine X_iconst (v := nI 1) dX10_takeWord_15 (by decide) ?_
    refine X_aload_n dX10_takeWord_16 rfl ?_
    refine X_geti dX10_takeWord_17 fkX10_22 rfl (k_2 hSh) ?_
    refine X_topi (show (up2 mi 2 2 (nI (skT B n i0))) 2 2 = nI (skT B n i0) by rw [up2_s]) ?_
    refine X_callVI dX10_takeWord_20 mkX10_32 (k_2 hSh) (c_fail Γ g (up2 mi 2 2 (nI (skT B n i0))) ml hSh (nI 1) (nI (skT B n i0))) rfl rfl (by decide) (Nat.le_of_ble_eq_true rfl) ?_
    exact X_zret (ty := .boolean) dX10_takeWord_23 rfl (by first | decide | (rcases bI_01 _ with q | q <;> rw [q] <;> decide)) ⟨rfl, rfl, by first | rfl | exact up2_up2, rfl⟩
def dgN (x : Int32) : Nat := x.toBitVec.toNat - 48
theorem dgN_of {x : Int32} (h1 : nI 48 ≤ x) (h2 : x ≤ nI 57) : dgN x ≤ 9 ∧ x = nI (48 + dgN x) := by
  obtain ⟨j, hj, rfl⟩ := nI_of (x := x) (fun h => absurd (Int32.lt_of_le_of_lt h1 h) (by decide))
  have a1 := (nI_leI (by omega) hj).mp h1
  have a2 := (nI_leI hj (by omega)).mp h2
  have e : (nI j).toBitVec.toNat = j := by
    show (Int32.ofNat j).toBitVec.toNat = j
    rw [Int32.toBitVec_ofNat']
    rw [BitVec.toNat_ofNat, Nat.mod_eq_of_lt (by omega)]
  unfold dgN
  rw [e]
  refine ⟨by omega, ?_⟩
  rw [show 48 + (j - 48) = j by omega]
def dvN (B : Nat → Int32) (s : Nat) : Nat → Nat
  | 0 => 0
  | k + 1 => dvN B s k * 10 + dgN (B (s + k))
def dgT (B : Nat → Int32) (n i : Nat) : Nat := scF (dgP B n) (n - i) i
theorem dvN_s {B : Nat → Int32} {s i : Nat} (h : s ≤ i) : dvN B s (i + 1 - s) = dvN B s (i - s) * 10 + dgN (B i) := by
  rw [show i + 1 - s = (i - s) + 1 by omega]
  show dvN B s (i - s) * 10 + dgN (B (s + (i - s))) = _
  rw [show s + (i - s) = i by omega]
/-- a number from lo on, below hx: an error's kind and place, or its value and the place behind it -/
def numR (B : Nat → Int32) (n i lo hx : Nat) : Except (Nat × Nat) (Nat × Nat) :=
  if dgP B n (skT B n i) = true then
    (if lo ≤ dvN B (skT B n i) (dgT B n (skT B n i) - skT B n i) ∧ dvN B (skT B n i) (dgT B n (skT B n i) - skT B n i) < hx then .ok (dvN B (skT B n i) (dgT B n (skT B n i) - skT B n i), dgT B n (skT B n i)) else .error (2, skT B n i))
  else .error (1, skT B n i)
theorem dgP_t {B : Nat → Int32} {n i : Nat} (h : dgP B n i = true) : i < n ∧ nI 48 ≤ B i ∧ B i ≤ nI 57 := by unfold dgP at h; simp at h; exact h
theorem byT_dg {B : Nat → Int32} {n i : Nat} : (decide (nI 48 ≤ byT B n i) && decide (byT B n i ≤ nI 57)) = dgP B n i := by
  unfold byT dgP
  by_cases h : i < n
  · rw [if_pos h, decide_eq_true h, Bool.true_and]
  · rw [if_neg h, decide_eq_false h, Bool.false_and]; decide
theorem X_scanL {Γ : pTG} {d k n : Nat} {M : pMD} {S : List Value} {g : pGG} {ml : pML} {Q : pQ} (head : Nat) (Lf : Nat → List (Nat × Value)) (mf : Nat → pMI) (p : Nat → Bool) (N e s : Nat) (hp : ∀ i, p i = true → i < N)
    (hb : ∀ i, s ≤ i → p i = true → XW Γ d k n M head (Lf (i + 1)) S g (mf (i + 1)) ml Q → XW Γ d k n M head (Lf i) S g (mf i) ml Q)
    (hx : p e = false → XW Γ d k n M head (Lf e) S g (mf e) ml Q) : ∀ f i, s ≤ i → N ≤ i + f → e = scF p f i → XW Γ d k n M head (Lf i) S g (mf i) ml Q
  | 0, i, hs, h, he => by
    have he2 : e = i := he
    subst he2
    refine hx ?_
    cases hz : p e with
    | false => rfl
    | true => have := hp e hz; omega
  | f + 1, i, hs, h, he => by
    unfold scF at he
    cases hz : p i with
    | true => rw [if_pos hz] at he; exact hb i hs hz (X_scanL head Lf mf p N e s hp hb hx f (i + 1) (by omega) (by omega) he)
    | false =>
      rw [if_neg (by rw [hz]; decide)] at he
      subst he
      exact hx hz
set_option maxRecDepth 100000 in
set_option maxHeartbeats 4000000 in
theorem c_num1 (Γ : pTG) (g : pGG) (mi : pMI) (ml : pML) (hSh : Sh g) (B : Nat → Int32) (n i0 : Nat) (hT : TXT mi B n i0) (lo hx : Nat) (hi : Int32) (hlo : lo ≤ 1000) (hx1 : hx ≤ 1000) (hH : ∀ v, v ≤ 100000 → (nI v ≤ hi ↔ v < hx)) (hd : dgP B n (skT B n i0) = false) : cI Γ 2 mX10_number [.ref 2, .int (nI lo), .int hi] g mi ml (-1) (up2 (up2 (up2 mi 2 2 (nI (skT B n i0))) 2 3 (nI 1)) 2 4 (nI (skT B n i0))) := by
  refine cI_of (by decide +kernel) (Nat.le_of_ble_eq_true rfl) ?_
  have hn6 := hT.1
  have hk2 : skT B n i0 ≤ n := scF_le (fun i h => bkP_n h) _ _ hT.2.1
  have hk3 : dgT B n (skT B n i0) ≤ n := scF_le (fun i h => dgP_n h) _ _ hk2
  refine X_aload_n dX10_number_0 rfl ?_
  refine X_callVI dX10_number_1 mkX10_28 (k_2 hSh) (c_peek Γ g mi ml hSh B n i0 hT.1 hT.2.1 hT.2.2.1 hT.2.2.2.1 hT.2.2.2.2) rfl rfl (by decide) (Nat.le_of_ble_eq_true rfl) ?_
  refine X_callSI dX10_number_4 mkX10_43 (c_TisDigit Γ g (up2 mi 2 2 (nI (skT B n i0))) ml (byT B n (skT B n i0))) rfl rfl (by decide) (Nat.le_of_ble_eq_true rfl) ?_
  refine X_if_ne 22 dX10_number_7 (by decide) (fun h_1 => ?_) (fun h_1 => ?_)
  · exact absurd (bI_0.mpr ((byT_dg (B := B) (n := n)).trans hd)) h_1
  · refine X_aload_n dX10_number_10 rfl ?_
    refine X_iconst (v := nI 1) dX10_number_11 (by decide) ?_
    refine X_aload_n dX10_number_12 rfl ?_
    refine X_geti dX10_number_13 fkX10_22 rfl (k_2 hSh) ?_
    refine X_topi (show (up2 mi 2 2 (nI (skT B n i0))) 2 2 = nI (skT B n i0) by rw [up2_s]) ?_
    refine X_callVI dX10_number_16 mkX10_32 (k_2 hSh) (c_fail Γ g (up2 mi 2 2 (nI (skT B n i0))) ml hSh (nI 1) (nI (skT B n i0))) rfl rfl (by decide) (Nat.le_of_ble_eq_true rfl) ?_
    refine X_pop dX10_number_19 rfl ?_
    refine X_iconst (v := -1) dX10_number_20 (by decide) ?_
    exact X_iret dX10_number_21 rfl ⟨by first | rfl | (rw [Nat.min_eq_left (by omega)]), rfl, rfl, rfl⟩
set_option maxRecDepth 100000 in
set_option maxHeartbeats 4000000 in
theorem c_num2 (Γ : pTG) (g : pGG) (mi : pMI) (ml : pML) (hSh : Sh g) (B : Nat → Int32) (n i0 : Nat) (hT : TXT mi B n i0) (lo hx : Nat) (hi : Int32) (hlo : lo ≤ 1000) (hx1 : hx ≤ 1000) (hH : ∀ v, v ≤ 100000 → (nI v ≤ hi ↔ v < hx)) (hd : dgP B n (skT B n i0) = true) (hv : ¬ (lo ≤ dvN B (skT B n i0) (dgT B n (skT B n i0) - skT B n i0) ∧ dvN B (skT B n i0) (dgT B n (skT B n i0) - skT B n i0) < hx)) : cI Γ 2 mX10_number [.ref 2, .int (nI lo), .int hi] g mi ml (-1) (up2 (up2 (up2 mi 2 2 (nI (dgT B n (skT B n i0)))) 2 3 (nI 2)) 2 4 (nI (skT B n i0))) := by
  refine cI_of (by decide +kernel) (Nat.le_of_ble_eq_true rfl) ?_
  have hn6 := hT.1
  have hk2 : skT B n i0 ≤ n := scF_le (fun i h => bkP_n h) _ _ hT.2.1
  have hk3 : dgT B n (skT B n i0) ≤ n := scF_le (fun i h => dgP_n h) _ _ hk2
  refine X_aload_n dX10_number_0 rfl ?_
  refine X_callVI dX10_number_1 mkX10_28 (k_2 hSh) (c_peek Γ g mi ml hSh B n i0 hT.1 hT.2.1 hT.2.2.1 hT.2.2.2.1 hT.2.2.2.2) rfl rfl (by decide) (Nat.le_of_ble_eq_true rfl) ?_
  refine X_callSI dX10_number_4 mkX10_43 (c_TisDigit Γ g (up2 mi 2 2 (nI (skT B n i0))) ml (byT B n (skT B n i0))) rfl rfl (by decide) (Nat.le_of_ble_eq_true rfl) ?_
  refine X_if_ne 22 dX10_number_7 (by decide) (fun h_1 => ?_) (fun h_1 => ?_)
  · refine X_aload_n dX10_number_22 rfl ?_
    refine X_geti dX10_number_23 fkX10_22 rfl (k_2 hSh) ?_
    refine X_topi (show (up2 mi 2 2 (nI (skT B n i0))) 2 2 = nI (skT B n i0) by rw [up2_s]) ?_
    refine X_istore_n dX10_number_26 (by decide) ?_
    refine X_iconst (v := nI 0) dX10_number_27 (by decide) ?_
    refine X_istore dX10_number_28 (by decide) ?_
    refine X_L [(4, .int (nI 0)), (3, .int (nI (skT B n i0))), (0, .ref 2), (1, .int (nI lo)), (2, .int hi)] ⟨rfl, rfl, rfl, rfl, rfl, trivial⟩ ?_
    refine X_L [(4, .int (nI (min (dvN B (skT B n i0) (skT B n i0 - skT B n i0)) 1000))), (3, .int (nI (skT B n i0))), (0, .ref 2), (1, .int (nI lo)), (2, .int hi)] ⟨by rw [Nat.sub_self]; rfl, rfl, rfl, rfl, rfl, trivial⟩ ?_
    refine X_scanL 30 (fun i => [(4, .int (nI (min (dvN B (skT B n i0) (i - skT B n i0)) 1000))), (3, .int (nI (skT B n i0))), (0, .ref 2), (1, .int (nI lo)), (2, .int hi)]) (fun i => (up2 mi 2 2 (nI i))) (dgP B n) n (dgT B n (skT B n i0)) (skT B n i0) (fun i h => dgP_n h) ?_ ?_ (n - skT B n i0) (skT B n i0) (Nat.le_refl _) (by omega) rfl
    · intro i hsi hp hk
      obtain ⟨hin, hb1, hb2⟩ := dgP_t hp
      obtain ⟨hd9, hdE⟩ := dgN_of hb1 hb2
      refine X_aload_n dX10_number_30 rfl ?_
      refine X_geti dX10_number_31 fkX10_22 rfl (k_2 hSh) ?_
      rw [up2_s]
      refine X_aload_n dX10_number_34 rfl ?_
      refine X_geti dX10_number_35 fkX10_19 rfl (k_2 hSh) ?_
      rw [((up2_n (by omega)).trans hT.2.2.2.1)]
      refine X_icmp_geN (a := i) (b := n) 95 dX10_number_38 (by decide) (by omega) (by omega) (fun h_2 => ?_) (fun h_2 => ?_)
      · exact absurd h_2 (by omega)
      · refine X_aload_n dX10_number_41 rfl ?_
        refine X_getr (a := 1) dX10_number_42 fkX10_15 rfl (k_2 hSh) (r_2_0 hSh) ?_
        refine X_aload_n dX10_number_45 rfl ?_
        refine X_geti dX10_number_46 fkX10_22 rfl (k_2 hSh) ?_
        rw [up2_s]
        refine X_iald i dX10_number_49 (k_1 hSh) rfl (by omega) ?_
        rw [(((congrFun (up2_row (by omega)) _).trans (hT.2.2.1 i hin)).trans hdE)]
        refine X_callSI dX10_number_50 mkX10_43 (c_TisDigit Γ g (up2 mi 2 2 (nI i)) ml (nI (48 + dgN (B i)))) rfl rfl (by decide) (Nat.le_of_ble_eq_true rfl) ?_
        refine X_if_eq 95 dX10_number_53 (by decide) (fun h_3 => ?_) (fun h_3 => ?_)
        · exact absurd (bI_0.mp h_3) (by rw [← hdE]; simp [hb1, hb2])
        · refine X_iload dX10_number_56 rfl ?_
          refine X_bipush (v := nI 10) dX10_number_58 (by decide) ?_
          refine X_imul dX10_number_60 ?_
          refine X_topi (pk_mul (min (dvN B (skT B n i0) (i - skT B n i0)) 1000) 10) ?_
          refine X_aload_n dX10_number_61 rfl ?_
          refine X_getr (a := 1) dX10_number_62 fkX10_15 rfl (k_2 hSh) (r_2_0 hSh) ?_
          refine X_aload_n dX10_number_65 rfl ?_
          refine X_geti dX10_number_66 fkX10_22 rfl (k_2 hSh) ?_
          rw [up2_s]
          refine X_iald i dX10_number_69 (k_1 hSh) rfl (by omega) ?_
          rw [(((congrFun (up2_row (by omega)) _).trans (hT.2.2.1 i hin)).trans hdE)]
          refine X_iadd dX10_number_70 ?_
          refine X_topi (nI_add ((min (dvN B (skT B n i0) (i - skT B n i0)) 1000) * 10) (48 + dgN (B i))) ?_
          refine X_bipush (v := nI 48) dX10_number_71 (by decide) ?_
          refine X_isub dX10_number_73 ?_
          refine X_topi (pk_sub (a := ((min (dvN B (skT B n i0) (i - skT B n i0)) 1000) * 10) + (48 + dgN (B i))) (b := 48) (by omega)) ?_
          refine X_sipush (v := nI 1000) dX10_number_74 (by decide) ?_
          refine X_min dX10_number_77 mkX10_47 (by decide) (by decide) ?_
          refine X_topi (nI_minJ (by omega) (by omega)) ?_
          refine X_istore dX10_number_80 (by decide) ?_
          refine X_aload_n dX10_number_82 rfl ?_
          refine X_dup dX10_number_83 rfl ?_
          refine X_geti dX10_number_84 fkX10_22 rfl (k_2 hSh) ?_
          rw [up2_s]
          refine X_iconst (v := nI 1) dX10_number_87 (by decide) ?_
          refine X_iadd dX10_number_88 ?_
          refine X_topi (nI_add i 1) ?_
          refine X_puti dX10_number_89 fkX10_22 rfl rfl (k_2 hSh) ?_
          refine X_goto 30 dX10_number_92 (by decide) ?_
          refine X_L [(4, .int (nI (min ((((min (dvN B (skT B n i0) (i - skT B n i0)) 1000) * 10) + (48 + dgN (B i))) - 48) 1000))), (3, .int (nI (skT B n i0))), (0, .ref 2), (1, .int (nI lo)), (2, .int hi)] ⟨rfl, rfl, rfl, rfl, rfl, trivial⟩ ?_
          rw [up2_up2]
          rw [dvN_s hsi] at hk
          rw [show min (min (dvN B (skT B n i0) (i - skT B n i0)) 1000 * 10 + (48 + dgN (B i)) - 48) 1000 = min ((dvN B (skT B n i0) (i - skT B n i0)) * 10 + dgN (B i)) 1000 by omega]
          exact hk
    · intro hp
      refine X_aload_n dX10_number_30 rfl ?_
      refine X_geti dX10_number_31 fkX10_22 rfl (k_2 hSh) ?_
      rw [up2_s]
      refine X_aload_n dX10_number_34 rfl ?_
      refine X_geti dX10_number_35 fkX10_19 rfl (k_2 hSh) ?_
      rw [((up2_n (by omega)).trans hT.2.2.2.1)]
      refine X_icmp_geN (a := dgT B n (skT B n i0)) (b := n) 95 dX10_number_38 (by decide) (by omega) (by omega) (fun h_4 => ?_) (fun h_4 => ?_)
      · refine X_iload dX10_number_95 rfl ?_
        refine X_iload_n dX10_number_97 rfl ?_
        refine X_icmp_ltN (a := min (dvN B (skT B n i0) (dgT B n (skT B n i0) - skT B n i0)) 1000) (b := lo) 107 dX10_number_98 (by decide) (by omega) (by omega) (fun h_5 => ?_) (fun h_5 => ?_)
        · refine X_aload_n dX10_number_107 rfl ?_
          refine X_iconst (v := nI 2) dX10_number_108 (by decide) ?_
          refine X_iload_n dX10_number_109 rfl ?_
          refine X_callVI dX10_number_110 mkX10_32 (k_2 hSh) (c_fail Γ g (up2 mi 2 2 (nI (dgT B n (skT B n i0)))) ml hSh (nI 2) (nI (skT B n i0))) rfl rfl (by decide) (Nat.le_of_ble_eq_true rfl) ?_
          refine X_pop dX10_number_113 rfl ?_
          refine X_iconst (v := -1) dX10_number_114 (by decide) ?_
          exact X_iret dX10_number_115 rfl ⟨by first | rfl | (rw [Nat.min_eq_left (by omega)]), rfl, rfl, rfl⟩
        · refine X_iload dX10_number_101 rfl ?_
          refine X_iload_n dX10_number_103 rfl ?_
          refine X_icmp_le 116 dX10_number_104 (by decide) (fun h_6 => ?_) (fun h_6 => ?_)
          · exact absurd (⟨by omega, by have := (hH _ (by omega)).mp h_6; omega⟩) hv
          · refine X_aload_n dX10_number_107 rfl ?_
            refine X_iconst (v := nI 2) dX10_number_108 (by decide) ?_
            refine X_iload_n dX10_number_109 rfl ?_
            refine X_callVI dX10_number_110 mkX10_32 (k_2 hSh) (c_fail Γ g (up2 mi 2 2 (nI (dgT B n (skT B n i0)))) ml hSh (nI 2) (nI (skT B n i0))) rfl rfl (by decide) (Nat.le_of_ble_eq_true rfl) ?_
            refine X_pop dX10_number_113 rfl ?_
            refine X_iconst (v := -1) dX10_number_114 (by decide) ?_
            exact X_iret dX10_number_115 rfl ⟨by first | rfl | (rw [Nat.min_eq_left (by omega)]), rfl, rfl, rfl⟩
      · refine X_aload_n dX10_number_41 rfl ?_
        refine X_getr (a := 1) dX10_number_42 fkX10_15 rfl (k_2 hSh) (r_2_0 hSh) ?_
        refine X_aload_n dX10_number_45 rfl ?_
        refine X_geti dX10_number_46 fkX10_22 rfl (k_2 hSh) ?_
        rw [up2_s]
        refine X_iald (dgT B n (skT B n i0)) dX10_number_49 (k_1 hSh) rfl (by omega) ?_
        rw [(show (up2 mi 2 2 (nI (dgT B n (skT B n i0)))) 1 (dgT B n (skT B n i0)) = B (dgT B n (skT B n i0)) from (congrFun (up2_row (by omega)) _).trans (hT.2.2.1 _ (by omega)))]
        refine X_callSI dX10_number_50 mkX10_43 (c_TisDigit Γ g (up2 mi 2 2 (nI (dgT B n (skT B n i0)))) ml (B (dgT B n (skT B n i0)))) rfl rfl (by decide) (Nat.le_of_ble_eq_true rfl) ?_
        refine X_if_eq 95 dX10_number_53 (by decide) (fun h_7 => ?_) (fun h_7 => ?_)
        · refine X_iload dX10_number_95 rfl ?_
          refine X_iload_n dX10_number_97 rfl ?_
          refine X_icmp_ltN (a := min (dvN B (skT B n i0) (dgT B n (skT B n i0) - skT B n i0)) 1000) (b := lo) 107 dX10_number_98 (by decide) (by omega) (by omega) (fun h_8 => ?_) (fun h_8 => ?_)
          · refine X_aload_n dX10_number_107 rfl ?_
            refine X_iconst (v := nI 2) dX10_number_108 (by decide) ?_
            refine X_iload_n dX10_number_109 rfl ?_
            refine X_callVI dX10_number_110 mkX10_32 (k_2 hSh) (c_fail Γ g (up2 mi 2 2 (nI (dgT B n (skT B n i0)))) ml hSh (nI 2) (nI (skT B n i0))) rfl rfl (by decide) (Nat.le_of_ble_eq_true rfl) ?_
            refine X_pop dX10_number_113 rfl ?_
            refine X_iconst (v := -1) dX10_number_114 (by decide) ?_
            exact X_iret dX10_number_115 rfl ⟨by first | rfl | (rw [Nat.min_eq_left (by omega)]), rfl, rfl, rfl⟩
          · refine X_iload dX10_number_101 rfl ?_
            refine X_iload_n dX10_number_103 rfl ?_
            refine X_icmp_le 116 dX10_number_104 (by decide) (fun h_9 => ?_) (fun h_9 => ?_)
            · exact absurd (⟨by omega, by have := (hH _ (by omega)).mp h_9; omega⟩) hv
            · refine X_aload_n dX10_number_107 rfl ?_
              refine X_iconst (v := nI 2) dX10_number_108 (by decide) ?_
              refine X_iload_n dX10_number_109 rfl ?_
              refine X_callVI dX10_number_110 mkX10_32 (k_2 hSh) (c_fail Γ g (up2 mi 2 2 (nI (dgT B n (skT B n i0)))) ml hSh (nI 2) (nI (skT B n i0))) rfl rfl (by decide) (Nat.le_of_ble_eq_true rfl) ?_
              refine X_pop dX10_number_113 rfl ?_
              refine X_iconst (v := -1) dX10_number_114 (by decide) ?_
              exact X_iret dX10_number_115 rfl ⟨by first | rfl | (rw [Nat.min_eq_left (by omega)]), rfl, rfl, rfl⟩
        · exact absurd (bI_0.mpr (by unfold dgP at hp; rw [decide_eq_true (by assumption), Bool.true_and] at hp; exact hp)) h_7
  · exact absurd (bI_0.mp h_1) (by rw [byT_dg, hd]; decide)
set_option maxRecDepth 100000 in
set_option maxHeartbeats 4000000 in
theorem c_num0 (Γ : pTG) (g : pGG) (mi : pMI) (ml : pML) (hSh : Sh g) (B : Nat → Int32) (n i0 : Nat) (hT : TXT mi B n i0) (lo hx : Nat) (hi : Int32) (hlo : lo ≤ 1000) (hx1 : hx ≤ 1000) (hH : ∀ v, v ≤ 100000 → (nI v ≤ hi ↔ v < hx)) (hd : dgP B n (skT B n i0) = true) (hv : lo ≤ dvN B (skT B n i0) (dgT B n (skT B n i0) - skT B n i0) ∧ dvN B (skT B n i0) (dgT B n (skT B n i0) - skT B n i0) < hx) : cI Γ 2 mX10_number [.ref 2, .int (nI lo), .int hi] g mi ml (nI (dvN B (skT B n i0) (dgT B n (skT B n i0) - skT B n i0))) (up2 mi 2 2 (nI (dgT B n (skT B n i0)))) := by
  refine cI_of (by decide +kernel) (Nat.le_of_ble_eq_true rfl) ?_
  have hn6 := hT.1
  have hk2 : skT B n i0 ≤ n := scF_le (fun i h => bkP_n h) _ _ hT.2.1
  have hk3 : dgT B n (skT B n i0) ≤ n := scF_le (fun i h => dgP_n h) _ _ hk2
  refine X_aload_n dX10_number_0 rfl ?_
  refine X_callVI dX10_number_1 mkX10_28 (k_2 hSh) (c_peek Γ g mi ml hSh B n i0 hT.1 hT.2.1 hT.2.2.1 hT.2.2.2.1 hT.2.2.2.2) rfl rfl (by decide) (Nat.le_of_ble_eq_true rfl) ?_
  refine X_callSI dX10_number_4 mkX10_43 (c_TisDigit Γ g (up2 mi 2 2 (nI (skT B n i0))) ml (byT B n (skT B n i0))) rfl rfl (by decide) (Nat.le_of_ble_eq_true rfl) ?_
  refine X_if_ne 22 dX10_number_7 (by decide) (fun h_1 => ?_) (fun h_1 => ?_)
  · refine X_aload_n dX10_number_22 rfl ?_
    refine X_geti dX10_number_23 fkX10_22 rfl (k_2 hSh) ?_
    refine X_topi (show (up2 mi 2 2 (nI (skT B n i0))) 2 2 = nI (skT B n i0) by rw [up2_s]) ?_
    refine X_istore_n dX10_number_26 (by decide) ?_
    refine X_iconst (v := nI 0) dX10_number_27 (by decide) ?_
    refine X_istore dX10_number_28 (by decide) ?_
    refine X_L [(4, .int (nI 0)), (3, .int (nI (skT B n i0))), (0, .ref 2), (1, .int (nI lo)), (2, .int hi)] ⟨rfl, rfl, rfl, rfl, rfl, trivial⟩ ?_
    refine X_L [(4, .int (nI (min (dvN B (skT B n i0) (skT B n i0 - skT B n i0)) 1000))), (3, .int (nI (skT B n i0))), (0, .ref 2), (1, .int (nI lo)), (2, .int hi)] ⟨by rw [Nat.sub_self]; rfl, rfl, rfl, rfl, rfl, trivial⟩ ?_
    refine X_scanL 30 (fun i => [(4, .int (nI (min (dvN B (skT B n i0) (i - skT B n i0)) 1000))), (3, .int (nI (skT B n i0))), (0, .ref 2), (1, .int (nI lo)), (2, .int hi)]) (fun i => (up2 mi 2 2 (nI i))) (dgP B n) n (dgT B n (skT B n i0)) (skT B n i0) (fun i h => dgP_n h) ?_ ?_ (n - skT B n i0) (skT B n i0) (Nat.le_refl _) (by omega) rfl
    · intro i hsi hp hk
      obtain ⟨hin, hb1, hb2⟩ := dgP_t hp
      obtain ⟨hd9, hdE⟩ := dgN_of hb1 hb2
      refine X_aload_n dX10_number_30 rfl ?_
      refine X_geti dX10_number_31 fkX10_22 rfl (k_2 hSh) ?_
      rw [up2_s]
      refine X_aload_n dX10_number_34 rfl ?_
      refine X_geti dX10_number_35 fkX10_19 rfl (k_2 hSh) ?_
      rw [((up2_n (by omega)).trans hT.2.2.2.1)]
      refine X_icmp_geN (a := i) (b := n) 95 dX10_number_38 (by decide) (by omega) (by omega) (fun h_2 => ?_) (fun h_2 => ?_)
      · exact absurd h_2 (by omega)
      · refine X_aload_n dX10_number_41 rfl ?_
        refine X_getr (a := 1) dX10_number_42 fkX10_15 rfl (k_2 hSh) (r_2_0 hSh) ?_
        refine X_aload_n dX10_number_45 rfl ?_
        refine X_geti dX10_number_46 fkX10_22 rfl (k_2 hSh) ?_
        rw [up2_s]
        refine X_iald i dX10_number_49 (k_1 hSh) rfl (by omega) ?_
        rw [(((congrFun (up2_row (by omega)) _).trans (hT.2.2.1 i hin)).trans hdE)]
        refine X_callSI dX10_number_50 mkX10_43 (c_TisDigit Γ g (up2 mi 2 2 (nI i)) ml (nI (48 + dgN (B i)))) rfl rfl (by decide) (Nat.le_of_ble_eq_true rfl) ?_
        refine X_if_eq 95 dX10_number_53 (by decide) (fun h_3 => ?_) (fun h_3 => ?_)
        · exact absurd (bI_0.mp h_3) (by rw [← hdE]; simp [hb1, hb2])
        · refine X_iload dX10_number_56 rfl ?_
          refine X_bipush (v := nI 10) dX10_number_58 (by decide) ?_
          refine X_imul dX10_number_60 ?_
          refine X_topi (pk_mul (min (dvN B (skT B n i0) (i - skT B n i0)) 1000) 10) ?_
          refine X_aload_n dX10_number_61 rfl ?_
          refine X_getr (a := 1) dX10_number_62 fkX10_15 rfl (k_2 hSh) (r_2_0 hSh) ?_
          refine X_aload_n dX10_number_65 rfl ?_
          refine X_geti dX10_number_66 fkX10_22 rfl (k_2 hSh) ?_
          rw [up2_s]
          refine X_iald i dX10_number_69 (k_1 hSh) rfl (by omega) ?_
          rw [(((congrFun (up2_row (by omega)) _).trans (hT.2.2.1 i hin)).trans hdE)]
          refine X_iadd dX10_number_70 ?_
          refine X_topi (nI_add ((min (dvN B (skT B n i0) (i - skT B n i0)) 1000) * 10) (48 + dgN (B i))) ?_
          refine X_bipush (v := nI 48) dX10_number_71 (by decide) ?_
          refine X_isub dX10_number_73 ?_
          refine X_topi (pk_sub (a := ((min (dvN B (skT B n i0) (i - skT B n i0)) 1000) * 10) + (48 + dgN (B i))) (b := 48) (by omega)) ?_
          refine X_sipush (v := nI 1000) dX10_number_74 (by decide) ?_
          refine X_min dX10_number_77 mkX10_47 (by decide) (by decide) ?_
          refine X_topi (nI_minJ (by omega) (by omega)) ?_
          refine X_istore dX10_number_80 (by decide) ?_
          refine X_aload_n dX10_number_82 rfl ?_
          refine X_dup dX10_number_83 rfl ?_
          refine X_geti dX10_number_84 fkX10_22 rfl (k_2 hSh) ?_
          rw [up2_s]
          refine X_iconst (v := nI 1) dX10_number_87 (by decide) ?_
          refine X_iadd dX10_number_88 ?_
          refine X_topi (nI_add i 1) ?_
          refine X_puti dX10_number_89 fkX10_22 rfl rfl (k_2 hSh) ?_
          refine X_goto 30 dX10_number_92 (by decide) ?_
          refine X_L [(4, .int (nI (min ((((min (dvN B (skT B n i0) (i - skT B n i0)) 1000) * 10) + (48 + dgN (B i))) - 48) 1000))), (3, .int (nI (skT B n i0))), (0, .ref 2), (1, .int (nI lo)), (2, .int hi)] ⟨rfl, rfl, rfl, rfl, rfl, trivial⟩ ?_
          rw [up2_up2]
          rw [dvN_s hsi] at hk
          rw [show min (min (dvN B (skT B n i0) (i - skT B n i0)) 1000 * 10 + (48 + dgN (B i)) - 48) 1000 = min ((dvN B (skT B n i0) (i - skT B n i0)) * 10 + dgN (B i)) 1000 by omega]
          exact hk
    · intro hp
      refine X_aload_n dX10_number_30 rfl ?_
      refine X_geti dX10_number_31 fkX10_22 rfl (k_2 hSh) ?_
      rw [up2_s]
      refine X_aload_n dX10_number_34 rfl ?_
      refine X_geti dX10_number_35 fkX10_19 rfl (k_2 hSh) ?_
      rw [((up2_n (by omega)).trans hT.2.2.2.1)]
      refine X_icmp_geN (a := dgT B n (skT B n i0)) (b := n) 95 dX10_number_38 (by decide) (by omega) (by omega) (fun h_4 => ?_) (fun h_4 => ?_)
      · refine X_iload dX10_number_95 rfl ?_
        refine X_iload_n dX10_number_97 rfl ?_
        refine X_icmp_ltN (a := min (dvN B (skT B n i0) (dgT B n (skT B n i0) - skT B n i0)) 1000) (b := lo) 107 dX10_number_98 (by decide) (by omega) (by omega) (fun h_5 => ?_) (fun h_5 => ?_)
        · exact absurd h_5 (by omega)
        · refine X_iload dX10_number_101 rfl ?_
          refine X_iload_n dX10_number_103 rfl ?_
          refine X_icmp_le 116 dX10_number_104 (by decide) (fun h_6 => ?_) (fun h_6 => ?_)
          · refine X_iload dX10_number_116 rfl ?_
            exact X_iret dX10_number_118 rfl ⟨by first | rfl | (rw [Nat.min_eq_left (by omega)]), rfl, rfl, rfl⟩
          · exact absurd ((hH _ (by omega)).mpr (by omega)) h_6
      · refine X_aload_n dX10_number_41 rfl ?_
        refine X_getr (a := 1) dX10_number_42 fkX10_15 rfl (k_2 hSh) (r_2_0 hSh) ?_
        refine X_aload_n dX10_number_45 rfl ?_
        refine X_geti dX10_number_46 fkX10_22 rfl (k_2 hSh) ?_
        rw [up2_s]
        refine X_iald (dgT B n (skT B n i0)) dX10_number_49 (k_1 hSh) rfl (by omega) ?_
        rw [(show (up2 mi 2 2 (nI (dgT B n (skT B n i0)))) 1 (dgT B n (skT B n i0)) = B (dgT B n (skT B n i0)) from (congrFun (up2_row (by omega)) _).trans (hT.2.2.1 _ (by omega)))]
        refine X_callSI dX10_number_50 mkX10_43 (c_TisDigit Γ g (up2 mi 2 2 (nI (dgT B n (skT B n i0)))) ml (B (dgT B n (skT B n i0)))) rfl rfl (by decide) (Nat.le_of_ble_eq_true rfl) ?_
        refine X_if_eq 95 dX10_number_53 (by decide) (fun h_7 => ?_) (fun h_7 => ?_)
        · refine X_iload dX10_number_95 rfl ?_
          refine X_iload_n dX10_number_97 rfl ?_
          refine X_icmp_ltN (a := min (dvN B (skT B n i0) (dgT B n (skT B n i0) - skT B n i0)) 1000) (b := lo) 107 dX10_number_98 (by decide) (by omega) (by omega) (fun h_8 => ?_) (fun h_8 => ?_)
          · exact absurd h_8 (by omega)
          · refine X_iload dX10_number_101 rfl ?_
            refine X_iload_n dX10_number_103 rfl ?_
            refine X_icmp_le 116 dX10_number_104 (by decide) (fun h_9 => ?_) (fun h_9 => ?_)
            · refine X_iload dX10_number_116 rfl ?_
              exact X_iret dX10_number_118 rfl ⟨by first | rfl | (rw [Nat.min_eq_left (by omega)]), rfl, rfl, rfl⟩
            · exact absurd ((hH _ (by omega)).mpr (by omega)) h_9
        · exact absurd (bI_0.mpr (by unfold dgP at hp; rw [decide_eq_true (by assumption), Bool.true_and] at hp; exact hp)) h_7
  · exact absurd (bI_0.mp h_1) (by rw [byT_dg, hd]; decide)
theorem c_numOK (Γ : pTG) (g : pGG) (mi : pMI) (ml : pML) (hSh : Sh g) (B : Nat → Int32) (n i0 : Nat) (hT : TXT mi B n i0) (lo hx : Nat) (hi : Int32) (hlo : lo ≤ 1000) (hx1 : hx ≤ 1000) (hH : ∀ v, v ≤ 100000 → (nI v ≤ hi ↔ v < hx)) {v e : Nat} (h : numR B n i0 lo hx = .ok (v, e)) : cI Γ 2 mX10_number [.ref 2, .int (nI lo), .int hi] g mi ml (nI v) (up2 mi 2 2 (nI e)) ∧ e ≤ n ∧ i0 < e ∧ lo ≤ v ∧ v < hx := by
  have hk2 : skT B n i0 ≤ n := scF_le (fun i h => bkP_n h) _ _ hT.2.1
  have hk3 : dgT B n (skT B n i0) ≤ n := scF_le (fun i h => dgP_n h) _ _ hk2
  have hk4 : i0 ≤ skT B n i0 := scF_ge _ _ _
  unfold numR at h
  by_cases hd : dgP B n (skT B n i0) = true
  · rw [if_pos hd] at h
    by_cases hv : lo ≤ dvN B (skT B n i0) (dgT B n (skT B n i0) - skT B n i0) ∧ dvN B (skT B n i0) (dgT B n (skT B n i0) - skT B n i0) < hx
    · rw [if_pos hv] at h
      cases h
      have h5 : skT B n i0 < dgT B n (skT B n i0) := by
        have := dgP_n hd
        have e1 : dgT B n (skT B n i0) = scF (dgP B n) (n - skT B n i0 - 1) (skT B n i0 + 1) := by
          unfold dgT
          rw [show n - skT B n i0 = (n - skT B n i0 - 1) + 1 by omega]
          show (if dgP B n (skT B n i0) = true then _ else _) = _
          rw [if_pos hd]; congr 1
        have := scF_ge (dgP B n) (n - skT B n i0 - 1) (skT B n i0 + 1)
        omega
      exact ⟨c_num0 Γ g mi ml hSh B n i0 hT lo hx hi hlo hx1 hH hd hv, hk3, by omega, hv.1, hv.2⟩
    · rw [if_neg hv] at h; cases h
  · rw [if_neg hd] at h; cases h
theorem c_numE (Γ : pTG) (g : pGG) (mi : pMI) (ml : pML) (hSh : Sh g) (B : Nat → Int32) (n i0 : Nat) (hT : TXT mi B n i0) (lo hx : Nat) (hi : Int32) (hlo : lo ≤ 1000) (hx1 : hx ≤ 1000) (hH : ∀ v, v ≤ 100000 → (nI v ≤ hi ↔ v < hx)) {k p : Nat} (h : numR B n i0 lo hx = .error (k, p)) : ∃ q, q ≤ n ∧ cI Γ 2 mX10_number [.ref 2, .int (nI lo), .int hi] g mi ml (-1) (up2 (up2 (up2 mi 2 2 (nI q)) 2 3 (nI k)) 2 4 (nI p)) := by
  have hk2 : skT B n i0 ≤ n := scF_le (fun i h => bkP_n h) _ _ hT.2.1
  have hk3 : dgT B n (skT B n i0) ≤ n := scF_le (fun i h => dgP_n h) _ _ hk2
  unfold numR at h
  by_cases hd : dgP B n (skT B n i0) = true
  · rw [if_pos hd] at h
    by_cases hv : lo ≤ dvN B (skT B n i0) (dgT B n (skT B n i0) - skT B n i0) ∧ dvN B (skT B n i0) (dgT B n (skT B n i0) - skT B n i0) < hx
    · rw [if_pos hv] at h; cases h
    · rw [if_neg hv] at h
      cases h
      exact ⟨_, hk3, c_num2 Γ g mi ml hSh B n i0 hT lo hx hi hlo hx1 hH hd hv⟩
  · rw [if_neg hd] at h
    cases h
    exact ⟨_, hk2, c_num1 Γ g mi ml hSh B n i0 hT lo hx hi hlo hx1 hH (by simpa using hd)⟩

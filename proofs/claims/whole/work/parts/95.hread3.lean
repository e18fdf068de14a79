set_option maxRecDepth 100000 in
set_option maxHeartbeats 4000000 in
theorem c_mayOpen1 (Γ : pTG) (g : pGG) (mi : pMI) (ml : pML) (hSh : Sh g) (op : Nat) (ho : op < 6) : cI Γ 2 mX5_mayOpen [.ref 22, .int (nI op)] g mi ml (nI 1) mi := by
  refine cI_of (by decide +kernel) (Nat.le_of_ble_eq_true rfl) ?_
  refine X_iload_n dX5_mayOpen_0 rfl ?_
  refine X_bipush (v := nI 6) dX5_mayOpen_1 (by decide) ?_
  refine X_icmp_ltN (a := op) (b := 6) 24 dX5_mayOpen_3 (by decide) (by omega) (by omega) (fun h_1 => ?_) (fun h_1 => ?_)
  · refine X_iconst (v := nI 1) dX5_mayOpen_24 (by decide) ?_
    refine X_goto 29 dX5_mayOpen_25 (by decide) ?_
    exact X_zret (ty := .boolean) dX5_mayOpen_29 rfl (by first | decide | (rcases bI_01 _ with q | q <;> rw [q] <;> decide)) ⟨by rfl, rfl, rfl, rfl⟩
  · exact absurd h_1 (by omega)
set_option maxRecDepth 100000 in
set_option maxHeartbeats 4000000 in
theorem c_mayOpen0 (Γ : pTG) (g : pGG) (mi : pMI) (ml : pML) (hSh : Sh g) (s : Nat) (hs : mi 2 2 = nI s) : cI Γ 2 mX5_mayOpen [.ref 22, .int (nI 6)] g mi ml (nI 0) (up2 (up2 mi 2 3 (nI 3)) 2 4 (nI s)) := by
  refine cI_of (by decide +kernel) (Nat.le_of_ble_eq_true rfl) ?_
  refine X_iload_n dX5_mayOpen_0 rfl ?_
  refine X_bipush (v := nI 6) dX5_mayOpen_1 (by decide) ?_
  refine X_icmp_ltN (a := 6) (b := 6) 24 dX5_mayOpen_3 (by decide) (by omega) (by omega) (fun h_1 => ?_) (fun h_1 => ?_)
  · exact absurd h_1 (by omega)
  · refine X_aload_n dX5_mayOpen_6 rfl ?_
    refine X_getr (a := 2) dX5_mayOpen_7 fkX5_15 rfl (k_22 hSh) (r_22_3 hSh) ?_
    refine X_iconst (v := nI 3) dX5_mayOpen_10 (by decide) ?_
    refine X_aload_n dX5_mayOpen_11 rfl ?_
    refine X_getr (a := 2) dX5_mayOpen_12 fkX5_15 rfl (k_22 hSh) (r_22_3 hSh) ?_
    refine X_geti dX5_mayOpen_15 fkX5_37 rfl (k_2 hSh) ?_
    rw [hs]
    refine X_callVI dX5_mayOpen_18 mkX5_40 (k_2 hSh) (c_fail Γ g mi ml hSh (nI 3) (nI s)) rfl rfl (by decide) (Nat.le_of_ble_eq_true rfl) ?_
    refine X_if_eqN (a := 0) 28 dX5_mayOpen_21 (by decide) (by omega) (fun h_2 => ?_) (fun h_2 => ?_)
    · refine X_iconst (v := nI 0) dX5_mayOpen_28 (by decide) ?_
      exact X_zret (ty := .boolean) dX5_mayOpen_29 rfl (by first | decide | (rcases bI_01 _ with q | q <;> rw [q] <;> decide)) ⟨by rfl, rfl, rfl, rfl⟩
    · exact absurd h_2 (by omega)
set_option maxRecDepth 100000 in
set_option maxHeartbeats 4000000 in
theorem hc_unit0 (Γ : pTG) (g : pGG) (ml : pML) (hSh : Sh g) (B : Nat → Int32) (n : Nat) (D : Nat) (hD : 10 ≤ D) : HC Γ g ml B n D mX5_readUnit 6 (unitR none B n) := by
  intro m0 mi i T a hS
  refine rI_of (by decide +kernel) (Nat.le_of_ble_eq_true rfl) ?_
  have hin := hS.1.2.1
  have hn15 := hS.2.1
  have hTl := hS.2.2.2.2.2.1
  have hs1 := skT_le (B := B) hS.1.2.1
  have hs2 := skT_ge (B := B) (n := n) (i := i)
  have hS1 := HST_at hS hs1 hs2
  have hwl := wdT_le (B := B) hs1
  have hwg := wdT_ge (B := B) (n := n) (i := skT B n i)
  have hSw := HST_at hS1 hwl hwg
  by_cases hd : dgP B n (skT B n i) = true
  · skip
    refine X_aload_n dX5_readUnit_0 rfl ?_
    refine X_getr (a := 2) dX5_readUnit_1 fkX5_15 rfl (k_22 hSh) (r_22_3 hSh) ?_
    refine X_callVI dX5_readUnit_4 mkX5_31 (k_2 hSh) (c_peek Γ g mi ml hSh B n i hS.1.1 hS.1.2.1 hS.1.2.2.1 hS.1.2.2.2.1 hS.1.2.2.2.2) rfl rfl (by omega) (Nat.le_of_ble_eq_true rfl) ?_
    refine X_istore_n dX5_readUnit_7 (by decide) ?_
    refine X_iload_n dX5_readUnit_8 rfl ?_
    refine X_callSI dX5_readUnit_9 mkX5_56 (c_TisDigit Γ g (up2 mi 2 2 (nI (skT B n i))) ml (byT B n (skT B n i))) rfl rfl (by omega) (Nat.le_of_ble_eq_true rfl) ?_
    refine X_if_eq 42 dX5_readUnit_12 (by decide) (fun h_1 => ?_) (fun h_1 => ?_)
    · exact absurd (bI_0.mp h_1) (by rw [byT_dg, hd]; decide)
    · refine X_aload_n dX5_readUnit_15 rfl ?_
      refine X_getr (a := 2) dX5_readUnit_16 fkX5_15 rfl (k_22 hSh) (r_22_3 hSh) ?_
      refine X_iconst (v := nI 0) dX5_readUnit_19 (by decide) ?_
      refine X_bipush (v := nI 99) dX5_readUnit_20 (by decide) ?_
      match hN : numR B n i 0 100 with
      | .error (k1, p1) =>
        obtain ⟨q1, hq1, hC1⟩ := c_numE Γ g (up2 mi 2 2 (nI (skT B n i))) ml hSh B n (skT B n i) hS1.1 0 100 (nI 99) (by omega) (by omega) (hH_of (by omega)) (numR_sk.trans hN)
        refine X_callVI dX5_readUnit_22 mkX5_59 (k_2 hSh) (hC1) rfl rfl (by omega) (Nat.le_of_ble_eq_true rfl) ?_
        refine X_istore_n dX5_readUnit_25 (by decide) ?_
        refine X_aload_n dX5_readUnit_26 rfl ?_
        refine X_iload_n dX5_readUnit_27 rfl ?_
        have hEr : HER m0 (up2 (up2 (up2 (up2 mi 2 2 (nI (skT B n i))) 2 2 (nI q1)) 2 3 (nI k1)) 2 4 (nI p1)) k1 p1 := HER_of hS1 (fun i h1 => by rw [up2_row h1, up2_row h1, up2_row h1]) ((up2_n (by omega)).trans up2_s) up2_s
        refine X_callVrV dX5_readUnit_28 mkX5_49 (k_22 hSh) (c_putE Γ g (up2 (up2 (up2 (up2 mi 2 2 (nI (skT B n i))) 2 2 (nI q1)) 2 3 (nI k1)) 2 4 (nI p1)) ml hSh hEr (-1)) rfl rfl (by omega) (Nat.le_of_ble_eq_true rfl) (fun m9 l9 hm9 => ?_)
        obtain ⟨hm9, hl9⟩ := hm9
        rw [hl9]
        refine X_iload_n dX5_readUnit_31 rfl ?_
        refine X_iconst (v := -1) dX5_readUnit_32 (by decide) ?_
        refine X_icmp_eq 40 dX5_readUnit_33 (by decide) (fun h_2 => ?_) (fun h_2 => ?_)
        · refine X_iconst (v := nI 0) dX5_readUnit_40 (by decide) ?_
          exact X_zret (ty := .boolean) dX5_readUnit_41 rfl (by decide) ⟨rfl, _, rfl, rfl, by rw [show unitR none B n i = .error (k1, p1) from by simp only [unitR, sgK, bS, hd, hN, if_true, if_false, Bool.false_eq_true, reduceIte, Nat.reduceLT, Nat.reduceSub]]; exact ⟨rfl, hm9⟩⟩
        · exact absurd rfl h_2
      | .ok (v1, e1) =>
        obtain ⟨hC1, he1, hi1, hl1, hv1⟩ := c_numOK Γ g (up2 mi 2 2 (nI (skT B n i))) ml hSh B n (skT B n i) hS1.1 0 100 (nI 99) (by omega) (by omega) (hH_of (by omega)) (numR_sk.trans hN)
        have hS2 := HST_at hS1 he1 (by omega)
        refine X_callVI dX5_readUnit_22 mkX5_59 (k_2 hSh) (hC1) rfl rfl (by omega) (Nat.le_of_ble_eq_true rfl) ?_
        refine X_istore_n dX5_readUnit_25 (by decide) ?_
        refine X_aload_n dX5_readUnit_26 rfl ?_
        refine X_iload_n dX5_readUnit_27 rfl ?_
        have hle3 : T.length + 1 ≤ e1 := by omega
        have hS3 := HST_put (t := (0, v1)) (v := nI v1) hS2 hle3 rfl
        refine X_callVV dX5_readUnit_28 mkX5_49 (k_22 hSh) (c_put Γ g (up2 (up2 mi 2 2 (nI (skT B n i))) 2 2 (nI e1)) ml hSh _ hS2.2.2.1 (by omega) (nI v1)) rfl rfl (by omega) (Nat.le_of_ble_eq_true rfl) ?_
        refine X_iload_n dX5_readUnit_31 rfl ?_
        refine X_iconst (v := -1) dX5_readUnit_32 (by decide) ?_
        refine X_icmp_eq 40 dX5_readUnit_33 (by decide) (fun h_3 => ?_) (fun h_3 => ?_)
        · exact absurd h_3 (nI_m1 (by omega))
        · refine X_iconst (v := nI 1) dX5_readUnit_36 (by decide) ?_
          refine X_goto 41 dX5_readUnit_37 (by decide) ?_
          exact X_zret (ty := .boolean) dX5_readUnit_41 rfl (by decide) ⟨rfl, _, rfl, rfl, by rw [show unitR none B n i = .ok (e1, [(0, v1)], false) from by simp only [unitR, sgK, bS, hd, hN, if_true, if_false, Bool.false_eq_true, reduceIte, Nat.reduceLT, Nat.reduceSub]]; exact ⟨rfl, HST_eq hS3 (by simp) (by simp)⟩⟩
  · by_cases hp : byT B n (skT B n i) = nI 40
    · skip
      refine X_aload_n dX5_readUnit_0 rfl ?_
      refine X_getr (a := 2) dX5_readUnit_1 fkX5_15 rfl (k_22 hSh) (r_22_3 hSh) ?_
      refine X_callVI dX5_readUnit_4 mkX5_31 (k_2 hSh) (c_peek Γ g mi ml hSh B n i hS.1.1 hS.1.2.1 hS.1.2.2.1 hS.1.2.2.2.1 hS.1.2.2.2.2) rfl rfl (by omega) (Nat.le_of_ble_eq_true rfl) ?_
      refine X_istore_n dX5_readUnit_7 (by decide) ?_
      refine X_iload_n dX5_readUnit_8 rfl ?_
      refine X_callSI dX5_readUnit_9 mkX5_56 (c_TisDigit Γ g (up2 mi 2 2 (nI (skT B n i))) ml (byT B n (skT B n i))) rfl rfl (by omega) (Nat.le_of_ble_eq_true rfl) ?_
      refine X_if_eq 42 dX5_readUnit_12 (by decide) (fun h_4 => ?_) (fun h_4 => ?_)
      · refine X_iload_n dX5_readUnit_42 rfl ?_
        refine X_bipush (v := nI 40) dX5_readUnit_43 (by decide) ?_
        refine X_icmp_ne 96 dX5_readUnit_45 (by decide) (fun h_5 => ?_) (fun h_5 => ?_)
        · exact absurd hp h_5
        · refine X_aload_n dX5_readUnit_48 rfl ?_
          refine X_iload_n dX5_readUnit_49 rfl ?_
          refine X_callVI dX5_readUnit_50 mkX5_63 (k_22 hSh) (c_mayOpen0 Γ g (up2 mi 2 2 (nI (skT B n i))) ml hSh (skT B n i) up2_s) rfl rfl (by omega) (Nat.le_of_ble_eq_true rfl) ?_
          refine X_if_eqN (a := 0) 94 dX5_readUnit_53 (by decide) (by omega) (fun h_6 => ?_) (fun h_6 => ?_)
          · refine X_iconst (v := nI 0) dX5_readUnit_94 (by decide) ?_
            exact X_zret (ty := .boolean) dX5_readUnit_95 rfl (by decide) ⟨rfl, _, rfl, rfl, by rw [show unitR none B n i = .error (3, skT B n i) from by simp only [unitR, sgK, bS, hd, hp, if_true, if_false, Bool.false_eq_true, reduceIte, Nat.reduceLT, Nat.reduceSub]]; exact ⟨rfl, HER_of hS1 (fun i h1 => by rw [up2_row h1, up2_row h1]) ((up2_n (by omega)).trans up2_s) up2_s⟩⟩
          · exact absurd h_6 (by omega)
      · exact absurd (bI_0.mpr (byT_dg.trans (by simpa using hd))) h_4
    · match hW : wIx 1 B n (skT B n i) with
      | none =>
        refine X_aload_n dX5_readUnit_0 rfl ?_
        refine X_getr (a := 2) dX5_readUnit_1 fkX5_15 rfl (k_22 hSh) (r_22_3 hSh) ?_
        refine X_callVI dX5_readUnit_4 mkX5_31 (k_2 hSh) (c_peek Γ g mi ml hSh B n i hS.1.1 hS.1.2.1 hS.1.2.2.1 hS.1.2.2.2.1 hS.1.2.2.2.2) rfl rfl (by omega) (Nat.le_of_ble_eq_true rfl) ?_
        refine X_istore_n dX5_readUnit_7 (by decide) ?_
        refine X_iload_n dX5_readUnit_8 rfl ?_
        refine X_callSI dX5_readUnit_9 mkX5_56 (c_TisDigit Γ g (up2 mi 2 2 (nI (skT B n i))) ml (byT B n (skT B n i))) rfl rfl (by omega) (Nat.le_of_ble_eq_true rfl) ?_
        refine X_if_eq 42 dX5_readUnit_12 (by decide) (fun h_7 => ?_) (fun h_7 => ?_)
        · refine X_iload_n dX5_readUnit_42 rfl ?_
          refine X_bipush (v := nI 40) dX5_readUnit_43 (by decide) ?_
          refine X_icmp_ne 96 dX5_readUnit_45 (by decide) (fun h_8 => ?_) (fun h_8 => ?_)
          · refine X_aload_n dX5_readUnit_96 rfl ?_
            refine X_getr (a := 2) dX5_readUnit_97 fkX5_15 rfl (k_22 hSh) (r_22_3 hSh) ?_
            refine X_ldcS (j := 1) dX5_readUnit_100 rfl ?_
            refine X_callVI dX5_readUnit_102 mkX5_72 (k_2 hSh) (c_which Γ g (up2 mi 2 2 (nI (skT B n i))) ml hSh B n (skT B n i) hS1.1 1 (by decide)) rfl rfl (by omega) (Nat.le_of_ble_eq_true rfl) ?_
            refine X_topi (show oI (whN 1 B n (skT B n i)) = -1 by rw [whN_eq (by decide), hW]; rfl) ?_
            refine X_istore_n dX5_readUnit_105 (by decide) ?_
            refine X_iload_n dX5_readUnit_106 rfl ?_
            refine X_iconst (v := -1) dX5_readUnit_107 (by decide) ?_
            refine X_icmp_ne 127 dX5_readUnit_108 (by decide) (fun h_9 => ?_) (fun h_9 => ?_)
            · exact absurd rfl h_9
            · refine X_aload_n dX5_readUnit_111 rfl ?_
              refine X_getr (a := 2) dX5_readUnit_112 fkX5_15 rfl (k_22 hSh) (r_22_3 hSh) ?_
              refine X_iconst (v := nI 1) dX5_readUnit_115 (by decide) ?_
              refine X_aload_n dX5_readUnit_116 rfl ?_
              refine X_getr (a := 2) dX5_readUnit_117 fkX5_15 rfl (k_22 hSh) (r_22_3 hSh) ?_
              refine X_geti dX5_readUnit_120 fkX5_37 rfl (k_2 hSh) ?_
              rw [up2_s]
              refine X_callVI dX5_readUnit_123 mkX5_40 (k_2 hSh) (c_fail Γ g (up2 mi 2 2 (nI (skT B n i))) ml hSh (nI 1) (nI (skT B n i))) rfl rfl (by omega) (Nat.le_of_ble_eq_true rfl) ?_
              exact X_zret (ty := .boolean) dX5_readUnit_126 rfl (by decide) ⟨rfl, _, rfl, rfl, by rw [show unitR none B n i = .error (1, skT B n i) from by simp only [unitR, sgK, bS, hd, hp, hW, if_true, if_false, Bool.false_eq_true, reduceIte, Nat.reduceLT, Nat.reduceSub]]; exact ⟨rfl, HER_of hS1 (fun i h1 => by rw [up2_row h1, up2_row h1]) ((up2_n (by omega)).trans up2_s) up2_s⟩⟩
          · exact absurd h_8 hp
        · exact absurd (bI_0.mpr (byT_dg.trans (by simpa using hd))) h_7
      | some k =>
        have hk14 : k < 14 := (wIx_s hW).1
        have hgt := wdT_gt (by decide) hW
        by_cases hk : k < 11
        · skip
          refine X_aload_n dX5_readUnit_0 rfl ?_
          refine X_getr (a := 2) dX5_readUnit_1 fkX5_15 rfl (k_22 hSh) (r_22_3 hSh) ?_
          refine X_callVI dX5_readUnit_4 mkX5_31 (k_2 hSh) (c_peek Γ g mi ml hSh B n i hS.1.1 hS.1.2.1 hS.1.2.2.1 hS.1.2.2.2.1 hS.1.2.2.2.2) rfl rfl (by omega) (Nat.le_of_ble_eq_true rfl) ?_
          refine X_istore_n dX5_readUnit_7 (by decide) ?_
          refine X_iload_n dX5_readUnit_8 rfl ?_
          refine X_callSI dX5_readUnit_9 mkX5_56 (c_TisDigit Γ g (up2 mi 2 2 (nI (skT B n i))) ml (byT B n (skT B n i))) rfl rfl (by omega) (Nat.le_of_ble_eq_true rfl) ?_
          refine X_if_eq 42 dX5_readUnit_12 (by decide) (fun h_10 => ?_) (fun h_10 => ?_)
          · refine X_iload_n dX5_readUnit_42 rfl ?_
            refine X_bipush (v := nI 40) dX5_readUnit_43 (by decide) ?_
            refine X_icmp_ne 96 dX5_readUnit_45 (by decide) (fun h_11 => ?_) (fun h_11 => ?_)
            · refine X_aload_n dX5_readUnit_96 rfl ?_
              refine X_getr (a := 2) dX5_readUnit_97 fkX5_15 rfl (k_22 hSh) (r_22_3 hSh) ?_
              refine X_ldcS (j := 1) dX5_readUnit_100 rfl ?_
              refine X_callVI dX5_readUnit_102 mkX5_72 (k_2 hSh) (c_which Γ g (up2 mi 2 2 (nI (skT B n i))) ml hSh B n (skT B n i) hS1.1 1 (by decide)) rfl rfl (by omega) (Nat.le_of_ble_eq_true rfl) ?_
              refine X_topi (show oI (whN 1 B n (skT B n i)) = nI k by rw [whN_eq (by decide), hW]; rfl) ?_
              refine X_istore_n dX5_readUnit_105 (by decide) ?_
              refine X_iload_n dX5_readUnit_106 rfl ?_
              refine X_iconst (v := -1) dX5_readUnit_107 (by decide) ?_
              refine X_icmp_ne 127 dX5_readUnit_108 (by decide) (fun h_12 => ?_) (fun h_12 => ?_)
              · refine X_iload_n dX5_readUnit_127 rfl ?_
                refine X_bipush (v := nI 11) dX5_readUnit_128 (by decide) ?_
                refine X_icmp_ltN (a := k) (b := 11) 143 dX5_readUnit_130 (by decide) (by omega) (by omega) (fun h_13 => ?_) (fun h_13 => ?_)
                · refine X_aload_n dX5_readUnit_143 rfl ?_
                  refine X_getr (a := 2) dX5_readUnit_144 fkX5_15 rfl (k_22 hSh) (r_22_3 hSh) ?_
                  refine X_callVV dX5_readUnit_147 mkX5_76 (k_2 hSh) (c_passWord Γ g (up2 mi 2 2 (nI (skT B n i))) ml hSh B n (skT B n i) hS1.1.1 hS1.1.2.1 hS1.1.2.2.1 hS1.1.2.2.2.1 hS1.1.2.2.2.2) rfl rfl (by omega) (Nat.le_of_ble_eq_true rfl) ?_
                  refine X_iload_n dX5_readUnit_150 rfl ?_
                  refine X_bipush (v := nI 11) dX5_readUnit_151 (by decide) ?_
                  refine X_icmp_eqN (a := k) (b := 11) 162 dX5_readUnit_153 (by decide) (by omega) (by omega) (fun h_14 => ?_) (fun h_14 => ?_)
                  · exact absurd h_14 (by omega)
                  · refine X_iload_n dX5_readUnit_156 rfl ?_
                    refine X_bipush (v := nI 12) dX5_readUnit_157 (by decide) ?_
                    refine X_icmp_neN (a := k) (b := 12) 185 dX5_readUnit_159 (by decide) (by omega) (by omega) (fun h_15 => ?_) (fun h_15 => ?_)
                    · refine X_iload_n dX5_readUnit_185 rfl ?_
                      refine X_bipush (v := nI 13) dX5_readUnit_186 (by decide) ?_
                      refine X_icmp_neN (a := k) (b := 13) 199 dX5_readUnit_188 (by decide) (by omega) (by omega) (fun h_16 => ?_) (fun h_16 => ?_)
                      · refine X_aload_n dX5_readUnit_199 rfl ?_
                        refine X_dup dX5_readUnit_200 rfl ?_
                        refine X_geti dX5_readUnit_201 fkX5_23 rfl (k_22 hSh) ?_
                        rw [hSw.2.2.2.2.1]
                        refine X_iload_n dX5_readUnit_204 rfl ?_
                        refine X_bipush (v := nI 6) dX5_readUnit_205 (by decide) ?_
                        refine X_icmp_neN (a := k) (b := 6) 214 dX5_readUnit_207 (by decide) (by omega) (by omega) (fun h_17 => ?_) (fun h_17 => ?_)
                        · refine X_iconst (v := nI 0) dX5_readUnit_214 (by decide) ?_
                          refine X_ior dX5_readUnit_215 ?_
                          refine X_topi ((bI_or a).2 (by assumption)) ?_
                          have h01 := bI_01 (a || decide (k = 6))
                          have hS4 := HST_ask (b := (a || decide (k = 6))) hSw rfl
                          refine X_putz dX5_readUnit_216 fkX5_23 rfl (by first | exact Or.inl rfl | exact Or.inr rfl | assumption) rfl (k_22 hSh) ?_
                          refine X_aload_n dX5_readUnit_219 rfl ?_
                          refine X_bipush (v := nI 100) dX5_readUnit_220 (by decide) ?_
                          refine X_iload_n dX5_readUnit_222 rfl ?_
                          refine X_iadd dX5_readUnit_223 ?_
                          refine X_topi (nI_add 100 k) ?_
                          have hle3 : T.length + 1 ≤ wdT B n (skT B n i) := by omega
                          have hS5 := HST_put (t := (1, k)) (v := nI (100 + k)) hS4 hle3 rfl
                          refine X_callVV dX5_readUnit_224 mkX5_49 (k_22 hSh) (c_put Γ g (up2 (up2 (up2 mi 2 2 (nI (skT B n i))) 2 2 (nI (wdT B n (skT B n i)))) 22 2 (bI (a || decide (k = 6)))) ml hSh _ hS4.2.2.1 (by omega) (nI (100 + k))) rfl rfl (by omega) (Nat.le_of_ble_eq_true rfl) ?_
                          refine X_iconst (v := nI 1) dX5_readUnit_227 (by decide) ?_
                          exact X_zret (ty := .boolean) dX5_readUnit_228 rfl (by decide) ⟨rfl, _, rfl, rfl, by rw [show unitR none B n i = .ok (wdT B n (skT B n i), [(1, k)], decide (k = 6)) from by simp only [unitR, sgK, bS, hd, hp, hW, hk, if_true, if_false, Bool.false_eq_true, reduceIte, Nat.reduceLT, Nat.reduceSub]]; exact ⟨rfl, HST_eq hS5 (by simp) (by simp)⟩⟩
                        · refine X_iconst (v := nI 1) dX5_readUnit_210 (by decide) ?_
                          refine X_goto 215 dX5_readUnit_211 (by decide) ?_
                          refine X_ior dX5_readUnit_215 ?_
                          refine X_topi ((bI_or a).1 (by assumption)) ?_
                          have h01 := bI_01 (a || decide (k = 6))
                          have hS4 := HST_ask (b := (a || decide (k = 6))) hSw rfl
                          refine X_putz dX5_readUnit_216 fkX5_23 rfl (by first | exact Or.inl rfl | exact Or.inr rfl | assumption) rfl (k_22 hSh) ?_
                          refine X_aload_n dX5_readUnit_219 rfl ?_
                          refine X_bipush (v := nI 100) dX5_readUnit_220 (by decide) ?_
                          refine X_iload_n dX5_readUnit_222 rfl ?_
                          refine X_iadd dX5_readUnit_223 ?_
                          refine X_topi (nI_add 100 k) ?_
                          have hle3 : T.length + 1 ≤ wdT B n (skT B n i) := by omega
                          have hS5 := HST_put (t := (1, k)) (v := nI (100 + k)) hS4 hle3 rfl
                          refine X_callVV dX5_readUnit_224 mkX5_49 (k_22 hSh) (c_put Γ g (up2 (up2 (up2 mi 2 2 (nI (skT B n i))) 2 2 (nI (wdT B n (skT B n i)))) 22 2 (bI (a || decide (k = 6)))) ml hSh _ hS4.2.2.1 (by omega) (nI (100 + k))) rfl rfl (by omega) (Nat.le_of_ble_eq_true rfl) ?_
                          refine X_iconst (v := nI 1) dX5_readUnit_227 (by decide) ?_
                          exact X_zret (ty := .boolean) dX5_readUnit_228 rfl (by decide) ⟨rfl, _, rfl, rfl, by rw [show unitR none B n i = .ok (wdT B n (skT B n i), [(1, k)], decide (k = 6)) from by simp only [unitR, sgK, bS, hd, hp, hW, hk, if_true, if_false, Bool.false_eq_true, reduceIte, Nat.reduceLT, Nat.reduceSub]]; exact ⟨rfl, HST_eq hS5 (by simp) (by simp)⟩⟩
                      · exact absurd h_16 (by omega)
                    · exact absurd h_15 (by omega)
                · exact absurd h_13 (by omega)
              · exact absurd h_12 (nI_m1 (by omega))
            · exact absurd h_11 hp
          · exact absurd (bI_0.mpr (byT_dg.trans (by simpa using hd))) h_10
        · have hk3 : k = 11 ∨ k = 12 ∨ k = 13 := by omega
          rcases hk3 with rfl | rfl | rfl
          · skip
            refine X_aload_n dX5_readUnit_0 rfl ?_
            refine X_getr (a := 2) dX5_readUnit_1 fkX5_15 rfl (k_22 hSh) (r_22_3 hSh) ?_
            refine X_callVI dX5_readUnit_4 mkX5_31 (k_2 hSh) (c_peek Γ g mi ml hSh B n i hS.1.1 hS.1.2.1 hS.1.2.2.1 hS.1.2.2.2.1 hS.1.2.2.2.2) rfl rfl (by omega) (Nat.le_of_ble_eq_true rfl) ?_
            refine X_istore_n dX5_readUnit_7 (by decide) ?_
            refine X_iload_n dX5_readUnit_8 rfl ?_
            refine X_callSI dX5_readUnit_9 mkX5_56 (c_TisDigit Γ g (up2 mi 2 2 (nI (skT B n i))) ml (byT B n (skT B n i))) rfl rfl (by omega) (Nat.le_of_ble_eq_true rfl) ?_
            refine X_if_eq 42 dX5_readUnit_12 (by decide) (fun h_18 => ?_) (fun h_18 => ?_)
            · refine X_iload_n dX5_readUnit_42 rfl ?_
              refine X_bipush (v := nI 40) dX5_readUnit_43 (by decide) ?_
              refine X_icmp_ne 96 dX5_readUnit_45 (by decide) (fun h_19 => ?_) (fun h_19 => ?_)
              · refine X_aload_n dX5_readUnit_96 rfl ?_
                refine X_getr (a := 2) dX5_readUnit_97 fkX5_15 rfl (k_22 hSh) (r_22_3 hSh) ?_
                refine X_ldcS (j := 1) dX5_readUnit_100 rfl ?_
                refine X_callVI dX5_readUnit_102 mkX5_72 (k_2 hSh) (c_which Γ g (up2 mi 2 2 (nI (skT B n i))) ml hSh B n (skT B n i) hS1.1 1 (by decide)) rfl rfl (by omega) (Nat.le_of_ble_eq_true rfl) ?_
                refine X_topi (show oI (whN 1 B n (skT B n i)) = nI 11 by rw [whN_eq (by decide), hW]; rfl) ?_
                refine X_istore_n dX5_readUnit_105 (by decide) ?_
                refine X_iload_n dX5_readUnit_106 rfl ?_
                refine X_iconst (v := -1) dX5_readUnit_107 (by decide) ?_
                refine X_icmp_ne 127 dX5_readUnit_108 (by decide) (fun h_20 => ?_) (fun h_20 => ?_)
                · refine X_iload_n dX5_readUnit_127 rfl ?_
                  refine X_bipush (v := nI 11) dX5_readUnit_128 (by decide) ?_
                  refine X_icmp_ltN (a := 11) (b := 11) 143 dX5_readUnit_130 (by decide) (by omega) (by omega) (fun h_21 => ?_) (fun h_21 => ?_)
                  · exact absurd h_21 (by omega)
                  · refine X_aload_n dX5_readUnit_133 rfl ?_
                    refine X_iload_n dX5_readUnit_134 rfl ?_
                    refine X_callVI dX5_readUnit_135 mkX5_63 (k_22 hSh) (c_mayOpen0 Γ g (up2 mi 2 2 (nI (skT B n i))) ml hSh (skT B n i) up2_s) rfl rfl (by omega) (Nat.le_of_ble_eq_true rfl) ?_
                    refine X_if_neN (a := 0) 143 dX5_readUnit_138 (by decide) (by omega) (fun h_22 => ?_) (fun h_22 => ?_)
                    · exact absurd h_22 (by omega)
                    · refine X_iconst (v := nI 0) dX5_readUnit_141 (by decide) ?_
                      exact X_zret (ty := .boolean) dX5_readUnit_142 rfl (by decide) ⟨rfl, _, rfl, rfl, by rw [show unitR none B n i = .error (3, skT B n i) from by simp only [unitR, sgK, bS, hd, hp, hW, if_true, if_false, Bool.false_eq_true, reduceIte, Nat.reduceLT, Nat.reduceSub]]; exact ⟨rfl, HER_of hS1 (fun i h1 => by rw [up2_row h1, up2_row h1]) ((up2_n (by omega)).trans up2_s) up2_s⟩⟩
                · exact absurd h_20 (nI_m1 (by omega))
              · exact absurd h_19 hp
            · exact absurd (bI_0.mpr (byT_dg.trans (by simpa using hd))) h_18
          · skip
            refine X_aload_n dX5_readUnit_0 rfl ?_
            refine X_getr (a := 2) dX5_readUnit_1 fkX5_15 rfl (k_22 hSh) (r_22_3 hSh) ?_
            refine X_callVI dX5_readUnit_4 mkX5_31 (k_2 hSh) (c_peek Γ g mi ml hSh B n i hS.1.1 hS.1.2.1 hS.1.2.2.1 hS.1.2.2.2.1 hS.1.2.2.2.2) rfl rfl (by omega) (Nat.le_of_ble_eq_true rfl) ?_
            refine X_istore_n dX5_readUnit_7 (by decide) ?_
            refine X_iload_n dX5_readUnit_8 rfl ?_
            refine X_callSI dX5_readUnit_9 mkX5_56 (c_TisDigit Γ g (up2 mi 2 2 (nI (skT B n i))) ml (byT B n (skT B n i))) rfl rfl (by omega) (Nat.le_of_ble_eq_true rfl) ?_
            refine X_if_eq 42 dX5_readUnit_12 (by decide) (fun h_23 => ?_) (fun h_23 => ?_)
            · refine X_iload_n dX5_readUnit_42 rfl ?_
              refine X_bipush (v := nI 40) dX5_readUnit_43 (by decide) ?_
              refine X_icmp_ne 96 dX5_readUnit_45 (by decide) (fun h_24 => ?_) (fun h_24 => ?_)
              · refine X_aload_n dX5_readUnit_96 rfl ?_
                refine X_getr (a := 2) dX5_readUnit_97 fkX5_15 rfl (k_22 hSh) (r_22_3 hSh) ?_
                refine X_ldcS (j := 1) dX5_readUnit_100 rfl ?_
                refine X_callVI dX5_readUnit_102 mkX5_72 (k_2 hSh) (c_which Γ g (up2 mi 2 2 (nI (skT B n i))) ml hSh B n (skT B n i) hS1.1 1 (by decide)) rfl rfl (by omega) (Nat.le_of_ble_eq_true rfl) ?_
                refine X_topi (show oI (whN 1 B n (skT B n i)) = nI 12 by rw [whN_eq (by decide), hW]; rfl) ?_
                refine X_istore_n dX5_readUnit_105 (by decide) ?_
                refine X_iload_n dX5_readUnit_106 rfl ?_
                refine X_iconst (v := -1) dX5_readUnit_107 (by decide) ?_
                refine X_icmp_ne 127 dX5_readUnit_108 (by decide) (fun h_25 => ?_) (fun h_25 => ?_)
                · refine X_iload_n dX5_readUnit_127 rfl ?_
                  refine X_bipush (v := nI 11) dX5_readUnit_128 (by decide) ?_
                  refine X_icmp_ltN (a := 12) (b := 11) 143 dX5_readUnit_130 (by decide) (by omega) (by omega) (fun h_26 => ?_) (fun h_26 => ?_)
                  · exact absurd h_26 (by omega)
                  · refine X_aload_n dX5_readUnit_133 rfl ?_
                    refine X_iload_n dX5_readUnit_134 rfl ?_
                    refine X_callVI dX5_readUnit_135 mkX5_63 (k_22 hSh) (c_mayOpen0 Γ g (up2 mi 2 2 (nI (skT B n i))) ml hSh (skT B n i) up2_s) rfl rfl (by omega) (Nat.le_of_ble_eq_true rfl) ?_
                    refine X_if_neN (a := 0) 143 dX5_readUnit_138 (by decide) (by omega) (fun h_27 => ?_) (fun h_27 => ?_)
                    · exact absurd h_27 (by omega)
                    · refine X_iconst (v := nI 0) dX5_readUnit_141 (by decide) ?_
                      exact X_zret (ty := .boolean) dX5_readUnit_142 rfl (by decide) ⟨rfl, _, rfl, rfl, by rw [show unitR none B n i = .error (3, skT B n i) from by simp only [unitR, sgK, bS, hd, hp, hW, if_true, if_false, Bool.false_eq_true, reduceIte, Nat.reduceLT, Nat.reduceSub]]; exact ⟨rfl, HER_of hS1 (fun i h1 => by rw [up2_row h1, up2_row h1]) ((up2_n (by omega)).trans up2_s) up2_s⟩⟩
                · exact absurd h_25 (nI_m1 (by omega))
              · exact absurd h_24 hp
            · exact absurd (bI_0.mpr (byT_dg.trans (by simpa using hd))) h_23
          · skip
            refine X_aload_n dX5_readUnit_0 rfl ?_
            refine X_getr (a := 2) dX5_readUnit_1 fkX5_15 rfl (k_22 hSh) (r_22_3 hSh) ?_
            refine X_callVI dX5_readUnit_4 mkX5_31 (k_2 hSh) (c_peek Γ g mi ml hSh B n i hS.1.1 hS.1.2.1 hS.1.2.2.1 hS.1.2.2.2.1 hS.1.2.2.2.2) rfl rfl (by omega) (Nat.le_of_ble_eq_true rfl) ?_
            refine X_istore_n dX5_readUnit_7 (by decide) ?_
            refine X_iload_n dX5_readUnit_8 rfl ?_
            refine X_callSI dX5_readUnit_9 mkX5_56 (c_TisDigit Γ g (up2 mi 2 2 (nI (skT B n i))) ml (byT B n (skT B n i))) rfl rfl (by omega) (Nat.le_of_ble_eq_true rfl) ?_
            refine X_if_eq 42 dX5_readUnit_12 (by decide) (fun h_28 => ?_) (fun h_28 => ?_)
            · refine X_iload_n dX5_readUnit_42 rfl ?_
              refine X_bipush (v := nI 40) dX5_readUnit_43 (by decide) ?_
              refine X_icmp_ne 96 dX5_readUnit_45 (by decide) (fun h_29 => ?_) (fun h_29 => ?_)
              · refine X_aload_n dX5_readUnit_96 rfl ?_
                refine X_getr (a := 2) dX5_readUnit_97 fkX5_15 rfl (k_22 hSh) (r_22_3 hSh) ?_
                refine X_ldcS (j := 1) dX5_readUnit_100 rfl ?_
                refine X_callVI dX5_readUnit_102 mkX5_72 (k_2 hSh) (c_which Γ g (up2 mi 2 2 (nI (skT B n i))) ml hSh B n (skT B n i) hS1.1 1 (by decide)) rfl rfl (by omega) (Nat.le_of_ble_eq_true rfl) ?_
                refine X_topi (show oI (whN 1 B n (skT B n i)) = nI 13 by rw [whN_eq (by decide), hW]; rfl) ?_
                refine X_istore_n dX5_readUnit_105 (by decide) ?_
                refine X_iload_n dX5_readUnit_106 rfl ?_
                refine X_iconst (v := -1) dX5_readUnit_107 (by decide) ?_
                refine X_icmp_ne 127 dX5_readUnit_108 (by decide) (fun h_30 => ?_) (fun h_30 => ?_)
                · refine X_iload_n dX5_readUnit_127 rfl ?_
                  refine X_bipush (v := nI 11) dX5_readUnit_128 (by decide) ?_
                  refine X_icmp_ltN (a := 13) (b := 11) 143 dX5_readUnit_130 (by decide) (by omega) (by omega) (fun h_31 => ?_) (fun h_31 => ?_)
                  · exact absurd h_31 (by omega)
                  · refine X_aload_n dX5_readUnit_133 rfl ?_
                    refine X_iload_n dX5_readUnit_134 rfl ?_
                    refine X_callVI dX5_readUnit_135 mkX5_63 (k_22 hSh) (c_mayOpen0 Γ g (up2 mi 2 2 (nI (skT B n i))) ml hSh (skT B n i) up2_s) rfl rfl (by omega) (Nat.le_of_ble_eq_true rfl) ?_
                    refine X_if_neN (a := 0) 143 dX5_readUnit_138 (by decide) (by omega) (fun h_32 => ?_) (fun h_32 => ?_)
                    · exact absurd h_32 (by omega)
                    · refine X_iconst (v := nI 0) dX5_readUnit_141 (by decide) ?_
                      exact X_zret (ty := .boolean) dX5_readUnit_142 rfl (by decide) ⟨rfl, _, rfl, rfl, by rw [show unitR none B n i = .error (3, skT B n i) from by simp only [unitR, sgK, bS, hd, hp, hW, if_true, if_false, Bool.false_eq_true, reduceIte, Nat.reduceLT, Nat.reduceSub]]; exact ⟨rfl, HER_of hS1 (fun i h1 => by rw [up2_row h1, up2_row h1]) ((up2_n (by omega)).trans up2_s) up2_s⟩⟩
                · exact absurd h_30 (nI_m1 (by omega))
              · exact absurd h_29 hp
            · exact absurd (bI_0.mpr (byT_dg.trans (by simpa using hd))) h_28
set_option maxRecDepth 100000 in
set_option maxHeartbeats 4000000 in
theorem hc_unitS (Γ : pTG) (g : pGG) (ml : pML) (hSh : Sh g) (B : Nat → Int32) (n : Nat) (D op : Nat) (hD : 10 ≤ D) (ho : op < 6) (S : hFn) (hU : HC Γ g ml B n D mX5_readSum (op + 1) S) (hUO : UOK n S) : HC Γ g ml B n (D + 2) mX5_readUnit op (unitR (some S) B n) := by
  intro m0 mi i T a hS
  refine rI_of (by decide +kernel) (Nat.le_of_ble_eq_true rfl) ?_
  have hin := hS.1.2.1
  have hn15 := hS.2.1
  have hTl := hS.2.2.2.2.2.1
  have hs1 := skT_le (B := B) hS.1.2.1
  have hs2 := skT_ge (B := B) (n := n) (i := i)
  have hS1 := HST_at hS hs1 hs2
  have hwl := wdT_le (B := B) hs1
  have hwg := wdT_ge (B := B) (n := n) (i := skT B n i)
  have hSw := HST_at hS1 hwl hwg
  by_cases hd : dgP B n (skT B n i) = true
  · skip
    refine X_aload_n dX5_readUnit_0 rfl ?_
    refine X_getr (a := 2) dX5_readUnit_1 fkX5_15 rfl (k_22 hSh) (r_22_3 hSh) ?_
    refine X_callVI dX5_readUnit_4 mkX5_31 (k_2 hSh) (c_peek Γ g mi ml hSh B n i hS.1.1 hS.1.2.1 hS.1.2.2.1 hS.1.2.2.2.1 hS.1.2.2.2.2) rfl rfl (by omega) (Nat.le_of_ble_eq_true rfl) ?_
    refine X_istore_n dX5_readUnit_7 (by decide) ?_
    refine X_iload_n dX5_readUnit_8 rfl ?_
    refine X_callSI dX5_readUnit_9 mkX5_56 (c_TisDigit Γ g (up2 mi 2 2 (nI (skT B n i))) ml (byT B n (skT B n i))) rfl rfl (by omega) (Nat.le_of_ble_eq_true rfl) ?_
    refine X_if_eq 42 dX5_readUnit_12 (by decide) (fun h_1 => ?_) (fun h_1 => ?_)
    · exact absurd (bI_0.mp h_1) (by rw [byT_dg, hd]; decide)
    · refine X_aload_n dX5_readUnit_15 rfl ?_
      refine X_getr (a := 2) dX5_readUnit_16 fkX5_15 rfl (k_22 hSh) (r_22_3 hSh) ?_
      refine X_iconst (v := nI 0) dX5_readUnit_19 (by decide) ?_
      refine X_bipush (v := nI 99) dX5_readUnit_20 (by decide) ?_
      match hN : numR B n i 0 100 with
      | .error (k1, p1) =>
        obtain ⟨q1, hq1, hC1⟩ := c_numE Γ g (up2 mi 2 2 (nI (skT B n i))) ml hSh B n (skT B n i) hS1.1 0 100 (nI 99) (by omega) (by omega) (hH_of (by omega)) (numR_sk.trans hN)
        refine X_callVI dX5_readUnit_22 mkX5_59 (k_2 hSh) (hC1) rfl rfl (by omega) (Nat.le_of_ble_eq_true rfl) ?_
        refine X_istore_n dX5_readUnit_25 (by decide) ?_
        refine X_aload_n dX5_readUnit_26 rfl ?_
        refine X_iload_n dX5_readUnit_27 rfl ?_
        have hEr : HER m0 (up2 (up2 (up2 (up2 mi 2 2 (nI (skT B n i))) 2 2 (nI q1)) 2 3 (nI k1)) 2 4 (nI p1)) k1 p1 := HER_of hS1 (fun i h1 => by rw [up2_row h1, up2_row h1, up2_row h1]) ((up2_n (by omega)).trans up2_s) up2_s
        refine X_callVrV dX5_readUnit_28 mkX5_49 (k_22 hSh) (c_putE Γ g (up2 (up2 (up2 (up2 mi 2 2 (nI (skT B n i))) 2 2 (nI q1)) 2 3 (nI k1)) 2 4 (nI p1)) ml hSh hEr (-1)) rfl rfl (by omega) (Nat.le_of_ble_eq_true rfl) (fun m9 l9 hm9 => ?_)
        obtain ⟨hm9, hl9⟩ := hm9
        rw [hl9]
        refine X_iload_n dX5_readUnit_31 rfl ?_
        refine X_iconst (v := -1) dX5_readUnit_32 (by decide) ?_
        refine X_icmp_eq 40 dX5_readUnit_33 (by decide) (fun h_2 => ?_) (fun h_2 => ?_)
        · refine X_iconst (v := nI 0) dX5_readUnit_40 (by decide) ?_
          exact X_zret (ty := .boolean) dX5_readUnit_41 rfl (by decide) ⟨rfl, _, rfl, rfl, by rw [show unitR (some S) B n i = .error (k1, p1) from by simp only [unitR, sgK, bS, hd, hN, if_true, if_false, Bool.false_eq_true, reduceIte, Nat.reduceLT, Nat.reduceSub]]; exact ⟨rfl, hm9⟩⟩
        · exact absurd rfl h_2
      | .ok (v1, e1) =>
        obtain ⟨hC1, he1, hi1, hl1, hv1⟩ := c_numOK Γ g (up2 mi 2 2 (nI (skT B n i))) ml hSh B n (skT B n i) hS1.1 0 100 (nI 99) (by omega) (by omega) (hH_of (by omega)) (numR_sk.trans hN)
        have hS2 := HST_at hS1 he1 (by omega)
        refine X_callVI dX5_readUnit_22 mkX5_59 (k_2 hSh) (hC1) rfl rfl (by omega) (Nat.le_of_ble_eq_true rfl) ?_
        refine X_istore_n dX5_readUnit_25 (by decide) ?_
        refine X_aload_n dX5_readUnit_26 rfl ?_
        refine X_iload_n dX5_readUnit_27 rfl ?_
        have hle3 : T.length + 1 ≤ e1 := by omega
        have hS3 := HST_put (t := (0, v1)) (v := nI v1) hS2 hle3 rfl
        refine X_callVV dX5_readUnit_28 mkX5_49 (k_22 hSh) (c_put Γ g (up2 (up2 mi 2 2 (nI (skT B n i))) 2 2 (nI e1)) ml hSh _ hS2.2.2.1 (by omega) (nI v1)) rfl rfl (by omega) (Nat.le_of_ble_eq_true rfl) ?_
        refine X_iload_n dX5_readUnit_31 rfl ?_
        refine X_iconst (v := -1) dX5_readUnit_32 (by decide) ?_
        refine X_icmp_eq 40 dX5_readUnit_33 (by decide) (fun h_3 => ?_) (fun h_3 => ?_)
        · exact absurd h_3 (nI_m1 (by omega))
        · refine X_iconst (v := nI 1) dX5_readUnit_36 (by decide) ?_
          refine X_goto 41 dX5_readUnit_37 (by decide) ?_
          exact X_zret (ty := .boolean) dX5_readUnit_41 rfl (by decide) ⟨rfl, _, rfl, rfl, by rw [show unitR (some S) B n i = .ok (e1, [(0, v1)], false) from by simp only [unitR, sgK, bS, hd, hN, if_true, if_false, Bool.false_eq_true, reduceIte, Nat.reduceLT, Nat.reduceSub]]; exact ⟨rfl, HST_eq hS3 (by simp) (by simp)⟩⟩
  · by_cases hp : byT B n (skT B n i) = nI 40
    · skip
      refine X_aload_n dX5_readUnit_0 rfl ?_
      refine X_getr (a := 2) dX5_readUnit_1 fkX5_15 rfl (k_22 hSh) (r_22_3 hSh) ?_
      refine X_callVI dX5_readUnit_4 mkX5_31 (k_2 hSh) (c_peek Γ g mi ml hSh B n i hS.1.1 hS.1.2.1 hS.1.2.2.1 hS.1.2.2.2.1 hS.1.2.2.2.2) rfl rfl (by omega) (Nat.le_of_ble_eq_true rfl) ?_
      refine X_istore_n dX5_readUnit_7 (by decide) ?_
      refine X_iload_n dX5_readUnit_8 rfl ?_
      refine X_callSI dX5_readUnit_9 mkX5_56 (c_TisDigit Γ g (up2 mi 2 2 (nI (skT B n i))) ml (byT B n (skT B n i))) rfl rfl (by omega) (Nat.le_of_ble_eq_true rfl) ?_
      refine X_if_eq 42 dX5_readUnit_12 (by decide) (fun h_4 => ?_) (fun h_4 => ?_)
      · refine X_iload_n dX5_readUnit_42 rfl ?_
        refine X_bipush (v := nI 40) dX5_readUnit_43 (by decide) ?_
        refine X_icmp_ne 96 dX5_readUnit_45 (by decide) (fun h_5 => ?_) (fun h_5 => ?_)
        · exact absurd hp h_5
        · refine X_aload_n dX5_readUnit_48 rfl ?_
          refine X_iload_n dX5_readUnit_49 rfl ?_
          refine X_callVI dX5_readUnit_50 mkX5_63 (k_22 hSh) (c_mayOpen1 Γ g (up2 mi 2 2 (nI (skT B n i))) ml hSh op ho) rfl rfl (by omega) (Nat.le_of_ble_eq_true rfl) ?_
          refine X_if_eqN (a := 1) 94 dX5_readUnit_53 (by decide) (by omega) (fun h_6 => ?_) (fun h_6 => ?_)
          · exact absurd h_6 (by omega)
          · refine X_aload_n dX5_readUnit_56 rfl ?_
            refine X_getr (a := 2) dX5_readUnit_57 fkX5_15 rfl (k_22 hSh) (r_22_3 hSh) ?_
            refine X_bipush (v := nI 40) dX5_readUnit_60 (by decide) ?_
            have hts := c_takeSign1 Γ g (up2 mi 2 2 (nI (skT B n i))) ml hSh B n (skT B n i) hS1.1 (nI 40) (by rw [skT_sk]; exact hp)
            rw [skT_sk, up2_up2] at hts
            have hS2 := HST_at hS (by_lt hp) (show i ≤ skT B n i + 1 by omega)
            refine X_callVI dX5_readUnit_62 mkX5_66 (k_2 hSh) (hts) rfl rfl (by omega) (Nat.le_of_ble_eq_true rfl) ?_
            refine X_if_eqN (a := 1) 94 dX5_readUnit_65 (by decide) (by omega) (fun h_7 => ?_) (fun h_7 => ?_)
            · exact absurd h_7 (by omega)
            · refine X_aload_n dX5_readUnit_68 rfl ?_
              refine X_iload_n dX5_readUnit_69 rfl ?_
              refine X_iconst (v := nI 1) dX5_readUnit_70 (by decide) ?_
              refine X_iadd dX5_readUnit_71 ?_
              refine X_topi (nI_add op 1) ?_
              match hU1 : S (skT B n i + 1) with
              | .error (k1, p1) =>
                refine X_callVrI dX5_readUnit_72 mkX5_27 (k_22 hSh) (hU m0 _ (skT B n i + 1) T a hS2) rfl rfl (by omega) (Nat.le_of_ble_eq_true rfl) (fun v1 m1 l1 hm1 => ?_)
                rw [hU1] at hm1
                obtain ⟨hL1, rfl, hm1⟩ := hm1
                rw [hL1]
                refine X_if_eqN (a := 0) 94 dX5_readUnit_75 (by decide) (by omega) (fun h_8 => ?_) (fun h_8 => ?_)
                · refine X_iconst (v := nI 0) dX5_readUnit_94 (by decide) ?_
                  exact X_zret (ty := .boolean) dX5_readUnit_95 rfl (by decide) ⟨rfl, _, rfl, rfl, by rw [show unitR (some S) B n i = .error (k1, p1) from by simp only [unitR, sgK, bS, hd, hp, hU1, if_true, if_false, Bool.false_eq_true, reduceIte, Nat.reduceLT, Nat.reduceSub]]; exact ⟨rfl, hm1⟩⟩
                · exact absurd h_8 (by omega)
              | .ok (e1, t1, b1) =>
                obtain ⟨hb1, hc1, hd1⟩ := (hUO _ hS2.1.2.1).1 e1 t1 b1 hU1
                refine X_callVrI dX5_readUnit_72 mkX5_27 (k_22 hSh) (hU m0 _ (skT B n i + 1) T a hS2) rfl rfl (by omega) (Nat.le_of_ble_eq_true rfl) (fun v1 m1 l1 hm1 => ?_)
                rw [hU1] at hm1
                obtain ⟨hL1, rfl, hm1⟩ := hm1
                rw [hL1]
                have hlen1 := List.length_append (as := T) (bs := t1)
                refine X_if_eqN (a := 1) 94 dX5_readUnit_75 (by decide) (by omega) (fun h_9 => ?_) (fun h_9 => ?_)
                · exact absurd h_9 (by omega)
                · refine X_aload_n dX5_readUnit_78 rfl ?_
                  refine X_getr (a := 2) dX5_readUnit_79 fkX5_15 rfl (k_22 hSh) (r_22_3 hSh) ?_
                  refine X_bipush (v := nI 41) dX5_readUnit_82 (by decide) ?_
                  by_cases hs2 : byT B n (skT B n e1) = nI 41
                  ·
                    have hl2 := by_lt hs2
                    have hg2 := skT_ge (B := B) (n := n) (i := e1)
                    have hS2 := HST_at hm1 hl2 (by omega)
                    refine X_callVI dX5_readUnit_84 mkX5_66 (k_2 hSh) (c_takeSign1 Γ g m1 ml hSh B n e1 hm1.1 (nI 41) hs2) rfl rfl (by omega) (Nat.le_of_ble_eq_true rfl) ?_
                    refine X_if_eqN (a := 1) 94 dX5_readUnit_87 (by decide) (by omega) (fun h_10 => ?_) (fun h_10 => ?_)
                    · exact absurd h_10 (by omega)
                    · refine X_iconst (v := nI 1) dX5_readUnit_90 (by decide) ?_
                      refine X_goto 95 dX5_readUnit_91 (by decide) ?_
                      exact X_zret (ty := .boolean) dX5_readUnit_95 rfl (by decide) ⟨rfl, _, rfl, rfl, by rw [show unitR (some S) B n i = .ok (skT B n e1 + 1, t1, b1) from by simp only [unitR, sgK, bS, hd, hp, hU1, hs2, if_true, if_false, Bool.false_eq_true, reduceIte, Nat.reduceLT, Nat.reduceSub]]; exact ⟨rfl, HST_eq hS2 (by simp) (by simp)⟩⟩
                  ·
                    refine X_callVI dX5_readUnit_84 mkX5_66 (k_2 hSh) (c_takeSign0 Γ g m1 ml hSh B n e1 hm1.1 (nI 41) hs2) rfl rfl (by omega) (Nat.le_of_ble_eq_true rfl) ?_
                    refine X_if_eqN (a := 0) 94 dX5_readUnit_87 (by decide) (by omega) (fun h_11 => ?_) (fun h_11 => ?_)
                    · refine X_iconst (v := nI 0) dX5_readUnit_94 (by decide) ?_
                      exact X_zret (ty := .boolean) dX5_readUnit_95 rfl (by decide) ⟨rfl, _, rfl, rfl, by rw [show unitR (some S) B n i = .error (1, skT B n e1) from by simp only [unitR, sgK, bS, hd, hp, hU1, hs2, if_true, if_false, Bool.false_eq_true, reduceIte, Nat.reduceLT, Nat.reduceSub]]; exact ⟨rfl, HER_of hm1 (fun i h1 => by rw [up2_row h1, up2_row h1, up2_row h1]) ((up2_n (by omega)).trans up2_s) up2_s⟩⟩
                    · exact absurd h_11 (by omega)
      · exact absurd (bI_0.mpr (byT_dg.trans (by simpa using hd))) h_4
    · match hW : wIx 1 B n (skT B n i) with
      | none =>
        refine X_aload_n dX5_readUnit_0 rfl ?_
        refine X_getr (a := 2) dX5_readUnit_1 fkX5_15 rfl (k_22 hSh) (r_22_3 hSh) ?_
        refine X_callVI dX5_readUnit_4 mkX5_31 (k_2 hSh) (c_peek Γ g mi ml hSh B n i hS.1.1 hS.1.2.1 hS.1.2.2.1 hS.1.2.2.2.1 hS.1.2.2.2.2) rfl rfl (by omega) (Nat.le_of_ble_eq_true rfl) ?_
        refine X_istore_n dX5_readUnit_7 (by decide) ?_
        refine X_iload_n dX5_readUnit_8 rfl ?_
        refine X_callSI dX5_readUnit_9 mkX5_56 (c_TisDigit Γ g (up2 mi 2 2 (nI (skT B n i))) ml (byT B n (skT B n i))) rfl rfl (by omega) (Nat.le_of_ble_eq_true rfl) ?_
        refine X_if_eq 42 dX5_readUnit_12 (by decide) (fun h_12 => ?_) (fun h_12 => ?_)
        · refine X_iload_n dX5_readUnit_42 rfl ?_
          refine X_bipush (v := nI 40) dX5_readUnit_43 (by decide) ?_
          refine X_icmp_ne 96 dX5_readUnit_45 (by decide) (fun h_13 => ?_) (fun h_13 => ?_)
          · refine X_aload_n dX5_readUnit_96 rfl ?_
            refine X_getr (a := 2) dX5_readUnit_97 fkX5_15 rfl (k_22 hSh) (r_22_3 hSh) ?_
            refine X_ldcS (j := 1) dX5_readUnit_100 rfl ?_
            refine X_callVI dX5_readUnit_102 mkX5_72 (k_2 hSh) (c_which Γ g (up2 mi 2 2 (nI (skT B n i))) ml hSh B n (skT B n i) hS1.1 1 (by decide)) rfl rfl (by omega) (Nat.le_of_ble_eq_true rfl) ?_
            refine X_topi (show oI (whN 1 B n (skT B n i)) = -1 by rw [whN_eq (by decide), hW]; rfl) ?_
            refine X_istore_n dX5_readUnit_105 (by decide) ?_
            refine X_iload_n dX5_readUnit_106 rfl ?_
            refine X_iconst (v := -1) dX5_readUnit_107 (by decide) ?_
            refine X_icmp_ne 127 dX5_readUnit_108 (by decide) (fun h_14 => ?_) (fun h_14 => ?_)
            · exact absurd rfl h_14
            · refine X_aload_n dX5_readUnit_111 rfl ?_
              refine X_getr (a := 2) dX5_readUnit_112 fkX5_15 rfl (k_22 hSh) (r_22_3 hSh) ?_
              refine X_iconst (v := nI 1) dX5_readUnit_115 (by decide) ?_
              refine X_aload_n dX5_readUnit_116 rfl ?_
              refine X_getr (a := 2) dX5_readUnit_117 fkX5_15 rfl (k_22 hSh) (r_22_3 hSh) ?_
              refine X_geti dX5_readUnit_120 fkX5_37 rfl (k_2 hSh) ?_
              rw [up2_s]
              refine X_callVI dX5_readUnit_123 mkX5_40 (k_2 hSh) (c_fail Γ g (up2 mi 2 2 (nI (skT B n i))) ml hSh (nI 1) (nI (skT B n i))) rfl rfl (by omega) (Nat.le_of_ble_eq_true rfl) ?_
              exact X_zret (ty := .boolean) dX5_readUnit_126 rfl (by decide) ⟨rfl, _, rfl, rfl, by rw [show unitR (some S) B n i = .error (1, skT B n i) from by simp only [unitR, sgK, bS, hd, hp, hW, if_true, if_false, Bool.false_eq_true, reduceIte, Nat.reduceLT, Nat.reduceSub]]; exact ⟨rfl, HER_of hS1 (fun i h1 => by rw [up2_row h1, up2_row h1]) ((up2_n (by omega)).trans up2_s) up2_s⟩⟩
          · exact absurd h_13 hp
        · exact absurd (bI_0.mpr (byT_dg.trans (by simpa using hd))) h_12
      | some k =>
        have hk14 : k < 14 := (wIx_s hW).1
        have hgt := wdT_gt (by decide) hW
        by_cases hk : k < 11
        · skip
          refine X_aload_n dX5_readUnit_0 rfl ?_
          refine X_getr (a := 2) dX5_readUnit_1 fkX5_15 rfl (k_22 hSh) (r_22_3 hSh) ?_
          refine X_callVI dX5_readUnit_4 mkX5_31 (k_2 hSh) (c_peek Γ g mi ml hSh B n i hS.1.1 hS.1.2.1 hS.1.2.2.1 hS.1.2.2.2.1 hS.1.2.2.2.2) rfl rfl (by omega) (Nat.le_of_ble_eq_true rfl) ?_
          refine X_istore_n dX5_readUnit_7 (by decide) ?_
          refine X_iload_n dX5_readUnit_8 rfl ?_
          refine X_callSI dX5_readUnit_9 mkX5_56 (c_TisDigit Γ g (up2 mi 2 2 (nI (skT B n i))) ml (byT B n (skT B n i))) rfl rfl (by omega) (Nat.le_of_ble_eq_true rfl) ?_
          refine X_if_eq 42 dX5_readUnit_12 (by decide) (fun h_15 => ?_) (fun h_15 => ?_)
          · refine X_iload_n dX5_readUnit_42 rfl ?_
            refine X_bipush (v := nI 40) dX5_readUnit_43 (by decide) ?_
            refine X_icmp_ne 96 dX5_readUnit_45 (by decide) (fun h_16 => ?_) (fun h_16 => ?_)
            · refine X_aload_n dX5_readUnit_96 rfl ?_
              refine X_getr (a := 2) dX5_readUnit_97 fkX5_15 rfl (k_22 hSh) (r_22_3 hSh) ?_
              refine X_ldcS (j := 1) dX5_readUnit_100 rfl ?_
              refine X_callVI dX5_readUnit_102 mkX5_72 (k_2 hSh) (c_which Γ g (up2 mi 2 2 (nI (skT B n i))) ml hSh B n (skT B n i) hS1.1 1 (by decide)) rfl rfl (by omega) (Nat.le_of_ble_eq_true rfl) ?_
              refine X_topi (show oI (whN 1 B n (skT B n i)) = nI k by rw [whN_eq (by decide), hW]; rfl) ?_
              refine X_istore_n dX5_readUnit_105 (by decide) ?_
              refine X_iload_n dX5_readUnit_106 rfl ?_
              refine X_iconst (v := -1) dX5_readUnit_107 (by decide) ?_
              refine X_icmp_ne 127 dX5_readUnit_108 (by decide) (fun h_17 => ?_) (fun h_17 => ?_)
              · refine X_iload_n dX5_readUnit_127 rfl ?_
                refine X_bipush (v := nI 11) dX5_readUnit_128 (by decide) ?_
                refine X_icmp_ltN (a := k) (b := 11) 143 dX5_readUnit_130 (by decide) (by omega) (by omega) (fun h_18 => ?_) (fun h_18 => ?_)
                · refine X_aload_n dX5_readUnit_143 rfl ?_
                  refine X_getr (a := 2) dX5_readUnit_144 fkX5_15 rfl (k_22 hSh) (r_22_3 hSh) ?_
                  refine X_callVV dX5_readUnit_147 mkX5_76 (k_2 hSh) (c_passWord Γ g (up2 mi 2 2 (nI (skT B n i))) ml hSh B n (skT B n i) hS1.1.1 hS1.1.2.1 hS1.1.2.2.1 hS1.1.2.2.2.1 hS1.1.2.2.2.2) rfl rfl (by omega) (Nat.le_of_ble_eq_true rfl) ?_
                  refine X_iload_n dX5_readUnit_150 rfl ?_
                  refine X_bipush (v := nI 11) dX5_readUnit_151 (by decide) ?_
                  refine X_icmp_eqN (a := k) (b := 11) 162 dX5_readUnit_153 (by decide) (by omega) (by omega) (fun h_19 => ?_) (fun h_19 => ?_)
                  · exact absurd h_19 (by omega)
                  · refine X_iload_n dX5_readUnit_156 rfl ?_
                    refine X_bipush (v := nI 12) dX5_readUnit_157 (by decide) ?_
                    refine X_icmp_neN (a := k) (b := 12) 185 dX5_readUnit_159 (by decide) (by omega) (by omega) (fun h_20 => ?_) (fun h_20 => ?_)
                    · refine X_iload_n dX5_readUnit_185 rfl ?_
                      refine X_bipush (v := nI 13) dX5_readUnit_186 (by decide) ?_
                      refine X_icmp_neN (a := k) (b := 13) 199 dX5_readUnit_188 (by decide) (by omega) (by omega) (fun h_21 => ?_) (fun h_21 => ?_)
                      · refine X_aload_n dX5_readUnit_199 rfl ?_
                        refine X_dup dX5_readUnit_200 rfl ?_
                        refine X_geti dX5_readUnit_201 fkX5_23 rfl (k_22 hSh) ?_
                        rw [hSw.2.2.2.2.1]
                        refine X_iload_n dX5_readUnit_204 rfl ?_
                        refine X_bipush (v := nI 6) dX5_readUnit_205 (by decide) ?_
                        refine X_icmp_neN (a := k) (b := 6) 214 dX5_readUnit_207 (by decide) (by omega) (by omega) (fun h_22 => ?_) (fun h_22 => ?_)
                        · refine X_iconst (v := nI 0) dX5_readUnit_214 (by decide) ?_
                          refine X_ior dX5_readUnit_215 ?_
                          refine X_topi ((bI_or a).2 (by assumption)) ?_
                          have h01 := bI_01 (a || decide (k = 6))
                          have hS4 := HST_ask (b := (a || decide (k = 6))) hSw rfl
                          refine X_putz dX5_readUnit_216 fkX5_23 rfl (by first | exact Or.inl rfl | exact Or.inr rfl | assumption) rfl (k_22 hSh) ?_
                          refine X_aload_n dX5_readUnit_219 rfl ?_
                          refine X_bipush (v := nI 100) dX5_readUnit_220 (by decide) ?_
                          refine X_iload_n dX5_readUnit_222 rfl ?_
                          refine X_iadd dX5_readUnit_223 ?_
                          refine X_topi (nI_add 100 k) ?_
                          have hle3 : T.length + 1 ≤ wdT B n (skT B n i) := by omega
                          have hS5 := HST_put (t := (1, k)) (v := nI (100 + k)) hS4 hle3 rfl
                          refine X_callVV dX5_readUnit_224 mkX5_49 (k_22 hSh) (c_put Γ g (up2 (up2 (up2 mi 2 2 (nI (skT B n i))) 2 2 (nI (wdT B n (skT B n i)))) 22 2 (bI (a || decide (k = 6)))) ml hSh _ hS4.2.2.1 (by omega) (nI (100 + k))) rfl rfl (by omega) (Nat.le_of_ble_eq_true rfl) ?_
                          refine X_iconst (v := nI 1) dX5_readUnit_227 (by decide) ?_
                          exact X_zret (ty := .boolean) dX5_readUnit_228 rfl (by decide) ⟨rfl, _, rfl, rfl, by rw [show unitR (some S) B n i = .ok (wdT B n (skT B n i), [(1, k)], decide (k = 6)) from by simp only [unitR, sgK, bS, hd, hp, hW, hk, if_true, if_false, Bool.false_eq_true, reduceIte, Nat.reduceLT, Nat.reduceSub]]; exact ⟨rfl, HST_eq hS5 (by simp) (by simp)⟩⟩
                        · refine X_iconst (v := nI 1) dX5_readUnit_210 (by decide) ?_
                          refine X_goto 215 dX5_readUnit_211 (by decide) ?_
                          refine X_ior dX5_readUnit_215 ?_
                          refine X_topi ((bI_or a).1 (by assumption)) ?_
                          have h01 := bI_01 (a || decide (k = 6))
                          have hS4 := HST_ask (b := (a || decide (k = 6))) hSw rfl
                          refine X_putz dX5_readUnit_216 fkX5_23 rfl (by first | exact Or.inl rfl | exact Or.inr rfl | assumption) rfl (k_22 hSh) ?_
                          refine X_aload_n dX5_readUnit_219 rfl ?_
                          refine X_bipush (v := nI 100) dX5_readUnit_220 (by decide) ?_
                          refine X_iload_n dX5_readUnit_222 rfl ?_
                          refine X_iadd dX5_readUnit_223 ?_
                          refine X_topi (nI_add 100 k) ?_
                          have hle3 : T.length + 1 ≤ wdT B n (skT B n i) := by omega
                          have hS5 := HST_put (t := (1, k)) (v := nI (100 + k)) hS4 hle3 rfl
                          refine X_callVV dX5_readUnit_224 mkX5_49 (k_22 hSh) (c_put Γ g (up2 (up2 (up2 mi 2 2 (nI (skT B n i))) 2 2 (nI (wdT B n (skT B n i)))) 22 2 (bI (a || decide (k = 6)))) ml hSh _ hS4.2.2.1 (by omega) (nI (100 + k))) rfl rfl (by omega) (Nat.le_of_ble_eq_true rfl) ?_
                          refine X_iconst (v := nI 1) dX5_readUnit_227 (by decide) ?_
                          exact X_zret (ty := .boolean) dX5_readUnit_228 rfl (by decide) ⟨rfl, _, rfl, rfl, by rw [show unitR (some S) B n i = .ok (wdT B n (skT B n i), [(1, k)], decide (k = 6)) from by simp only [unitR, sgK, bS, hd, hp, hW, hk, if_true, if_false, Bool.false_eq_true, reduceIte, Nat.reduceLT, Nat.reduceSub]]; exact ⟨rfl, HST_eq hS5 (by simp) (by simp)⟩⟩
                      · exact absurd h_21 (by omega)
                    · exact absurd h_20 (by omega)
                · exact absurd h_18 (by omega)
              · exact absurd h_17 (nI_m1 (by omega))
            · exact absurd h_16 hp
          · exact absurd (bI_0.mpr (byT_dg.trans (by simpa using hd))) h_15
        · have hk3 : k = 11 ∨ k = 12 ∨ k = 13 := by omega
          rcases hk3 with rfl | rfl | rfl
          · skip
            refine X_aload_n dX5_readUnit_0 rfl ?_
            refine X_getr (a := 2) dX5_readUnit_1 fkX5_15 rfl (k_22 hSh) (r_22_3 hSh) ?_
            refine X_callVI dX5_readUnit_4 mkX5_31 (k_2 hSh) (c_peek Γ g mi ml hSh B n i hS.1.1 hS.1.2.1 hS.1.2.2.1 hS.1.2.2.2.1 hS.1.2.2.2.2) rfl rfl (by omega) (Nat.le_of_ble_eq_true rfl) ?_
            refine X_istore_n dX5_readUnit_7 (by decide) ?_
            refine X_iload_n dX5_readUnit_8 rfl ?_
            refine X_callSI dX5_readUnit_9 mkX5_56 (c_TisDigit Γ g (up2 mi 2 2 (nI (skT B n i))) ml (byT B n (skT B n i))) rfl rfl (by omega) (Nat.le_of_ble_eq_true rfl) ?_
            refine X_if_eq 42 dX5_readUnit_12 (by decide) (fun h_23 => ?_) (fun h_23 => ?_)
            · refine X_iload_n dX5_readUnit_42 rfl ?_
              refine X_bipush (v := nI 40) dX5_readUnit_43 (by decide) ?_
              refine X_icmp_ne 96 dX5_readUnit_45 (by decide) (fun h_24 => ?_) (fun h_24 => ?_)
              · refine X_aload_n dX5_readUnit_96 rfl ?_
                refine X_getr (a := 2) dX5_readUnit_97 fkX5_15 rfl (k_22 hSh) (r_22_3 hSh) ?_
                refine X_ldcS (j := 1) dX5_readUnit_100 rfl ?_
                refine X_callVI dX5_readUnit_102 mkX5_72 (k_2 hSh) (c_which Γ g (up2 mi 2 2 (nI (skT B n i))) ml hSh B n (skT B n i) hS1.1 1 (by decide)) rfl rfl (by omega) (Nat.le_of_ble_eq_true rfl) ?_
                refine X_topi (show oI (whN 1 B n (skT B n i)) = nI 11 by rw [whN_eq (by decide), hW]; rfl) ?_
                refine X_istore_n dX5_readUnit_105 (by decide) ?_
                refine X_iload_n dX5_readUnit_106 rfl ?_
                refine X_iconst (v := -1) dX5_readUnit_107 (by decide) ?_
                refine X_icmp_ne 127 dX5_readUnit_108 (by decide) (fun h_25 => ?_) (fun h_25 => ?_)
                · refine X_iload_n dX5_readUnit_127 rfl ?_
                  refine X_bipush (v := nI 11) dX5_readUnit_128 (by decide) ?_
                  refine X_icmp_ltN (a := 11) (b := 11) 143 dX5_readUnit_130 (by decide) (by omega) (by omega) (fun h_26 => ?_) (fun h_26 => ?_)
                  · exact absurd h_26 (by omega)
                  · refine X_aload_n dX5_readUnit_133 rfl ?_
                    refine X_iload_n dX5_readUnit_134 rfl ?_
                    refine X_callVI dX5_readUnit_135 mkX5_63 (k_22 hSh) (c_mayOpen1 Γ g (up2 mi 2 2 (nI (skT B n i))) ml hSh op ho) rfl rfl (by omega) (Nat.le_of_ble_eq_true rfl) ?_
                    refine X_if_neN (a := 1) 143 dX5_readUnit_138 (by decide) (by omega) (fun h_27 => ?_) (fun h_27 => ?_)
                    · refine X_aload_n dX5_readUnit_143 rfl ?_
                      refine X_getr (a := 2) dX5_readUnit_144 fkX5_15 rfl (k_22 hSh) (r_22_3 hSh) ?_
                      refine X_callVV dX5_readUnit_147 mkX5_76 (k_2 hSh) (c_passWord Γ g (up2 mi 2 2 (nI (skT B n i))) ml hSh B n (skT B n i) hS1.1.1 hS1.1.2.1 hS1.1.2.2.1 hS1.1.2.2.2.1 hS1.1.2.2.2.2) rfl rfl (by omega) (Nat.le_of_ble_eq_true rfl) ?_
                      refine X_iload_n dX5_readUnit_150 rfl ?_
                      refine X_bipush (v := nI 11) dX5_readUnit_151 (by decide) ?_
                      refine X_icmp_eqN (a := 11) (b := 11) 162 dX5_readUnit_153 (by decide) (by omega) (by omega) (fun h_28 => ?_) (fun h_28 => ?_)
                      · refine X_aload_n dX5_readUnit_162 rfl ?_
                        refine X_iload_n dX5_readUnit_163 rfl ?_
                        refine X_bipush (v := nI 11) dX5_readUnit_164 (by decide) ?_
                        refine X_icmp_neN (a := 11) (b := 11) 175 dX5_readUnit_166 (by decide) (by omega) (by omega) (fun h_29 => ?_) (fun h_29 => ?_)
                        · exact absurd h_29 (by omega)
                        · refine X_sipush (v := nI 205) dX5_readUnit_169 (by decide) ?_
                          refine X_goto 178 dX5_readUnit_172 (by decide) ?_
                          refine X_iload_n dX5_readUnit_178 rfl ?_
                          refine X_iconst (v := nI 1) dX5_readUnit_179 (by decide) ?_
                          refine X_iadd dX5_readUnit_180 ?_
                          refine X_topi (nI_add op 1) ?_
                          refine X_callVrI dX5_readUnit_181 mkX5_79 (k_22 hSh) (hc_pair Γ g ml hSh B n D (op + 1) hD S hU hUO 7 (by decide) m0 _ (wdT B n (skT B n i)) T a hSw) rfl rfl (by omega) (Nat.le_of_ble_eq_true rfl) (fun v9 m9 l9 hm9 => ?_)
                          exact X_zret (ty := .boolean) dX5_readUnit_184 rfl (HRS_b hm9.2) ⟨rfl, _, rfl, hm9.1, by rw [show unitR (some S) B n i = pairR S B n (wdT B n (skT B n i)) 7 from by simp only [unitR, sgK, bS, hd, hp, hW, if_true, if_false, Bool.false_eq_true, reduceIte, Nat.reduceLT, Nat.reduceSub]]; exact hm9.2⟩
                      · exact absurd h_28 (by omega)
                    · exact absurd h_27 (by omega)
                · exact absurd h_25 (nI_m1 (by omega))
              · exact absurd h_24 hp
            · exact absurd (bI_0.mpr (byT_dg.trans (by simpa using hd))) h_23
          · skip
            refine X_aload_n dX5_readUnit_0 rfl ?_
            refine X_getr (a := 2) dX5_readUnit_1 fkX5_15 rfl (k_22 hSh) (r_22_3 hSh) ?_
            refine X_callVI dX5_readUnit_4 mkX5_31 (k_2 hSh) (c_peek Γ g mi ml hSh B n i hS.1.1 hS.1.2.1 hS.1.2.2.1 hS.1.2.2.2.1 hS.1.2.2.2.2) rfl rfl (by omega) (Nat.le_of_ble_eq_true rfl) ?_
            refine X_istore_n dX5_readUnit_7 (by decide) ?_
            refine X_iload_n dX5_readUnit_8 rfl ?_
            refine X_callSI dX5_readUnit_9 mkX5_56 (c_TisDigit Γ g (up2 mi 2 2 (nI (skT B n i))) ml (byT B n (skT B n i))) rfl rfl (by omega) (Nat.le_of_ble_eq_true rfl) ?_
            refine X_if_eq 42 dX5_readUnit_12 (by decide) (fun h_30 => ?_) (fun h_30 => ?_)
            · refine X_iload_n dX5_readUnit_42 rfl ?_
              refine X_bipush (v := nI 40) dX5_readUnit_43 (by decide) ?_
              refine X_icmp_ne 96 dX5_readUnit_45 (by decide) (fun h_31 => ?_) (fun h_31 => ?_)
              · refine X_aload_n dX5_readUnit_96 rfl ?_
                refine X_getr (a := 2) dX5_readUnit_97 fkX5_15 rfl (k_22 hSh) (r_22_3 hSh) ?_
                refine X_ldcS (j := 1) dX5_readUnit_100 rfl ?_
                refine X_callVI dX5_readUnit_102 mkX5_72 (k_2 hSh) (c_which Γ g (up2 mi 2 2 (nI (skT B n i))) ml hSh B n (skT B n i) hS1.1 1 (by decide)) rfl rfl (by omega) (Nat.le_of_ble_eq_true rfl) ?_
                refine X_topi (show oI (whN 1 B n (skT B n i)) = nI 12 by rw [whN_eq (by decide), hW]; rfl) ?_
                refine X_istore_n dX5_readUnit_105 (by decide) ?_
                refine X_iload_n dX5_readUnit_106 rfl ?_
                refine X_iconst (v := -1) dX5_readUnit_107 (by decide) ?_
                refine X_icmp_ne 127 dX5_readUnit_108 (by decide) (fun h_32 => ?_) (fun h_32 => ?_)
                · refine X_iload_n dX5_readUnit_127 rfl ?_
                  refine X_bipush (v := nI 11) dX5_readUnit_128 (by decide) ?_
                  refine X_icmp_ltN (a := 12) (b := 11) 143 dX5_readUnit_130 (by decide) (by omega) (by omega) (fun h_33 => ?_) (fun h_33 => ?_)
                  · exact absurd h_33 (by omega)
                  · refine X_aload_n dX5_readUnit_133 rfl ?_
                    refine X_iload_n dX5_readUnit_134 rfl ?_
                    refine X_callVI dX5_readUnit_135 mkX5_63 (k_22 hSh) (c_mayOpen1 Γ g (up2 mi 2 2 (nI (skT B n i))) ml hSh op ho) rfl rfl (by omega) (Nat.le_of_ble_eq_true rfl) ?_
                    refine X_if_neN (a := 1) 143 dX5_readUnit_138 (by decide) (by omega) (fun h_34 => ?_) (fun h_34 => ?_)
                    · refine X_aload_n dX5_readUnit_143 rfl ?_
                      refine X_getr (a := 2) dX5_readUnit_144 fkX5_15 rfl (k_22 hSh) (r_22_3 hSh) ?_
                      refine X_callVV dX5_readUnit_147 mkX5_76 (k_2 hSh) (c_passWord Γ g (up2 mi 2 2 (nI (skT B n i))) ml hSh B n (skT B n i) hS1.1.1 hS1.1.2.1 hS1.1.2.2.1 hS1.1.2.2.2.1 hS1.1.2.2.2.2) rfl rfl (by omega) (Nat.le_of_ble_eq_true rfl) ?_
                      refine X_iload_n dX5_readUnit_150 rfl ?_
                      refine X_bipush (v := nI 11) dX5_readUnit_151 (by decide) ?_
                      refine X_icmp_eqN (a := 12) (b := 11) 162 dX5_readUnit_153 (by decide) (by omega) (by omega) (fun h_35 => ?_) (fun h_35 => ?_)
                      · exact absurd h_35 (by omega)
                      · refine X_iload_n dX5_readUnit_156 rfl ?_
                        refine X_bipush (v := nI 12) dX5_readUnit_157 (by decide) ?_
                        refine X_icmp_neN (a := 12) (b := 12) 185 dX5_readUnit_159 (by decide) (by omega) (by omega) (fun h_36 => ?_) (fun h_36 => ?_)
                        · exact absurd h_36 (by omega)
                        · refine X_aload_n dX5_readUnit_162 rfl ?_
                          refine X_iload_n dX5_readUnit_163 rfl ?_
                          refine X_bipush (v := nI 11) dX5_readUnit_164 (by decide) ?_
                          refine X_icmp_neN (a := 12) (b := 11) 175 dX5_readUnit_166 (by decide) (by omega) (by omega) (fun h_37 => ?_) (fun h_37 => ?_)
                          · refine X_sipush (v := nI 206) dX5_readUnit_175 (by decide) ?_
                            refine X_iload_n dX5_readUnit_178 rfl ?_
                            refine X_iconst (v := nI 1) dX5_readUnit_179 (by decide) ?_
                            refine X_iadd dX5_readUnit_180 ?_
                            refine X_topi (nI_add op 1) ?_
                            refine X_callVrI dX5_readUnit_181 mkX5_79 (k_22 hSh) (hc_pair Γ g ml hSh B n D (op + 1) hD S hU hUO 8 (by decide) m0 _ (wdT B n (skT B n i)) T a hSw) rfl rfl (by omega) (Nat.le_of_ble_eq_true rfl) (fun v9 m9 l9 hm9 => ?_)
                            exact X_zret (ty := .boolean) dX5_readUnit_184 rfl (HRS_b hm9.2) ⟨rfl, _, rfl, hm9.1, by rw [show unitR (some S) B n i = pairR S B n (wdT B n (skT B n i)) 8 from by simp only [unitR, sgK, bS, hd, hp, hW, if_true, if_false, Bool.false_eq_true, reduceIte, Nat.reduceLT, Nat.reduceSub]]; exact hm9.2⟩
                          · exact absurd h_37 (by omega)
                    · exact absurd h_34 (by omega)
                · exact absurd h_32 (nI_m1 (by omega))
              · exact absurd h_31 hp
            · exact absurd (bI_0.mpr (byT_dg.trans (by simpa using hd))) h_30
          · skip
            refine X_aload_n dX5_readUnit_0 rfl ?_
            refine X_getr (a := 2) dX5_readUnit_1 fkX5_15 rfl (k_22 hSh) (r_22_3 hSh) ?_
            refine X_callVI dX5_readUnit_4 mkX5_31 (k_2 hSh) (c_peek Γ g mi ml hSh B n i hS.1.1 hS.1.2.1 hS.1.2.2.1 hS.1.2.2.2.1 hS.1.2.2.2.2) rfl rfl (by omega) (Nat.le_of_ble_eq_true rfl) ?_
            refine X_istore_n dX5_readUnit_7 (by decide) ?_
            refine X_iload_n dX5_readUnit_8 rfl ?_
            refine X_callSI dX5_readUnit_9 mkX5_56 (c_TisDigit Γ g (up2 mi 2 2 (nI (skT B n i))) ml (byT B n (skT B n i))) rfl rfl (by omega) (Nat.le_of_ble_eq_true rfl) ?_
            refine X_if_eq 42 dX5_readUnit_12 (by decide) (fun h_38 => ?_) (fun h_38 => ?_)
            · refine X_iload_n dX5_readUnit_42 rfl ?_
              refine X_bipush (v := nI 40) dX5_readUnit_43 (by decide) ?_
              refine X_icmp_ne 96 dX5_readUnit_45 (by decide) (fun h_39 => ?_) (fun h_39 => ?_)
              · refine X_aload_n dX5_readUnit_96 rfl ?_
                refine X_getr (a := 2) dX5_readUnit_97 fkX5_15 rfl (k_22 hSh) (r_22_3 hSh) ?_
                refine X_ldcS (j := 1) dX5_readUnit_100 rfl ?_
                refine X_callVI dX5_readUnit_102 mkX5_72 (k_2 hSh) (c_which Γ g (up2 mi 2 2 (nI (skT B n i))) ml hSh B n (skT B n i) hS1.1 1 (by decide)) rfl rfl (by omega) (Nat.le_of_ble_eq_true rfl) ?_
                refine X_topi (show oI (whN 1 B n (skT B n i)) = nI 13 by rw [whN_eq (by decide), hW]; rfl) ?_
                refine X_istore_n dX5_readUnit_105 (by decide) ?_
                refine X_iload_n dX5_readUnit_106 rfl ?_
                refine X_iconst (v := -1) dX5_readUnit_107 (by decide) ?_
                refine X_icmp_ne 127 dX5_readUnit_108 (by decide) (fun h_40 => ?_) (fun h_40 => ?_)
                · refine X_iload_n dX5_readUnit_127 rfl ?_
                  refine X_bipush (v := nI 11) dX5_readUnit_128 (by decide) ?_
                  refine X_icmp_ltN (a := 13) (b := 11) 143 dX5_readUnit_130 (by decide) (by omega) (by omega) (fun h_41 => ?_) (fun h_41 => ?_)
                  · exact absurd h_41 (by omega)
                  · refine X_aload_n dX5_readUnit_133 rfl ?_
                    refine X_iload_n dX5_readUnit_134 rfl ?_
                    refine X_callVI dX5_readUnit_135 mkX5_63 (k_22 hSh) (c_mayOpen1 Γ g (up2 mi 2 2 (nI (skT B n i))) ml hSh op ho) rfl rfl (by omega) (Nat.le_of_ble_eq_true rfl) ?_
                    refine X_if_neN (a := 1) 143 dX5_readUnit_138 (by decide) (by omega) (fun h_42 => ?_) (fun h_42 => ?_)
                    · refine X_aload_n dX5_readUnit_143 rfl ?_
                      refine X_getr (a := 2) dX5_readUnit_144 fkX5_15 rfl (k_22 hSh) (r_22_3 hSh) ?_
                      refine X_callVV dX5_readUnit_147 mkX5_76 (k_2 hSh) (c_passWord Γ g (up2 mi 2 2 (nI (skT B n i))) ml hSh B n (skT B n i) hS1.1.1 hS1.1.2.1 hS1.1.2.2.1 hS1.1.2.2.2.1 hS1.1.2.2.2.2) rfl rfl (by omega) (Nat.le_of_ble_eq_true rfl) ?_
                      refine X_iload_n dX5_readUnit_150 rfl ?_
                      refine X_bipush (v := nI 11) dX5_readUnit_151 (by decide) ?_
                      refine X_icmp_eqN (a := 13) (b := 11) 162 dX5_readUnit_153 (by decide) (by omega) (by omega) (fun h_43 => ?_) (fun h_43 => ?_)
                      · exact absurd h_43 (by omega)
                      · refine X_iload_n dX5_readUnit_156 rfl ?_
                        refine X_bipush (v := nI 12) dX5_readUnit_157 (by decide) ?_
                        refine X_icmp_neN (a := 13) (b := 12) 185 dX5_readUnit_159 (by decide) (by omega) (by omega) (fun h_44 => ?_) (fun h_44 => ?_)
                        · refine X_iload_n dX5_readUnit_185 rfl ?_
                          refine X_bipush (v := nI 13) dX5_readUnit_186 (by decide) ?_
                          refine X_icmp_neN (a := 13) (b := 13) 199 dX5_readUnit_188 (by decide) (by omega) (by omega) (fun h_45 => ?_) (fun h_45 => ?_)
                          · exact absurd h_45 (by omega)
                          · refine X_aload_n dX5_readUnit_191 rfl ?_
                            refine X_iload_n dX5_readUnit_192 rfl ?_
                            refine X_iconst (v := nI 1) dX5_readUnit_193 (by decide) ?_
                            refine X_iadd dX5_readUnit_194 ?_
                            refine X_topi (nI_add op 1) ?_
                            refine X_callVrI dX5_readUnit_195 mkX5_82 (k_22 hSh) (hc_cho Γ g ml hSh B n D (op + 1) hD S hU hUO m0 _ (wdT B n (skT B n i)) T a hSw) rfl rfl (by omega) (Nat.le_of_ble_eq_true rfl) (fun v9 m9 l9 hm9 => ?_)
                            exact X_zret (ty := .boolean) dX5_readUnit_198 rfl (HRS_b hm9.2) ⟨rfl, _, rfl, hm9.1, by rw [show unitR (some S) B n i = choR S B n (wdT B n (skT B n i)) from by simp only [unitR, sgK, bS, hd, hp, hW, if_true, if_false, Bool.false_eq_true, reduceIte, Nat.reduceLT, Nat.reduceSub]]; exact hm9.2⟩
                        · exact absurd h_44 (by omega)
                    · exact absurd h_42 (by omega)
                · exact absurd h_40 (nI_m1 (by omega))
              · exact absurd h_39 hp
            · exact absurd (bI_0.mpr (byT_dg.trans (by simpa using hd))) h_38
theorem hc_all (Γ : pTG) (g : pGG) (ml : pML) (hSh : Sh g) (B : Nat → Int32) (n : Nat) : ∀ k, k ≤ 6 → HC Γ g ml B n (4 * k + 12) mX5_readSum (6 - k) (sumR (unitN B n k) B n)
  | 0, _ => hc_sum Γ g ml hSh B n 11 6 (by omega) _ (hc_prod Γ g ml hSh B n 10 6 (by omega) _ (hc_unit0 Γ g ml hSh B n 10 (by omega)) (unitN_ok 0)) prodN_ok
  | k + 1, hk => by
    have ih := hc_all Γ g ml hSh B n k (by omega)
    rw [show 6 - k = (6 - (k + 1)) + 1 by omega] at ih
    have hu := hc_unitS Γ g ml hSh B n (4 * k + 12) (6 - (k + 1)) (by omega) (by omega) _ ih sumN_ok
    exact hc_sum Γ g ml hSh B n (4 * k + 15) (6 - (k + 1)) (by omega) _ (hc_prod Γ g ml hSh B n (4 * k + 14) (6 - (k + 1)) (by omega) _ hu (unitN_ok (k + 1))) prodN_ok
def HRZ (m0 : pMI) (r : Except (Nat × Nat) (List Tok × Bool)) (v : Int32) (m : pMI) : Prop := match r with
  | .error (k, p) => v = nI 0 ∧ HER m0 m k p
  | .ok (t, b) => v = nI 1 ∧ m 22 1 = nI t.length ∧ t.length ≤ 150 ∧ (∀ j, j < t.length → m 23 j = nI (scd (t.getD j (0, 0)))) ∧ m 22 2 = bI b ∧ m 2 3 = m0 2 3 ∧ m 2 4 = m0 2 4 ∧ frHd m0 m
theorem HST_0 {mi : pMI} {B : Nat → Int32} {n i : Nat} (hT : TXT mi B n i) (hn : n ≤ 150) : HST mi (up2 (up2 mi 22 1 (nI 0)) 22 2 (nI 0)) B n i [] false :=
  ⟨TXT_row hT (by rw [up2_row (by omega), up2_row (by omega)]) (by rw [up2_row (by omega), up2_row (by omega)]) (by rw [up2_row (by omega), up2_row (by omega)]), hn, (up2_n (by omega)).trans up2_s, fun j hj => absurd hj (Nat.not_lt_zero _), up2_s, Nat.zero_le _, by rw [up2_row (by omega), up2_row (by omega)], by rw [up2_row (by omega), up2_row (by omega)], fun i h1 h2 h3 => by rw [up2_row h2, up2_row h2]⟩
set_option maxRecDepth 100000 in
set_option maxHeartbeats 4000000 in
theorem c_Hread (Γ : pTG) (g : pGG) (mi : pMI) (ml : pML) (hSh : Sh g) (B : Nat → Int32) (n : Nat) (hn15 : n ≤ 150) (hB : ∀ k, k < n → ¬ B k = -1) (hT : TXT mi B n 0) : rI Γ 40 mX5_read [.ref 22] g mi ml (fun v m l => l = ml ∧ HRZ mi (habR B n) v m) := by
  refine rI_of (by decide +kernel) (Nat.le_of_ble_eq_true rfl) ?_
  refine X_aload_n dX5_read_0 rfl ?_
  refine X_iconst (v := nI 0) dX5_read_1 (by decide) ?_
  refine X_puti dX5_read_2 fkX5_19 rfl rfl (k_22 hSh) ?_
  refine X_aload_n dX5_read_5 rfl ?_
  refine X_iconst (v := nI 0) dX5_read_6 (by decide) ?_
  refine X_putz dX5_read_7 fkX5_23 rfl (by first | exact Or.inl rfl | exact Or.inr rfl | assumption) rfl (k_22 hSh) ?_
  refine X_aload_n dX5_read_10 rfl ?_
  refine X_iconst (v := nI 0) dX5_read_11 (by decide) ?_
  match hU1 : sumR (unitN B n 6) B n 0 with
  | .error (k1, p1) =>
    refine X_callVrI dX5_read_12 mkX5_27 (k_22 hSh) (hc_all Γ g ml hSh B n 6 (by decide) mi _ 0 [] false (HST_0 hT hn15)) rfl rfl (by decide) (Nat.le_of_ble_eq_true rfl) (fun v1 m1 l1 hm1 => ?_)
    rw [hU1] at hm1
    obtain ⟨hL1, rfl, hm1⟩ := hm1
    rw [hL1]
    refine X_if_neN (a := 0) 20 dX5_read_15 (by decide) (by omega) (fun h_1 => ?_) (fun h_1 => ?_)
    · exact absurd h_1 (by omega)
    · refine X_iconst (v := nI 0) dX5_read_18 (by decide) ?_
      exact X_zret (ty := .boolean) dX5_read_19 rfl (by decide) ⟨rfl, _, rfl, rfl, by rw [show habR B n = .error (k1, p1) from by simp only [habR, hU1]]; exact ⟨rfl, hm1⟩⟩
  | .ok (e1, t1, b1) =>
    refine X_callVrI dX5_read_12 mkX5_27 (k_22 hSh) (hc_all Γ g ml hSh B n 6 (by decide) mi _ 0 [] false (HST_0 hT hn15)) rfl rfl (by decide) (Nat.le_of_ble_eq_true rfl) (fun v1 m1 l1 hm1 => ?_)
    rw [hU1] at hm1
    obtain ⟨hL1, rfl, hm1⟩ := hm1
    rw [hL1]
    have hs1 := skT_le (B := B) hm1.1.2.1
    have hm2 := HST_at hm1 hs1 skT_ge
    refine X_if_neN (a := 1) 20 dX5_read_15 (by decide) (by omega) (fun h_2 => ?_) (fun h_2 => ?_)
    · refine X_aload_n dX5_read_20 rfl ?_
      refine X_getr (a := 2) dX5_read_21 fkX5_15 rfl (k_22 hSh) (r_22_3 hSh) ?_
      refine X_callVI dX5_read_24 mkX5_31 (k_2 hSh) (c_peek Γ g m1 ml hSh B n e1 hm1.1.1 hm1.1.2.1 hm1.1.2.2.1 hm1.1.2.2.2.1 hm1.1.2.2.2.2) rfl rfl (by decide) (Nat.le_of_ble_eq_true rfl) ?_
      refine X_iconst (v := -1) dX5_read_27 (by decide) ?_
      refine X_icmp_eq 49 dX5_read_28 (by decide) (fun h_3 => ?_) (fun h_3 => ?_)
      · refine X_iconst (v := nI 1) dX5_read_49 (by decide) ?_
        refine X_goto 54 dX5_read_50 (by decide) ?_
        exact X_zret (ty := .boolean) dX5_read_54 rfl (by decide) ⟨rfl, _, rfl, rfl, by rw [show habR B n = .ok (t1, b1) from by simp only [habR, hU1]; exact if_pos ((byT_end hB).mp (by assumption))]; exact ⟨rfl, hm2.2.2.1, by have h9 : t1.length ≤ skT B n e1 := hm2.2.2.2.2.2.1; have := hm2.2.1; omega, hm2.2.2.2.1, by have := hm2.2.2.2.2.1; simpa using this, hm2.2.2.2.2.2.2.1, hm2.2.2.2.2.2.2.2.1, hm2.2.2.2.2.2.2.2.2⟩⟩
      · refine X_aload_n dX5_read_31 rfl ?_
        refine X_getr (a := 2) dX5_read_32 fkX5_15 rfl (k_22 hSh) (r_22_3 hSh) ?_
        refine X_iconst (v := nI 1) dX5_read_35 (by decide) ?_
        refine X_aload_n dX5_read_36 rfl ?_
        refine X_getr (a := 2) dX5_read_37 fkX5_15 rfl (k_22 hSh) (r_22_3 hSh) ?_
        refine X_geti dX5_read_40 fkX5_37 rfl (k_2 hSh) ?_
        rw [up2_s]
        refine X_callVI dX5_read_43 mkX5_40 (k_2 hSh) (c_fail Γ g (up2 m1 2 2 (nI (skT B n e1))) ml hSh (nI 1) (nI (skT B n e1))) rfl rfl (by decide) (Nat.le_of_ble_eq_true rfl) ?_
        refine X_if_eqN (a := 0) 53 dX5_read_46 (by decide) (by omega) (fun h_4 => ?_) (fun h_4 => ?_)
        · refine X_iconst (v := nI 0) dX5_read_53 (by decide) ?_
          exact X_zret (ty := .boolean) dX5_read_54 rfl (by decide) ⟨rfl, _, rfl, rfl, by rw [show habR B n = .error (1, skT B n e1) from by simp only [habR, hU1]; exact if_neg (fun q => absurd ((byT_end hB).mpr q) (by assumption))]; exact ⟨rfl, HER_of hm1 (fun i h1 => by rw [up2_row h1, up2_row h1, up2_row h1]) ((up2_n (by omega)).trans up2_s) up2_s⟩⟩
        · exact absurd h_4 (by omega)
    · exact absurd h_2 (by omega)

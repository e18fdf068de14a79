theorem wIx_n0 {j : Nat} {B : Nat → Int32} {n i : Nat} (hl : (wdl j).length = 1) (h : ¬ wIx j B n i = some 0) : wIx j B n i = none := by
  cases hq : wIx j B n i with
  | none => rfl
  | some k =>
    have := (wIx_s hq).1
    rw [hl] at this
    have e : k = 0 := by omega
    subst e
    exact absurd hq h
theorem bI_or (a : Bool) {k : Nat} : (k = 6 → bI a ||| nI 1 = bI (a || decide (k = 6))) ∧ (¬ k = 6 → bI a ||| nI 0 = bI (a || decide (k = 6))) := by
  refine ⟨fun h => ?_, fun h => ?_⟩
  · rw [decide_eq_true h]; cases a <;> decide
  · rw [decide_eq_false h]; cases a <;> decide
set_option maxRecDepth 100000 in
set_option maxHeartbeats 4000000 in
theorem hc_pair (Γ : pTG) (g : pGG) (ml : pML) (hSh : Sh g) (B : Nat → Int32) (n : Nat) (D op : Nat) (hD : 10 ≤ D) (S : hFn) (hU : HC Γ g ml B n D mX5_readSum op S) (hUO : UOK n S) (oc : Nat) (hoc : 2 ≤ oc) (m0 mi : pMI) (i : Nat) (T : List Tok) (a : Bool) (hS : HST m0 mi B n i T a) : rI Γ (D + 1) mX5_readPair [.ref 22, .int (nI (198 + oc)), .int (nI op)] g mi ml (fun v m l => l = ml ∧ HRS m0 B n T a (pairR S B n i oc) v m) := by
  refine rI_of (by decide +kernel) (Nat.le_of_ble_eq_true rfl) ?_
  have hin := hS.1.2.1
  have hn15 := hS.2.1
  have hTl := hS.2.2.2.2.2.1
  have hsc : nI (198 + oc) = nI (scd (oc, 0)) := by unfold scd; rw [if_neg (by dsimp only; omega), if_neg (by dsimp only; omega)]
  refine X_aload_n dX5_readPair_0 rfl ?_
  refine X_getr (a := 2) dX5_readPair_1 fkX5_15 rfl (k_22 hSh) (r_22_3 hSh) ?_
  refine X_bipush (v := nI 91) dX5_readPair_4 (by decide) ?_
  by_cases hs1 : byT B n (skT B n i) = nI 91
  ·
    have hl1 := by_lt hs1
    have hg1 := skT_ge (B := B) (n := n) (i := i)
    have hS1 := HST_at hS hl1 (by omega)
    refine X_callVI dX5_readPair_6 mkX5_66 (k_2 hSh) (c_takeSign1 Γ g mi ml hSh B n i hS.1 (nI 91) hs1) rfl rfl (by omega) (Nat.le_of_ble_eq_true rfl) ?_
    refine X_if_eqN (a := 1) 52 dX5_readPair_9 (by decide) (by omega) (fun h_1 => ?_) (fun h_1 => ?_)
    · exact absurd h_1 (by omega)
    · refine X_aload_n dX5_readPair_12 rfl ?_
      refine X_iload_n dX5_readPair_13 rfl ?_
      match hU2 : S (skT B n i + 1) with
      | .error (k2, p2) =>
        refine X_callVrI dX5_readPair_14 mkX5_27 (k_22 hSh) (hU m0 _ (skT B n i + 1) T a hS1) rfl rfl (by omega) (Nat.le_of_ble_eq_true rfl) (fun v2 m2 l2 hm2 => ?_)
        rw [hU2] at hm2
        obtain ⟨hL2, rfl, hm2⟩ := hm2
        rw [hL2]
        refine X_if_eqN (a := 0) 52 dX5_readPair_17 (by decide) (by omega) (fun h_2 => ?_) (fun h_2 => ?_)
        · refine X_iconst (v := nI 0) dX5_readPair_52 (by decide) ?_
          exact X_zret (ty := .boolean) dX5_readPair_53 rfl (by decide) ⟨rfl, _, rfl, rfl, by rw [show pairR S B n i oc = .error (k2, p2) from by simp only [pairR, sgK, wdK, bS, hs1, hU2, if_true, if_false]]; exact ⟨rfl, hm2⟩⟩
        · exact absurd h_2 (by omega)
      | .ok (e2, t2, b2) =>
        obtain ⟨hb2, hc2, hd2⟩ := (hUO _ hS1.1.2.1).1 e2 t2 b2 hU2
        refine X_callVrI dX5_readPair_14 mkX5_27 (k_22 hSh) (hU m0 _ (skT B n i + 1) T a hS1) rfl rfl (by omega) (Nat.le_of_ble_eq_true rfl) (fun v2 m2 l2 hm2 => ?_)
        rw [hU2] at hm2
        obtain ⟨hL2, rfl, hm2⟩ := hm2
        rw [hL2]
        have hlen2 := List.length_append (as := T) (bs := t2)
        refine X_if_eqN (a := 1) 52 dX5_readPair_17 (by decide) (by omega) (fun h_3 => ?_) (fun h_3 => ?_)
        · exact absurd h_3 (by omega)
        · refine X_aload_n dX5_readPair_20 rfl ?_
          refine X_getr (a := 2) dX5_readPair_21 fkX5_15 rfl (k_22 hSh) (r_22_3 hSh) ?_
          refine X_bipush (v := nI 44) dX5_readPair_24 (by decide) ?_
          by_cases hs3 : byT B n (skT B n e2) = nI 44
          ·
            have hl3 := by_lt hs3
            have hg3 := skT_ge (B := B) (n := n) (i := e2)
            have hS3 := HST_at hm2 hl3 (by omega)
            refine X_callVI dX5_readPair_26 mkX5_66 (k_2 hSh) (c_takeSign1 Γ g m2 ml hSh B n e2 hm2.1 (nI 44) hs3) rfl rfl (by omega) (Nat.le_of_ble_eq_true rfl) ?_
            refine X_if_eqN (a := 1) 52 dX5_readPair_29 (by decide) (by omega) (fun h_4 => ?_) (fun h_4 => ?_)
            · exact absurd h_4 (by omega)
            · refine X_aload_n dX5_readPair_32 rfl ?_
              refine X_iload_n dX5_readPair_33 rfl ?_
              match hU4 : S (skT B n e2 + 1) with
              | .error (k4, p4) =>
                refine X_callVrI dX5_readPair_34 mkX5_27 (k_22 hSh) (hU m0 _ (skT B n e2 + 1) (T ++ t2) (a || b2) hS3) rfl rfl (by omega) (Nat.le_of_ble_eq_true rfl) (fun v4 m4 l4 hm4 => ?_)
                rw [hU4] at hm4
                obtain ⟨hL4, rfl, hm4⟩ := hm4
                rw [hL4]
                refine X_if_eqN (a := 0) 52 dX5_readPair_37 (by decide) (by omega) (fun h_5 => ?_) (fun h_5 => ?_)
                · refine X_iconst (v := nI 0) dX5_readPair_52 (by decide) ?_
                  exact X_zret (ty := .boolean) dX5_readPair_53 rfl (by decide) ⟨rfl, _, rfl, rfl, by rw [show pairR S B n i oc = .error (k4, p4) from by simp only [pairR, sgK, wdK, bS, hs1, hU2, hs3, hU4, if_true, if_false]]; exact ⟨rfl, hm4⟩⟩
                · exact absurd h_5 (by omega)
              | .ok (e4, t4, b4) =>
                obtain ⟨hb4, hc4, hd4⟩ := (hUO _ hS3.1.2.1).1 e4 t4 b4 hU4
                refine X_callVrI dX5_readPair_34 mkX5_27 (k_22 hSh) (hU m0 _ (skT B n e2 + 1) (T ++ t2) (a || b2) hS3) rfl rfl (by omega) (Nat.le_of_ble_eq_true rfl) (fun v4 m4 l4 hm4 => ?_)
                rw [hU4] at hm4
                obtain ⟨hL4, rfl, hm4⟩ := hm4
                rw [hL4]
                have hlen4 := List.length_append (as := T ++ t2) (bs := t4)
                refine X_if_eqN (a := 1) 52 dX5_readPair_37 (by decide) (by omega) (fun h_6 => ?_) (fun h_6 => ?_)
                · exact absurd h_6 (by omega)
                · refine X_aload_n dX5_readPair_40 rfl ?_
                  refine X_getr (a := 2) dX5_readPair_41 fkX5_15 rfl (k_22 hSh) (r_22_3 hSh) ?_
                  refine X_bipush (v := nI 93) dX5_readPair_44 (by decide) ?_
                  by_cases hs5 : byT B n (skT B n e4) = nI 93
                  ·
                    have hl5 := by_lt hs5
                    have hg5 := skT_ge (B := B) (n := n) (i := e4)
                    have hS5 := HST_at hm4 hl5 (by omega)
                    refine X_callVI dX5_readPair_46 mkX5_66 (k_2 hSh) (c_takeSign1 Γ g m4 ml hSh B n e4 hm4.1 (nI 93) hs5) rfl rfl (by omega) (Nat.le_of_ble_eq_true rfl) ?_
                    refine X_if_neN (a := 1) 54 dX5_readPair_49 (by decide) (by omega) (fun h_7 => ?_) (fun h_7 => ?_)
                    · refine X_aload_n dX5_readPair_54 rfl ?_
                      refine X_iload_n dX5_readPair_55 rfl ?_
                      have h156 := hS5.2.1
                      have hlb6 := hS5.2.2.2.2.2.1
                      have hlc6 := hS5.1.2.1
                      have hle6 : ((T ++ t2) ++ t4).length + 1 ≤ skT B n e4 + 1 := by omega
                      have hS6 := HST_put (t := (oc, 0)) (v := nI (198 + oc)) hS5 hle6 (by first | rfl | assumption)
                      have hlen6 := List.length_append (as := (T ++ t2) ++ t4) (bs := [(oc, 0)])
                      rw [List.length_singleton] at hlen6
                      refine X_callVV dX5_readPair_56 mkX5_49 (k_22 hSh) (c_put Γ g (up2 m4 2 2 (nI (skT B n e4 + 1))) ml hSh _ hS5.2.2.1 (by omega) (nI (198 + oc))) rfl rfl (by omega) (Nat.le_of_ble_eq_true rfl) ?_
                      refine X_iconst (v := nI 1) dX5_readPair_59 (by decide) ?_
                      exact X_zret (ty := .boolean) dX5_readPair_60 rfl (by decide) ⟨rfl, _, rfl, rfl, by rw [show pairR S B n i oc = .ok (skT B n e4 + 1, t2 ++ (t4 ++ [(oc, 0)]), b2 || b4) from by simp only [pairR, sgK, wdK, bS, hs1, hU2, hs3, hU4, hs5, if_true, if_false]]; exact ⟨rfl, HST_eq hS6 (by simp [List.append_assoc]) (by simp [Bool.or_assoc])⟩⟩
                    · exact absurd h_7 (by omega)
                  ·
                    refine X_callVI dX5_readPair_46 mkX5_66 (k_2 hSh) (c_takeSign0 Γ g m4 ml hSh B n e4 hm4.1 (nI 93) hs5) rfl rfl (by omega) (Nat.le_of_ble_eq_true rfl) ?_
                    refine X_if_neN (a := 0) 54 dX5_readPair_49 (by decide) (by omega) (fun h_8 => ?_) (fun h_8 => ?_)
                    · exact absurd h_8 (by omega)
                    · refine X_iconst (v := nI 0) dX5_readPair_52 (by decide) ?_
                      exact X_zret (ty := .boolean) dX5_readPair_53 rfl (by decide) ⟨rfl, _, rfl, rfl, by rw [show pairR S B n i oc = .error (1, skT B n e4) from by simp only [pairR, sgK, wdK, bS, hs1, hU2, hs3, hU4, hs5, if_true, if_false]]; exact ⟨rfl, HER_of hm4 (fun i h1 => by rw [up2_row h1, up2_row h1, up2_row h1]) ((up2_n (by omega)).trans up2_s) up2_s⟩⟩
          ·
            refine X_callVI dX5_readPair_26 mkX5_66 (k_2 hSh) (c_takeSign0 Γ g m2 ml hSh B n e2 hm2.1 (nI 44) hs3) rfl rfl (by omega) (Nat.le_of_ble_eq_true rfl) ?_
            refine X_if_eqN (a := 0) 52 dX5_readPair_29 (by decide) (by omega) (fun h_9 => ?_) (fun h_9 => ?_)
            · refine X_iconst (v := nI 0) dX5_readPair_52 (by decide) ?_
              exact X_zret (ty := .boolean) dX5_readPair_53 rfl (by decide) ⟨rfl, _, rfl, rfl, by rw [show pairR S B n i oc = .error (1, skT B n e2) from by simp only [pairR, sgK, wdK, bS, hs1, hU2, hs3, if_true, if_false]]; exact ⟨rfl, HER_of hm2 (fun i h1 => by rw [up2_row h1, up2_row h1, up2_row h1]) ((up2_n (by omega)).trans up2_s) up2_s⟩⟩
            · exact absurd h_9 (by omega)
  ·
    refine X_callVI dX5_readPair_6 mkX5_66 (k_2 hSh) (c_takeSign0 Γ g mi ml hSh B n i hS.1 (nI 91) hs1) rfl rfl (by omega) (Nat.le_of_ble_eq_true rfl) ?_
    refine X_if_eqN (a := 0) 52 dX5_readPair_9 (by decide) (by omega) (fun h_10 => ?_) (fun h_10 => ?_)
    · refine X_iconst (v := nI 0) dX5_readPair_52 (by decide) ?_
      exact X_zret (ty := .boolean) dX5_readPair_53 rfl (by decide) ⟨rfl, _, rfl, rfl, by rw [show pairR S B n i oc = .error (1, skT B n i) from by simp only [pairR, sgK, wdK, bS, hs1, if_true, if_false]]; exact ⟨rfl, HER_of hS (fun i h1 => by rw [up2_row h1, up2_row h1, up2_row h1]) ((up2_n (by omega)).trans up2_s) up2_s⟩⟩
    · exact absurd h_10 (by omega)
set_option maxRecDepth 100000 in
set_option maxHeartbeats 4000000 in
theorem hc_cho (Γ : pTG) (g : pGG) (ml : pML) (hSh : Sh g) (B : Nat → Int32) (n : Nat) (D op : Nat) (hD : 10 ≤ D) (S : hFn) (hU : HC Γ g ml B n D mX5_readSum op S) (hUO : UOK n S) (m0 mi : pMI) (i : Nat) (T : List Tok) (a : Bool) (hS : HST m0 mi B n i T a) : rI Γ (D + 1) mX5_readChoice [.ref 22, .int (nI op)] g mi ml (fun v m l => l = ml ∧ HRS m0 B n T a (choR S B n i) v m) := by
  refine rI_of (by decide +kernel) (Nat.le_of_ble_eq_true rfl) ?_
  have hin := hS.1.2.1
  have hn15 := hS.2.1
  have hTl := hS.2.2.2.2.2.1
  refine X_aload_n dX5_readChoice_0 rfl ?_
  refine X_iload_n dX5_readChoice_1 rfl ?_
  match hU1 : S i with
  | .error (k1, p1) =>
    refine X_callVrI dX5_readChoice_2 mkX5_27 (k_22 hSh) (hU m0 _ i T a hS) rfl rfl (by omega) (Nat.le_of_ble_eq_true rfl) (fun v1 m1 l1 hm1 => ?_)
    rw [hU1] at hm1
    obtain ⟨hL1, rfl, hm1⟩ := hm1
    rw [hL1]
    refine X_if_neN (a := 0) 10 dX5_readChoice_5 (by decide) (by omega) (fun h_1 => ?_) (fun h_1 => ?_)
    · exact absurd h_1 (by omega)
    · refine X_iconst (v := nI 0) dX5_readChoice_8 (by decide) ?_
      exact X_zret (ty := .boolean) dX5_readChoice_9 rfl (by decide) ⟨rfl, _, rfl, rfl, by rw [show choR S B n i = .error (k1, p1) from by simp only [choR, sgK, wdK, bS, hU1, if_true, if_false]]; exact ⟨rfl, hm1⟩⟩
  | .ok (e1, t1, b1) =>
    obtain ⟨hb1, hc1, hd1⟩ := (hUO _ hS.1.2.1).1 e1 t1 b1 hU1
    refine X_callVrI dX5_readChoice_2 mkX5_27 (k_22 hSh) (hU m0 _ i T a hS) rfl rfl (by omega) (Nat.le_of_ble_eq_true rfl) (fun v1 m1 l1 hm1 => ?_)
    rw [hU1] at hm1
    obtain ⟨hL1, rfl, hm1⟩ := hm1
    rw [hL1]
    have hlen1 := List.length_append (as := T) (bs := t1)
    refine X_if_neN (a := 1) 10 dX5_readChoice_5 (by decide) (by omega) (fun h_2 => ?_) (fun h_2 => ?_)
    · refine X_aload_n dX5_readChoice_10 rfl ?_
      refine X_getr (a := 2) dX5_readChoice_11 fkX5_15 rfl (k_22 hSh) (r_22_3 hSh) ?_
      have hsa := skT_le (B := B) hm1.1.2.1
      have hsb := skT_ge (B := B) (n := n) (i := e1)
      by_cases q0 : byT B n (skT B n e1) = nI 60
      · have hO : cmO (byT B n (skT B n e1)) = some 9 := if_pos q0
        have hlt := by_lt q0
        refine X_callVI dX5_readChoice_14 mkX5_31 (k_2 hSh) (c_peek Γ g m1 ml hSh B n e1 hm1.1.1 hm1.1.2.1 hm1.1.2.2.1 hm1.1.2.2.2.1 hm1.1.2.2.2.2) rfl rfl (by omega) (Nat.le_of_ble_eq_true rfl) ?_
        refine X_istore_n dX5_readChoice_17 (by decide) ?_
        refine X_iload_n dX5_readChoice_18 rfl ?_
        refine X_bipush (v := nI 60) dX5_readChoice_19 (by decide) ?_
        refine X_icmp_eq 52 dX5_readChoice_21 (by decide) (fun h_3 => ?_) (fun h_3 => ?_)
        · refine X_aload_n dX5_readChoice_52 rfl ?_
          refine X_getr (a := 2) dX5_readChoice_53 fkX5_15 rfl (k_22 hSh) (r_22_3 hSh) ?_
          refine X_dup dX5_readChoice_56 rfl ?_
          refine X_geti dX5_readChoice_57 fkX5_37 rfl (k_2 hSh) ?_
          rw [up2_s]
          refine X_iconst (v := nI 1) dX5_readChoice_60 (by decide) ?_
          refine X_iadd dX5_readChoice_61 ?_
          refine X_topi (nI_add (skT B n e1) 1) ?_
          refine X_puti dX5_readChoice_62 fkX5_37 rfl rfl (k_2 hSh) ?_
          refine X_mi up2_up2 ?_
          have hSq := HST_at hm1 hlt (by omega)
          refine X_aload_n dX5_readChoice_65 rfl ?_
          refine X_iload_n dX5_readChoice_66 rfl ?_
          match hU2 : S (skT B n e1 + 1) with
          | .error (k2, p2) =>
            refine X_callVrI dX5_readChoice_67 mkX5_27 (k_22 hSh) (hU m0 _ (skT B n e1 + 1) (T ++ t1) (a || b1) hSq) rfl rfl (by omega) (Nat.le_of_ble_eq_true rfl) (fun v2 m2 l2 hm2 => ?_)
            rw [hU2] at hm2
            obtain ⟨hL2, rfl, hm2⟩ := hm2
            rw [hL2]
            refine X_if_neN (a := 0) 75 dX5_readChoice_70 (by decide) (by omega) (fun h_4 => ?_) (fun h_4 => ?_)
            · exact absurd h_4 (by omega)
            · refine X_iconst (v := nI 0) dX5_readChoice_73 (by decide) ?_
              exact X_zret (ty := .boolean) dX5_readChoice_74 rfl (by decide) ⟨rfl, _, rfl, rfl, by rw [show choR S B n i = .error (k2, p2) from by simp only [choR, sgK, wdK, bS, hU1, hO, hU2, if_true, if_false]]; exact ⟨rfl, hm2⟩⟩
          | .ok (e2, t2, b2) =>
            obtain ⟨hb2, hc2, hd2⟩ := (hUO _ hSq.1.2.1).1 e2 t2 b2 hU2
            refine X_callVrI dX5_readChoice_67 mkX5_27 (k_22 hSh) (hU m0 _ (skT B n e1 + 1) (T ++ t1) (a || b1) hSq) rfl rfl (by omega) (Nat.le_of_ble_eq_true rfl) (fun v2 m2 l2 hm2 => ?_)
            rw [hU2] at hm2
            obtain ⟨hL2, rfl, hm2⟩ := hm2
            rw [hL2]
            have hlen2 := List.length_append (as := T ++ t1) (bs := t2)
            refine X_if_neN (a := 1) 75 dX5_readChoice_70 (by decide) (by omega) (fun h_5 => ?_) (fun h_5 => ?_)
            · refine X_aload_n dX5_readChoice_75 rfl ?_
              refine X_iload_n dX5_readChoice_76 rfl ?_
              refine X_bipush (v := nI 60) dX5_readChoice_77 (by decide) ?_
              refine X_icmp_ne 88 dX5_readChoice_79 (by decide) (fun h_6 => ?_) (fun h_6 => ?_)
              · exact absurd q0 h_6
              · refine X_sipush (v := nI 207) dX5_readChoice_82 (by decide) ?_
                refine X_goto 103 dX5_readChoice_85 (by decide) ?_
                have h153 := hm2.2.1
                have hlb3 := hm2.2.2.2.2.2.1
                have hlc3 := hm2.1.2.1
                have hle3 : ((T ++ t1) ++ t2).length + 1 ≤ e2 := by omega
                have hS3 := HST_put (t := (9, 0)) (v := nI 207) hm2 hle3 (by first | rfl | assumption)
                have hlen3 := List.length_append (as := (T ++ t1) ++ t2) (bs := [(9, 0)])
                rw [List.length_singleton] at hlen3
                refine X_callVV dX5_readChoice_103 mkX5_49 (k_22 hSh) (c_put Γ g m2 ml hSh _ hm2.2.2.1 (by omega) (nI 207)) rfl rfl (by omega) (Nat.le_of_ble_eq_true rfl) ?_
                refine X_aload_n dX5_readChoice_106 rfl ?_
                refine X_getr (a := 2) dX5_readChoice_107 fkX5_15 rfl (k_22 hSh) (r_22_3 hSh) ?_
                refine X_ldcS (j := 2) dX5_readChoice_110 rfl ?_
                by_cases hs4 : wIx 2 B n (skT B n e2) = some 0
                ·
                  have hl4 := wdT_le (B := B) (skT_le (B := B) hS3.1.2.1)
                  have hg4 := skT_ge (B := B) (n := n) (i := e2)
                  have hx4 := wdT_gt (by decide) hs4
                  have hS4 := HST_at hS3 hl4 (by omega)
                  refine X_callVI dX5_readChoice_112 mkX5_87 (k_2 hSh) (c_takeWord1 Γ g (up2 (up2 m2 23 ((T ++ t1) ++ t2).length (nI 207)) 22 1 (nI (((T ++ t1) ++ t2).length + 1))) ml hSh B n e2 hS3.1 2 (by decide) 0 (by decide) ((whN_eq (by decide)).trans hs4)) rfl rfl (by omega) (Nat.le_of_ble_eq_true rfl) ?_
                  refine X_if_eqN (a := 1) 146 dX5_readChoice_115 (by decide) (by omega) (fun h_7 => ?_) (fun h_7 => ?_)
                  · exact absurd h_7 (by omega)
                  · refine X_aload_n dX5_readChoice_118 rfl ?_
                    refine X_iload_n dX5_readChoice_119 rfl ?_
                    match hU5 : S (wdT B n (skT B n e2)) with
                    | .error (k5, p5) =>
                      refine X_callVrI dX5_readChoice_120 mkX5_27 (k_22 hSh) (hU m0 _ (wdT B n (skT B n e2)) (((T ++ t1) ++ t2) ++ [(9, 0)]) ((a || b1) || b2) hS4) rfl rfl (by omega) (Nat.le_of_ble_eq_true rfl) (fun v5 m5 l5 hm5 => ?_)
                      rw [hU5] at hm5
                      obtain ⟨hL5, rfl, hm5⟩ := hm5
                      rw [hL5]
                      refine X_if_eqN (a := 0) 146 dX5_readChoice_123 (by decide) (by omega) (fun h_8 => ?_) (fun h_8 => ?_)
                      · refine X_iconst (v := nI 0) dX5_readChoice_146 (by decide) ?_
                        exact X_zret (ty := .boolean) dX5_readChoice_147 rfl (by decide) ⟨rfl, _, rfl, rfl, by rw [show choR S B n i = .error (k5, p5) from by simp only [choR, sgK, wdK, bS, hU1, hO, hU2, hs4, hU5, if_true, if_false]]; exact ⟨rfl, hm5⟩⟩
                      · exact absurd h_8 (by omega)
                    | .ok (e5, t5, b5) =>
                      obtain ⟨hb5, hc5, hd5⟩ := (hUO _ hS4.1.2.1).1 e5 t5 b5 hU5
                      refine X_callVrI dX5_readChoice_120 mkX5_27 (k_22 hSh) (hU m0 _ (wdT B n (skT B n e2)) (((T ++ t1) ++ t2) ++ [(9, 0)]) ((a || b1) || b2) hS4) rfl rfl (by omega) (Nat.le_of_ble_eq_true rfl) (fun v5 m5 l5 hm5 => ?_)
                      rw [hU5] at hm5
                      obtain ⟨hL5, rfl, hm5⟩ := hm5
                      rw [hL5]
                      have hlen5 := List.length_append (as := ((T ++ t1) ++ t2) ++ [(9, 0)]) (bs := t5)
                      refine X_if_eqN (a := 1) 146 dX5_readChoice_123 (by decide) (by omega) (fun h_9 => ?_) (fun h_9 => ?_)
                      · exact absurd h_9 (by omega)
                      · refine X_aload_n dX5_readChoice_126 rfl ?_
                        refine X_getr (a := 2) dX5_readChoice_127 fkX5_15 rfl (k_22 hSh) (r_22_3 hSh) ?_
                        refine X_ldcS (j := 3) dX5_readChoice_130 rfl ?_
                        by_cases hs6 : wIx 3 B n (skT B n e5) = some 0
                        ·
                          have hl6 := wdT_le (B := B) (skT_le (B := B) hm5.1.2.1)
                          have hg6 := skT_ge (B := B) (n := n) (i := e5)
                          have hx6 := wdT_gt (by decide) hs6
                          have hS6 := HST_at hm5 hl6 (by omega)
                          refine X_callVI dX5_readChoice_132 mkX5_87 (k_2 hSh) (c_takeWord1 Γ g m5 ml hSh B n e5 hm5.1 3 (by decide) 0 (by decide) ((whN_eq (by decide)).trans hs6)) rfl rfl (by omega) (Nat.le_of_ble_eq_true rfl) ?_
                          refine X_if_eqN (a := 1) 146 dX5_readChoice_135 (by decide) (by omega) (fun h_10 => ?_) (fun h_10 => ?_)
                          · exact absurd h_10 (by omega)
                          · refine X_aload_n dX5_readChoice_138 rfl ?_
                            refine X_iload_n dX5_readChoice_139 rfl ?_
                            match hU7 : S (wdT B n (skT B n e5)) with
                            | .error (k7, p7) =>
                              refine X_callVrI dX5_readChoice_140 mkX5_27 (k_22 hSh) (hU m0 _ (wdT B n (skT B n e5)) ((((T ++ t1) ++ t2) ++ [(9, 0)]) ++ t5) (((a || b1) || b2) || b5) hS6) rfl rfl (by omega) (Nat.le_of_ble_eq_true rfl) (fun v7 m7 l7 hm7 => ?_)
                              rw [hU7] at hm7
                              obtain ⟨hL7, rfl, hm7⟩ := hm7
                              rw [hL7]
                              refine X_if_neN (a := 0) 148 dX5_readChoice_143 (by decide) (by omega) (fun h_11 => ?_) (fun h_11 => ?_)
                              · exact absurd h_11 (by omega)
                              · refine X_iconst (v := nI 0) dX5_readChoice_146 (by decide) ?_
                                exact X_zret (ty := .boolean) dX5_readChoice_147 rfl (by decide) ⟨rfl, _, rfl, rfl, by rw [show choR S B n i = .error (k7, p7) from by simp only [choR, sgK, wdK, bS, hU1, hO, hU2, hs4, hU5, hs6, hU7, if_true, if_false]]; exact ⟨rfl, hm7⟩⟩
                            | .ok (e7, t7, b7) =>
                              obtain ⟨hb7, hc7, hd7⟩ := (hUO _ hS6.1.2.1).1 e7 t7 b7 hU7
                              refine X_callVrI dX5_readChoice_140 mkX5_27 (k_22 hSh) (hU m0 _ (wdT B n (skT B n e5)) ((((T ++ t1) ++ t2) ++ [(9, 0)]) ++ t5) (((a || b1) || b2) || b5) hS6) rfl rfl (by omega) (Nat.le_of_ble_eq_true rfl) (fun v7 m7 l7 hm7 => ?_)
                              rw [hU7] at hm7
                              obtain ⟨hL7, rfl, hm7⟩ := hm7
                              rw [hL7]
                              have hlen7 := List.length_append (as := (((T ++ t1) ++ t2) ++ [(9, 0)]) ++ t5) (bs := t7)
                              refine X_if_neN (a := 1) 148 dX5_readChoice_143 (by decide) (by omega) (fun h_12 => ?_) (fun h_12 => ?_)
                              · refine X_aload_n dX5_readChoice_148 rfl ?_
                                refine X_sipush (v := nI 210) dX5_readChoice_149 (by decide) ?_
                                have h158 := hm7.2.1
                                have hlb8 := hm7.2.2.2.2.2.1
                                have hlc8 := hm7.1.2.1
                                have hle8 : (((((T ++ t1) ++ t2) ++ [(9, 0)]) ++ t5) ++ t7).length + 1 ≤ e7 := by omega
                                have hS8 := HST_put (t := (12, 0)) (v := nI 210) hm7 hle8 (by first | rfl | assumption)
                                have hlen8 := List.length_append (as := ((((T ++ t1) ++ t2) ++ [(9, 0)]) ++ t5) ++ t7) (bs := [(12, 0)])
                                rw [List.length_singleton] at hlen8
                                refine X_callVV dX5_readChoice_152 mkX5_49 (k_22 hSh) (c_put Γ g m7 ml hSh _ hm7.2.2.1 (by omega) (nI 210)) rfl rfl (by omega) (Nat.le_of_ble_eq_true rfl) ?_
                                refine X_iconst (v := nI 1) dX5_readChoice_155 (by decide) ?_
                                exact X_zret (ty := .boolean) dX5_readChoice_156 rfl (by decide) ⟨rfl, _, rfl, rfl, by rw [show choR S B n i = .ok (e7, t1 ++ (t2 ++ ((9, 0) :: (t5 ++ (t7 ++ [(12, 0)])))), b1 || (b2 || (b5 || b7))) from by simp only [choR, sgK, wdK, bS, hU1, hO, hU2, hs4, hU5, hs6, hU7, if_true, if_false]]; exact ⟨rfl, HST_eq hS8 (by simp [List.append_assoc]) (by simp [Bool.or_assoc])⟩⟩
                              · exact absurd h_12 (by omega)
                        ·
                          refine X_callVI dX5_readChoice_132 mkX5_87 (k_2 hSh) (c_takeWord0 Γ g m5 ml hSh B n e5 hm5.1 3 (by decide) ((whN_eq (by decide)).trans (wIx_n0 rfl hs6))) rfl rfl (by omega) (Nat.le_of_ble_eq_true rfl) ?_
                          refine X_if_eqN (a := 0) 146 dX5_readChoice_135 (by decide) (by omega) (fun h_13 => ?_) (fun h_13 => ?_)
                          · refine X_iconst (v := nI 0) dX5_readChoice_146 (by decide) ?_
                            exact X_zret (ty := .boolean) dX5_readChoice_147 rfl (by decide) ⟨rfl, _, rfl, rfl, by rw [show choR S B n i = .error (1, skT B n e5) from by simp only [choR, sgK, wdK, bS, hU1, hO, hU2, hs4, hU5, hs6, if_true, if_false]]; exact ⟨rfl, HER_of hm5 (fun i h1 => by rw [up2_row h1, up2_row h1, up2_row h1]) ((up2_n (by omega)).trans up2_s) up2_s⟩⟩
                          · exact absurd h_13 (by omega)
                ·
                  refine X_callVI dX5_readChoice_112 mkX5_87 (k_2 hSh) (c_takeWord0 Γ g (up2 (up2 m2 23 ((T ++ t1) ++ t2).length (nI 207)) 22 1 (nI (((T ++ t1) ++ t2).length + 1))) ml hSh B n e2 hS3.1 2 (by decide) ((whN_eq (by decide)).trans (wIx_n0 rfl hs4))) rfl rfl (by omega) (Nat.le_of_ble_eq_true rfl) ?_
                  refine X_if_eqN (a := 0) 146 dX5_readChoice_115 (by decide) (by omega) (fun h_14 => ?_) (fun h_14 => ?_)
                  · refine X_iconst (v := nI 0) dX5_readChoice_146 (by decide) ?_
                    exact X_zret (ty := .boolean) dX5_readChoice_147 rfl (by decide) ⟨rfl, _, rfl, rfl, by rw [show choR S B n i = .error (1, skT B n e2) from by simp only [choR, sgK, wdK, bS, hU1, hO, hU2, hs4, if_true, if_false]]; exact ⟨rfl, HER_of hS3 (fun i h1 => by rw [up2_row h1, up2_row h1, up2_row h1]) ((up2_n (by omega)).trans up2_s) up2_s⟩⟩
                  · exact absurd h_14 (by omega)
            · exact absurd h_5 (by omega)
        · exact absurd q0 h_3
      by_cases q1 : byT B n (skT B n e1) = nI 62
      · have hO : cmO (byT B n (skT B n e1)) = some 10 := (if_neg q0).trans (if_pos q1)
        have hlt := by_lt q1
        refine X_callVI dX5_readChoice_14 mkX5_31 (k_2 hSh) (c_peek Γ g m1 ml hSh B n e1 hm1.1.1 hm1.1.2.1 hm1.1.2.2.1 hm1.1.2.2.2.1 hm1.1.2.2.2.2) rfl rfl (by omega) (Nat.le_of_ble_eq_true rfl) ?_
        refine X_istore_n dX5_readChoice_17 (by decide) ?_
        refine X_iload_n dX5_readChoice_18 rfl ?_
        refine X_bipush (v := nI 60) dX5_readChoice_19 (by decide) ?_
        refine X_icmp_eq 52 dX5_readChoice_21 (by decide) (fun h_15 => ?_) (fun h_15 => ?_)
        · exact absurd h_15 q0
        · refine X_iload_n dX5_readChoice_24 rfl ?_
          refine X_bipush (v := nI 62) dX5_readChoice_25 (by decide) ?_
          refine X_icmp_eq 52 dX5_readChoice_27 (by decide) (fun h_16 => ?_) (fun h_16 => ?_)
          · refine X_aload_n dX5_readChoice_52 rfl ?_
            refine X_getr (a := 2) dX5_readChoice_53 fkX5_15 rfl (k_22 hSh) (r_22_3 hSh) ?_
            refine X_dup dX5_readChoice_56 rfl ?_
            refine X_geti dX5_readChoice_57 fkX5_37 rfl (k_2 hSh) ?_
            rw [up2_s]
            refine X_iconst (v := nI 1) dX5_readChoice_60 (by decide) ?_
            refine X_iadd dX5_readChoice_61 ?_
            refine X_topi (nI_add (skT B n e1) 1) ?_
            refine X_puti dX5_readChoice_62 fkX5_37 rfl rfl (k_2 hSh) ?_
            refine X_mi up2_up2 ?_
            have hSq := HST_at hm1 hlt (by omega)
            refine X_aload_n dX5_readChoice_65 rfl ?_
            refine X_iload_n dX5_readChoice_66 rfl ?_
            match hU2 : S (skT B n e1 + 1) with
            | .error (k2, p2) =>
              refine X_callVrI dX5_readChoice_67 mkX5_27 (k_22 hSh) (hU m0 _ (skT B n e1 + 1) (T ++ t1) (a || b1) hSq) rfl rfl (by omega) (Nat.le_of_ble_eq_true rfl) (fun v2 m2 l2 hm2 => ?_)
              rw [hU2] at hm2
              obtain ⟨hL2, rfl, hm2⟩ := hm2
              rw [hL2]
              refine X_if_neN (a := 0) 75 dX5_readChoice_70 (by decide) (by omega) (fun h_17 => ?_) (fun h_17 => ?_)
              · exact absurd h_17 (by omega)
              · refine X_iconst (v := nI 0) dX5_readChoice_73 (by decide) ?_
                exact X_zret (ty := .boolean) dX5_readChoice_74 rfl (by decide) ⟨rfl, _, rfl, rfl, by rw [show choR S B n i = .error (k2, p2) from by simp only [choR, sgK, wdK, bS, hU1, hO, hU2, if_true, if_false]]; exact ⟨rfl, hm2⟩⟩
            | .ok (e2, t2, b2) =>
              obtain ⟨hb2, hc2, hd2⟩ := (hUO _ hSq.1.2.1).1 e2 t2 b2 hU2
              refine X_callVrI dX5_readChoice_67 mkX5_27 (k_22 hSh) (hU m0 _ (skT B n e1 + 1) (T ++ t1) (a || b1) hSq) rfl rfl (by omega) (Nat.le_of_ble_eq_true rfl) (fun v2 m2 l2 hm2 => ?_)
              rw [hU2] at hm2
              obtain ⟨hL2, rfl, hm2⟩ := hm2
              rw [hL2]
              have hlen2 := List.length_append (as := T ++ t1) (bs := t2)
              refine X_if_neN (a := 1) 75 dX5_readChoice_70 (by decide) (by omega) (fun h_18 => ?_) (fun h_18 => ?_)
              · refine X_aload_n dX5_readChoice_75 rfl ?_
                refine X_iload_n dX5_readChoice_76 rfl ?_
                refine X_bipush (v := nI 60) dX5_readChoice_77 (by decide) ?_
                refine X_icmp_ne 88 dX5_readChoice_79 (by decide) (fun h_19 => ?_) (fun h_19 => ?_)
                · refine X_iload_n dX5_readChoice_88 rfl ?_
                  refine X_bipush (v := nI 62) dX5_readChoice_89 (by decide) ?_
                  refine X_icmp_ne 100 dX5_readChoice_91 (by decide) (fun h_20 => ?_) (fun h_20 => ?_)
                  · exact absurd q1 h_20
                  · refine X_sipush (v := nI 208) dX5_readChoice_94 (by decide) ?_
                    refine X_goto 103 dX5_readChoice_97 (by decide) ?_
                    have h153 := hm2.2.1
                    have hlb3 := hm2.2.2.2.2.2.1
                    have hlc3 := hm2.1.2.1
                    have hle3 : ((T ++ t1) ++ t2).length + 1 ≤ e2 := by omega
                    have hS3 := HST_put (t := (10, 0)) (v := nI 208) hm2 hle3 (by first | rfl | assumption)
                    have hlen3 := List.length_append (as := (T ++ t1) ++ t2) (bs := [(10, 0)])
                    rw [List.length_singleton] at hlen3
                    refine X_callVV dX5_readChoice_103 mkX5_49 (k_22 hSh) (c_put Γ g m2 ml hSh _ hm2.2.2.1 (by omega) (nI 208)) rfl rfl (by omega) (Nat.le_of_ble_eq_true rfl) ?_
                    refine X_aload_n dX5_readChoice_106 rfl ?_
                    refine X_getr (a := 2) dX5_readChoice_107 fkX5_15 rfl (k_22 hSh) (r_22_3 hSh) ?_
                    refine X_ldcS (j := 2) dX5_readChoice_110 rfl ?_
                    by_cases hs4 : wIx 2 B n (skT B n e2) = some 0
                    ·
                      have hl4 := wdT_le (B := B) (skT_le (B := B) hS3.1.2.1)
                      have hg4 := skT_ge (B := B) (n := n) (i := e2)
                      have hx4 := wdT_gt (by decide) hs4
                      have hS4 := HST_at hS3 hl4 (by omega)
                      refine X_callVI dX5_readChoice_112 mkX5_87 (k_2 hSh) (c_takeWord1 Γ g (up2 (up2 m2 23 ((T ++ t1) ++ t2).length (nI 208)) 22 1 (nI (((T ++ t1) ++ t2).length + 1))) ml hSh B n e2 hS3.1 2 (by decide) 0 (by decide) ((whN_eq (by decide)).trans hs4)) rfl rfl (by omega) (Nat.le_of_ble_eq_true rfl) ?_
                      refine X_if_eqN (a := 1) 146 dX5_readChoice_115 (by decide) (by omega) (fun h_21 => ?_) (fun h_21 => ?_)
                      · exact absurd h_21 (by omega)
                      · refine X_aload_n dX5_readChoice_118 rfl ?_
                        refine X_iload_n dX5_readChoice_119 rfl ?_
                        match hU5 : S (wdT B n (skT B n e2)) with
                        | .error (k5, p5) =>
                          refine X_callVrI dX5_readChoice_120 mkX5_27 (k_22 hSh) (hU m0 _ (wdT B n (skT B n e2)) (((T ++ t1) ++ t2) ++ [(10, 0)]) ((a || b1) || b2) hS4) rfl rfl (by omega) (Nat.le_of_ble_eq_true rfl) (fun v5 m5 l5 hm5 => ?_)
                          rw [hU5] at hm5
                          obtain ⟨hL5, rfl, hm5⟩ := hm5
                          rw [hL5]
                          refine X_if_eqN (a := 0) 146 dX5_readChoice_123 (by decide) (by omega) (fun h_22 => ?_) (fun h_22 => ?_)
                          · refine X_iconst (v := nI 0) dX5_readChoice_146 (by decide) ?_
                            exact X_zret (ty := .boolean) dX5_readChoice_147 rfl (by decide) ⟨rfl, _, rfl, rfl, by rw [show choR S B n i = .error (k5, p5) from by simp only [choR, sgK, wdK, bS, hU1, hO, hU2, hs4, hU5, if_true, if_false]]; exact ⟨rfl, hm5⟩⟩
                          · exact absurd h_22 (by omega)
                        | .ok (e5, t5, b5) =>
                          obtain ⟨hb5, hc5, hd5⟩ := (hUO _ hS4.1.2.1).1 e5 t5 b5 hU5
                          refine X_callVrI dX5_readChoice_120 mkX5_27 (k_22 hSh) (hU m0 _ (wdT B n (skT B n e2)) (((T ++ t1) ++ t2) ++ [(10, 0)]) ((a || b1) || b2) hS4) rfl rfl (by omega) (Nat.le_of_ble_eq_true rfl) (fun v5 m5 l5 hm5 => ?_)
                          rw [hU5] at hm5
                          obtain ⟨hL5, rfl, hm5⟩ := hm5
                          rw [hL5]
                          have hlen5 := List.length_append (as := ((T ++ t1) ++ t2) ++ [(10, 0)]) (bs := t5)
                          refine X_if_eqN (a := 1) 146 dX5_readChoice_123 (by decide) (by omega) (fun h_23 => ?_) (fun h_23 => ?_)
                          · exact absurd h_23 (by omega)
                          · refine X_aload_n dX5_readChoice_126 rfl ?_
                            refine X_getr (a := 2) dX5_readChoice_127 fkX5_15 rfl (k_22 hSh) (r_22_3 hSh) ?_
                            refine X_ldcS (j := 3) dX5_readChoice_130 rfl ?_
                            by_cases hs6 : wIx 3 B n (skT B n e5) = some 0
                            ·
                              have hl6 := wdT_le (B := B) (skT_le (B := B) hm5.1.2.1)
                              have hg6 := skT_ge (B := B) (n := n) (i := e5)
                              have hx6 := wdT_gt (by decide) hs6
                              have hS6 := HST_at hm5 hl6 (by omega)
                              refine X_callVI dX5_readChoice_132 mkX5_87 (k_2 hSh) (c_takeWord1 Γ g m5 ml hSh B n e5 hm5.1 3 (by decide) 0 (by decide) ((whN_eq (by decide)).trans hs6)) rfl rfl (by omega) (Nat.le_of_ble_eq_true rfl) ?_
                              refine X_if_eqN (a := 1) 146 dX5_readChoice_135 (by decide) (by omega) (fun h_24 => ?_) (fun h_24 => ?_)
                              · exact absurd h_24 (by omega)
                              · refine X_aload_n dX5_readChoice_138 rfl ?_
                                refine X_iload_n dX5_readChoice_139 rfl ?_
                                match hU7 : S (wdT B n (skT B n e5)) with
                                | .error (k7, p7) =>
                                  refine X_callVrI dX5_readChoice_140 mkX5_27 (k_22 hSh) (hU m0 _ (wdT B n (skT B n e5)) ((((T ++ t1) ++ t2) ++ [(10, 0)]) ++ t5) (((a || b1) || b2) || b5) hS6) rfl rfl (by omega) (Nat.le_of_ble_eq_true rfl) (fun v7 m7 l7 hm7 => ?_)
                                  rw [hU7] at hm7
                                  obtain ⟨hL7, rfl, hm7⟩ := hm7
                                  rw [hL7]
                                  refine X_if_neN (a := 0) 148 dX5_readChoice_143 (by decide) (by omega) (fun h_25 => ?_) (fun h_25 => ?_)
                                  · exact absurd h_25 (by omega)
                                  · refine X_iconst (v := nI 0) dX5_readChoice_146 (by decide) ?_
                                    exact X_zret (ty := .boolean) dX5_readChoice_147 rfl (by decide) ⟨rfl, _, rfl, rfl, by rw [show choR S B n i = .error (k7, p7) from by simp only [choR, sgK, wdK, bS, hU1, hO, hU2, hs4, hU5, hs6, hU7, if_true, if_false]]; exact ⟨rfl, hm7⟩⟩
                                | .ok (e7, t7, b7) =>
                                  obtain ⟨hb7, hc7, hd7⟩ := (hUO _ hS6.1.2.1).1 e7 t7 b7 hU7
                                  refine X_callVrI dX5_readChoice_140 mkX5_27 (k_22 hSh) (hU m0 _ (wdT B n (skT B n e5)) ((((T ++ t1) ++ t2) ++ [(10, 0)]) ++ t5) (((a || b1) || b2) || b5) hS6) rfl rfl (by omega) (Nat.le_of_ble_eq_true rfl) (fun v7 m7 l7 hm7 => ?_)
                                  rw [hU7] at hm7
                                  obtain ⟨hL7, rfl, hm7⟩ := hm7
                                  rw [hL7]
                                  have hlen7 := List.length_append (as := (((T ++ t1) ++ t2) ++ [(10, 0)]) ++ t5) (bs := t7)
                                  refine X_if_neN (a := 1) 148 dX5_readChoice_143 (by decide) (by omega) (fun h_26 => ?_) (fun h_26 => ?_)
                                  · refine X_aload_n dX5_readChoice_148 rfl ?_
                                    refine X_sipush (v := nI 210) dX5_readChoice_149 (by decide) ?_
                                    have h158 := hm7.2.1
                                    have hlb8 := hm7.2.2.2.2.2.1
                                    have hlc8 := hm7.1.2.1
                                    have hle8 : (((((T ++ t1) ++ t2) ++ [(10, 0)]) ++ t5) ++ t7).length + 1 ≤ e7 := by omega
                                    have hS8 := HST_put (t := (12, 0)) (v := nI 210) hm7 hle8 (by first | rfl | assumption)
                                    have hlen8 := List.length_append (as := ((((T ++ t1) ++ t2) ++ [(10, 0)]) ++ t5) ++ t7) (bs := [(12, 0)])
                                    rw [List.length_singleton] at hlen8
                                    refine X_callVV dX5_readChoice_152 mkX5_49 (k_22 hSh) (c_put Γ g m7 ml hSh _ hm7.2.2.1 (by omega) (nI 210)) rfl rfl (by omega) (Nat.le_of_ble_eq_true rfl) ?_
                                    refine X_iconst (v := nI 1) dX5_readChoice_155 (by decide) ?_
                                    exact X_zret (ty := .boolean) dX5_readChoice_156 rfl (by decide) ⟨rfl, _, rfl, rfl, by rw [show choR S B n i = .ok (e7, t1 ++ (t2 ++ ((10, 0) :: (t5 ++ (t7 ++ [(12, 0)])))), b1 || (b2 || (b5 || b7))) from by simp only [choR, sgK, wdK, bS, hU1, hO, hU2, hs4, hU5, hs6, hU7, if_true, if_false]]; exact ⟨rfl, HST_eq hS8 (by simp [List.append_assoc]) (by simp [Bool.or_assoc])⟩⟩
                                  · exact absurd h_26 (by omega)
                            ·
                              refine X_callVI dX5_readChoice_132 mkX5_87 (k_2 hSh) (c_takeWord0 Γ g m5 ml hSh B n e5 hm5.1 3 (by decide) ((whN_eq (by decide)).trans (wIx_n0 rfl hs6))) rfl rfl (by omega) (Nat.le_of_ble_eq_true rfl) ?_
                              refine X_if_eqN (a := 0) 146 dX5_readChoice_135 (by decide) (by omega) (fun h_27 => ?_) (fun h_27 => ?_)
                              · refine X_iconst (v := nI 0) dX5_readChoice_146 (by decide) ?_
                                exact X_zret (ty := .boolean) dX5_readChoice_147 rfl (by decide) ⟨rfl, _, rfl, rfl, by rw [show choR S B n i = .error (1, skT B n e5) from by simp only [choR, sgK, wdK, bS, hU1, hO, hU2, hs4, hU5, hs6, if_true, if_false]]; exact ⟨rfl, HER_of hm5 (fun i h1 => by rw [up2_row h1, up2_row h1, up2_row h1]) ((up2_n (by omega)).trans up2_s) up2_s⟩⟩
                              · exact absurd h_27 (by omega)
                    ·
                      refine X_callVI dX5_readChoice_112 mkX5_87 (k_2 hSh) (c_takeWord0 Γ g (up2 (up2 m2 23 ((T ++ t1) ++ t2).length (nI 208)) 22 1 (nI (((T ++ t1) ++ t2).length + 1))) ml hSh B n e2 hS3.1 2 (by decide) ((whN_eq (by decide)).trans (wIx_n0 rfl hs4))) rfl rfl (by omega) (Nat.le_of_ble_eq_true rfl) ?_
                      refine X_if_eqN (a := 0) 146 dX5_readChoice_115 (by decide) (by omega) (fun h_28 => ?_) (fun h_28 => ?_)
                      · refine X_iconst (v := nI 0) dX5_readChoice_146 (by decide) ?_
                        exact X_zret (ty := .boolean) dX5_readChoice_147 rfl (by decide) ⟨rfl, _, rfl, rfl, by rw [show choR S B n i = .error (1, skT B n e2) from by simp only [choR, sgK, wdK, bS, hU1, hO, hU2, hs4, if_true, if_false]]; exact ⟨rfl, HER_of hS3 (fun i h1 => by rw [up2_row h1, up2_row h1, up2_row h1]) ((up2_n (by omega)).trans up2_s) up2_s⟩⟩
                      · exact absurd h_28 (by omega)
                · exact absurd h_19 q0
              · exact absurd h_18 (by omega)
          · exact absurd q1 h_16
      by_cases q2 : byT B n (skT B n e1) = nI 61
      · have hO : cmO (byT B n (skT B n e1)) = some 11 := (if_neg q0).trans ((if_neg q1).trans (if_pos q2))
        have hlt := by_lt q2
        refine X_callVI dX5_readChoice_14 mkX5_31 (k_2 hSh) (c_peek Γ g m1 ml hSh B n e1 hm1.1.1 hm1.1.2.1 hm1.1.2.2.1 hm1.1.2.2.2.1 hm1.1.2.2.2.2) rfl rfl (by omega) (Nat.le_of_ble_eq_true rfl) ?_
        refine X_istore_n dX5_readChoice_17 (by decide) ?_
        refine X_iload_n dX5_readChoice_18 rfl ?_
        refine X_bipush (v := nI 60) dX5_readChoice_19 (by decide) ?_
        refine X_icmp_eq 52 dX5_readChoice_21 (by decide) (fun h_29 => ?_) (fun h_29 => ?_)
        · exact absurd h_29 q0
        · refine X_iload_n dX5_readChoice_24 rfl ?_
          refine X_bipush (v := nI 62) dX5_readChoice_25 (by decide) ?_
          refine X_icmp_eq 52 dX5_readChoice_27 (by decide) (fun h_30 => ?_) (fun h_30 => ?_)
          · exact absurd h_30 q1
          · refine X_iload_n dX5_readChoice_30 rfl ?_
            refine X_bipush (v := nI 61) dX5_readChoice_31 (by decide) ?_
            refine X_icmp_eq 52 dX5_readChoice_33 (by decide) (fun h_31 => ?_) (fun h_31 => ?_)
            · refine X_aload_n dX5_readChoice_52 rfl ?_
              refine X_getr (a := 2) dX5_readChoice_53 fkX5_15 rfl (k_22 hSh) (r_22_3 hSh) ?_
              refine X_dup dX5_readChoice_56 rfl ?_
              refine X_geti dX5_readChoice_57 fkX5_37 rfl (k_2 hSh) ?_
              rw [up2_s]
              refine X_iconst (v := nI 1) dX5_readChoice_60 (by decide) ?_
              refine X_iadd dX5_readChoice_61 ?_
              refine X_topi (nI_add (skT B n e1) 1) ?_
              refine X_puti dX5_readChoice_62 fkX5_37 rfl rfl (k_2 hSh) ?_
              refine X_mi up2_up2 ?_
              have hSq := HST_at hm1 hlt (by omega)
              refine X_aload_n dX5_readChoice_65 rfl ?_
              refine X_iload_n dX5_readChoice_66 rfl ?_
              match hU2 : S (skT B n e1 + 1) with
              | .error (k2, p2) =>
                refine X_callVrI dX5_readChoice_67 mkX5_27 (k_22 hSh) (hU m0 _ (skT B n e1 + 1) (T ++ t1) (a || b1) hSq) rfl rfl (by omega) (Nat.le_of_ble_eq_true rfl) (fun v2 m2 l2 hm2 => ?_)
                rw [hU2] at hm2
                obtain ⟨hL2, rfl, hm2⟩ := hm2
                rw [hL2]
                refine X_if_neN (a := 0) 75 dX5_readChoice_70 (by decide) (by omega) (fun h_32 => ?_) (fun h_32 => ?_)
                · exact absurd h_32 (by omega)
                · refine X_iconst (v := nI 0) dX5_readChoice_73 (by decide) ?_
                  exact X_zret (ty := .boolean) dX5_readChoice_74 rfl (by decide) ⟨rfl, _, rfl, rfl, by rw [show choR S B n i = .error (k2, p2) from by simp only [choR, sgK, wdK, bS, hU1, hO, hU2, if_true, if_false]]; exact ⟨rfl, hm2⟩⟩
              | .ok (e2, t2, b2) =>
                obtain ⟨hb2, hc2, hd2⟩ := (hUO _ hSq.1.2.1).1 e2 t2 b2 hU2
                refine X_callVrI dX5_readChoice_67 mkX5_27 (k_22 hSh) (hU m0 _ (skT B n e1 + 1) (T ++ t1) (a || b1) hSq) rfl rfl (by omega) (Nat.le_of_ble_eq_true rfl) (fun v2 m2 l2 hm2 => ?_)
                rw [hU2] at hm2
                obtain ⟨hL2, rfl, hm2⟩ := hm2
                rw [hL2]
                have hlen2 := List.length_append (as := T ++ t1) (bs := t2)
                refine X_if_neN (a := 1) 75 dX5_readChoice_70 (by decide) (by omega) (fun h_33 => ?_) (fun h_33 => ?_)
                · refine X_aload_n dX5_readChoice_75 rfl ?_
                  refine X_iload_n dX5_readChoice_76 rfl ?_
                  refine X_bipush (v := nI 60) dX5_readChoice_77 (by decide) ?_
                  refine X_icmp_ne 88 dX5_readChoice_79 (by decide) (fun h_34 => ?_) (fun h_34 => ?_)
                  · refine X_iload_n dX5_readChoice_88 rfl ?_
                    refine X_bipush (v := nI 62) dX5_readChoice_89 (by decide) ?_
                    refine X_icmp_ne 100 dX5_readChoice_91 (by decide) (fun h_35 => ?_) (fun h_35 => ?_)
                    · refine X_sipush (v := nI 209) dX5_readChoice_100 (by decide) ?_
                      have h153 := hm2.2.1
                      have hlb3 := hm2.2.2.2.2.2.1
                      have hlc3 := hm2.1.2.1
                      have hle3 : ((T ++ t1) ++ t2).length + 1 ≤ e2 := by omega
                      have hS3 := HST_put (t := (11, 0)) (v := nI 209) hm2 hle3 (by first | rfl | assumption)
                      have hlen3 := List.length_append (as := (T ++ t1) ++ t2) (bs := [(11, 0)])
                      rw [List.length_singleton] at hlen3
                      refine X_callVV dX5_readChoice_103 mkX5_49 (k_22 hSh) (c_put Γ g m2 ml hSh _ hm2.2.2.1 (by omega) (nI 209)) rfl rfl (by omega) (Nat.le_of_ble_eq_true rfl) ?_
                      refine X_aload_n dX5_readChoice_106 rfl ?_
                      refine X_getr (a := 2) dX5_readChoice_107 fkX5_15 rfl (k_22 hSh) (r_22_3 hSh) ?_
                      refine X_ldcS (j := 2) dX5_readChoice_110 rfl ?_
                      by_cases hs4 : wIx 2 B n (skT B n e2) = some 0
                      ·
                        have hl4 := wdT_le (B := B) (skT_le (B := B) hS3.1.2.1)
                        have hg4 := skT_ge (B := B) (n := n) (i := e2)
                        have hx4 := wdT_gt (by decide) hs4
                        have hS4 := HST_at hS3 hl4 (by omega)
                        refine X_callVI dX5_readChoice_112 mkX5_87 (k_2 hSh) (c_takeWord1 Γ g (up2 (up2 m2 23 ((T ++ t1) ++ t2).length (nI 209)) 22 1 (nI (((T ++ t1) ++ t2).length + 1))) ml hSh B n e2 hS3.1 2 (by decide) 0 (by decide) ((whN_eq (by decide)).trans hs4)) rfl rfl (by omega) (Nat.le_of_ble_eq_true rfl) ?_
                        refine X_if_eqN (a := 1) 146 dX5_readChoice_115 (by decide) (by omega) (fun h_36 => ?_) (fun h_36 => ?_)
                        · exact absurd h_36 (by omega)
                        · refine X_aload_n dX5_readChoice_118 rfl ?_
                          refine X_iload_n dX5_readChoice_119 rfl ?_
                          match hU5 : S (wdT B n (skT B n e2)) with
                          | .error (k5, p5) =>
                            refine X_callVrI dX5_readChoice_120 mkX5_27 (k_22 hSh) (hU m0 _ (wdT B n (skT B n e2)) (((T ++ t1) ++ t2) ++ [(11, 0)]) ((a || b1) || b2) hS4) rfl rfl (by omega) (Nat.le_of_ble_eq_true rfl) (fun v5 m5 l5 hm5 => ?_)
                            rw [hU5] at hm5
                            obtain ⟨hL5, rfl, hm5⟩ := hm5
                            rw [hL5]
                            refine X_if_eqN (a := 0) 146 dX5_readChoice_123 (by decide) (by omega) (fun h_37 => ?_) (fun h_37 => ?_)
                            · refine X_iconst (v := nI 0) dX5_readChoice_146 (by decide) ?_
                              exact X_zret (ty := .boolean) dX5_readChoice_147 rfl (by decide) ⟨rfl, _, rfl, rfl, by rw [show choR S B n i = .error (k5, p5) from by simp only [choR, sgK, wdK, bS, hU1, hO, hU2, hs4, hU5, if_true, if_false]]; exact ⟨rfl, hm5⟩⟩
                            · exact absurd h_37 (by omega)
                          | .ok (e5, t5, b5) =>
                            obtain ⟨hb5, hc5, hd5⟩ := (hUO _ hS4.1.2.1).1 e5 t5 b5 hU5
                            refine X_callVrI dX5_readChoice_120 mkX5_27 (k_22 hSh) (hU m0 _ (wdT B n (skT B n e2)) (((T ++ t1) ++ t2) ++ [(11, 0)]) ((a || b1) || b2) hS4) rfl rfl (by omega) (Nat.le_of_ble_eq_true rfl) (fun v5 m5 l5 hm5 => ?_)
                            rw [hU5] at hm5
                            obtain ⟨hL5, rfl, hm5⟩ := hm5
                            rw [hL5]
                            have hlen5 := List.length_append (as := ((T ++ t1) ++ t2) ++ [(11, 0)]) (bs := t5)
                            refine X_if_eqN (a := 1) 146 dX5_readChoice_123 (by decide) (by omega) (fun h_38 => ?_) (fun h_38 => ?_)
                            · exact absurd h_38 (by omega)
                            · refine X_aload_n dX5_readChoice_126 rfl ?_
                              refine X_getr (a := 2) dX5_readChoice_127 fkX5_15 rfl (k_22 hSh) (r_22_3 hSh) ?_
                              refine X_ldcS (j := 3) dX5_readChoice_130 rfl ?_
                              by_cases hs6 : wIx 3 B n (skT B n e5) = some 0
                              ·
                                have hl6 := wdT_le (B := B) (skT_le (B := B) hm5.1.2.1)
                                have hg6 := skT_ge (B := B) (n := n) (i := e5)
                                have hx6 := wdT_gt (by decide) hs6
                                have hS6 := HST_at hm5 hl6 (by omega)
                                refine X_callVI dX5_readChoice_132 mkX5_87 (k_2 hSh) (c_takeWord1 Γ g m5 ml hSh B n e5 hm5.1 3 (by decide) 0 (by decide) ((whN_eq (by decide)).trans hs6)) rfl rfl (by omega) (Nat.le_of_ble_eq_true rfl) ?_
                                refine X_if_eqN (a := 1) 146 dX5_readChoice_135 (by decide) (by omega) (fun h_39 => ?_) (fun h_39 => ?_)
                                · exact absurd h_39 (by omega)
                                · refine X_aload_n dX5_readChoice_138 rfl ?_
                                  refine X_iload_n dX5_readChoice_139 rfl ?_
                                  match hU7 : S (wdT B n (skT B n e5)) with
                                  | .error (k7, p7) =>
                                    refine X_callVrI dX5_readChoice_140 mkX5_27 (k_22 hSh) (hU m0 _ (wdT B n (skT B n e5)) ((((T ++ t1) ++ t2) ++ [(11, 0)]) ++ t5) (((a || b1) || b2) || b5) hS6) rfl rfl (by omega) (Nat.le_of_ble_eq_true rfl) (fun v7 m7 l7 hm7 => ?_)
                                    rw [hU7] at hm7
                                    obtain ⟨hL7, rfl, hm7⟩ := hm7
                                    rw [hL7]
                                    refine X_if_neN (a := 0) 148 dX5_readChoice_143 (by decide) (by omega) (fun h_40 => ?_) (fun h_40 => ?_)
                                    · exact absurd h_40 (by omega)
                                    · refine X_iconst (v := nI 0) dX5_readChoice_146 (by decide) ?_
                                      exact X_zret (ty := .boolean) dX5_readChoice_147 rfl (by decide) ⟨rfl, _, rfl, rfl, by rw [show choR S B n i = .error (k7, p7) from by simp only [choR, sgK, wdK, bS, hU1, hO, hU2, hs4, hU5, hs6, hU7, if_true, if_false]]; exact ⟨rfl, hm7⟩⟩
                                  | .ok (e7, t7, b7) =>
                                    obtain ⟨hb7, hc7, hd7⟩ := (hUO _ hS6.1.2.1).1 e7 t7 b7 hU7
                                    refine X_callVrI dX5_readChoice_140 mkX5_27 (k_22 hSh) (hU m0 _ (wdT B n (skT B n e5)) ((((T ++ t1) ++ t2) ++ [(11, 0)]) ++ t5) (((a || b1) || b2) || b5) hS6) rfl rfl (by omega) (Nat.le_of_ble_eq_true rfl) (fun v7 m7 l7 hm7 => ?_)
                                    rw [hU7] at hm7
                                    obtain ⟨hL7, rfl, hm7⟩ := hm7
                                    rw [hL7]
                                    have hlen7 := List.length_append (as := (((T ++ t1) ++ t2) ++ [(11, 0)]) ++ t5) (bs := t7)
                                    refine X_if_neN (a := 1) 148 dX5_readChoice_143 (by decide) (by omega) (fun h_41 => ?_) (fun h_41 => ?_)
                                    · refine X_aload_n dX5_readChoice_148 rfl ?_
                                      refine X_sipush (v := nI 210) dX5_readChoice_149 (by decide) ?_
                                      have h158 := hm7.2.1
                                      have hlb8 := hm7.2.2.2.2.2.1
                                      have hlc8 := hm7.1.2.1
                                      have hle8 : (((((T ++ t1) ++ t2) ++ [(11, 0)]) ++ t5) ++ t7).length + 1 ≤ e7 := by omega
                                      have hS8 := HST_put (t := (12, 0)) (v := nI 210) hm7 hle8 (by first | rfl | assumption)
                                      have hlen8 := List.length_append (as := ((((T ++ t1) ++ t2) ++ [(11, 0)]) ++ t5) ++ t7) (bs := [(12, 0)])
                                      rw [List.length_singleton] at hlen8
                                      refine X_callVV dX5_readChoice_152 mkX5_49 (k_22 hSh) (c_put Γ g m7 ml hSh _ hm7.2.2.1 (by omega) (nI 210)) rfl rfl (by omega) (Nat.le_of_ble_eq_true rfl) ?_
                                      refine X_iconst (v := nI 1) dX5_readChoice_155 (by decide) ?_
                                      exact X_zret (ty := .boolean) dX5_readChoice_156 rfl (by decide) ⟨rfl, _, rfl, rfl, by rw [show choR S B n i = .ok (e7, t1 ++ (t2 ++ ((11, 0) :: (t5 ++ (t7 ++ [(12, 0)])))), b1 || (b2 || (b5 || b7))) from by simp only [choR, sgK, wdK, bS, hU1, hO, hU2, hs4, hU5, hs6, hU7, if_true, if_false]]; exact ⟨rfl, HST_eq hS8 (by simp [List.append_assoc]) (by simp [Bool.or_assoc])⟩⟩
                                    · exact absurd h_41 (by omega)
                              ·
                                refine X_callVI dX5_readChoice_132 mkX5_87 (k_2 hSh) (c_takeWord0 Γ g m5 ml hSh B n e5 hm5.1 3 (by decide) ((whN_eq (by decide)).trans (wIx_n0 rfl hs6))) rfl rfl (by omega) (Nat.le_of_ble_eq_true rfl) ?_
                                refine X_if_eqN (a := 0) 146 dX5_readChoice_135 (by decide) (by omega) (fun h_42 => ?_) (fun h_42 => ?_)
                                · refine X_iconst (v := nI 0) dX5_readChoice_146 (by decide) ?_
                                  exact X_zret (ty := .boolean) dX5_readChoice_147 rfl (by decide) ⟨rfl, _, rfl, rfl, by rw [show choR S B n i = .error (1, skT B n e5) from by simp only [choR, sgK, wdK, bS, hU1, hO, hU2, hs4, hU5, hs6, if_true, if_false]]; exact ⟨rfl, HER_of hm5 (fun i h1 => by rw [up2_row h1, up2_row h1, up2_row h1]) ((up2_n (by omega)).trans up2_s) up2_s⟩⟩
                                · exact absurd h_42 (by omega)
                      ·
                        refine X_callVI dX5_readChoice_112 mkX5_87 (k_2 hSh) (c_takeWord0 Γ g (up2 (up2 m2 23 ((T ++ t1) ++ t2).length (nI 209)) 22 1 (nI (((T ++ t1) ++ t2).length + 1))) ml hSh B n e2 hS3.1 2 (by decide) ((whN_eq (by decide)).trans (wIx_n0 rfl hs4))) rfl rfl (by omega) (Nat.le_of_ble_eq_true rfl) ?_
                        refine X_if_eqN (a := 0) 146 dX5_readChoice_115 (by decide) (by omega) (fun h_43 => ?_) (fun h_43 => ?_)
                        · refine X_iconst (v := nI 0) dX5_readChoice_146 (by decide) ?_
                          exact X_zret (ty := .boolean) dX5_readChoice_147 rfl (by decide) ⟨rfl, _, rfl, rfl, by rw [show choR S B n i = .error (1, skT B n e2) from by simp only [choR, sgK, wdK, bS, hU1, hO, hU2, hs4, if_true, if_false]]; exact ⟨rfl, HER_of hS3 (fun i h1 => by rw [up2_row h1, up2_row h1, up2_row h1]) ((up2_n (by omega)).trans up2_s) up2_s⟩⟩
                        · exact absurd h_43 (by omega)
                    · exact absurd h_35 q1
                  · exact absurd h_34 q0
                · exact absurd h_33 (by omega)
            · exact absurd q2 h_31
      · have hO : cmO (byT B n (skT B n e1)) = none := (if_neg q0).trans ((if_neg q1).trans (if_neg q2))
        refine X_callVI dX5_readChoice_14 mkX5_31 (k_2 hSh) (c_peek Γ g m1 ml hSh B n e1 hm1.1.1 hm1.1.2.1 hm1.1.2.2.1 hm1.1.2.2.2.1 hm1.1.2.2.2.2) rfl rfl (by omega) (Nat.le_of_ble_eq_true rfl) ?_
        refine X_istore_n dX5_readChoice_17 (by decide) ?_
        refine X_iload_n dX5_readChoice_18 rfl ?_
        refine X_bipush (v := nI 60) dX5_readChoice_19 (by decide) ?_
        refine X_icmp_eq 52 dX5_readChoice_21 (by decide) (fun h_44 => ?_) (fun h_44 => ?_)
        · exact absurd h_44 q0
        · refine X_iload_n dX5_readChoice_24 rfl ?_
          refine X_bipush (v := nI 62) dX5_readChoice_25 (by decide) ?_
          refine X_icmp_eq 52 dX5_readChoice_27 (by decide) (fun h_45 => ?_) (fun h_45 => ?_)
          · exact absurd h_45 q1
          · refine X_iload_n dX5_readChoice_30 rfl ?_
            refine X_bipush (v := nI 61) dX5_readChoice_31 (by decide) ?_
            refine X_icmp_eq 52 dX5_readChoice_33 (by decide) (fun h_46 => ?_) (fun h_46 => ?_)
            · exact absurd h_46 q2
            · refine X_aload_n dX5_readChoice_36 rfl ?_
              refine X_getr (a := 2) dX5_readChoice_37 fkX5_15 rfl (k_22 hSh) (r_22_3 hSh) ?_
              refine X_iconst (v := nI 1) dX5_readChoice_40 (by decide) ?_
              refine X_aload_n dX5_readChoice_41 rfl ?_
              refine X_getr (a := 2) dX5_readChoice_42 fkX5_15 rfl (k_22 hSh) (r_22_3 hSh) ?_
              refine X_geti dX5_readChoice_45 fkX5_37 rfl (k_2 hSh) ?_
              rw [up2_s]
              refine X_callVI dX5_readChoice_48 mkX5_40 (k_2 hSh) (c_fail Γ g (up2 m1 2 2 (nI (skT B n e1))) ml hSh (nI 1) (nI (skT B n e1))) rfl rfl (by omega) (Nat.le_of_ble_eq_true rfl) ?_
              exact X_zret (ty := .boolean) dX5_readChoice_51 rfl (by decide) ⟨rfl, _, rfl, rfl, by rw [show choR S B n i = .error (1, skT B n e1) from by simp only [choR, sgK, wdK, bS, hU1, hO, if_true, if_false]]; exact ⟨rfl, HER_of hm1 (fun i h1 => by rw [up2_row h1, up2_row h1, up2_row h1]) ((up2_n (by omega)).trans up2_s) up2_s⟩⟩
    · exact absurd h_2 (by omega)

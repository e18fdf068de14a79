set_option maxRecDepth 100000 in
set_option maxHeartbeats 4000000 in
theorem rc_unit0 (Γ : pTG) (g : pGG) (ml : pML) (hSh : Sh g) (B : Nat → Int32) (n : Nat) (D : Nat) (hD : 10 ≤ D) : RC2 Γ g ml B n D mX12_one 6 (unitR none B n) := by
  intro m0 mi i T a hS
  refine rV_of (by decide +kernel) (Nat.le_of_ble_eq_true rfl) ?_
  have hin := hS.1.2.1
  have hn15 := hS.2.1
  have hTl := hS.2.2.2.2.2.2.2.1
  have hs1 := skT_le (B := B) hS.1.2.1
  have hs2 := skT_ge (B := B) (n := n) (i := i)
  have hS1 := RST_at hS hs1 hs2
  have hwl := wdT_le (B := B) hs1
  have hwg := wdT_ge (B := B) (n := n) (i := skT B n i)
  by_cases hd : dgP B n (skT B n i) = true
  · have hW := wIx_nil (j := 1) (by decide) (sm_dg hd)
    have hp : ¬ byT B n (skT B n i) = nI 40 := fun q => by obtain ⟨h1, h2, h3⟩ := dgP_t hd; rw [byT_in h1] at q; rw [q] at h2; exact absurd h2 (by decide)
    refine X_aload_n dX12_one_0 rfl ?_
    refine X_geti dX12_one_1 fkX12_174 rfl (k_87 hSh) ?_
    rw [hS.2.2.1]
    refine X_if_eqN (a := 0) 8 dX12_one_4 (by decide) (by omega) (fun h_1 => ?_) (fun h_1 => ?_)
    · refine X_aload_n dX12_one_8 rfl ?_
      refine X_callVV dX12_one_9 mkX12_180 (k_87 hSh) (c_blanks Γ g mi ml hSh B n i hS.1) rfl rfl (by omega) (Nat.le_of_ble_eq_true rfl) ?_
      refine X_aload_n dX12_one_12 rfl ?_
      refine X_bipush (v := nI 12) dX12_one_13 (by decide) ?_
      refine X_iconst (v := nI 5) dX12_one_15 (by decide) ?_
      refine X_iconst (v := nI 1) dX12_one_16 (by decide) ?_
      refine X_bipush (v := nI 19) dX12_one_17 (by decide) ?_
      refine X_bipush (v := nI 20) dX12_one_19 (by decide) ?_
      refine X_iconst (v := nI 0) dX12_one_21 (by decide) ?_
      refine X_callVI dX12_one_22 mkX12_207 (k_87 hSh) (c_isW0 Γ g (up2 mi 87 4 (nI (skT B n i))) ml hSh B n (skT B n i) hS1.1 skT_sk hS1.2.2.1 12 5 1 19 20 0 (by decide) (by decide) (by decide) (by decide) (fun q => by have h9 := wq_1_11.mp q; rw [hW] at h9; cases h9)) rfl rfl (by omega) (Nat.le_of_ble_eq_true rfl) ?_
      refine X_if_eqN (a := 0) 33 dX12_one_25 (by decide) (by omega) (fun h_2 => ?_) (fun h_2 => ?_)
      · refine X_aload_n dX12_one_33 rfl ?_
        refine X_bipush (v := nI 13) dX12_one_34 (by decide) ?_
        refine X_bipush (v := nI 15) dX12_one_36 (by decide) ?_
        refine X_bipush (v := nI 19) dX12_one_38 (by decide) ?_
        refine X_bipush (v := nI 20) dX12_one_40 (by decide) ?_
        refine X_iconst (v := nI 0) dX12_one_42 (by decide) ?_
        refine X_iconst (v := nI 0) dX12_one_43 (by decide) ?_
        refine X_callVI dX12_one_44 mkX12_207 (k_87 hSh) (c_isW0 Γ g (up2 mi 87 4 (nI (skT B n i))) ml hSh B n (skT B n i) hS1.1 skT_sk hS1.2.2.1 13 15 19 20 0 0 (by decide) (by decide) (by decide) (by decide) (fun q => by have h9 := wq_1_12.mp q; rw [hW] at h9; cases h9)) rfl rfl (by omega) (Nat.le_of_ble_eq_true rfl) ?_
        refine X_if_eqN (a := 0) 55 dX12_one_47 (by decide) (by omega) (fun h_3 => ?_) (fun h_3 => ?_)
        · refine X_iconst (v := -1) dX12_one_55 (by decide) ?_
          refine X_istore_n dX12_one_56 (by decide) ?_
          refine X_iload_n dX12_one_57 rfl ?_
          refine X_iconst (v := -1) dX12_one_58 (by decide) ?_
          refine X_icmp_eq 117 dX12_one_59 (by decide) (fun h_4 => ?_) (fun h_4 => ?_)
          · refine X_aload_n dX12_one_117 rfl ?_
            refine X_bipush (v := nI 9) dX12_one_118 (by decide) ?_
            refine X_bipush (v := nI 6) dX12_one_120 (by decide) ?_
            refine X_iconst (v := nI 0) dX12_one_122 (by decide) ?_
            refine X_iconst (v := nI 0) dX12_one_123 (by decide) ?_
            refine X_iconst (v := nI 0) dX12_one_124 (by decide) ?_
            refine X_iconst (v := nI 0) dX12_one_125 (by decide) ?_
            refine X_callVI dX12_one_126 mkX12_207 (k_87 hSh) (c_isW0 Γ g (up2 mi 87 4 (nI (skT B n i))) ml hSh B n (skT B n i) hS1.1 skT_sk hS1.2.2.1 9 6 0 0 0 0 (by decide) (by decide) (by decide) (by decide) (fun q => by have h9 := wq_1_13.mp q; rw [hW] at h9; cases h9)) rfl rfl (by omega) (Nat.le_of_ble_eq_true rfl) ?_
            refine X_if_eqN (a := 0) 291 dX12_one_129 (by decide) (by omega) (fun h_5 => ?_) (fun h_5 => ?_)
            · refine X_aload_n dX12_one_291 rfl ?_
              refine X_aload_n dX12_one_292 rfl ?_
              refine X_geti dX12_one_293 fkX12_167 rfl (k_87 hSh) ?_
              rw [up2_s]
              refine X_callVI dX12_one_296 mkX12_170 (k_87 hSh) (c_byteT Γ g (up2 mi 87 4 (nI (skT B n i))) ml hSh B n (skT B n i) hS1.1 (skT B n i) (by omega)) rfl rfl (by omega) (Nat.le_of_ble_eq_true rfl) ?_
              refine X_bipush (v := nI 40) dX12_one_299 (by decide) ?_
              refine X_icmp_ne 343 dX12_one_301 (by decide) (fun h_6 => ?_) (fun h_6 => ?_)
              · refine X_aload_n dX12_one_343 rfl ?_
                refine X_callVI dX12_one_344 mkX12_278 (k_87 hSh) (c_knownN Γ g (up2 mi 87 4 (nI (skT B n i))) ml hSh B n (skT B n i) hS1.1 skT_sk hS1.2.2.1 (fun j _ q => by rw [hW] at q; cases q)) rfl rfl (by omega) (Nat.le_of_ble_eq_true rfl) ?_
                refine X_istore_n dX12_one_347 (by decide) ?_
                refine X_aload_n dX12_one_348 rfl ?_
                refine X_aload_n dX12_one_349 rfl ?_
                refine X_geti dX12_one_350 fkX12_281 rfl (k_87 hSh) ?_
                rw [hS1.2.2.2.2.2.1]
                refine X_if_ne 362 dX12_one_353 (by decide) (fun h_7 => ?_) (fun h_7 => ?_)
                · refine X_iconst (v := nI 1) dX12_one_362 (by decide) ?_
                  refine X_goto 367 dX12_one_363 (by decide) ?_
                  refine X_topi (show nI 1 = bI a by first | (rw [(bI_n0 (b := a)).mp (by assumption)]; rfl) | (rw [(bI_0 (b := a)).mp (by assumption)]; rfl)) ?_
                  have h01 := bI_01 a
                  have hSa := RST_ask (b := a) (v := bI a) hS1 rfl
                  refine X_putz dX12_one_367 fkX12_281 rfl (by first | exact Or.inl rfl | exact Or.inr rfl | assumption) rfl (k_87 hSh) ?_
                  refine X_iload_n dX12_one_370 rfl ?_
                  refine X_iconst (v := -1) dX12_one_371 (by decide) ?_
                  refine X_icmp_eq 384 dX12_one_372 (by decide) (fun h_8 => ?_) (fun h_8 => ?_)
                  · refine X_aload_n dX12_one_384 rfl ?_
                    refine X_iconst (v := nI 0) dX12_one_385 (by decide) ?_
                    refine X_aload_n dX12_one_386 rfl ?_
                    refine X_iconst (v := nI 0) dX12_one_387 (by decide) ?_
                    refine X_bipush (v := nI 99) dX12_one_388 (by decide) ?_
                    match hN : numR B n i 0 100 with
                    | .error (k1, p1) =>
                      obtain ⟨hka1, hkb1⟩ := numR_k hN
                      obtain ⟨q1, hq1, hC1⟩ := c_rnumE Γ g (up2 (up2 mi 87 4 (nI (skT B n i))) 87 33 (bI a)) ml hSh B n (skT B n i) hSa.1 hSa.2.2.1 0 100 (nI 99) (by omega) (by omega) (hH_of (by omega)) (numR_sk.trans hN)
                      have hE1 := RHE_of (p := p1) hSa hq1 (show 1 ≤ k1 ∧ k1 ≤ 3 by omega)
                      refine X_callVI dX12_one_390 mkX12_220 (k_87 hSh) (hC1) rfl rfl (by omega) (Nat.le_of_ble_eq_true rfl) ?_
                      refine X_callVV dX12_one_393 mkX12_262 (k_87 hSh) (c_notesF Γ g (up2 (up2 (up2 (up2 (up2 mi 87 4 (nI (skT B n i))) 87 33 (bI a)) 87 4 (nI q1)) 87 5 (nI k1)) 87 6 (nI p1)) ml hSh (RHE_f hE1) (nI 0) (nI 0)) rfl rfl (by omega) (Nat.le_of_ble_eq_true rfl) ?_
                      exact X_vret dX12_one_396 rfl ⟨rfl, rfl, by rw [show unitR none B n i = .error (k1, p1) from by simp only [unitR, pairR, choR, sgK, wdK, bS, hd, hN, if_true, if_false, Bool.false_eq_true, reduceIte, Nat.reduceLT, Nat.reduceSub]]; exact hE1, rfl⟩
                    | .ok (v1, e1) =>
                      obtain ⟨he1, hi1, hl1, hv1⟩ := numR_o hin hN
                      have hi2 := (numR_o hs1 (numR_sk.trans hN)).2.1
                      have hS2 := RST_at hSa he1 (by omega)
                      refine X_callVI dX12_one_390 mkX12_220 (k_87 hSh) (c_rnumOK Γ g (up2 (up2 mi 87 4 (nI (skT B n i))) 87 33 (bI a)) ml hSh B n (skT B n i) hSa.1 hSa.2.2.1 0 100 (nI 99) (by omega) (by omega) (hH_of (by omega)) (numR_sk.trans hN)) rfl rfl (by omega) (Nat.le_of_ble_eq_true rfl) ?_
                      have h151 := hS2.2.1
                      have hlb1 := hS2.2.2.2.2.2.2.2.1
                      have hlc1 := hS2.1.2.1
                      have hle1 : (T).length + 1 ≤ e1 := by omega
                      have hS1 := RST_nt (t := (0, v1)) (u := nI 0) (v := nI v1) hS2 hle1 rfl rfl
                      have hlen1 := List.length_append (as := T) (bs := [(0, v1)])
                      rw [List.length_singleton] at hlen1
                      refine X_callVV dX12_one_393 mkX12_262 (k_87 hSh) (c_notes Γ g (up2 (up2 (up2 mi 87 4 (nI (skT B n i))) 87 33 (bI a)) 87 4 (nI e1)) ml hSh hS2.2.2.1 _ hS2.2.2.2.1 (by omega) (nI 0) (nI v1)) rfl rfl (by omega) (Nat.le_of_ble_eq_true rfl) ?_
                      exact X_vret dX12_one_396 rfl ⟨rfl, rfl, by rw [show unitR none B n i = .ok (e1, [(0, v1)], false) from by simp only [unitR, pairR, choR, sgK, wdK, bS, hd, hN, if_true, if_false, Bool.false_eq_true, reduceIte, Nat.reduceLT, Nat.reduceSub]]; exact RST_eq (hS1) (by simp [List.append_assoc]) (by simp [Bool.or_assoc]), rfl⟩
                  · exact absurd rfl h_8
                · refine X_iload_n dX12_one_356 rfl ?_
                  refine X_bipush (v := nI 6) dX12_one_357 (by decide) ?_
                  refine X_icmp_ne 366 dX12_one_359 (by decide) (fun h_9 => ?_) (fun h_9 => ?_)
                  · refine X_iconst (v := nI 0) dX12_one_366 (by decide) ?_
                    refine X_topi (show nI 0 = bI a by first | (rw [(bI_n0 (b := a)).mp (by assumption)]; rfl) | (rw [(bI_0 (b := a)).mp (by assumption)]; rfl)) ?_
                    have h01 := bI_01 a
                    have hSa := RST_ask (b := a) (v := bI a) hS1 rfl
                    refine X_putz dX12_one_367 fkX12_281 rfl (by first | exact Or.inl rfl | exact Or.inr rfl | assumption) rfl (k_87 hSh) ?_
                    refine X_iload_n dX12_one_370 rfl ?_
                    refine X_iconst (v := -1) dX12_one_371 (by decide) ?_
                    refine X_icmp_eq 384 dX12_one_372 (by decide) (fun h_10 => ?_) (fun h_10 => ?_)
                    · refine X_aload_n dX12_one_384 rfl ?_
                      refine X_iconst (v := nI 0) dX12_one_385 (by decide) ?_
                      refine X_aload_n dX12_one_386 rfl ?_
                      refine X_iconst (v := nI 0) dX12_one_387 (by decide) ?_
                      refine X_bipush (v := nI 99) dX12_one_388 (by decide) ?_
                      match hN : numR B n i 0 100 with
                      | .error (k1, p1) =>
                        obtain ⟨hka1, hkb1⟩ := numR_k hN
                        obtain ⟨q1, hq1, hC1⟩ := c_rnumE Γ g (up2 (up2 mi 87 4 (nI (skT B n i))) 87 33 (bI a)) ml hSh B n (skT B n i) hSa.1 hSa.2.2.1 0 100 (nI 99) (by omega) (by omega) (hH_of (by omega)) (numR_sk.trans hN)
                        have hE1 := RHE_of (p := p1) hSa hq1 (show 1 ≤ k1 ∧ k1 ≤ 3 by omega)
                        refine X_callVI dX12_one_390 mkX12_220 (k_87 hSh) (hC1) rfl rfl (by omega) (Nat.le_of_ble_eq_true rfl) ?_
                        refine X_callVV dX12_one_393 mkX12_262 (k_87 hSh) (c_notesF Γ g (up2 (up2 (up2 (up2 (up2 mi 87 4 (nI (skT B n i))) 87 33 (bI a)) 87 4 (nI q1)) 87 5 (nI k1)) 87 6 (nI p1)) ml hSh (RHE_f hE1) (nI 0) (nI 0)) rfl rfl (by omega) (Nat.le_of_ble_eq_true rfl) ?_
                        exact X_vret dX12_one_396 rfl ⟨rfl, rfl, by rw [show unitR none B n i = .error (k1, p1) from by simp only [unitR, pairR, choR, sgK, wdK, bS, hd, hN, if_true, if_false, Bool.false_eq_true, reduceIte, Nat.reduceLT, Nat.reduceSub]]; exact hE1, rfl⟩
                      | .ok (v1, e1) =>
                        obtain ⟨he1, hi1, hl1, hv1⟩ := numR_o hin hN
                        have hi2 := (numR_o hs1 (numR_sk.trans hN)).2.1
                        have hS2 := RST_at hSa he1 (by omega)
                        refine X_callVI dX12_one_390 mkX12_220 (k_87 hSh) (c_rnumOK Γ g (up2 (up2 mi 87 4 (nI (skT B n i))) 87 33 (bI a)) ml hSh B n (skT B n i) hSa.1 hSa.2.2.1 0 100 (nI 99) (by omega) (by omega) (hH_of (by omega)) (numR_sk.trans hN)) rfl rfl (by omega) (Nat.le_of_ble_eq_true rfl) ?_
                        have h151 := hS2.2.1
                        have hlb1 := hS2.2.2.2.2.2.2.2.1
                        have hlc1 := hS2.1.2.1
                        have hle1 : (T).length + 1 ≤ e1 := by omega
                        have hS1 := RST_nt (t := (0, v1)) (u := nI 0) (v := nI v1) hS2 hle1 rfl rfl
                        have hlen1 := List.length_append (as := T) (bs := [(0, v1)])
                        rw [List.length_singleton] at hlen1
                        refine X_callVV dX12_one_393 mkX12_262 (k_87 hSh) (c_notes Γ g (up2 (up2 (up2 mi 87 4 (nI (skT B n i))) 87 33 (bI a)) 87 4 (nI e1)) ml hSh hS2.2.2.1 _ hS2.2.2.2.1 (by omega) (nI 0) (nI v1)) rfl rfl (by omega) (Nat.le_of_ble_eq_true rfl) ?_
                        exact X_vret dX12_one_396 rfl ⟨rfl, rfl, by rw [show unitR none B n i = .ok (e1, [(0, v1)], false) from by simp only [unitR, pairR, choR, sgK, wdK, bS, hd, hN, if_true, if_false, Bool.false_eq_true, reduceIte, Nat.reduceLT, Nat.reduceSub]]; exact RST_eq (hS1) (by simp [List.append_assoc]) (by simp [Bool.or_assoc]), rfl⟩
                    · exact absurd rfl h_10
                  · exact absurd h_9 (nI_m1' (by omega))
              · exact absurd h_6 hp
            · exact absurd h_5 (by omega)
          · exact absurd rfl h_4
        · exact absurd h_3 (by omega)
      · exact absurd h_2 (by omega)
    · exact absurd h_1 (by omega)
  · by_cases hp : byT B n (skT B n i) = nI 40
    · have hW := wIx_nil (j := 1) (by decide) (sm_of_by (B := B) (n := n) (i := skT B n i) (fun q => by rw [hp] at q; exact absurd q.1 (by decide)))
      refine X_aload_n dX12_one_0 rfl ?_
      refine X_geti dX12_one_1 fkX12_174 rfl (k_87 hSh) ?_
      rw [hS.2.2.1]
      refine X_if_eqN (a := 0) 8 dX12_one_4 (by decide) (by omega) (fun h_11 => ?_) (fun h_11 => ?_)
      · refine X_aload_n dX12_one_8 rfl ?_
        refine X_callVV dX12_one_9 mkX12_180 (k_87 hSh) (c_blanks Γ g mi ml hSh B n i hS.1) rfl rfl (by omega) (Nat.le_of_ble_eq_true rfl) ?_
        refine X_aload_n dX12_one_12 rfl ?_
        refine X_bipush (v := nI 12) dX12_one_13 (by decide) ?_
        refine X_iconst (v := nI 5) dX12_one_15 (by decide) ?_
        refine X_iconst (v := nI 1) dX12_one_16 (by decide) ?_
        refine X_bipush (v := nI 19) dX12_one_17 (by decide) ?_
        refine X_bipush (v := nI 20) dX12_one_19 (by decide) ?_
        refine X_iconst (v := nI 0) dX12_one_21 (by decide) ?_
        refine X_callVI dX12_one_22 mkX12_207 (k_87 hSh) (c_isW0 Γ g (up2 mi 87 4 (nI (skT B n i))) ml hSh B n (skT B n i) hS1.1 skT_sk hS1.2.2.1 12 5 1 19 20 0 (by decide) (by decide) (by decide) (by decide) (fun q => by have h9 := wq_1_11.mp q; rw [hW] at h9; cases h9)) rfl rfl (by omega) (Nat.le_of_ble_eq_true rfl) ?_
        refine X_if_eqN (a := 0) 33 dX12_one_25 (by decide) (by omega) (fun h_12 => ?_) (fun h_12 => ?_)
        · refine X_aload_n dX12_one_33 rfl ?_
          refine X_bipush (v := nI 13) dX12_one_34 (by decide) ?_
          refine X_bipush (v := nI 15) dX12_one_36 (by decide) ?_
          refine X_bipush (v := nI 19) dX12_one_38 (by decide) ?_
          refine X_bipush (v := nI 20) dX12_one_40 (by decide) ?_
          refine X_iconst (v := nI 0) dX12_one_42 (by decide) ?_
          refine X_iconst (v := nI 0) dX12_one_43 (by decide) ?_
          refine X_callVI dX12_one_44 mkX12_207 (k_87 hSh) (c_isW0 Γ g (up2 mi 87 4 (nI (skT B n i))) ml hSh B n (skT B n i) hS1.1 skT_sk hS1.2.2.1 13 15 19 20 0 0 (by decide) (by decide) (by decide) (by decide) (fun q => by have h9 := wq_1_12.mp q; rw [hW] at h9; cases h9)) rfl rfl (by omega) (Nat.le_of_ble_eq_true rfl) ?_
          refine X_if_eqN (a := 0) 55 dX12_one_47 (by decide) (by omega) (fun h_13 => ?_) (fun h_13 => ?_)
          · refine X_iconst (v := -1) dX12_one_55 (by decide) ?_
            refine X_istore_n dX12_one_56 (by decide) ?_
            refine X_iload_n dX12_one_57 rfl ?_
            refine X_iconst (v := -1) dX12_one_58 (by decide) ?_
            refine X_icmp_eq 117 dX12_one_59 (by decide) (fun h_14 => ?_) (fun h_14 => ?_)
            · refine X_aload_n dX12_one_117 rfl ?_
              refine X_bipush (v := nI 9) dX12_one_118 (by decide) ?_
              refine X_bipush (v := nI 6) dX12_one_120 (by decide) ?_
              refine X_iconst (v := nI 0) dX12_one_122 (by decide) ?_
              refine X_iconst (v := nI 0) dX12_one_123 (by decide) ?_
              refine X_iconst (v := nI 0) dX12_one_124 (by decide) ?_
              refine X_iconst (v := nI 0) dX12_one_125 (by decide) ?_
              refine X_callVI dX12_one_126 mkX12_207 (k_87 hSh) (c_isW0 Γ g (up2 mi 87 4 (nI (skT B n i))) ml hSh B n (skT B n i) hS1.1 skT_sk hS1.2.2.1 9 6 0 0 0 0 (by decide) (by decide) (by decide) (by decide) (fun q => by have h9 := wq_1_13.mp q; rw [hW] at h9; cases h9)) rfl rfl (by omega) (Nat.le_of_ble_eq_true rfl) ?_
              refine X_if_eqN (a := 0) 291 dX12_one_129 (by decide) (by omega) (fun h_15 => ?_) (fun h_15 => ?_)
              · refine X_aload_n dX12_one_291 rfl ?_
                refine X_aload_n dX12_one_292 rfl ?_
                refine X_geti dX12_one_293 fkX12_167 rfl (k_87 hSh) ?_
                rw [up2_s]
                refine X_callVI dX12_one_296 mkX12_170 (k_87 hSh) (c_byteT Γ g (up2 mi 87 4 (nI (skT B n i))) ml hSh B n (skT B n i) hS1.1 (skT B n i) (by omega)) rfl rfl (by omega) (Nat.le_of_ble_eq_true rfl) ?_
                refine X_bipush (v := nI 40) dX12_one_299 (by decide) ?_
                refine X_icmp_ne 343 dX12_one_301 (by decide) (fun h_16 => ?_) (fun h_16 => ?_)
                · exact absurd hp h_16
                · refine X_aload_n dX12_one_304 rfl ?_
                  have hEo := RHE_of2 (p := skT B n i) hS1 (show 1 ≤ 3 ∧ 3 ≤ 3 by omega)
                  refine X_callVI dX12_one_305 mkX12_271 (k_87 hSh) (c_opens0 Γ g (up2 mi 87 4 (nI (skT B n i))) ml hSh hS1.2.2.1 hS1.2.2.2.2.2.2.1 (skT B n i) up2_s) rfl rfl (by omega) (Nat.le_of_ble_eq_true rfl) ?_
                  refine X_if_neN (a := 0) 312 dX12_one_308 (by decide) (by omega) (fun h_17 => ?_) (fun h_17 => ?_)
                  · exact absurd h_17 (by omega)
                  · exact X_vret dX12_one_311 rfl ⟨rfl, rfl, by rw [show unitR none B n i = .error (3, skT B n i) from by simp only [unitR, pairR, choR, sgK, wdK, bS, hd, hp, if_true, if_false, Bool.false_eq_true, reduceIte, Nat.reduceLT, Nat.reduceSub]]; exact hEo, rfl⟩
              · exact absurd h_15 (by omega)
            · exact absurd rfl h_14
          · exact absurd h_13 (by omega)
        · exact absurd h_12 (by omega)
      · exact absurd h_11 (by omega)
    · match hW : wIx 1 B n (skT B n i) with
      | none =>
        refine X_aload_n dX12_one_0 rfl ?_
        refine X_geti dX12_one_1 fkX12_174 rfl (k_87 hSh) ?_
        rw [hS.2.2.1]
        refine X_if_eqN (a := 0) 8 dX12_one_4 (by decide) (by omega) (fun h_18 => ?_) (fun h_18 => ?_)
        · refine X_aload_n dX12_one_8 rfl ?_
          refine X_callVV dX12_one_9 mkX12_180 (k_87 hSh) (c_blanks Γ g mi ml hSh B n i hS.1) rfl rfl (by omega) (Nat.le_of_ble_eq_true rfl) ?_
          refine X_aload_n dX12_one_12 rfl ?_
          refine X_bipush (v := nI 12) dX12_one_13 (by decide) ?_
          refine X_iconst (v := nI 5) dX12_one_15 (by decide) ?_
          refine X_iconst (v := nI 1) dX12_one_16 (by decide) ?_
          refine X_bipush (v := nI 19) dX12_one_17 (by decide) ?_
          refine X_bipush (v := nI 20) dX12_one_19 (by decide) ?_
          refine X_iconst (v := nI 0) dX12_one_21 (by decide) ?_
          refine X_callVI dX12_one_22 mkX12_207 (k_87 hSh) (c_isW0 Γ g (up2 mi 87 4 (nI (skT B n i))) ml hSh B n (skT B n i) hS1.1 skT_sk hS1.2.2.1 12 5 1 19 20 0 (by decide) (by decide) (by decide) (by decide) (fun q => by have h9 := wq_1_11.mp q; rw [hW] at h9; cases h9)) rfl rfl (by omega) (Nat.le_of_ble_eq_true rfl) ?_
          refine X_if_eqN (a := 0) 33 dX12_one_25 (by decide) (by omega) (fun h_19 => ?_) (fun h_19 => ?_)
          · refine X_aload_n dX12_one_33 rfl ?_
            refine X_bipush (v := nI 13) dX12_one_34 (by decide) ?_
            refine X_bipush (v := nI 15) dX12_one_36 (by decide) ?_
            refine X_bipush (v := nI 19) dX12_one_38 (by decide) ?_
            refine X_bipush (v := nI 20) dX12_one_40 (by decide) ?_
            refine X_iconst (v := nI 0) dX12_one_42 (by decide) ?_
            refine X_iconst (v := nI 0) dX12_one_43 (by decide) ?_
            refine X_callVI dX12_one_44 mkX12_207 (k_87 hSh) (c_isW0 Γ g (up2 mi 87 4 (nI (skT B n i))) ml hSh B n (skT B n i) hS1.1 skT_sk hS1.2.2.1 13 15 19 20 0 0 (by decide) (by decide) (by decide) (by decide) (fun q => by have h9 := wq_1_12.mp q; rw [hW] at h9; cases h9)) rfl rfl (by omega) (Nat.le_of_ble_eq_true rfl) ?_
            refine X_if_eqN (a := 0) 55 dX12_one_47 (by decide) (by omega) (fun h_20 => ?_) (fun h_20 => ?_)
            · refine X_iconst (v := -1) dX12_one_55 (by decide) ?_
              refine X_istore_n dX12_one_56 (by decide) ?_
              refine X_iload_n dX12_one_57 rfl ?_
              refine X_iconst (v := -1) dX12_one_58 (by decide) ?_
              refine X_icmp_eq 117 dX12_one_59 (by decide) (fun h_21 => ?_) (fun h_21 => ?_)
              · refine X_aload_n dX12_one_117 rfl ?_
                refine X_bipush (v := nI 9) dX12_one_118 (by decide) ?_
                refine X_bipush (v := nI 6) dX12_one_120 (by decide) ?_
                refine X_iconst (v := nI 0) dX12_one_122 (by decide) ?_
                refine X_iconst (v := nI 0) dX12_one_123 (by decide) ?_
                refine X_iconst (v := nI 0) dX12_one_124 (by decide) ?_
                refine X_iconst (v := nI 0) dX12_one_125 (by decide) ?_
                refine X_callVI dX12_one_126 mkX12_207 (k_87 hSh) (c_isW0 Γ g (up2 mi 87 4 (nI (skT B n i))) ml hSh B n (skT B n i) hS1.1 skT_sk hS1.2.2.1 9 6 0 0 0 0 (by decide) (by decide) (by decide) (by decide) (fun q => by have h9 := wq_1_13.mp q; rw [hW] at h9; cases h9)) rfl rfl (by omega) (Nat.le_of_ble_eq_true rfl) ?_
                refine X_if_eqN (a := 0) 291 dX12_one_129 (by decide) (by omega) (fun h_22 => ?_) (fun h_22 => ?_)
                · refine X_aload_n dX12_one_291 rfl ?_
                  refine X_aload_n dX12_one_292 rfl ?_
                  refine X_geti dX12_one_293 fkX12_167 rfl (k_87 hSh) ?_
                  rw [up2_s]
                  refine X_callVI dX12_one_296 mkX12_170 (k_87 hSh) (c_byteT Γ g (up2 mi 87 4 (nI (skT B n i))) ml hSh B n (skT B n i) hS1.1 (skT B n i) (by omega)) rfl rfl (by omega) (Nat.le_of_ble_eq_true rfl) ?_
                  refine X_bipush (v := nI 40) dX12_one_299 (by decide) ?_
                  refine X_icmp_ne 343 dX12_one_301 (by decide) (fun h_23 => ?_) (fun h_23 => ?_)
                  · refine X_aload_n dX12_one_343 rfl ?_
                    refine X_callVI dX12_one_344 mkX12_278 (k_87 hSh) (c_knownN Γ g (up2 mi 87 4 (nI (skT B n i))) ml hSh B n (skT B n i) hS1.1 skT_sk hS1.2.2.1 (fun j _ q => by rw [hW] at q; cases q)) rfl rfl (by omega) (Nat.le_of_ble_eq_true rfl) ?_
                    refine X_istore_n dX12_one_347 (by decide) ?_
                    refine X_aload_n dX12_one_348 rfl ?_
                    refine X_aload_n dX12_one_349 rfl ?_
                    refine X_geti dX12_one_350 fkX12_281 rfl (k_87 hSh) ?_
                    rw [hS1.2.2.2.2.2.1]
                    refine X_if_ne 362 dX12_one_353 (by decide) (fun h_24 => ?_) (fun h_24 => ?_)
                    · refine X_iconst (v := nI 1) dX12_one_362 (by decide) ?_
                      refine X_goto 367 dX12_one_363 (by decide) ?_
                      refine X_topi (show nI 1 = bI a by first | (rw [(bI_n0 (b := a)).mp (by assumption)]; rfl) | (rw [(bI_0 (b := a)).mp (by assumption)]; rfl)) ?_
                      have h01 := bI_01 a
                      have hSa := RST_ask (b := a) (v := bI a) hS1 rfl
                      refine X_putz dX12_one_367 fkX12_281 rfl (by first | exact Or.inl rfl | exact Or.inr rfl | assumption) rfl (k_87 hSh) ?_
                      refine X_iload_n dX12_one_370 rfl ?_
                      refine X_iconst (v := -1) dX12_one_371 (by decide) ?_
                      refine X_icmp_eq 384 dX12_one_372 (by decide) (fun h_25 => ?_) (fun h_25 => ?_)
                      · refine X_aload_n dX12_one_384 rfl ?_
                        refine X_iconst (v := nI 0) dX12_one_385 (by decide) ?_
                        refine X_aload_n dX12_one_386 rfl ?_
                        refine X_iconst (v := nI 0) dX12_one_387 (by decide) ?_
                        refine X_bipush (v := nI 99) dX12_one_388 (by decide) ?_
                        have hN : numR B n i 0 100 = .error (1, skT B n i) := if_neg hd
                        obtain ⟨hka1, hkb1⟩ := numR_k hN
                        obtain ⟨q1, hq1, hC1⟩ := c_rnumE Γ g (up2 (up2 mi 87 4 (nI (skT B n i))) 87 33 (bI a)) ml hSh B n (skT B n i) hSa.1 hSa.2.2.1 0 100 (nI 99) (by omega) (by omega) (hH_of (by omega)) (numR_sk.trans hN)
                        have hE1 := RHE_of (p := skT B n i) hSa hq1 (show 1 ≤ 1 ∧ 1 ≤ 3 by omega)
                        refine X_callVI dX12_one_390 mkX12_220 (k_87 hSh) (hC1) rfl rfl (by omega) (Nat.le_of_ble_eq_true rfl) ?_
                        refine X_callVV dX12_one_393 mkX12_262 (k_87 hSh) (c_notesF Γ g (up2 (up2 (up2 (up2 (up2 mi 87 4 (nI (skT B n i))) 87 33 (bI a)) 87 4 (nI q1)) 87 5 (nI 1)) 87 6 (nI (skT B n i))) ml hSh (RHE_f hE1) (nI 0) (nI 0)) rfl rfl (by omega) (Nat.le_of_ble_eq_true rfl) ?_
                        exact X_vret dX12_one_396 rfl ⟨rfl, rfl, by rw [show unitR none B n i = .error (1, skT B n i) from by simp only [unitR, pairR, choR, sgK, wdK, bS, hd, hp, hW, if_true, if_false, Bool.false_eq_true, reduceIte, Nat.reduceLT, Nat.reduceSub]]; exact hE1, rfl⟩
                      · exact absurd rfl h_25
                    · refine X_iload_n dX12_one_356 rfl ?_
                      refine X_bipush (v := nI 6) dX12_one_357 (by decide) ?_
                      refine X_icmp_ne 366 dX12_one_359 (by decide) (fun h_26 => ?_) (fun h_26 => ?_)
                      · refine X_iconst (v := nI 0) dX12_one_366 (by decide) ?_
                        refine X_topi (show nI 0 = bI a by first | (rw [(bI_n0 (b := a)).mp (by assumption)]; rfl) | (rw [(bI_0 (b := a)).mp (by assumption)]; rfl)) ?_
                        have h01 := bI_01 a
                        have hSa := RST_ask (b := a) (v := bI a) hS1 rfl
                        refine X_putz dX12_one_367 fkX12_281 rfl (by first | exact Or.inl rfl | exact Or.inr rfl | assumption) rfl (k_87 hSh) ?_
                        refine X_iload_n dX12_one_370 rfl ?_
                        refine X_iconst (v := -1) dX12_one_371 (by decide) ?_
                        refine X_icmp_eq 384 dX12_one_372 (by decide) (fun h_27 => ?_) (fun h_27 => ?_)
                        · refine X_aload_n dX12_one_384 rfl ?_
                          refine X_iconst (v := nI 0) dX12_one_385 (by decide) ?_
                          refine X_aload_n dX12_one_386 rfl ?_
                          refine X_iconst (v := nI 0) dX12_one_387 (by decide) ?_
                          refine X_bipush (v := nI 99) dX12_one_388 (by decide) ?_
                          have hN : numR B n i 0 100 = .error (1, skT B n i) := if_neg hd
                          obtain ⟨hka1, hkb1⟩ := numR_k hN
                          obtain ⟨q1, hq1, hC1⟩ := c_rnumE Γ g (up2 (up2 mi 87 4 (nI (skT B n i))) 87 33 (bI a)) ml hSh B n (skT B n i) hSa.1 hSa.2.2.1 0 100 (nI 99) (by omega) (by omega) (hH_of (by omega)) (numR_sk.trans hN)
                          have hE1 := RHE_of (p := skT B n i) hSa hq1 (show 1 ≤ 1 ∧ 1 ≤ 3 by omega)
                          refine X_callVI dX12_one_390 mkX12_220 (k_87 hSh) (hC1) rfl rfl (by omega) (Nat.le_of_ble_eq_true rfl) ?_
                          refine X_callVV dX12_one_393 mkX12_262 (k_87 hSh) (c_notesF Γ g (up2 (up2 (up2 (up2 (up2 mi 87 4 (nI (skT B n i))) 87 33 (bI a)) 87 4 (nI q1)) 87 5 (nI 1)) 87 6 (nI (skT B n i))) ml hSh (RHE_f hE1) (nI 0) (nI 0)) rfl rfl (by omega) (Nat.le_of_ble_eq_true rfl) ?_
                          exact X_vret dX12_one_396 rfl ⟨rfl, rfl, by rw [show unitR none B n i = .error (1, skT B n i) from by simp only [unitR, pairR, choR, sgK, wdK, bS, hd, hp, hW, if_true, if_false, Bool.false_eq_true, reduceIte, Nat.reduceLT, Nat.reduceSub]]; exact hE1, rfl⟩
                        · exact absurd rfl h_27
                      · exact absurd h_26 (nI_m1' (by omega))
                  · exact absurd h_23 hp
                · exact absurd h_22 (by omega)
              · exact absurd rfl h_21
            · exact absurd h_20 (by omega)
          · exact absurd h_19 (by omega)
        · exact absurd h_18 (by omega)
      | some k =>
        have hk14 : k < 14 := (wIx_s hW).1
        have hgt := wdT_gt (by decide) hW
        by_cases hk : k < 11
        · skip
          refine X_aload_n dX12_one_0 rfl ?_
          refine X_geti dX12_one_1 fkX12_174 rfl (k_87 hSh) ?_
          rw [hS.2.2.1]
          refine X_if_eqN (a := 0) 8 dX12_one_4 (by decide) (by omega) (fun h_28 => ?_) (fun h_28 => ?_)
          · refine X_aload_n dX12_one_8 rfl ?_
            refine X_callVV dX12_one_9 mkX12_180 (k_87 hSh) (c_blanks Γ g mi ml hSh B n i hS.1) rfl rfl (by omega) (Nat.le_of_ble_eq_true rfl) ?_
            refine X_aload_n dX12_one_12 rfl ?_
            refine X_bipush (v := nI 12) dX12_one_13 (by decide) ?_
            refine X_iconst (v := nI 5) dX12_one_15 (by decide) ?_
            refine X_iconst (v := nI 1) dX12_one_16 (by decide) ?_
            refine X_bipush (v := nI 19) dX12_one_17 (by decide) ?_
            refine X_bipush (v := nI 20) dX12_one_19 (by decide) ?_
            refine X_iconst (v := nI 0) dX12_one_21 (by decide) ?_
            refine X_callVI dX12_one_22 mkX12_207 (k_87 hSh) (c_isW0 Γ g (up2 mi 87 4 (nI (skT B n i))) ml hSh B n (skT B n i) hS1.1 skT_sk hS1.2.2.1 12 5 1 19 20 0 (by decide) (by decide) (by decide) (by decide) (fun q => by have h9 := wq_1_11.mp q; rw [hW] at h9; cases h9; omega)) rfl rfl (by omega) (Nat.le_of_ble_eq_true rfl) ?_
            refine X_if_eqN (a := 0) 33 dX12_one_25 (by decide) (by omega) (fun h_29 => ?_) (fun h_29 => ?_)
            · refine X_aload_n dX12_one_33 rfl ?_
              refine X_bipush (v := nI 13) dX12_one_34 (by decide) ?_
              refine X_bipush (v := nI 15) dX12_one_36 (by decide) ?_
              refine X_bipush (v := nI 19) dX12_one_38 (by decide) ?_
              refine X_bipush (v := nI 20) dX12_one_40 (by decide) ?_
              refine X_iconst (v := nI 0) dX12_one_42 (by decide) ?_
              refine X_iconst (v := nI 0) dX12_one_43 (by decide) ?_
              refine X_callVI dX12_one_44 mkX12_207 (k_87 hSh) (c_isW0 Γ g (up2 mi 87 4 (nI (skT B n i))) ml hSh B n (skT B n i) hS1.1 skT_sk hS1.2.2.1 13 15 19 20 0 0 (by decide) (by decide) (by decide) (by decide) (fun q => by have h9 := wq_1_12.mp q; rw [hW] at h9; cases h9; omega)) rfl rfl (by omega) (Nat.le_of_ble_eq_true rfl) ?_
              refine X_if_eqN (a := 0) 55 dX12_one_47 (by decide) (by omega) (fun h_30 => ?_) (fun h_30 => ?_)
              · refine X_iconst (v := -1) dX12_one_55 (by decide) ?_
                refine X_istore_n dX12_one_56 (by decide) ?_
                refine X_iload_n dX12_one_57 rfl ?_
                refine X_iconst (v := -1) dX12_one_58 (by decide) ?_
                refine X_icmp_eq 117 dX12_one_59 (by decide) (fun h_31 => ?_) (fun h_31 => ?_)
                · refine X_aload_n dX12_one_117 rfl ?_
                  refine X_bipush (v := nI 9) dX12_one_118 (by decide) ?_
                  refine X_bipush (v := nI 6) dX12_one_120 (by decide) ?_
                  refine X_iconst (v := nI 0) dX12_one_122 (by decide) ?_
                  refine X_iconst (v := nI 0) dX12_one_123 (by decide) ?_
                  refine X_iconst (v := nI 0) dX12_one_124 (by decide) ?_
                  refine X_iconst (v := nI 0) dX12_one_125 (by decide) ?_
                  refine X_callVI dX12_one_126 mkX12_207 (k_87 hSh) (c_isW0 Γ g (up2 mi 87 4 (nI (skT B n i))) ml hSh B n (skT B n i) hS1.1 skT_sk hS1.2.2.1 9 6 0 0 0 0 (by decide) (by decide) (by decide) (by decide) (fun q => by have h9 := wq_1_13.mp q; rw [hW] at h9; cases h9; omega)) rfl rfl (by omega) (Nat.le_of_ble_eq_true rfl) ?_
                  refine X_if_eqN (a := 0) 291 dX12_one_129 (by decide) (by omega) (fun h_32 => ?_) (fun h_32 => ?_)
                  · refine X_aload_n dX12_one_291 rfl ?_
                    refine X_aload_n dX12_one_292 rfl ?_
                    refine X_geti dX12_one_293 fkX12_167 rfl (k_87 hSh) ?_
                    rw [up2_s]
                    refine X_callVI dX12_one_296 mkX12_170 (k_87 hSh) (c_byteT Γ g (up2 mi 87 4 (nI (skT B n i))) ml hSh B n (skT B n i) hS1.1 (skT B n i) (by omega)) rfl rfl (by omega) (Nat.le_of_ble_eq_true rfl) ?_
                    refine X_bipush (v := nI 40) dX12_one_299 (by decide) ?_
                    refine X_icmp_ne 343 dX12_one_301 (by decide) (fun h_33 => ?_) (fun h_33 => ?_)
                    · refine X_aload_n dX12_one_343 rfl ?_
                      have hSk := RST_at hS1 hwl hwg
                      refine X_callVI dX12_one_344 mkX12_278 (k_87 hSh) (c_known Γ g (up2 mi 87 4 (nI (skT B n i))) ml hSh B n (skT B n i) hS1.1 skT_sk hS1.2.2.1 k hk hW) rfl rfl (by omega) (Nat.le_of_ble_eq_true rfl) ?_
                      refine X_istore_n dX12_one_347 (by decide) ?_
                      refine X_aload_n dX12_one_348 rfl ?_
                      refine X_aload_n dX12_one_349 rfl ?_
                      refine X_geti dX12_one_350 fkX12_281 rfl (k_87 hSh) ?_
                      rw [hSk.2.2.2.2.2.1]
                      refine X_if_ne 362 dX12_one_353 (by decide) (fun h_34 => ?_) (fun h_34 => ?_)
                      · refine X_iconst (v := nI 1) dX12_one_362 (by decide) ?_
                        refine X_goto 367 dX12_one_363 (by decide) ?_
                        refine X_topi (show nI 1 = bI (a || decide (k = 6)) by first | (rw [(bI_n0 (b := a)).mp (by assumption)]; rfl) | (rw [(bI_0 (b := a)).mp (by assumption), decide_eq_true (by assumption)]; rfl) | (rw [(bI_0 (b := a)).mp (by assumption), decide_eq_false (by assumption)]; rfl)) ?_
                        have h01 := bI_01 (a || decide (k = 6))
                        have hSa := RST_ask (b := (a || decide (k = 6))) (v := bI (a || decide (k = 6))) hSk rfl
                        refine X_putz dX12_one_367 fkX12_281 rfl (by first | exact Or.inl rfl | exact Or.inr rfl | assumption) rfl (k_87 hSh) ?_
                        refine X_iload_n dX12_one_370 rfl ?_
                        refine X_iconst (v := -1) dX12_one_371 (by decide) ?_
                        refine X_icmp_eq 384 dX12_one_372 (by decide) (fun h_35 => ?_) (fun h_35 => ?_)
                        · exact absurd h_35 (nI_m1 (by omega))
                        · refine X_aload_n dX12_one_375 rfl ?_
                          refine X_iconst (v := nI 1) dX12_one_376 (by decide) ?_
                          refine X_iload_n dX12_one_377 rfl ?_
                          have h151 := hSa.2.1
                          have hlb1 := hSa.2.2.2.2.2.2.2.1
                          have hlc1 := hSa.1.2.1
                          have hle1 : (T).length + 1 ≤ wdT B n (skT B n i) := by omega
                          have hS1 := RST_nt (t := (1, k)) (u := nI 1) (v := nI k) hSa hle1 rfl rfl
                          have hlen1 := List.length_append (as := T) (bs := [(1, k)])
                          rw [List.length_singleton] at hlen1
                          refine X_callVV dX12_one_378 mkX12_262 (k_87 hSh) (c_notes Γ g (up2 (up2 (up2 mi 87 4 (nI (skT B n i))) 87 4 (nI (wdT B n (skT B n i)))) 87 33 (bI (a || decide (k = 6)))) ml hSh hSa.2.2.1 _ hSa.2.2.2.1 (by omega) (nI 1) (nI k)) rfl rfl (by omega) (Nat.le_of_ble_eq_true rfl) ?_
                          refine X_goto 396 dX12_one_381 (by decide) ?_
                          exact X_vret dX12_one_396 rfl ⟨rfl, rfl, by rw [show unitR none B n i = .ok (wdT B n (skT B n i), [(1, k)], decide (k = 6)) from by simp only [unitR, pairR, choR, sgK, wdK, bS, hd, hp, hW, hk, if_true, if_false, Bool.false_eq_true, reduceIte, Nat.reduceLT, Nat.reduceSub]]; exact RST_eq (hS1) (by simp [List.append_assoc]) (by simp [Bool.or_assoc]), rfl⟩
                      · refine X_iload_n dX12_one_356 rfl ?_
                        refine X_bipush (v := nI 6) dX12_one_357 (by decide) ?_
                        refine X_icmp_neN (a := k) (b := 6) 366 dX12_one_359 (by decide) (by omega) (by omega) (fun h_36 => ?_) (fun h_36 => ?_)
                        · refine X_iconst (v := nI 0) dX12_one_366 (by decide) ?_
                          refine X_topi (show nI 0 = bI (a || decide (k = 6)) by first | (rw [(bI_n0 (b := a)).mp (by assumption)]; rfl) | (rw [(bI_0 (b := a)).mp (by assumption), decide_eq_true (by assumption)]; rfl) | (rw [(bI_0 (b := a)).mp (by assumption), decide_eq_false (by assumption)]; rfl)) ?_
                          have h01 := bI_01 (a || decide (k = 6))
                          have hSa := RST_ask (b := (a || decide (k = 6))) (v := bI (a || decide (k = 6))) hSk rfl
                          refine X_putz dX12_one_367 fkX12_281 rfl (by first | exact Or.inl rfl | exact Or.inr rfl | assumption) rfl (k_87 hSh) ?_
                          refine X_iload_n dX12_one_370 rfl ?_
                          refine X_iconst (v := -1) dX12_one_371 (by decide) ?_
                          refine X_icmp_eq 384 dX12_one_372 (by decide) (fun h_37 => ?_) (fun h_37 => ?_)
                          · exact absurd h_37 (nI_m1 (by omega))
                          · refine X_aload_n dX12_one_375 rfl ?_
                            refine X_iconst (v := nI 1) dX12_one_376 (by decide) ?_
                            refine X_iload_n dX12_one_377 rfl ?_
                            have h151 := hSa.2.1
                            have hlb1 := hSa.2.2.2.2.2.2.2.1
                            have hlc1 := hSa.1.2.1
                            have hle1 : (T).length + 1 ≤ wdT B n (skT B n i) := by omega
                            have hS1 := RST_nt (t := (1, k)) (u := nI 1) (v := nI k) hSa hle1 rfl rfl
                            have hlen1 := List.length_append (as := T) (bs := [(1, k)])
                            rw [List.length_singleton] at hlen1
                            refine X_callVV dX12_one_378 mkX12_262 (k_87 hSh) (c_notes Γ g (up2 (up2 (up2 mi 87 4 (nI (skT B n i))) 87 4 (nI (wdT B n (skT B n i)))) 87 33 (bI (a || decide (k = 6)))) ml hSh hSa.2.2.1 _ hSa.2.2.2.1 (by omega) (nI 1) (nI k)) rfl rfl (by omega) (Nat.le_of_ble_eq_true rfl) ?_
                            refine X_goto 396 dX12_one_381 (by decide) ?_
                            exact X_vret dX12_one_396 rfl ⟨rfl, rfl, by rw [show unitR none B n i = .ok (wdT B n (skT B n i), [(1, k)], decide (k = 6)) from by simp only [unitR, pairR, choR, sgK, wdK, bS, hd, hp, hW, hk, if_true, if_false, Bool.false_eq_true, reduceIte, Nat.reduceLT, Nat.reduceSub]]; exact RST_eq (hS1) (by simp [List.append_assoc]) (by simp [Bool.or_assoc]), rfl⟩
                        · refine X_iconst (v := nI 1) dX12_one_362 (by decide) ?_
                          refine X_goto 367 dX12_one_363 (by decide) ?_
                          refine X_topi (show nI 1 = bI (a || decide (k = 6)) by first | (rw [(bI_n0 (b := a)).mp (by assumption)]; rfl) | (rw [(bI_0 (b := a)).mp (by assumption), decide_eq_true (by assumption)]; rfl) | (rw [(bI_0 (b := a)).mp (by assumption), decide_eq_false (by assumption)]; rfl)) ?_
                          have h01 := bI_01 (a || decide (k = 6))
                          have hSa := RST_ask (b := (a || decide (k = 6))) (v := bI (a || decide (k = 6))) hSk rfl
                          refine X_putz dX12_one_367 fkX12_281 rfl (by first | exact Or.inl rfl | exact Or.inr rfl | assumption) rfl (k_87 hSh) ?_
                          refine X_iload_n dX12_one_370 rfl ?_
                          refine X_iconst (v := -1) dX12_one_371 (by decide) ?_
                          refine X_icmp_eq 384 dX12_one_372 (by decide) (fun h_38 => ?_) (fun h_38 => ?_)
                          · exact absurd h_38 (nI_m1 (by omega))
                          · refine X_aload_n dX12_one_375 rfl ?_
                            refine X_iconst (v := nI 1) dX12_one_376 (by decide) ?_
                            refine X_iload_n dX12_one_377 rfl ?_
                            have h151 := hSa.2.1
                            have hlb1 := hSa.2.2.2.2.2.2.2.1
                            have hlc1 := hSa.1.2.1
                            have hle1 : (T).length + 1 ≤ wdT B n (skT B n i) := by omega
                            have hS1 := RST_nt (t := (1, k)) (u := nI 1) (v := nI k) hSa hle1 rfl rfl
                            have hlen1 := List.length_append (as := T) (bs := [(1, k)])
                            rw [List.length_singleton] at hlen1
                            refine X_callVV dX12_one_378 mkX12_262 (k_87 hSh) (c_notes Γ g (up2 (up2 (up2 mi 87 4 (nI (skT B n i))) 87 4 (nI (wdT B n (skT B n i)))) 87 33 (bI (a || decide (k = 6)))) ml hSh hSa.2.2.1 _ hSa.2.2.2.1 (by omega) (nI 1) (nI k)) rfl rfl (by omega) (Nat.le_of_ble_eq_true rfl) ?_
                            refine X_goto 396 dX12_one_381 (by decide) ?_
                            exact X_vret dX12_one_396 rfl ⟨rfl, rfl, by rw [show unitR none B n i = .ok (wdT B n (skT B n i), [(1, k)], decide (k = 6)) from by simp only [unitR, pairR, choR, sgK, wdK, bS, hd, hp, hW, hk, if_true, if_false, Bool.false_eq_true, reduceIte, Nat.reduceLT, Nat.reduceSub]]; exact RST_eq (hS1) (by simp [List.append_assoc]) (by simp [Bool.or_assoc]), rfl⟩
                    · exact absurd h_33 hp
                  · exact absurd h_32 (by omega)
                · exact absurd rfl h_31
              · exact absurd h_30 (by omega)
            · exact absurd h_29 (by omega)
          · exact absurd h_28 (by omega)
        · have hk3 : k = 11 ∨ k = 12 ∨ k = 13 := by omega
          rcases hk3 with rfl | rfl | rfl
          · skip
            refine X_aload_n dX12_one_0 rfl ?_
            refine X_geti dX12_one_1 fkX12_174 rfl (k_87 hSh) ?_
            rw [hS.2.2.1]
            refine X_if_eqN (a := 0) 8 dX12_one_4 (by decide) (by omega) (fun h_39 => ?_) (fun h_39 => ?_)
            · refine X_aload_n dX12_one_8 rfl ?_
              refine X_callVV dX12_one_9 mkX12_180 (k_87 hSh) (c_blanks Γ g mi ml hSh B n i hS.1) rfl rfl (by omega) (Nat.le_of_ble_eq_true rfl) ?_
              refine X_aload_n dX12_one_12 rfl ?_
              refine X_bipush (v := nI 12) dX12_one_13 (by decide) ?_
              refine X_iconst (v := nI 5) dX12_one_15 (by decide) ?_
              refine X_iconst (v := nI 1) dX12_one_16 (by decide) ?_
              refine X_bipush (v := nI 19) dX12_one_17 (by decide) ?_
              refine X_bipush (v := nI 20) dX12_one_19 (by decide) ?_
              refine X_iconst (v := nI 0) dX12_one_21 (by decide) ?_
              refine X_callVI dX12_one_22 mkX12_207 (k_87 hSh) (c_isW1 Γ g (up2 mi 87 4 (nI (skT B n i))) ml hSh B n (skT B n i) hS1.1 skT_sk hS1.2.2.1 12 5 1 19 20 0 (by decide) (by decide) (by decide) (by decide) (wq_1_11.mpr hW)) rfl rfl (by omega) (Nat.le_of_ble_eq_true rfl) ?_
              refine X_if_eqN (a := 1) 33 dX12_one_25 (by decide) (by omega) (fun h_40 => ?_) (fun h_40 => ?_)
              · exact absurd h_40 (by omega)
              · refine X_bipush (v := nI 7) dX12_one_28 (by decide) ?_
                refine X_goto 56 dX12_one_30 (by decide) ?_
                refine X_istore_n dX12_one_56 (by decide) ?_
                refine X_iload_n dX12_one_57 rfl ?_
                refine X_iconst (v := -1) dX12_one_58 (by decide) ?_
                refine X_icmp_eq 117 dX12_one_59 (by decide) (fun h_41 => ?_) (fun h_41 => ?_)
                · exact absurd h_41 (nI_m1 (by omega))
                · refine X_aload_n dX12_one_62 rfl ?_
                  have hEo := RHE_of2 (p := skT B n i) hS1 (show 1 ≤ 3 ∧ 3 ≤ 3 by omega)
                  refine X_callVI dX12_one_63 mkX12_271 (k_87 hSh) (c_opens0 Γ g (up2 mi 87 4 (nI (skT B n i))) ml hSh hS1.2.2.1 hS1.2.2.2.2.2.2.1 (skT B n i) up2_s) rfl rfl (by omega) (Nat.le_of_ble_eq_true rfl) ?_
                  refine X_if_neN (a := 0) 70 dX12_one_66 (by decide) (by omega) (fun h_42 => ?_) (fun h_42 => ?_)
                  · exact absurd h_42 (by omega)
                  · exact X_vret dX12_one_69 rfl ⟨rfl, rfl, by rw [show unitR none B n i = .error (3, skT B n i) from by simp only [unitR, pairR, choR, sgK, wdK, bS, hd, hp, hW, if_true, if_false, Bool.false_eq_true, reduceIte, Nat.reduceLT, Nat.reduceSub]]; exact hEo, rfl⟩
            · exact absurd h_39 (by omega)
          · skip
            refine X_aload_n dX12_one_0 rfl ?_
            refine X_geti dX12_one_1 fkX12_174 rfl (k_87 hSh) ?_
            rw [hS.2.2.1]
            refine X_if_eqN (a := 0) 8 dX12_one_4 (by decide) (by omega) (fun h_43 => ?_) (fun h_43 => ?_)
            · refine X_aload_n dX12_one_8 rfl ?_
              refine X_callVV dX12_one_9 mkX12_180 (k_87 hSh) (c_blanks Γ g mi ml hSh B n i hS.1) rfl rfl (by omega) (Nat.le_of_ble_eq_true rfl) ?_
              refine X_aload_n dX12_one_12 rfl ?_
              refine X_bipush (v := nI 12) dX12_one_13 (by decide) ?_
              refine X_iconst (v := nI 5) dX12_one_15 (by decide) ?_
              refine X_iconst (v := nI 1) dX12_one_16 (by decide) ?_
              refine X_bipush (v := nI 19) dX12_one_17 (by decide) ?_
              refine X_bipush (v := nI 20) dX12_one_19 (by decide) ?_
              refine X_iconst (v := nI 0) dX12_one_21 (by decide) ?_
              refine X_callVI dX12_one_22 mkX12_207 (k_87 hSh) (c_isW0 Γ g (up2 mi 87 4 (nI (skT B n i))) ml hSh B n (skT B n i) hS1.1 skT_sk hS1.2.2.1 12 5 1 19 20 0 (by decide) (by decide) (by decide) (by decide) (fun q => by have h9 := wq_1_11.mp q; rw [hW] at h9; cases h9)) rfl rfl (by omega) (Nat.le_of_ble_eq_true rfl) ?_
              refine X_if_eqN (a := 0) 33 dX12_one_25 (by decide) (by omega) (fun h_44 => ?_) (fun h_44 => ?_)
              · refine X_aload_n dX12_one_33 rfl ?_
                refine X_bipush (v := nI 13) dX12_one_34 (by decide) ?_
                refine X_bipush (v := nI 15) dX12_one_36 (by decide) ?_
                refine X_bipush (v := nI 19) dX12_one_38 (by decide) ?_
                refine X_bipush (v := nI 20) dX12_one_40 (by decide) ?_
                refine X_iconst (v := nI 0) dX12_one_42 (by decide) ?_
                refine X_iconst (v := nI 0) dX12_one_43 (by decide) ?_
                refine X_callVI dX12_one_44 mkX12_207 (k_87 hSh) (c_isW1 Γ g (up2 mi 87 4 (nI (skT B n i))) ml hSh B n (skT B n i) hS1.1 skT_sk hS1.2.2.1 13 15 19 20 0 0 (by decide) (by decide) (by decide) (by decide) (wq_1_12.mpr hW)) rfl rfl (by omega) (Nat.le_of_ble_eq_true rfl) ?_
                refine X_if_eqN (a := 1) 55 dX12_one_47 (by decide) (by omega) (fun h_45 => ?_) (fun h_45 => ?_)
                · exact absurd h_45 (by omega)
                · refine X_bipush (v := nI 8) dX12_one_50 (by decide) ?_
                  refine X_goto 56 dX12_one_52 (by decide) ?_
                  refine X_istore_n dX12_one_56 (by decide) ?_
                  refine X_iload_n dX12_one_57 rfl ?_
                  refine X_iconst (v := -1) dX12_one_58 (by decide) ?_
                  refine X_icmp_eq 117 dX12_one_59 (by decide) (fun h_46 => ?_) (fun h_46 => ?_)
                  · exact absurd h_46 (nI_m1 (by omega))
                  · refine X_aload_n dX12_one_62 rfl ?_
                    have hEo := RHE_of2 (p := skT B n i) hS1 (show 1 ≤ 3 ∧ 3 ≤ 3 by omega)
                    refine X_callVI dX12_one_63 mkX12_271 (k_87 hSh) (c_opens0 Γ g (up2 mi 87 4 (nI (skT B n i))) ml hSh hS1.2.2.1 hS1.2.2.2.2.2.2.1 (skT B n i) up2_s) rfl rfl (by omega) (Nat.le_of_ble_eq_true rfl) ?_
                    refine X_if_neN (a := 0) 70 dX12_one_66 (by decide) (by omega) (fun h_47 => ?_) (fun h_47 => ?_)
                    · exact absurd h_47 (by omega)
                    · exact X_vret dX12_one_69 rfl ⟨rfl, rfl, by rw [show unitR none B n i = .error (3, skT B n i) from by simp only [unitR, pairR, choR, sgK, wdK, bS, hd, hp, hW, if_true, if_false, Bool.false_eq_true, reduceIte, Nat.reduceLT, Nat.reduceSub]]; exact hEo, rfl⟩
              · exact absurd h_44 (by omega)
            · exact absurd h_43 (by omega)
          · skip
            refine X_aload_n dX12_one_0 rfl ?_
            refine X_geti dX12_one_1 fkX12_174 rfl (k_87 hSh) ?_
            rw [hS.2.2.1]
            refine X_if_eqN (a := 0) 8 dX12_one_4 (by decide) (by omega) (fun h_48 => ?_) (fun h_48 => ?_)
            · refine X_aload_n dX12_one_8 rfl ?_
              refine X_callVV dX12_one_9 mkX12_180 (k_87 hSh) (c_blanks Γ g mi ml hSh B n i hS.1) rfl rfl (by omega) (Nat.le_of_ble_eq_true rfl) ?_
              refine X_aload_n dX12_one_12 rfl ?_
              refine X_bipush (v := nI 12) dX12_one_13 (by decide) ?_
              refine X_iconst (v := nI 5) dX12_one_15 (by decide) ?_
              refine X_iconst (v := nI 1) dX12_one_16 (by decide) ?_
              refine X_bipush (v := nI 19) dX12_one_17 (by decide) ?_
              refine X_bipush (v := nI 20) dX12_one_19 (by decide) ?_
              refine X_iconst (v := nI 0) dX12_one_21 (by decide) ?_
              refine X_callVI dX12_one_22 mkX12_207 (k_87 hSh) (c_isW0 Γ g (up2 mi 87 4 (nI (skT B n i))) ml hSh B n (skT B n i) hS1.1 skT_sk hS1.2.2.1 12 5 1 19 20 0 (by decide) (by decide) (by decide) (by decide) (fun q => by have h9 := wq_1_11.mp q; rw [hW] at h9; cases h9)) rfl rfl (by omega) (Nat.le_of_ble_eq_true rfl) ?_
              refine X_if_eqN (a := 0) 33 dX12_one_25 (by decide) (by omega) (fun h_49 => ?_) (fun h_49 => ?_)
              · refine X_aload_n dX12_one_33 rfl ?_
                refine X_bipush (v := nI 13) dX12_one_34 (by decide) ?_
                refine X_bipush (v := nI 15) dX12_one_36 (by decide) ?_
                refine X_bipush (v := nI 19) dX12_one_38 (by decide) ?_
                refine X_bipush (v := nI 20) dX12_one_40 (by decide) ?_
                refine X_iconst (v := nI 0) dX12_one_42 (by decide) ?_
                refine X_iconst (v := nI 0) dX12_one_43 (by decide) ?_
                refine X_callVI dX12_one_44 mkX12_207 (k_87 hSh) (c_isW0 Γ g (up2 mi 87 4 (nI (skT B n i))) ml hSh B n (skT B n i) hS1.1 skT_sk hS1.2.2.1 13 15 19 20 0 0 (by decide) (by decide) (by decide) (by decide) (fun q => by have h9 := wq_1_12.mp q; rw [hW] at h9; cases h9)) rfl rfl (by omega) (Nat.le_of_ble_eq_true rfl) ?_
                refine X_if_eqN (a := 0) 55 dX12_one_47 (by decide) (by omega) (fun h_50 => ?_) (fun h_50 => ?_)
                · refine X_iconst (v := -1) dX12_one_55 (by decide) ?_
                  refine X_istore_n dX12_one_56 (by decide) ?_
                  refine X_iload_n dX12_one_57 rfl ?_
                  refine X_iconst (v := -1) dX12_one_58 (by decide) ?_
                  refine X_icmp_eq 117 dX12_one_59 (by decide) (fun h_51 => ?_) (fun h_51 => ?_)
                  · refine X_aload_n dX12_one_117 rfl ?_
                    refine X_bipush (v := nI 9) dX12_one_118 (by decide) ?_
                    refine X_bipush (v := nI 6) dX12_one_120 (by decide) ?_
                    refine X_iconst (v := nI 0) dX12_one_122 (by decide) ?_
                    refine X_iconst (v := nI 0) dX12_one_123 (by decide) ?_
                    refine X_iconst (v := nI 0) dX12_one_124 (by decide) ?_
                    refine X_iconst (v := nI 0) dX12_one_125 (by decide) ?_
                    refine X_callVI dX12_one_126 mkX12_207 (k_87 hSh) (c_isW1 Γ g (up2 mi 87 4 (nI (skT B n i))) ml hSh B n (skT B n i) hS1.1 skT_sk hS1.2.2.1 9 6 0 0 0 0 (by decide) (by decide) (by decide) (by decide) (wq_1_13.mpr hW)) rfl rfl (by omega) (Nat.le_of_ble_eq_true rfl) ?_
                    refine X_if_eqN (a := 1) 291 dX12_one_129 (by decide) (by omega) (fun h_52 => ?_) (fun h_52 => ?_)
                    · exact absurd h_52 (by omega)
                    · refine X_aload_n dX12_one_132 rfl ?_
                      have hEo := RHE_of2 (p := skT B n i) hS1 (show 1 ≤ 3 ∧ 3 ≤ 3 by omega)
                      refine X_callVI dX12_one_133 mkX12_271 (k_87 hSh) (c_opens0 Γ g (up2 mi 87 4 (nI (skT B n i))) ml hSh hS1.2.2.1 hS1.2.2.2.2.2.2.1 (skT B n i) up2_s) rfl rfl (by omega) (Nat.le_of_ble_eq_true rfl) ?_
                      refine X_if_neN (a := 0) 140 dX12_one_136 (by decide) (by omega) (fun h_53 => ?_) (fun h_53 => ?_)
                      · exact absurd h_53 (by omega)
                      · exact X_vret dX12_one_139 rfl ⟨rfl, rfl, by rw [show unitR none B n i = .error (3, skT B n i) from by simp only [unitR, pairR, choR, sgK, wdK, bS, hd, hp, hW, if_true, if_false, Bool.false_eq_true, reduceIte, Nat.reduceLT, Nat.reduceSub]]; exact hEo, rfl⟩
                  · exact absurd rfl h_51
                · exact absurd h_50 (by omega)
              · exact absurd h_49 (by omega)
            · exact absurd h_48 (by omega)
set_option maxRecDepth 100000 in
set_option maxHeartbeats 4000000 in
theorem rc_unitS (Γ : pTG) (g : pGG) (ml : pML) (hSh : Sh g) (B : Nat → Int32) (n : Nat) (D op : Nat) (hD : 10 ≤ D) (ho : op < 6) (S : hFn) (hU : RC2 Γ g ml B n D mX12_sum (op + 1) S) (hUO : UOK n S) : RC2 Γ g ml B n (D + 1) mX12_one op (unitR (some S) B n) := by
  intro m0 mi i T a hS
  refine rV_of (by decide +kernel) (Nat.le_of_ble_eq_true rfl) ?_
  have hin := hS.1.2.1
  have hn15 := hS.2.1
  have hTl := hS.2.2.2.2.2.2.2.1
  have hs1 := skT_le (B := B) hS.1.2.1
  have hs2 := skT_ge (B := B) (n := n) (i := i)
  have hS1 := RST_at hS hs1 hs2
  have hwl := wdT_le (B := B) hs1
  have hwg := wdT_ge (B := B) (n := n) (i := skT B n i)
  by_cases hd : dgP B n (skT B n i) = true
  · have hW := wIx_nil (j := 1) (by decide) (sm_dg hd)
    have hp : ¬ byT B n (skT B n i) = nI 40 := fun q => by obtain ⟨h1, h2, h3⟩ := dgP_t hd; rw [byT_in h1] at q; rw [q] at h2; exact absurd h2 (by decide)
    refine X_aload_n dX12_one_0 rfl ?_
    refine X_geti dX12_one_1 fkX12_174 rfl (k_87 hSh) ?_
    rw [hS.2.2.1]
    refine X_if_eqN (a := 0) 8 dX12_one_4 (by decide) (by omega) (fun h_1 => ?_) (fun h_1 => ?_)
    · refine X_aload_n dX12_one_8 rfl ?_
      refine X_callVV dX12_one_9 mkX12_180 (k_87 hSh) (c_blanks Γ g mi ml hSh B n i hS.1) rfl rfl (by omega) (Nat.le_of_ble_eq_true rfl) ?_
      refine X_aload_n dX12_one_12 rfl ?_
      refine X_bipush (v := nI 12) dX12_one_13 (by decide) ?_
      refine X_iconst (v := nI 5) dX12_one_15 (by decide) ?_
      refine X_iconst (v := nI 1) dX12_one_16 (by decide) ?_
      refine X_bipush (v := nI 19) dX12_one_17 (by decide) ?_
      refine X_bipush (v := nI 20) dX12_one_19 (by decide) ?_
      refine X_iconst (v := nI 0) dX12_one_21 (by decide) ?_
      refine X_callVI dX12_one_22 mkX12_207 (k_87 hSh) (c_isW0 Γ g (up2 mi 87 4 (nI (skT B n i))) ml hSh B n (skT B n i) hS1.1 skT_sk hS1.2.2.1 12 5 1 19 20 0 (by decide) (by decide) (by decide) (by decide) (fun q => by have h9 := wq_1_11.mp q; rw [hW] at h9; cases h9)) rfl rfl (by omega) (Nat.le_of_ble_eq_true rfl) ?_
      refine X_if_eqN (a := 0) 33 dX12_one_25 (by decide) (by omega) (fun h_2 => ?_) (fun h_2 => ?_)
      · refine X_aload_n dX12_one_33 rfl ?_
        refine X_bipush (v := nI 13) dX12_one_34 (by decide) ?_
        refine X_bipush (v := nI 15) dX12_one_36 (by decide) ?_
        refine X_bipush (v := nI 19) dX12_one_38 (by decide) ?_
        refine X_bipush (v := nI 20) dX12_one_40 (by decide) ?_
        refine X_iconst (v := nI 0) dX12_one_42 (by decide) ?_
        refine X_iconst (v := nI 0) dX12_one_43 (by decide) ?_
        refine X_callVI dX12_one_44 mkX12_207 (k_87 hSh) (c_isW0 Γ g (up2 mi 87 4 (nI (skT B n i))) ml hSh B n (skT B n i) hS1.1 skT_sk hS1.2.2.1 13 15 19 20 0 0 (by decide) (by decide) (by decide) (by decide) (fun q => by have h9 := wq_1_12.mp q; rw [hW] at h9; cases h9)) rfl rfl (by omega) (Nat.le_of_ble_eq_true rfl) ?_
        refine X_if_eqN (a := 0) 55 dX12_one_47 (by decide) (by omega) (fun h_3 => ?_) (fun h_3 => ?_)
        · refine X_iconst (v := -1) dX12_one_55 (by decide) ?_
          refine X_istore_n dX12_one_56 (by decide) ?_
          refine X_iload_n dX12_one_57 rfl ?_
          refine X_iconst (v := -1) dX12_one_58 (by decide) ?_
          refine X_icmp_eq 117 dX12_one_59 (by decide) (fun h_4 => ?_) (fun h_4 => ?_)
          · refine X_aload_n dX12_one_117 rfl ?_
            refine X_bipush (v := nI 9) dX12_one_118 (by decide) ?_
            refine X_bipush (v := nI 6) dX12_one_120 (by decide) ?_
            refine X_iconst (v := nI 0) dX12_one_122 (by decide) ?_
            refine X_iconst (v := nI 0) dX12_one_123 (by decide) ?_
            refine X_iconst (v := nI 0) dX12_one_124 (by decide) ?_
            refine X_iconst (v := nI 0) dX12_one_125 (by decide) ?_
            refine X_callVI dX12_one_126 mkX12_207 (k_87 hSh) (c_isW0 Γ g (up2 mi 87 4 (nI (skT B n i))) ml hSh B n (skT B n i) hS1.1 skT_sk hS1.2.2.1 9 6 0 0 0 0 (by decide) (by decide) (by decide) (by decide) (fun q => by have h9 := wq_1_13.mp q; rw [hW] at h9; cases h9)) rfl rfl (by omega) (Nat.le_of_ble_eq_true rfl) ?_
            refine X_if_eqN (a := 0) 291 dX12_one_129 (by decide) (by omega) (fun h_5 => ?_) (fun h_5 => ?_)
            · refine X_aload_n dX12_one_291 rfl ?_
              refine X_aload_n dX12_one_292 rfl ?_
              refine X_geti dX12_one_293 fkX12_167 rfl (k_87 hSh) ?_
              rw [up2_s]
              refine X_callVI dX12_one_296 mkX12_170 (k_87 hSh) (c_byteT Γ g (up2 mi 87 4 (nI (skT B n i))) ml hSh B n (skT B n i) hS1.1 (skT B n i) (by omega)) rfl rfl (by omega) (Nat.le_of_ble_eq_true rfl) ?_
              refine X_bipush (v := nI 40) dX12_one_299 (by decide) ?_
              refine X_icmp_ne 343 dX12_one_301 (by decide) (fun h_6 => ?_) (fun h_6 => ?_)
              · refine X_aload_n dX12_one_343 rfl ?_
                refine X_callVI dX12_one_344 mkX12_278 (k_87 hSh) (c_knownN Γ g (up2 mi 87 4 (nI (skT B n i))) ml hSh B n (skT B n i) hS1.1 skT_sk hS1.2.2.1 (fun j _ q => by rw [hW] at q; cases q)) rfl rfl (by omega) (Nat.le_of_ble_eq_true rfl) ?_
                refine X_istore_n dX12_one_347 (by decide) ?_
                refine X_aload_n dX12_one_348 rfl ?_
                refine X_aload_n dX12_one_349 rfl ?_
                refine X_geti dX12_one_350 fkX12_281 rfl (k_87 hSh) ?_
                rw [hS1.2.2.2.2.2.1]
                refine X_if_ne 362 dX12_one_353 (by decide) (fun h_7 => ?_) (fun h_7 => ?_)
                · refine X_iconst (v := nI 1) dX12_one_362 (by decide) ?_
                  refine X_goto 367 dX12_one_363 (by decide) ?_
                  refine X_topi (show nI 1 = bI a by first | (rw [(bI_n0 (b := a)).mp (by assumption)]; rfl) | (rw [(bI_0 (b := a)).mp (by assumption)]; rfl)) ?_
                  have h01 := bI_01 a
                  have hSa := RST_ask (b := a) (v := bI a) hS1 rfl
                  refine X_putz dX12_one_367 fkX12_281 rfl (by first | exact Or.inl rfl | exact Or.inr rfl | assumption) rfl (k_87 hSh) ?_
                  refine X_iload_n dX12_one_370 rfl ?_
                  refine X_iconst (v := -1) dX12_one_371 (by decide) ?_
                  refine X_icmp_eq 384 dX12_one_372 (by decide) (fun h_8 => ?_) (fun h_8 => ?_)
                  · refine X_aload_n dX12_one_384 rfl ?_
                    refine X_iconst (v := nI 0) dX12_one_385 (by decide) ?_
                    refine X_aload_n dX12_one_386 rfl ?_
                    refine X_iconst (v := nI 0) dX12_one_387 (by decide) ?_
                    refine X_bipush (v := nI 99) dX12_one_388 (by decide) ?_
                    match hN : numR B n i 0 100 with
                    | .error (k1, p1) =>
                      obtain ⟨hka1, hkb1⟩ := numR_k hN
                      obtain ⟨q1, hq1, hC1⟩ := c_rnumE Γ g (up2 (up2 mi 87 4 (nI (skT B n i))) 87 33 (bI a)) ml hSh B n (skT B n i) hSa.1 hSa.2.2.1 0 100 (nI 99) (by omega) (by omega) (hH_of (by omega)) (numR_sk.trans hN)
                      have hE1 := RHE_of (p := p1) hSa hq1 (show 1 ≤ k1 ∧ k1 ≤ 3 by omega)
                      refine X_callVI dX12_one_390 mkX12_220 (k_87 hSh) (hC1) rfl rfl (by omega) (Nat.le_of_ble_eq_true rfl) ?_
                      refine X_callVV dX12_one_393 mkX12_262 (k_87 hSh) (c_notesF Γ g (up2 (up2 (up2 (up2 (up2 mi 87 4 (nI (skT B n i))) 87 33 (bI a)) 87 4 (nI q1)) 87 5 (nI k1)) 87 6 (nI p1)) ml hSh (RHE_f hE1) (nI 0) (nI 0)) rfl rfl (by omega) (Nat.le_of_ble_eq_true rfl) ?_
                      exact X_vret dX12_one_396 rfl ⟨rfl, rfl, by rw [show unitR (some S) B n i = .error (k1, p1) from by simp only [unitR, pairR, choR, sgK, wdK, bS, hd, hN, if_true, if_false, Bool.false_eq_true, reduceIte, Nat.reduceLT, Nat.reduceSub]]; exact hE1, rfl⟩
                    | .ok (v1, e1) =>
                      obtain ⟨he1, hi1, hl1, hv1⟩ := numR_o hin hN
                      have hi2 := (numR_o hs1 (numR_sk.trans hN)).2.1
                      have hS2 := RST_at hSa he1 (by omega)
                      refine X_callVI dX12_one_390 mkX12_220 (k_87 hSh) (c_rnumOK Γ g (up2 (up2 mi 87 4 (nI (skT B n i))) 87 33 (bI a)) ml hSh B n (skT B n i) hSa.1 hSa.2.2.1 0 100 (nI 99) (by omega) (by omega) (hH_of (by omega)) (numR_sk.trans hN)) rfl rfl (by omega) (Nat.le_of_ble_eq_true rfl) ?_
                      have h151 := hS2.2.1
                      have hlb1 := hS2.2.2.2.2.2.2.2.1
                      have hlc1 := hS2.1.2.1
                      have hle1 : (T).length + 1 ≤ e1 := by omega
                      have hS1 := RST_nt (t := (0, v1)) (u := nI 0) (v := nI v1) hS2 hle1 rfl rfl
                      have hlen1 := List.length_append (as := T) (bs := [(0, v1)])
                      rw [List.length_singleton] at hlen1
                      refine X_callVV dX12_one_393 mkX12_262 (k_87 hSh) (c_notes Γ g (up2 (up2 (up2 mi 87 4 (nI (skT B n i))) 87 33 (bI a)) 87 4 (nI e1)) ml hSh hS2.2.2.1 _ hS2.2.2.2.1 (by omega) (nI 0) (nI v1)) rfl rfl (by omega) (Nat.le_of_ble_eq_true rfl) ?_
                      exact X_vret dX12_one_396 rfl ⟨rfl, rfl, by rw [show unitR (some S) B n i = .ok (e1, [(0, v1)], false) from by simp only [unitR, pairR, choR, sgK, wdK, bS, hd, hN, if_true, if_false, Bool.false_eq_true, reduceIte, Nat.reduceLT, Nat.reduceSub]]; exact RST_eq (hS1) (by simp [List.append_assoc]) (by simp [Bool.or_assoc]), rfl⟩
                  · exact absurd rfl h_8
                · refine X_iload_n dX12_one_356 rfl ?_
                  refine X_bipush (v := nI 6) dX12_one_357 (by decide) ?_
                  refine X_icmp_ne 366 dX12_one_359 (by decide) (fun h_9 => ?_) (fun h_9 => ?_)
                  · refine X_iconst (v := nI 0) dX12_one_366 (by decide) ?_
                    refine X_topi (show nI 0 = bI a by first | (rw [(bI_n0 (b := a)).mp (by assumption)]; rfl) | (rw [(bI_0 (b := a)).mp (by assumption)]; rfl)) ?_
                    have h01 := bI_01 a
                    have hSa := RST_ask (b := a) (v := bI a) hS1 rfl
                    refine X_putz dX12_one_367 fkX12_281 rfl (by first | exact Or.inl rfl | exact Or.inr rfl | assumption) rfl (k_87 hSh) ?_
                    refine X_iload_n dX12_one_370 rfl ?_
                    refine X_iconst (v := -1) dX12_one_371 (by decide) ?_
                    refine X_icmp_eq 384 dX12_one_372 (by decide) (fun h_10 => ?_) (fun h_10 => ?_)
                    · refine X_aload_n dX12_one_384 rfl ?_
                      refine X_iconst (v := nI 0) dX12_one_385 (by decide) ?_
                      refine X_aload_n dX12_one_386 rfl ?_
                      refine X_iconst (v := nI 0) dX12_one_387 (by decide) ?_
                      refine X_bipush (v := nI 99) dX12_one_388 (by decide) ?_
                      match hN : numR B n i 0 100 with
                      | .error (k1, p1) =>
                        obtain ⟨hka1, hkb1⟩ := numR_k hN
                        obtain ⟨q1, hq1, hC1⟩ := c_rnumE Γ g (up2 (up2 mi 87 4 (nI (skT B n i))) 87 33 (bI a)) ml hSh B n (skT B n i) hSa.1 hSa.2.2.1 0 100 (nI 99) (by omega) (by omega) (hH_of (by omega)) (numR_sk.trans hN)
                        have hE1 := RHE_of (p := p1) hSa hq1 (show 1 ≤ k1 ∧ k1 ≤ 3 by omega)
                        refine X_callVI dX12_one_390 mkX12_220 (k_87 hSh) (hC1) rfl rfl (by omega) (Nat.le_of_ble_eq_true rfl) ?_
                        refine X_callVV dX12_one_393 mkX12_262 (k_87 hSh) (c_notesF Γ g (up2 (up2 (up2 (up2 (up2 mi 87 4 (nI (skT B n i))) 87 33 (bI a)) 87 4 (nI q1)) 87 5 (nI k1)) 87 6 (nI p1)) ml hSh (RHE_f hE1) (nI 0) (nI 0)) rfl rfl (by omega) (Nat.le_of_ble_eq_true rfl) ?_
                        exact X_vret dX12_one_396 rfl ⟨rfl, rfl, by rw [show unitR (some S) B n i = .error (k1, p1) from by simp only [unitR, pairR, choR, sgK, wdK, bS, hd, hN, if_true, if_false, Bool.false_eq_true, reduceIte, Nat.reduceLT, Nat.reduceSub]]; exact hE1, rfl⟩
                      | .ok (v1, e1) =>
                        obtain ⟨he1, hi1, hl1, hv1⟩ := numR_o hin hN
                        have hi2 := (numR_o hs1 (numR_sk.trans hN)).2.1
                        have hS2 := RST_at hSa he1 (by omega)
                        refine X_callVI dX12_one_390 mkX12_220 (k_87 hSh) (c_rnumOK Γ g (up2 (up2 mi 87 4 (nI (skT B n i))) 87 33 (bI a)) ml hSh B n (skT B n i) hSa.1 hSa.2.2.1 0 100 (nI 99) (by omega) (by omega) (hH_of (by omega)) (numR_sk.trans hN)) rfl rfl (by omega) (Nat.le_of_ble_eq_true rfl) ?_
                        have h151 := hS2.2.1
                        have hlb1 := hS2.2.2.2.2.2.2.2.1
                        have hlc1 := hS2.1.2.1
                        have hle1 : (T).length + 1 ≤ e1 := by omega
                        have hS1 := RST_nt (t := (0, v1)) (u := nI 0) (v := nI v1) hS2 hle1 rfl rfl
                        have hlen1 := List.length_append (as := T) (bs := [(0, v1)])
                        rw [List.length_singleton] at hlen1
                        refine X_callVV dX12_one_393 mkX12_262 (k_87 hSh) (c_notes Γ g (up2 (up2 (up2 mi 87 4 (nI (skT B n i))) 87 33 (bI a)) 87 4 (nI e1)) ml hSh hS2.2.2.1 _ hS2.2.2.2.1 (by omega) (nI 0) (nI v1)) rfl rfl (by omega) (Nat.le_of_ble_eq_true rfl) ?_
                        exact X_vret dX12_one_396 rfl ⟨rfl, rfl, by rw [show unitR (some S) B n i = .ok (e1, [(0, v1)], false) from by simp only [unitR, pairR, choR, sgK, wdK, bS, hd, hN, if_true, if_false, Bool.false_eq_true, reduceIte, Nat.reduceLT, Nat.reduceSub]]; exact RST_eq (hS1) (by simp [List.append_assoc]) (by simp [Bool.or_assoc]), rfl⟩
                    · exact absurd rfl h_10
                  · exact absurd h_9 (nI_m1' (by omega))
              · exact absurd h_6 hp
            · exact absurd h_5 (by omega)
          · exact absurd rfl h_4
        · exact absurd h_3 (by omega)
      · exact absurd h_2 (by omega)
    · exact absurd h_1 (by omega)
  · by_cases hp : byT B n (skT B n i) = nI 40
    · have hW := wIx_nil (j := 1) (by decide) (sm_of_by (B := B) (n := n) (i := skT B n i) (fun q => by rw [hp] at q; exact absurd q.1 (by decide)))
      refine X_aload_n dX12_one_0 rfl ?_
      refine X_geti dX12_one_1 fkX12_174 rfl (k_87 hSh) ?_
      rw [hS.2.2.1]
      refine X_if_eqN (a := 0) 8 dX12_one_4 (by decide) (by omega) (fun h_11 => ?_) (fun h_11 => ?_)
      · refine X_aload_n dX12_one_8 rfl ?_
        refine X_callVV dX12_one_9 mkX12_180 (k_87 hSh) (c_blanks Γ g mi ml hSh B n i hS.1) rfl rfl (by omega) (Nat.le_of_ble_eq_true rfl) ?_
        refine X_aload_n dX12_one_12 rfl ?_
        refine X_bipush (v := nI 12) dX12_one_13 (by decide) ?_
        refine X_iconst (v := nI 5) dX12_one_15 (by decide) ?_
        refine X_iconst (v := nI 1) dX12_one_16 (by decide) ?_
        refine X_bipush (v := nI 19) dX12_one_17 (by decide) ?_
        refine X_bipush (v := nI 20) dX12_one_19 (by decide) ?_
        refine X_iconst (v := nI 0) dX12_one_21 (by decide) ?_
        refine X_callVI dX12_one_22 mkX12_207 (k_87 hSh) (c_isW0 Γ g (up2 mi 87 4 (nI (skT B n i))) ml hSh B n (skT B n i) hS1.1 skT_sk hS1.2.2.1 12 5 1 19 20 0 (by decide) (by decide) (by decide) (by decide) (fun q => by have h9 := wq_1_11.mp q; rw [hW] at h9; cases h9)) rfl rfl (by omega) (Nat.le_of_ble_eq_true rfl) ?_
        refine X_if_eqN (a := 0) 33 dX12_one_25 (by decide) (by omega) (fun h_12 => ?_) (fun h_12 => ?_)
        · refine X_aload_n dX12_one_33 rfl ?_
          refine X_bipush (v := nI 13) dX12_one_34 (by decide) ?_
          refine X_bipush (v := nI 15) dX12_one_36 (by decide) ?_
          refine X_bipush (v := nI 19) dX12_one_38 (by decide) ?_
          refine X_bipush (v := nI 20) dX12_one_40 (by decide) ?_
          refine X_iconst (v := nI 0) dX12_one_42 (by decide) ?_
          refine X_iconst (v := nI 0) dX12_one_43 (by decide) ?_
          refine X_callVI dX12_one_44 mkX12_207 (k_87 hSh) (c_isW0 Γ g (up2 mi 87 4 (nI (skT B n i))) ml hSh B n (skT B n i) hS1.1 skT_sk hS1.2.2.1 13 15 19 20 0 0 (by decide) (by decide) (by decide) (by decide) (fun q => by have h9 := wq_1_12.mp q; rw [hW] at h9; cases h9)) rfl rfl (by omega) (Nat.le_of_ble_eq_true rfl) ?_
          refine X_if_eqN (a := 0) 55 dX12_one_47 (by decide) (by omega) (fun h_13 => ?_) (fun h_13 => ?_)
          · refine X_iconst (v := -1) dX12_one_55 (by decide) ?_
            refine X_istore_n dX12_one_56 (by decide) ?_
            refine X_iload_n dX12_one_57 rfl ?_
            refine X_iconst (v := -1) dX12_one_58 (by decide) ?_
            refine X_icmp_eq 117 dX12_one_59 (by decide) (fun h_14 => ?_) (fun h_14 => ?_)
            · refine X_aload_n dX12_one_117 rfl ?_
              refine X_bipush (v := nI 9) dX12_one_118 (by decide) ?_
              refine X_bipush (v := nI 6) dX12_one_120 (by decide) ?_
              refine X_iconst (v := nI 0) dX12_one_122 (by decide) ?_
              refine X_iconst (v := nI 0) dX12_one_123 (by decide) ?_
              refine X_iconst (v := nI 0) dX12_one_124 (by decide) ?_
              refine X_iconst (v := nI 0) dX12_one_125 (by decide) ?_
              refine X_callVI dX12_one_126 mkX12_207 (k_87 hSh) (c_isW0 Γ g (up2 mi 87 4 (nI (skT B n i))) ml hSh B n (skT B n i) hS1.1 skT_sk hS1.2.2.1 9 6 0 0 0 0 (by decide) (by decide) (by decide) (by decide) (fun q => by have h9 := wq_1_13.mp q; rw [hW] at h9; cases h9)) rfl rfl (by omega) (Nat.le_of_ble_eq_true rfl) ?_
              refine X_if_eqN (a := 0) 291 dX12_one_129 (by decide) (by omega) (fun h_15 => ?_) (fun h_15 => ?_)
              · refine X_aload_n dX12_one_291 rfl ?_
                refine X_aload_n dX12_one_292 rfl ?_
                refine X_geti dX12_one_293 fkX12_167 rfl (k_87 hSh) ?_
                rw [up2_s]
                refine X_callVI dX12_one_296 mkX12_170 (k_87 hSh) (c_byteT Γ g (up2 mi 87 4 (nI (skT B n i))) ml hSh B n (skT B n i) hS1.1 (skT B n i) (by omega)) rfl rfl (by omega) (Nat.le_of_ble_eq_true rfl) ?_
                refine X_bipush (v := nI 40) dX12_one_299 (by decide) ?_
                refine X_icmp_ne 343 dX12_one_301 (by decide) (fun h_16 => ?_) (fun h_16 => ?_)
                · exact absurd hp h_16
                · refine X_aload_n dX12_one_304 rfl ?_
                  have hSo := RST_o (op' := op + 1) (v := nI (op + 1)) hS1 rfl
                  refine X_callVI dX12_one_305 mkX12_271 (k_87 hSh) (c_opens1 Γ g (up2 mi 87 4 (nI (skT B n i))) ml hSh hS1.2.2.1 op hS1.2.2.2.2.2.2.1 ho) rfl rfl (by omega) (Nat.le_of_ble_eq_true rfl) ?_
                  refine X_if_neN (a := 1) 312 dX12_one_308 (by decide) (by omega) (fun h_17 => ?_) (fun h_17 => ?_)
                  · refine X_aload_n dX12_one_312 rfl ?_
                    refine X_dup dX12_one_313 rfl ?_
                    refine X_geti dX12_one_314 fkX12_167 rfl (k_87 hSh) ?_
                    rw [((up2_n (by omega)).trans up2_s)]
                    refine X_iconst (v := nI 1) dX12_one_317 (by decide) ?_
                    refine X_iadd dX12_one_318 ?_
                    refine X_topi (nI_add (skT B n i) 1) ?_
                    refine X_puti dX12_one_319 fkX12_167 rfl rfl (k_87 hSh) ?_
                    have hSq := RST_at hSo (by_lt hp) (show skT B n i ≤ skT B n i + 1 by omega)
                    refine X_aload_n dX12_one_322 rfl ?_
                    match hU1 : S (skT B n i + 1) with
                    | .error (k1, p1) =>
                      refine X_callVrV dX12_one_323 mkX12_275 (k_87 hSh) (hU m0 _ (skT B n i + 1) T a hSq) rfl rfl (by omega) (Nat.le_of_ble_eq_true rfl) (fun m1 l1 hm1 => ?_)
                      rw [hU1] at hm1
                      obtain ⟨hm1, hL1⟩ := hm1
                      rw [hL1]
                      refine X_aload_n dX12_one_326 rfl ?_
                      refine X_bipush (v := nI 41) dX12_one_327 (by decide) ?_
                      refine X_callVV dX12_one_329 mkX12_224 (k_87 hSh) (c_signF Γ g m1 ml hSh (RHE_f hm1) (nI 41)) rfl rfl (by omega) (Nat.le_of_ble_eq_true rfl) ?_
                      refine X_aload_n dX12_one_332 rfl ?_
                      refine X_dup dX12_one_333 rfl ?_
                      refine X_geti dX12_one_334 fkX12_217 rfl (k_87 hSh) ?_
                      refine X_iconst (v := nI 1) dX12_one_337 (by decide) ?_
                      refine X_isub dX12_one_338 ?_
                      refine X_puti dX12_one_339 fkX12_217 rfl rfl (k_87 hSh) ?_
                      exact X_vret dX12_one_342 rfl ⟨rfl, rfl, by rw [show unitR (some S) B n i = .error (k1, p1) from by simp only [unitR, pairR, choR, sgK, wdK, bS, hd, hp, hU1, if_true, if_false, Bool.false_eq_true, reduceIte, Nat.reduceLT, Nat.reduceSub]]; exact RHE_o hm1, rfl⟩
                    | .ok (e1, t1, b1) =>
                      obtain ⟨hb1, hc1, hd1⟩ := (hUO _ hSq.1.2.1).1 e1 t1 b1 hU1
                      refine X_callVrV dX12_one_323 mkX12_275 (k_87 hSh) (hU m0 _ (skT B n i + 1) T a hSq) rfl rfl (by omega) (Nat.le_of_ble_eq_true rfl) (fun m1 l1 hm1 => ?_)
                      rw [hU1] at hm1
                      obtain ⟨hm1, hL1⟩ := hm1
                      rw [hL1]
                      have hlen1 := List.length_append (as := T) (bs := t1)
                      refine X_aload_n dX12_one_326 rfl ?_
                      refine X_bipush (v := nI 41) dX12_one_327 (by decide) ?_
                      by_cases hs2 : byT B n (skT B n e1) = nI 41
                      ·
                        have hl2 := by_lt hs2
                        have hg2 := skT_ge (B := B) (n := n) (i := e1)
                        have hS2 := RST_at hm1 hl2 (by omega)
                        refine X_callVV dX12_one_329 mkX12_224 (k_87 hSh) (c_sign1 Γ g m1 ml hSh B n e1 hm1.1 hm1.2.2.1 (nI 41) hs2) rfl rfl (by omega) (Nat.le_of_ble_eq_true rfl) ?_
                        refine X_aload_n dX12_one_332 rfl ?_
                        refine X_dup dX12_one_333 rfl ?_
                        refine X_geti dX12_one_334 fkX12_217 rfl (k_87 hSh) ?_
                        refine X_topi (show (up2 m1 87 4 (nI (skT B n e1 + 1))) 87 8 = nI (op + 1) by rw [up2_n (by omega)]; exact hm1.2.2.2.2.2.2.1) ?_
                        refine X_iconst (v := nI 1) dX12_one_337 (by decide) ?_
                        refine X_isub dX12_one_338 ?_
                        refine X_topi (pk_sub (a := op + 1) (b := 1) (by omega)) ?_
                        refine X_puti dX12_one_339 fkX12_217 rfl rfl (k_87 hSh) ?_
                        exact X_vret dX12_one_342 rfl ⟨rfl, rfl, by rw [show unitR (some S) B n i = .ok (skT B n e1 + 1, t1, b1) from by simp only [unitR, pairR, choR, sgK, wdK, bS, hd, hp, hU1, hs2, if_true, if_false, Bool.false_eq_true, reduceIte, Nat.reduceLT, Nat.reduceSub]]; exact RST_eq (RST_o hS2 rfl) (by simp [List.append_assoc]) (by simp [Bool.or_assoc]), rfl⟩
                      ·
                        have hE2 := RHE_of (p := skT B n e1) hm1 (skT_le (B := B) hm1.1.2.1) (show 1 ≤ 1 ∧ 1 ≤ 3 by omega)
                        refine X_callVV dX12_one_329 mkX12_224 (k_87 hSh) (c_sign0 Γ g m1 ml hSh B n e1 hm1.1 hm1.2.2.1 (nI 41) hs2) rfl rfl (by omega) (Nat.le_of_ble_eq_true rfl) ?_
                        refine X_aload_n dX12_one_332 rfl ?_
                        refine X_dup dX12_one_333 rfl ?_
                        refine X_geti dX12_one_334 fkX12_217 rfl (k_87 hSh) ?_
                        refine X_topi (show (up2 (up2 (up2 m1 87 4 (nI (skT B n e1))) 87 5 (nI 1)) 87 6 (nI (skT B n e1))) 87 8 = nI (op + 1) by rw [up2_n (by omega), up2_n (by omega), up2_n (by omega)]; exact hm1.2.2.2.2.2.2.1) ?_
                        refine X_iconst (v := nI 1) dX12_one_337 (by decide) ?_
                        refine X_isub dX12_one_338 ?_
                        refine X_topi (pk_sub (a := op + 1) (b := 1) (by omega)) ?_
                        refine X_puti dX12_one_339 fkX12_217 rfl rfl (k_87 hSh) ?_
                        exact X_vret dX12_one_342 rfl ⟨rfl, rfl, by rw [show unitR (some S) B n i = .error (1, skT B n e1) from by simp only [unitR, pairR, choR, sgK, wdK, bS, hd, hp, hU1, hs2, if_true, if_false, Bool.false_eq_true, reduceIte, Nat.reduceLT, Nat.reduceSub]]; exact RHE_o hE2, rfl⟩
                  · exact absurd h_17 (by omega)
              · exact absurd h_15 (by omega)
            · exact absurd rfl h_14
          · exact absurd h_13 (by omega)
        · exact absurd h_12 (by omega)
      · exact absurd h_11 (by omega)
    · match hW : wIx 1 B n (skT B n i) with
      | none =>
        refine X_aload_n dX12_one_0 rfl ?_
        refine X_geti dX12_one_1 fkX12_174 rfl (k_87 hSh) ?_
        rw [hS.2.2.1]
        refine X_if_eqN (a := 0) 8 dX12_one_4 (by decide) (by omega) (fun h_18 => ?_) (fun h_18 => ?_)
        · refine X_aload_n dX12_one_8 rfl ?_
          refine X_callVV dX12_one_9 mkX12_180 (k_87 hSh) (c_blanks Γ g mi ml hSh B n i hS.1) rfl rfl (by omega) (Nat.le_of_ble_eq_true rfl) ?_
          refine X_aload_n dX12_one_12 rfl ?_
          refine X_bipush (v := nI 12) dX12_one_13 (by decide) ?_
          refine X_iconst (v := nI 5) dX12_one_15 (by decide) ?_
          refine X_iconst (v := nI 1) dX12_one_16 (by decide) ?_
          refine X_bipush (v := nI 19) dX12_one_17 (by decide) ?_
          refine X_bipush (v := nI 20) dX12_one_19 (by decide) ?_
          refine X_iconst (v := nI 0) dX12_one_21 (by decide) ?_
          refine X_callVI dX12_one_22 mkX12_207 (k_87 hSh) (c_isW0 Γ g (up2 mi 87 4 (nI (skT B n i))) ml hSh B n (skT B n i) hS1.1 skT_sk hS1.2.2.1 12 5 1 19 20 0 (by decide) (by decide) (by decide) (by decide) (fun q => by have h9 := wq_1_11.mp q; rw [hW] at h9; cases h9)) rfl rfl (by omega) (Nat.le_of_ble_eq_true rfl) ?_
          refine X_if_eqN (a := 0) 33 dX12_one_25 (by decide) (by omega) (fun h_19 => ?_) (fun h_19 => ?_)
          · refine X_aload_n dX12_one_33 rfl ?_
            refine X_bipush (v := nI 13) dX12_one_34 (by decide) ?_
            refine X_bipush (v := nI 15) dX12_one_36 (by decide) ?_
            refine X_bipush (v := nI 19) dX12_one_38 (by decide) ?_
            refine X_bipush (v := nI 20) dX12_one_40 (by decide) ?_
            refine X_iconst (v := nI 0) dX12_one_42 (by decide) ?_
            refine X_iconst (v := nI 0) dX12_one_43 (by decide) ?_
            refine X_callVI dX12_one_44 mkX12_207 (k_87 hSh) (c_isW0 Γ g (up2 mi 87 4 (nI (skT B n i))) ml hSh B n (skT B n i) hS1.1 skT_sk hS1.2.2.1 13 15 19 20 0 0 (by decide) (by decide) (by decide) (by decide) (fun q => by have h9 := wq_1_12.mp q; rw [hW] at h9; cases h9)) rfl rfl (by omega) (Nat.le_of_ble_eq_true rfl) ?_
            refine X_if_eqN (a := 0) 55 dX12_one_47 (by decide) (by omega) (fun h_20 => ?_) (fun h_20 => ?_)
            · refine X_iconst (v := -1) dX12_one_55 (by decide) ?_
              refine X_istore_n dX12_one_56 (by decide) ?_
              refine X_iload_n dX12_one_57 rfl ?_
              refine X_iconst (v := -1) dX12_one_58 (by decide) ?_
              refine X_icmp_eq 117 dX12_one_59 (by decide) (fun h_21 => ?_) (fun h_21 => ?_)
              · refine X_aload_n dX12_one_117 rfl ?_
                refine X_bipush (v := nI 9) dX12_one_118 (by decide) ?_
                refine X_bipush (v := nI 6) dX12_one_120 (by decide) ?_
                refine X_iconst (v := nI 0) dX12_one_122 (by decide) ?_
                refine X_iconst (v := nI 0) dX12_one_123 (by decide) ?_
                refine X_iconst (v := nI 0) dX12_one_124 (by decide) ?_
                refine X_iconst (v := nI 0) dX12_one_125 (by decide) ?_
                refine X_callVI dX12_one_126 mkX12_207 (k_87 hSh) (c_isW0 Γ g (up2 mi 87 4 (nI (skT B n i))) ml hSh B n (skT B n i) hS1.1 skT_sk hS1.2.2.1 9 6 0 0 0 0 (by decide) (by decide) (by decide) (by decide) (fun q => by have h9 := wq_1_13.mp q; rw [hW] at h9; cases h9)) rfl rfl (by omega) (Nat.le_of_ble_eq_true rfl) ?_
                refine X_if_eqN (a := 0) 291 dX12_one_129 (by decide) (by omega) (fun h_22 => ?_) (fun h_22 => ?_)
                · refine X_aload_n dX12_one_291 rfl ?_
                  refine X_aload_n dX12_one_292 rfl ?_
                  refine X_geti dX12_one_293 fkX12_167 rfl (k_87 hSh) ?_
                  rw [up2_s]
                  refine X_callVI dX12_one_296 mkX12_170 (k_87 hSh) (c_byteT Γ g (up2 mi 87 4 (nI (skT B n i))) ml hSh B n (skT B n i) hS1.1 (skT B n i) (by omega)) rfl rfl (by omega) (Nat.le_of_ble_eq_true rfl) ?_
                  refine X_bipush (v := nI 40) dX12_one_299 (by decide) ?_
                  refine X_icmp_ne 343 dX12_one_301 (by decide) (fun h_23 => ?_) (fun h_23 => ?_)
                  · refine X_aload_n dX12_one_343 rfl ?_
                    refine X_callVI dX12_one_344 mkX12_278 (k_87 hSh) (c_knownN Γ g (up2 mi 87 4 (nI (skT B n i))) ml hSh B n (skT B n i) hS1.1 skT_sk hS1.2.2.1 (fun j _ q => by rw [hW] at q; cases q)) rfl rfl (by omega) (Nat.le_of_ble_eq_true rfl) ?_
                    refine X_istore_n dX12_one_347 (by decide) ?_
                    refine X_aload_n dX12_one_348 rfl ?_
                    refine X_aload_n dX12_one_349 rfl ?_
                    refine X_geti dX12_one_350 fkX12_281 rfl (k_87 hSh) ?_
                    rw [hS1.2.2.2.2.2.1]
                    refine X_if_ne 362 dX12_one_353 (by decide) (fun h_24 => ?_) (fun h_24 => ?_)
                    · refine X_iconst (v := nI 1) dX12_one_362 (by decide) ?_
                      refine X_goto 367 dX12_one_363 (by decide) ?_
                      refine X_topi (show nI 1 = bI a by first | (rw [(bI_n0 (b := a)).mp (by assumption)]; rfl) | (rw [(bI_0 (b := a)).mp (by assumption)]; rfl)) ?_
                      have h01 := bI_01 a
                      have hSa := RST_ask (b := a) (v := bI a) hS1 rfl
                      refine X_putz dX12_one_367 fkX12_281 rfl (by first | exact Or.inl rfl | exact Or.inr rfl | assumption) rfl (k_87 hSh) ?_
                      refine X_iload_n dX12_one_370 rfl ?_
                      refine X_iconst (v := -1) dX12_one_371 (by decide) ?_
                      refine X_icmp_eq 384 dX12_one_372 (by decide) (fun h_25 => ?_) (fun h_25 => ?_)
                      · refine X_aload_n dX12_one_384 rfl ?_
                        refine X_iconst (v := nI 0) dX12_one_385 (by decide) ?_
                        refine X_aload_n dX12_one_386 rfl ?_
                        refine X_iconst (v := nI 0) dX12_one_387 (by decide) ?_
                        refine X_bipush (v := nI 99) dX12_one_388 (by decide) ?_
                        have hN : numR B n i 0 100 = .error (1, skT B n i) := if_neg hd
                        obtain ⟨hka1, hkb1⟩ := numR_k hN
                        obtain ⟨q1, hq1, hC1⟩ := c_rnumE Γ g (up2 (up2 mi 87 4 (nI (skT B n i))) 87 33 (bI a)) ml hSh B n (skT B n i) hSa.1 hSa.2.2.1 0 100 (nI 99) (by omega) (by omega) (hH_of (by omega)) (numR_sk.trans hN)
                        have hE1 := RHE_of (p := skT B n i) hSa hq1 (show 1 ≤ 1 ∧ 1 ≤ 3 by omega)
                        refine X_callVI dX12_one_390 mkX12_220 (k_87 hSh) (hC1) rfl rfl (by omega) (Nat.le_of_ble_eq_true rfl) ?_
                        refine X_callVV dX12_one_393 mkX12_262 (k_87 hSh) (c_notesF Γ g (up2 (up2 (up2 (up2 (up2 mi 87 4 (nI (skT B n i))) 87 33 (bI a)) 87 4 (nI q1)) 87 5 (nI 1)) 87 6 (nI (skT B n i))) ml hSh (RHE_f hE1) (nI 0) (nI 0)) rfl rfl (by omega) (Nat.le_of_ble_eq_true rfl) ?_
                        exact X_vret dX12_one_396 rfl ⟨rfl, rfl, by rw [show unitR (some S) B n i = .error (1, skT B n i) from by simp only [unitR, pairR, choR, sgK, wdK, bS, hd, hp, hW, if_true, if_false, Bool.false_eq_true, reduceIte, Nat.reduceLT, Nat.reduceSub]]; exact hE1, rfl⟩
                      · exact absurd rfl h_25
                    · refine X_iload_n dX12_one_356 rfl ?_
                      refine X_bipush (v := nI 6) dX12_one_357 (by decide) ?_
                      refine X_icmp_ne 366 dX12_one_359 (by decide) (fun h_26 => ?_) (fun h_26 => ?_)
                      · refine X_iconst (v := nI 0) dX12_one_366 (by decide) ?_
                        refine X_topi (show nI 0 = bI a by first | (rw [(bI_n0 (b := a)).mp (by assumption)]; rfl) | (rw [(bI_0 (b := a)).mp (by assumption)]; rfl)) ?_
                        have h01 := bI_01 a
                        have hSa := RST_ask (b := a) (v := bI a) hS1 rfl
                        refine X_putz dX12_one_367 fkX12_281 rfl (by first | exact Or.inl rfl | exact Or.inr rfl | assumption) rfl (k_87 hSh) ?_
                        refine X_iload_n dX12_one_370 rfl ?_
                        refine X_iconst (v := -1) dX12_one_371 (by decide) ?_
                        refine X_icmp_eq 384 dX12_one_372 (by decide) (fun h_27 => ?_) (fun h_27 => ?_)
                        · refine X_aload_n dX12_one_384 rfl ?_
                          refine X_iconst (v := nI 0) dX12_one_385 (by decide) ?_
                          refine X_aload_n dX12_one_386 rfl ?_
                          refine X_iconst (v := nI 0) dX12_one_387 (by decide) ?_
                          refine X_bipush (v := nI 99) dX12_one_388 (by decide) ?_
                          have hN : numR B n i 0 100 = .error (1, skT B n i) := if_neg hd
                          obtain ⟨hka1, hkb1⟩ := numR_k hN
                          obtain ⟨q1, hq1, hC1⟩ := c_rnumE Γ g (up2 (up2 mi 87 4 (nI (skT B n i))) 87 33 (bI a)) ml hSh B n (skT B n i) hSa.1 hSa.2.2.1 0 100 (nI 99) (by omega) (by omega) (hH_of (by omega)) (numR_sk.trans hN)
                          have hE1 := RHE_of (p := skT B n i) hSa hq1 (show 1 ≤ 1 ∧ 1 ≤ 3 by omega)
                          refine X_callVI dX12_one_390 mkX12_220 (k_87 hSh) (hC1) rfl rfl (by omega) (Nat.le_of_ble_eq_true rfl) ?_
                          refine X_callVV dX12_one_393 mkX12_262 (k_87 hSh) (c_notesF Γ g (up2 (up2 (up2 (up2 (up2 mi 87 4 (nI (skT B n i))) 87 33 (bI a)) 87 4 (nI q1)) 87 5 (nI 1)) 87 6 (nI (skT B n i))) ml hSh (RHE_f hE1) (nI 0) (nI 0)) rfl rfl (by omega) (Nat.le_of_ble_eq_true rfl) ?_
                          exact X_vret dX12_one_396 rfl ⟨rfl, rfl, by rw [show unitR (some S) B n i = .error (1, skT B n i) from by simp only [unitR, pairR, choR, sgK, wdK, bS, hd, hp, hW, if_true, if_false, Bool.false_eq_true, reduceIte, Nat.reduceLT, Nat.reduceSub]]; exact hE1, rfl⟩
                        · exact absurd rfl h_27
                      · exact absurd h_26 (nI_m1' (by omega))
                  · exact absurd h_23 hp
                · exact absurd h_22 (by omega)
              · exact absurd rfl h_21
            · exact absurd h_20 (by omega)
          · exact absurd h_19 (by omega)
        · exact absurd h_18 (by omega)
      | some k =>
        have hk14 : k < 14 := (wIx_s hW).1
        have hgt := wdT_gt (by decide) hW
        by_cases hk : k < 11
        · skip
          refine X_aload_n dX12_one_0 rfl ?_
          refine X_geti dX12_one_1 fkX12_174 rfl (k_87 hSh) ?_
          rw [hS.2.2.1]
          refine X_if_eqN (a := 0) 8 dX12_one_4 (by decide) (by omega) (fun h_28 => ?_) (fun h_28 => ?_)
          · refine X_aload_n dX12_one_8 rfl ?_
            refine X_callVV dX12_one_9 mkX12_180 (k_87 hSh) (c_blanks Γ g mi ml hSh B n i hS.1) rfl rfl (by omega) (Nat.le_of_ble_eq_true rfl) ?_
            refine X_aload_n dX12_one_12 rfl ?_
            refine X_bipush (v := nI 12) dX12_one_13 (by decide) ?_
            refine X_iconst (v := nI 5) dX12_one_15 (by decide) ?_
            refine X_iconst (v := nI 1) dX12_one_16 (by decide) ?_
            refine X_bipush (v := nI 19) dX12_one_17 (by decide) ?_
            refine X_bipush (v := nI 20) dX12_one_19 (by decide) ?_
            refine X_iconst (v := nI 0) dX12_one_21 (by decide) ?_
            refine X_callVI dX12_one_22 mkX12_207 (k_87 hSh) (c_isW0 Γ g (up2 mi 87 4 (nI (skT B n i))) ml hSh B n (skT B n i) hS1.1 skT_sk hS1.2.2.1 12 5 1 19 20 0 (by decide) (by decide) (by decide) (by decide) (fun q => by have h9 := wq_1_11.mp q; rw [hW] at h9; cases h9; omega)) rfl rfl (by omega) (Nat.le_of_ble_eq_true rfl) ?_
            refine X_if_eqN (a := 0) 33 dX12_one_25 (by decide) (by omega) (fun h_29 => ?_) (fun h_29 => ?_)
            · refine X_aload_n dX12_one_33 rfl ?_
              refine X_bipush (v := nI 13) dX12_one_34 (by decide) ?_
              refine X_bipush (v := nI 15) dX12_one_36 (by decide) ?_
              refine X_bipush (v := nI 19) dX12_one_38 (by decide) ?_
              refine X_bipush (v := nI 20) dX12_one_40 (by decide) ?_
              refine X_iconst (v := nI 0) dX12_one_42 (by decide) ?_
              refine X_iconst (v := nI 0) dX12_one_43 (by decide) ?_
              refine X_callVI dX12_one_44 mkX12_207 (k_87 hSh) (c_isW0 Γ g (up2 mi 87 4 (nI (skT B n i))) ml hSh B n (skT B n i) hS1.1 skT_sk hS1.2.2.1 13 15 19 20 0 0 (by decide) (by decide) (by decide) (by decide) (fun q => by have h9 := wq_1_12.mp q; rw [hW] at h9; cases h9; omega)) rfl rfl (by omega) (Nat.le_of_ble_eq_true rfl) ?_
              refine X_if_eqN (a := 0) 55 dX12_one_47 (by decide) (by omega) (fun h_30 => ?_) (fun h_30 => ?_)
              · refine X_iconst (v := -1) dX12_one_55 (by decide) ?_
                refine X_istore_n dX12_one_56 (by decide) ?_
                refine X_iload_n dX12_one_57 rfl ?_
                refine X_iconst (v := -1) dX12_one_58 (by decide) ?_
                refine X_icmp_eq 117 dX12_one_59 (by decide) (fun h_31 => ?_) (fun h_31 => ?_)
                · refine X_aload_n dX12_one_117 rfl ?_
                  refine X_bipush (v := nI 9) dX12_one_118 (by decide) ?_
                  refine X_bipush (v := nI 6) dX12_one_120 (by decide) ?_
                  refine X_iconst (v := nI 0) dX12_one_122 (by decide) ?_
                  refine X_iconst (v := nI 0) dX12_one_123 (by decide) ?_
                  refine X_iconst (v := nI 0) dX12_one_124 (by decide) ?_
                  refine X_iconst (v := nI 0) dX12_one_125 (by decide) ?_
                  refine X_callVI dX12_one_126 mkX12_207 (k_87 hSh) (c_isW0 Γ g (up2 mi 87 4 (nI (skT B n i))) ml hSh B n (skT B n i) hS1.1 skT_sk hS1.2.2.1 9 6 0 0 0 0 (by decide) (by decide) (by decide) (by decide) (fun q => by have h9 := wq_1_13.mp q; rw [hW] at h9; cases h9; omega)) rfl rfl (by omega) (Nat.le_of_ble_eq_true rfl) ?_
                  refine X_if_eqN (a := 0) 291 dX12_one_129 (by decide) (by omega) (fun h_32 => ?_) (fun h_32 => ?_)
                  · refine X_aload_n dX12_one_291 rfl ?_
                    refine X_aload_n dX12_one_292 rfl ?_
                    refine X_geti dX12_one_293 fkX12_167 rfl (k_87 hSh) ?_
                    rw [up2_s]
                    refine X_callVI dX12_one_296 mkX12_170 (k_87 hSh) (c_byteT Γ g (up2 mi 87 4 (nI (skT B n i))) ml hSh B n (skT B n i) hS1.1 (skT B n i) (by omega)) rfl rfl (by omega) (Nat.le_of_ble_eq_true rfl) ?_
                    refine X_bipush (v := nI 40) dX12_one_299 (by decide) ?_
                    refine X_icmp_ne 343 dX12_one_301 (by decide) (fun h_33 => ?_) (fun h_33 => ?_)
                    · refine X_aload_n dX12_one_343 rfl ?_
                      have hSk := RST_at hS1 hwl hwg
                      refine X_callVI dX12_one_344 mkX12_278 (k_87 hSh) (c_known Γ g (up2 mi 87 4 (nI (skT B n i))) ml hSh B n (skT B n i) hS1.1 skT_sk hS1.2.2.1 k hk hW) rfl rfl (by omega) (Nat.le_of_ble_eq_true rfl) ?_
                      refine X_istore_n dX12_one_347 (by decide) ?_
                      refine X_aload_n dX12_one_348 rfl ?_
                      refine X_aload_n dX12_one_349 rfl ?_
                      refine X_geti dX12_one_350 fkX12_281 rfl (k_87 hSh) ?_
                      rw [hSk.2.2.2.2.2.1]
                      refine X_if_ne 362 dX12_one_353 (by decide) (fun h_34 => ?_) (fun h_34 => ?_)
                      · refine X_iconst (v := nI 1) dX12_one_362 (by decide) ?_
                        refine X_goto 367 dX12_one_363 (by decide) ?_
                        refine X_topi (show nI 1 = bI (a || decide (k = 6)) by first | (rw [(bI_n0 (b := a)).mp (by assumption)]; rfl) | (rw [(bI_0 (b := a)).mp (by assumption), decide_eq_true (by assumption)]; rfl) | (rw [(bI_0 (b := a)).mp (by assumption), decide_eq_false (by assumption)]; rfl)) ?_
                        have h01 := bI_01 (a || decide (k = 6))
                        have hSa := RST_ask (b := (a || decide (k = 6))) (v := bI (a || decide (k = 6))) hSk rfl
                        refine X_putz dX12_one_367 fkX12_281 rfl (by first | exact Or.inl rfl | exact Or.inr rfl | assumption) rfl (k_87 hSh) ?_
                        refine X_iload_n dX12_one_370 rfl ?_
                        refine X_iconst (v := -1) dX12_one_371 (by decide) ?_
                        refine X_icmp_eq 384 dX12_one_372 (by decide) (fun h_35 => ?_) (fun h_35 => ?_)
                        · exact absurd h_35 (nI_m1 (by omega))
                        · refine X_aload_n dX12_one_375 rfl ?_
                          refine X_iconst (v := nI 1) dX12_one_376 (by decide) ?_
                          refine X_iload_n dX12_one_377 rfl ?_
                          have h151 := hSa.2.1
                          have hlb1 := hSa.2.2.2.2.2.2.2.1
                          have hlc1 := hSa.1.2.1
                          have hle1 : (T).length + 1 ≤ wdT B n (skT B n i) := by omega
                          have hS1 := RST_nt (t := (1, k)) (u := nI 1) (v := nI k) hSa hle1 rfl rfl
                          have hlen1 := List.length_append (as := T) (bs := [(1, k)])
                          rw [List.length_singleton] at hlen1
                          refine X_callVV dX12_one_378 mkX12_262 (k_87 hSh) (c_notes Γ g (up2 (up2 (up2 mi 87 4 (nI (skT B n i))) 87 4 (nI (wdT B n (skT B n i)))) 87 33 (bI (a || decide (k = 6)))) ml hSh hSa.2.2.1 _ hSa.2.2.2.1 (by omega) (nI 1) (nI k)) rfl rfl (by omega) (Nat.le_of_ble_eq_true rfl) ?_
                          refine X_goto 396 dX12_one_381 (by decide) ?_
                          exact X_vret dX12_one_396 rfl ⟨rfl, rfl, by rw [show unitR (some S) B n i = .ok (wdT B n (skT B n i), [(1, k)], decide (k = 6)) from by simp only [unitR, pairR, choR, sgK, wdK, bS, hd, hp, hW, hk, if_true, if_false, Bool.false_eq_true, reduceIte, Nat.reduceLT, Nat.reduceSub]]; exact RST_eq (hS1) (by simp [List.append_assoc]) (by simp [Bool.or_assoc]), rfl⟩
                      · refine X_iload_n dX12_one_356 rfl ?_
                        refine X_bipush (v := nI 6) dX12_one_357 (by decide) ?_
                        refine X_icmp_neN (a := k) (b := 6) 366 dX12_one_359 (by decide) (by omega) (by omega) (fun h_36 => ?_) (fun h_36 => ?_)
                        · refine X_iconst (v := nI 0) dX12_one_366 (by decide) ?_
                          refine X_topi (show nI 0 = bI (a || decide (k = 6)) by first | (rw [(bI_n0 (b := a)).mp (by assumption)]; rfl) | (rw [(bI_0 (b := a)).mp (by assumption), decide_eq_true (by assumption)]; rfl) | (rw [(bI_0 (b := a)).mp (by assumption), decide_eq_false (by assumption)]; rfl)) ?_
                          have h01 := bI_01 (a || decide (k = 6))
                          have hSa := RST_ask (b := (a || decide (k = 6))) (v := bI (a || decide (k = 6))) hSk rfl
                          refine X_putz dX12_one_367 fkX12_281 rfl (by first | exact Or.inl rfl | exact Or.inr rfl | assumption) rfl (k_87 hSh) ?_
                          refine X_iload_n dX12_one_370 rfl ?_
                          refine X_iconst (v := -1) dX12_one_371 (by decide) ?_
                          refine X_icmp_eq 384 dX12_one_372 (by decide) (fun h_37 => ?_) (fun h_37 => ?_)
                          · exact absurd h_37 (nI_m1 (by omega))
                          · refine X_aload_n dX12_one_375 rfl ?_
                            refine X_iconst (v := nI 1) dX12_one_376 (by decide) ?_
                            refine X_iload_n dX12_one_377 rfl ?_
                            have h151 := hSa.2.1
                            have hlb1 := hSa.2.2.2.2.2.2.2.1
                            have hlc1 := hSa.1.2.1
                            have hle1 : (T).length + 1 ≤ wdT B n (skT B n i) := by omega
                            have hS1 := RST_nt (t := (1, k)) (u := nI 1) (v := nI k) hSa hle1 rfl rfl
                            have hlen1 := List.length_append (as := T) (bs := [(1, k)])
                            rw [List.length_singleton] at hlen1
                            refine X_callVV dX12_one_378 mkX12_262 (k_87 hSh) (c_notes Γ g (up2 (up2 (up2 mi 87 4 (nI (skT B n i))) 87 4 (nI (wdT B n (skT B n i)))) 87 33 (bI (a || decide (k = 6)))) ml hSh hSa.2.2.1 _ hSa.2.2.2.1 (by omega) (nI 1) (nI k)) rfl rfl (by omega) (Nat.le_of_ble_eq_true rfl) ?_
                            refine X_goto 396 dX12_one_381 (by decide) ?_
                            exact X_vret dX12_one_396 rfl ⟨rfl, rfl, by rw [show unitR (some S) B n i = .ok (wdT B n (skT B n i), [(1, k)], decide (k = 6)) from by simp only [unitR, pairR, choR, sgK, wdK, bS, hd, hp, hW, hk, if_true, if_false, Bool.false_eq_true, reduceIte, Nat.reduceLT, Nat.reduceSub]]; exact RST_eq (hS1) (by simp [List.append_assoc]) (by simp [Bool.or_assoc]), rfl⟩
                        · refine X_iconst (v := nI 1) dX12_one_362 (by decide) ?_
                          refine X_goto 367 dX12_one_363 (by decide) ?_
                          refine X_topi (show nI 1 = bI (a || decide (k = 6)) by first | (rw [(bI_n0 (b := a)).mp (by assumption)]; rfl) | (rw [(bI_0 (b := a)).mp (by assumption), decide_eq_true (by assumption)]; rfl) | (rw [(bI_0 (b := a)).mp (by assumption), decide_eq_false (by assumption)]; rfl)) ?_
                          have h01 := bI_01 (a || decide (k = 6))
                          have hSa := RST_ask (b := (a || decide (k = 6))) (v := bI (a || decide (k = 6))) hSk rfl
                          refine X_putz dX12_one_367 fkX12_281 rfl (by first | exact Or.inl rfl | exact Or.inr rfl | assumption) rfl (k_87 hSh) ?_
                          refine X_iload_n dX12_one_370 rfl ?_
                          refine X_iconst (v := -1) dX12_one_371 (by decide) ?_
                          refine X_icmp_eq 384 dX12_one_372 (by decide) (fun h_38 => ?_) (fun h_38 => ?_)
                          · exact absurd h_38 (nI_m1 (by omega))
                          · refine X_aload_n dX12_one_375 rfl ?_
                            refine X_iconst (v := nI 1) dX12_one_376 (by decide) ?_
                            refine X_iload_n dX12_one_377 rfl ?_
                            have h151 := hSa.2.1
                            have hlb1 := hSa.2.2.2.2.2.2.2.1
                            have hlc1 := hSa.1.2.1
                            have hle1 : (T).length + 1 ≤ wdT B n (skT B n i) := by omega
                            have hS1 := RST_nt (t := (1, k)) (u := nI 1) (v := nI k) hSa hle1 rfl rfl
                            have hlen1 := List.length_append (as := T) (bs := [(1, k)])
                            rw [List.length_singleton] at hlen1
                            refine X_callVV dX12_one_378 mkX12_262 (k_87 hSh) (c_notes Γ g (up2 (up2 (up2 mi 87 4 (nI (skT B n i))) 87 4 (nI (wdT B n (skT B n i)))) 87 33 (bI (a || decide (k = 6)))) ml hSh hSa.2.2.1 _ hSa.2.2.2.1 (by omega) (nI 1) (nI k)) rfl rfl (by omega) (Nat.le_of_ble_eq_true rfl) ?_
                            refine X_goto 396 dX12_one_381 (by decide) ?_
                            exact X_vret dX12_one_396 rfl ⟨rfl, rfl, by rw [show unitR (some S) B n i = .ok (wdT B n (skT B n i), [(1, k)], decide (k = 6)) from by simp only [unitR, pairR, choR, sgK, wdK, bS, hd, hp, hW, hk, if_true, if_false, Bool.false_eq_true, reduceIte, Nat.reduceLT, Nat.reduceSub]]; exact RST_eq (hS1) (by simp [List.append_assoc]) (by simp [Bool.or_assoc]), rfl⟩
                    · exact absurd h_33 hp
                  · exact absurd h_32 (by omega)
                · exact absurd rfl h_31
              · exact absurd h_30 (by omega)
            · exact absurd h_29 (by omega)
          · exact absurd h_28 (by omega)
        · have hk3 : k = 11 ∨ k = 12 ∨ k = 13 := by omega
          rcases hk3 with rfl | rfl | rfl
          · skip
            refine X_aload_n dX12_one_0 rfl ?_
            refine X_geti dX12_one_1 fkX12_174 rfl (k_87 hSh) ?_
            rw [hS.2.2.1]
            refine X_if_eqN (a := 0) 8 dX12_one_4 (by decide) (by omega) (fun h_39 => ?_) (fun h_39 => ?_)
            · refine X_aload_n dX12_one_8 rfl ?_
              refine X_callVV dX12_one_9 mkX12_180 (k_87 hSh) (c_blanks Γ g mi ml hSh B n i hS.1) rfl rfl (by omega) (Nat.le_of_ble_eq_true rfl) ?_
              refine X_aload_n dX12_one_12 rfl ?_
              refine X_bipush (v := nI 12) dX12_one_13 (by decide) ?_
              refine X_iconst (v := nI 5) dX12_one_15 (by decide) ?_
              refine X_iconst (v := nI 1) dX12_one_16 (by decide) ?_
              refine X_bipush (v := nI 19) dX12_one_17 (by decide) ?_
              refine X_bipush (v := nI 20) dX12_one_19 (by decide) ?_
              refine X_iconst (v := nI 0) dX12_one_21 (by decide) ?_
              refine X_callVI dX12_one_22 mkX12_207 (k_87 hSh) (c_isW1 Γ g (up2 mi 87 4 (nI (skT B n i))) ml hSh B n (skT B n i) hS1.1 skT_sk hS1.2.2.1 12 5 1 19 20 0 (by decide) (by decide) (by decide) (by decide) (wq_1_11.mpr hW)) rfl rfl (by omega) (Nat.le_of_ble_eq_true rfl) ?_
              refine X_if_eqN (a := 1) 33 dX12_one_25 (by decide) (by omega) (fun h_40 => ?_) (fun h_40 => ?_)
              · exact absurd h_40 (by omega)
              · refine X_bipush (v := nI 7) dX12_one_28 (by decide) ?_
                refine X_goto 56 dX12_one_30 (by decide) ?_
                refine X_istore_n dX12_one_56 (by decide) ?_
                refine X_iload_n dX12_one_57 rfl ?_
                refine X_iconst (v := -1) dX12_one_58 (by decide) ?_
                refine X_icmp_eq 117 dX12_one_59 (by decide) (fun h_41 => ?_) (fun h_41 => ?_)
                · exact absurd h_41 (nI_m1 (by omega))
                · refine X_aload_n dX12_one_62 rfl ?_
                  have hSo := RST_o (op' := op + 1) (v := nI (op + 1)) hS1 rfl
                  refine X_callVI dX12_one_63 mkX12_271 (k_87 hSh) (c_opens1 Γ g (up2 mi 87 4 (nI (skT B n i))) ml hSh hS1.2.2.1 op hS1.2.2.2.2.2.2.1 ho) rfl rfl (by omega) (Nat.le_of_ble_eq_true rfl) ?_
                  refine X_if_neN (a := 1) 70 dX12_one_66 (by decide) (by omega) (fun h_42 => ?_) (fun h_42 => ?_)
                  · refine X_aload_n dX12_one_70 rfl ?_
                    have hSw := RST_at hSo hwl hwg
                    refine X_callVV dX12_one_71 mkX12_211 (k_87 hSh) (c_skipWord Γ g (up2 (up2 mi 87 4 (nI (skT B n i))) 87 8 (nI (op + 1))) ml hSh B n (skT B n i) hSo.1) rfl rfl (by omega) (Nat.le_of_ble_eq_true rfl) ?_
                    refine X_aload_n dX12_one_74 rfl ?_
                    refine X_bipush (v := nI 91) dX12_one_75 (by decide) ?_
                    by_cases hs1 : byT B n (skT B n (wdT B n (skT B n i))) = nI 91
                    ·
                      have hl1 := by_lt hs1
                      have hg1 := skT_ge (B := B) (n := n) (i := wdT B n (skT B n i))
                      have hS1 := RST_at hSw hl1 (by omega)
                      refine X_callVV dX12_one_77 mkX12_224 (k_87 hSh) (c_sign1 Γ g (up2 (up2 (up2 mi 87 4 (nI (skT B n i))) 87 8 (nI (op + 1))) 87 4 (nI (wdT B n (skT B n i)))) ml hSh B n (wdT B n (skT B n i)) hSw.1 hSw.2.2.1 (nI 91) hs1) rfl rfl (by omega) (Nat.le_of_ble_eq_true rfl) ?_
                      refine X_aload_n dX12_one_80 rfl ?_
                      match hU2 : S (skT B n (wdT B n (skT B n i)) + 1) with
                      | .error (k2, p2) =>
                        refine X_callVrV dX12_one_81 mkX12_275 (k_87 hSh) (hU m0 _ (skT B n (wdT B n (skT B n i)) + 1) T a hS1) rfl rfl (by omega) (Nat.le_of_ble_eq_true rfl) (fun m2 l2 hm2 => ?_)
                        rw [hU2] at hm2
                        obtain ⟨hm2, hL2⟩ := hm2
                        rw [hL2]
                        refine X_aload_n dX12_one_84 rfl ?_
                        refine X_bipush (v := nI 44) dX12_one_85 (by decide) ?_
                        refine X_callVV dX12_one_87 mkX12_224 (k_87 hSh) (c_signF Γ g m2 ml hSh (RHE_f hm2) (nI 44)) rfl rfl (by omega) (Nat.le_of_ble_eq_true rfl) ?_
                        refine X_aload_n dX12_one_90 rfl ?_
                        refine X_callVV dX12_one_91 mkX12_275 (k_87 hSh) (c_sumF Γ g m2 ml hSh (RHE_f hm2)) rfl rfl (by omega) (Nat.le_of_ble_eq_true rfl) ?_
                        refine X_aload_n dX12_one_94 rfl ?_
                        refine X_bipush (v := nI 93) dX12_one_95 (by decide) ?_
                        refine X_callVV dX12_one_97 mkX12_224 (k_87 hSh) (c_signF Γ g m2 ml hSh (RHE_f hm2) (nI 93)) rfl rfl (by omega) (Nat.le_of_ble_eq_true rfl) ?_
                        refine X_aload_n dX12_one_100 rfl ?_
                        refine X_iload_n dX12_one_101 rfl ?_
                        refine X_iconst (v := nI 0) dX12_one_102 (by decide) ?_
                        refine X_callVV dX12_one_103 mkX12_262 (k_87 hSh) (c_notesF Γ g m2 ml hSh (RHE_f hm2) (nI 7) (nI 0)) rfl rfl (by omega) (Nat.le_of_ble_eq_true rfl) ?_
                        refine X_aload_n dX12_one_106 rfl ?_
                        refine X_dup dX12_one_107 rfl ?_
                        refine X_geti dX12_one_108 fkX12_217 rfl (k_87 hSh) ?_
                        refine X_iconst (v := nI 1) dX12_one_111 (by decide) ?_
                        refine X_isub dX12_one_112 ?_
                        refine X_puti dX12_one_113 fkX12_217 rfl rfl (k_87 hSh) ?_
                        exact X_vret dX12_one_116 rfl ⟨rfl, rfl, by rw [show unitR (some S) B n i = .error (k2, p2) from by simp only [unitR, pairR, choR, sgK, wdK, bS, hd, hp, hW, hs1, hU2, if_true, if_false, Bool.false_eq_true, reduceIte, Nat.reduceLT, Nat.reduceSub]]; exact RHE_o hm2, rfl⟩
                      | .ok (e2, t2, b2) =>
                        obtain ⟨hb2, hc2, hd2⟩ := (hUO _ hS1.1.2.1).1 e2 t2 b2 hU2
                        refine X_callVrV dX12_one_81 mkX12_275 (k_87 hSh) (hU m0 _ (skT B n (wdT B n (skT B n i)) + 1) T a hS1) rfl rfl (by omega) (Nat.le_of_ble_eq_true rfl) (fun m2 l2 hm2 => ?_)
                        rw [hU2] at hm2
                        obtain ⟨hm2, hL2⟩ := hm2
                        rw [hL2]
                        have hlen2 := List.length_append (as := T) (bs := t2)
                        refine X_aload_n dX12_one_84 rfl ?_
                        refine X_bipush (v := nI 44) dX12_one_85 (by decide) ?_
                        by_cases hs3 : byT B n (skT B n e2) = nI 44
                        ·
                          have hl3 := by_lt hs3
                          have hg3 := skT_ge (B := B) (n := n) (i := e2)
                          have hS3 := RST_at hm2 hl3 (by omega)
                          refine X_callVV dX12_one_87 mkX12_224 (k_87 hSh) (c_sign1 Γ g m2 ml hSh B n e2 hm2.1 hm2.2.2.1 (nI 44) hs3) rfl rfl (by omega) (Nat.le_of_ble_eq_true rfl) ?_
                          refine X_aload_n dX12_one_90 rfl ?_
                          match hU4 : S (skT B n e2 + 1) with
                          | .error (k4, p4) =>
                            refine X_callVrV dX12_one_91 mkX12_275 (k_87 hSh) (hU m0 _ (skT B n e2 + 1) (T ++ t2) (a || b2) hS3) rfl rfl (by omega) (Nat.le_of_ble_eq_true rfl) (fun m4 l4 hm4 => ?_)
                            rw [hU4] at hm4
                            obtain ⟨hm4, hL4⟩ := hm4
                            rw [hL4]
                            refine X_aload_n dX12_one_94 rfl ?_
                            refine X_bipush (v := nI 93) dX12_one_95 (by decide) ?_
                            refine X_callVV dX12_one_97 mkX12_224 (k_87 hSh) (c_signF Γ g m4 ml hSh (RHE_f hm4) (nI 93)) rfl rfl (by omega) (Nat.le_of_ble_eq_true rfl) ?_
                            refine X_aload_n dX12_one_100 rfl ?_
                            refine X_iload_n dX12_one_101 rfl ?_
                            refine X_iconst (v := nI 0) dX12_one_102 (by decide) ?_
                            refine X_callVV dX12_one_103 mkX12_262 (k_87 hSh) (c_notesF Γ g m4 ml hSh (RHE_f hm4) (nI 7) (nI 0)) rfl rfl (by omega) (Nat.le_of_ble_eq_true rfl) ?_
                            refine X_aload_n dX12_one_106 rfl ?_
                            refine X_dup dX12_one_107 rfl ?_
                            refine X_geti dX12_one_108 fkX12_217 rfl (k_87 hSh) ?_
                            refine X_iconst (v := nI 1) dX12_one_111 (by decide) ?_
                            refine X_isub dX12_one_112 ?_
                            refine X_puti dX12_one_113 fkX12_217 rfl rfl (k_87 hSh) ?_
                            exact X_vret dX12_one_116 rfl ⟨rfl, rfl, by rw [show unitR (some S) B n i = .error (k4, p4) from by simp only [unitR, pairR, choR, sgK, wdK, bS, hd, hp, hW, hs1, hU2, hs3, hU4, if_true, if_false, Bool.false_eq_true, reduceIte, Nat.reduceLT, Nat.reduceSub]]; exact RHE_o hm4, rfl⟩
                          | .ok (e4, t4, b4) =>
                            obtain ⟨hb4, hc4, hd4⟩ := (hUO _ hS3.1.2.1).1 e4 t4 b4 hU4
                            refine X_callVrV dX12_one_91 mkX12_275 (k_87 hSh) (hU m0 _ (skT B n e2 + 1) (T ++ t2) (a || b2) hS3) rfl rfl (by omega) (Nat.le_of_ble_eq_true rfl) (fun m4 l4 hm4 => ?_)
                            rw [hU4] at hm4
                            obtain ⟨hm4, hL4⟩ := hm4
                            rw [hL4]
                            have hlen4 := List.length_append (as := T ++ t2) (bs := t4)
                            refine X_aload_n dX12_one_94 rfl ?_
                            refine X_bipush (v := nI 93) dX12_one_95 (by decide) ?_
                            by_cases hs5 : byT B n (skT B n e4) = nI 93
                            ·
                              have hl5 := by_lt hs5
                              have hg5 := skT_ge (B := B) (n := n) (i := e4)
                              have hS5 := RST_at hm4 hl5 (by omega)
                              refine X_callVV dX12_one_97 mkX12_224 (k_87 hSh) (c_sign1 Γ g m4 ml hSh B n e4 hm4.1 hm4.2.2.1 (nI 93) hs5) rfl rfl (by omega) (Nat.le_of_ble_eq_true rfl) ?_
                              refine X_aload_n dX12_one_100 rfl ?_
                              refine X_iload_n dX12_one_101 rfl ?_
                              refine X_iconst (v := nI 0) dX12_one_102 (by decide) ?_
                              have h156 := hS5.2.1
                              have hlb6 := hS5.2.2.2.2.2.2.2.1
                              have hlc6 := hS5.1.2.1
                              have hle6 : ((T ++ t2) ++ t4).length + 1 ≤ skT B n e4 + 1 := by omega
                              have hS6 := RST_nt (t := (7, 0)) (u := nI 7) (v := nI 0) hS5 hle6 rfl rfl
                              have hlen6 := List.length_append (as := (T ++ t2) ++ t4) (bs := [(7, 0)])
                              rw [List.length_singleton] at hlen6
                              refine X_callVV dX12_one_103 mkX12_262 (k_87 hSh) (c_notes Γ g (up2 m4 87 4 (nI (skT B n e4 + 1))) ml hSh hS5.2.2.1 _ hS5.2.2.2.1 (by omega) (nI 7) (nI 0)) rfl rfl (by omega) (Nat.le_of_ble_eq_true rfl) ?_
                              refine X_aload_n dX12_one_106 rfl ?_
                              refine X_dup dX12_one_107 rfl ?_
                              refine X_geti dX12_one_108 fkX12_217 rfl (k_87 hSh) ?_
                              rw [hS6.2.2.2.2.2.2.1]
                              refine X_iconst (v := nI 1) dX12_one_111 (by decide) ?_
                              refine X_isub dX12_one_112 ?_
                              refine X_topi (pk_sub (a := op + 1) (b := 1) (by omega)) ?_
                              refine X_puti dX12_one_113 fkX12_217 rfl rfl (k_87 hSh) ?_
                              exact X_vret dX12_one_116 rfl ⟨rfl, rfl, by rw [show unitR (some S) B n i = .ok (skT B n e4 + 1, t2 ++ (t4 ++ [(7, 0)]), b2 || b4) from by simp only [unitR, pairR, choR, sgK, wdK, bS, hd, hp, hW, hs1, hU2, hs3, hU4, hs5, if_true, if_false, Bool.false_eq_true, reduceIte, Nat.reduceLT, Nat.reduceSub]]; exact RST_eq (RST_o hS6 rfl) (by simp [List.append_assoc]) (by simp [Bool.or_assoc]), rfl⟩
                            ·
                              have hE5 := RHE_of (p := skT B n e4) hm4 (skT_le (B := B) hm4.1.2.1) (show 1 ≤ 1 ∧ 1 ≤ 3 by omega)
                              refine X_callVV dX12_one_97 mkX12_224 (k_87 hSh) (c_sign0 Γ g m4 ml hSh B n e4 hm4.1 hm4.2.2.1 (nI 93) hs5) rfl rfl (by omega) (Nat.le_of_ble_eq_true rfl) ?_
                              refine X_aload_n dX12_one_100 rfl ?_
                              refine X_iload_n dX12_one_101 rfl ?_
                              refine X_iconst (v := nI 0) dX12_one_102 (by decide) ?_
                              refine X_callVV dX12_one_103 mkX12_262 (k_87 hSh) (c_notesF Γ g (up2 (up2 (up2 m4 87 4 (nI (skT B n e4))) 87 5 (nI 1)) 87 6 (nI (skT B n e4))) ml hSh (RHE_f hE5) (nI 7) (nI 0)) rfl rfl (by omega) (Nat.le_of_ble_eq_true rfl) ?_
                              refine X_aload_n dX12_one_106 rfl ?_
                              refine X_dup dX12_one_107 rfl ?_
                              refine X_geti dX12_one_108 fkX12_217 rfl (k_87 hSh) ?_
                              refine X_topi (show (up2 (up2 (up2 m4 87 4 (nI (skT B n e4))) 87 5 (nI 1)) 87 6 (nI (skT B n e4))) 87 8 = nI (op + 1) by rw [up2_n (by omega), up2_n (by omega), up2_n (by omega)]; exact hm4.2.2.2.2.2.2.1) ?_
                              refine X_iconst (v := nI 1) dX12_one_111 (by decide) ?_
                              refine X_isub dX12_one_112 ?_
                              refine X_topi (pk_sub (a := op + 1) (b := 1) (by omega)) ?_
                              refine X_puti dX12_one_113 fkX12_217 rfl rfl (k_87 hSh) ?_
                              exact X_vret dX12_one_116 rfl ⟨rfl, rfl, by rw [show unitR (some S) B n i = .error (1, skT B n e4) from by simp only [unitR, pairR, choR, sgK, wdK, bS, hd, hp, hW, hs1, hU2, hs3, hU4, hs5, if_true, if_false, Bool.false_eq_true, reduceIte, Nat.reduceLT, Nat.reduceSub]]; exact RHE_o hE5, rfl⟩
                        ·
                          have hE3 := RHE_of (p := skT B n e2) hm2 (skT_le (B := B) hm2.1.2.1) (show 1 ≤ 1 ∧ 1 ≤ 3 by omega)
                          refine X_callVV dX12_one_87 mkX12_224 (k_87 hSh) (c_sign0 Γ g m2 ml hSh B n e2 hm2.1 hm2.2.2.1 (nI 44) hs3) rfl rfl (by omega) (Nat.le_of_ble_eq_true rfl) ?_
                          refine X_aload_n dX12_one_90 rfl ?_
                          refine X_callVV dX12_one_91 mkX12_275 (k_87 hSh) (c_sumF Γ g (up2 (up2 (up2 m2 87 4 (nI (skT B n e2))) 87 5 (nI 1)) 87 6 (nI (skT B n e2))) ml hSh (RHE_f hE3)) rfl rfl (by omega) (Nat.le_of_ble_eq_true rfl) ?_
                          refine X_aload_n dX12_one_94 rfl ?_
                          refine X_bipush (v := nI 93) dX12_one_95 (by decide) ?_
                          refine X_callVV dX12_one_97 mkX12_224 (k_87 hSh) (c_signF Γ g (up2 (up2 (up2 m2 87 4 (nI (skT B n e2))) 87 5 (nI 1)) 87 6 (nI (skT B n e2))) ml hSh (RHE_f hE3) (nI 93)) rfl rfl (by omega) (Nat.le_of_ble_eq_true rfl) ?_
                          refine X_aload_n dX12_one_100 rfl ?_
                          refine X_iload_n dX12_one_101 rfl ?_
                          refine X_iconst (v := nI 0) dX12_one_102 (by decide) ?_
                          refine X_callVV dX12_one_103 mkX12_262 (k_87 hSh) (c_notesF Γ g (up2 (up2 (up2 m2 87 4 (nI (skT B n e2))) 87 5 (nI 1)) 87 6 (nI (skT B n e2))) ml hSh (RHE_f hE3) (nI 7) (nI 0)) rfl rfl (by omega) (Nat.le_of_ble_eq_true rfl) ?_
                          refine X_aload_n dX12_one_106 rfl ?_
                          refine X_dup dX12_one_107 rfl ?_
                          refine X_geti dX12_one_108 fkX12_217 rfl (k_87 hSh) ?_
                          refine X_topi (show (up2 (up2 (up2 m2 87 4 (nI (skT B n e2))) 87 5 (nI 1)) 87 6 (nI (skT B n e2))) 87 8 = nI (op + 1) by rw [up2_n (by omega), up2_n (by omega), up2_n (by omega)]; exact hm2.2.2.2.2.2.2.1) ?_
                          refine X_iconst (v := nI 1) dX12_one_111 (by decide) ?_
                          refine X_isub dX12_one_112 ?_
                          refine X_topi (pk_sub (a := op + 1) (b := 1) (by omega)) ?_
                          refine X_puti dX12_one_113 fkX12_217 rfl rfl (k_87 hSh) ?_
                          exact X_vret dX12_one_116 rfl ⟨rfl, rfl, by rw [show unitR (some S) B n i = .error (1, skT B n e2) from by simp only [unitR, pairR, choR, sgK, wdK, bS, hd, hp, hW, hs1, hU2, hs3, if_true, if_false, Bool.false_eq_true, reduceIte, Nat.reduceLT, Nat.reduceSub]]; exact RHE_o hE3, rfl⟩
                    ·
                      have hE1 := RHE_of (p := skT B n (wdT B n (skT B n i))) hSw (skT_le (B := B) hSw.1.2.1) (show 1 ≤ 1 ∧ 1 ≤ 3 by omega)
                      refine X_callVV dX12_one_77 mkX12_224 (k_87 hSh) (c_sign0 Γ g (up2 (up2 (up2 mi 87 4 (nI (skT B n i))) 87 8 (nI (op + 1))) 87 4 (nI (wdT B n (skT B n i)))) ml hSh B n (wdT B n (skT B n i)) hSw.1 hSw.2.2.1 (nI 91) hs1) rfl rfl (by omega) (Nat.le_of_ble_eq_true rfl) ?_
                      refine X_aload_n dX12_one_80 rfl ?_
                      refine X_callVV dX12_one_81 mkX12_275 (k_87 hSh) (c_sumF Γ g (up2 (up2 (up2 (up2 (up2 (up2 mi 87 4 (nI (skT B n i))) 87 8 (nI (op + 1))) 87 4 (nI (wdT B n (skT B n i)))) 87 4 (nI (skT B n (wdT B n (skT B n i))))) 87 5 (nI 1)) 87 6 (nI (skT B n (wdT B n (skT B n i))))) ml hSh (RHE_f hE1)) rfl rfl (by omega) (Nat.le_of_ble_eq_true rfl) ?_
                      refine X_aload_n dX12_one_84 rfl ?_
                      refine X_bipush (v := nI 44) dX12_one_85 (by decide) ?_
                      refine X_callVV dX12_one_87 mkX12_224 (k_87 hSh) (c_signF Γ g (up2 (up2 (up2 (up2 (up2 (up2 mi 87 4 (nI (skT B n i))) 87 8 (nI (op + 1))) 87 4 (nI (wdT B n (skT B n i)))) 87 4 (nI (skT B n (wdT B n (skT B n i))))) 87 5 (nI 1)) 87 6 (nI (skT B n (wdT B n (skT B n i))))) ml hSh (RHE_f hE1) (nI 44)) rfl rfl (by omega) (Nat.le_of_ble_eq_true rfl) ?_
                      refine X_aload_n dX12_one_90 rfl ?_
                      refine X_callVV dX12_one_91 mkX12_275 (k_87 hSh) (c_sumF Γ g (up2 (up2 (up2 (up2 (up2 (up2 mi 87 4 (nI (skT B n i))) 87 8 (nI (op + 1))) 87 4 (nI (wdT B n (skT B n i)))) 87 4 (nI (skT B n (wdT B n (skT B n i))))) 87 5 (nI 1)) 87 6 (nI (skT B n (wdT B n (skT B n i))))) ml hSh (RHE_f hE1)) rfl rfl (by omega) (Nat.le_of_ble_eq_true rfl) ?_
                      refine X_aload_n dX12_one_94 rfl ?_
                      refine X_bipush (v := nI 93) dX12_one_95 (by decide) ?_
                      refine X_callVV dX12_one_97 mkX12_224 (k_87 hSh) (c_signF Γ g (up2 (up2 (up2 (up2 (up2 (up2 mi 87 4 (nI (skT B n i))) 87 8 (nI (op + 1))) 87 4 (nI (wdT B n (skT B n i)))) 87 4 (nI (skT B n (wdT B n (skT B n i))))) 87 5 (nI 1)) 87 6 (nI (skT B n (wdT B n (skT B n i))))) ml hSh (RHE_f hE1) (nI 93)) rfl rfl (by omega) (Nat.le_of_ble_eq_true rfl) ?_
                      refine X_aload_n dX12_one_100 rfl ?_
                      refine X_iload_n dX12_one_101 rfl ?_
                      refine X_iconst (v := nI 0) dX12_one_102 (by decide) ?_
                      refine X_callVV dX12_one_103 mkX12_262 (k_87 hSh) (c_notesF Γ g (up2 (up2 (up2 (up2 (up2 (up2 mi 87 4 (nI (skT B n i))) 87 8 (nI (op + 1))) 87 4 (nI (wdT B n (skT B n i)))) 87 4 (nI (skT B n (wdT B n (skT B n i))))) 87 5 (nI 1)) 87 6 (nI (skT B n (wdT B n (skT B n i))))) ml hSh (RHE_f hE1) (nI 7) (nI 0)) rfl rfl (by omega) (Nat.le_of_ble_eq_true rfl) ?_
                      refine X_aload_n dX12_one_106 rfl ?_
                      refine X_dup dX12_one_107 rfl ?_
                      refine X_geti dX12_one_108 fkX12_217 rfl (k_87 hSh) ?_
                      refine X_topi (show (up2 (up2 (up2 (up2 (up2 (up2 mi 87 4 (nI (skT B n i))) 87 8 (nI (op + 1))) 87 4 (nI (wdT B n (skT B n i)))) 87 4 (nI (skT B n (wdT B n (skT B n i))))) 87 5 (nI 1)) 87 6 (nI (skT B n (wdT B n (skT B n i))))) 87 8 = nI (op + 1) by rw [up2_n (by omega), up2_n (by omega), up2_n (by omega), up2_n (by omega), up2_s]) ?_
                      refine X_iconst (v := nI 1) dX12_one_111 (by decide) ?_
                      refine X_isub dX12_one_112 ?_
                      refine X_topi (pk_sub (a := op + 1) (b := 1) (by omega)) ?_
                      refine X_puti dX12_one_113 fkX12_217 rfl rfl (k_87 hSh) ?_
                      exact X_vret dX12_one_116 rfl ⟨rfl, rfl, by rw [show unitR (some S) B n i = .error (1, skT B n (wdT B n (skT B n i))) from by simp only [unitR, pairR, choR, sgK, wdK, bS, hd, hp, hW, hs1, if_true, if_false, Bool.false_eq_true, reduceIte, Nat.reduceLT, Nat.reduceSub]]; exact RHE_o hE1, rfl⟩
                  · exact absurd h_42 (by omega)
            · exact absurd h_39 (by omega)
          · skip
            refine X_aload_n dX12_one_0 rfl ?_
            refine X_geti dX12_one_1 fkX12_174 rfl (k_87 hSh) ?_
            rw [hS.2.2.1]
            refine X_if_eqN (a := 0) 8 dX12_one_4 (by decide) (by omega) (fun h_43 => ?_) (fun h_43 => ?_)
            · refine X_aload_n dX12_one_8 rfl ?_
              refine X_callVV dX12_one_9 mkX12_180 (k_87 hSh) (c_blanks Γ g mi ml hSh B n i hS.1) rfl rfl (by omega) (Nat.le_of_ble_eq_true rfl) ?_
              refine X_aload_n dX12_one_12 rfl ?_
              refine X_bipush (v := nI 12) dX12_one_13 (by decide) ?_
              refine X_iconst (v := nI 5) dX12_one_15 (by decide) ?_
              refine X_iconst (v := nI 1) dX12_one_16 (by decide) ?_
              refine X_bipush (v := nI 19) dX12_one_17 (by decide) ?_
              refine X_bipush (v := nI 20) dX12_one_19 (by decide) ?_
              refine X_iconst (v := nI 0) dX12_one_21 (by decide) ?_
              refine X_callVI dX12_one_22 mkX12_207 (k_87 hSh) (c_isW0 Γ g (up2 mi 87 4 (nI (skT B n i))) ml hSh B n (skT B n i) hS1.1 skT_sk hS1.2.2.1 12 5 1 19 20 0 (by decide) (by decide) (by decide) (by decide) (fun q => by have h9 := wq_1_11.mp q; rw [hW] at h9; cases h9)) rfl rfl (by omega) (Nat.le_of_ble_eq_true rfl) ?_
              refine X_if_eqN (a := 0) 33 dX12_one_25 (by decide) (by omega) (fun h_44 => ?_) (fun h_44 => ?_)
              · refine X_aload_n dX12_one_33 rfl ?_
                refine X_bipush (v := nI 13) dX12_one_34 (by decide) ?_
                refine X_bipush (v := nI 15) dX12_one_36 (by decide) ?_
                refine X_bipush (v := nI 19) dX12_one_38 (by decide) ?_
                refine X_bipush (v := nI 20) dX12_one_40 (by decide) ?_
                refine X_iconst (v := nI 0) dX12_one_42 (by decide) ?_
                refine X_iconst (v := nI 0) dX12_one_43 (by decide) ?_
                refine X_callVI dX12_one_44 mkX12_207 (k_87 hSh) (c_isW1 Γ g (up2 mi 87 4 (nI (skT B n i))) ml hSh B n (skT B n i) hS1.1 skT_sk hS1.2.2.1 13 15 19 20 0 0 (by decide) (by decide) (by decide) (by decide) (wq_1_12.mpr hW)) rfl rfl (by omega) (Nat.le_of_ble_eq_true rfl) ?_
                refine X_if_eqN (a := 1) 55 dX12_one_47 (by decide) (by omega) (fun h_45 => ?_) (fun h_45 => ?_)
                · exact absurd h_45 (by omega)
                · refine X_bipush (v := nI 8) dX12_one_50 (by decide) ?_
                  refine X_goto 56 dX12_one_52 (by decide) ?_
                  refine X_istore_n dX12_one_56 (by decide) ?_
                  refine X_iload_n dX12_one_57 rfl ?_
                  refine X_iconst (v := -1) dX12_one_58 (by decide) ?_
                  refine X_icmp_eq 117 dX12_one_59 (by decide) (fun h_46 => ?_) (fun h_46 => ?_)
                  · exact absurd h_46 (nI_m1 (by omega))
                  · refine X_aload_n dX12_one_62 rfl ?_
                    have hSo := RST_o (op' := op + 1) (v := nI (op + 1)) hS1 rfl
                    refine X_callVI dX12_one_63 mkX12_271 (k_87 hSh) (c_opens1 Γ g (up2 mi 87 4 (nI (skT B n i))) ml hSh hS1.2.2.1 op hS1.2.2.2.2.2.2.1 ho) rfl rfl (by omega) (Nat.le_of_ble_eq_true rfl) ?_
                    refine X_if_neN (a := 1) 70 dX12_one_66 (by decide) (by omega) (fun h_47 => ?_) (fun h_47 => ?_)
                    · refine X_aload_n dX12_one_70 rfl ?_
                      have hSw := RST_at hSo hwl hwg
                      refine X_callVV dX12_one_71 mkX12_211 (k_87 hSh) (c_skipWord Γ g (up2 (up2 mi 87 4 (nI (skT B n i))) 87 8 (nI (op + 1))) ml hSh B n (skT B n i) hSo.1) rfl rfl (by omega) (Nat.le_of_ble_eq_true rfl) ?_
                      refine X_aload_n dX12_one_74 rfl ?_
                      refine X_bipush (v := nI 91) dX12_one_75 (by decide) ?_
                      by_cases hs1 : byT B n (skT B n (wdT B n (skT B n i))) = nI 91
                      ·
                        have hl1 := by_lt hs1
                        have hg1 := skT_ge (B := B) (n := n) (i := wdT B n (skT B n i))
                        have hS1 := RST_at hSw hl1 (by omega)
                        refine X_callVV dX12_one_77 mkX12_224 (k_87 hSh) (c_sign1 Γ g (up2 (up2 (up2 mi 87 4 (nI (skT B n i))) 87 8 (nI (op + 1))) 87 4 (nI (wdT B n (skT B n i)))) ml hSh B n (wdT B n (skT B n i)) hSw.1 hSw.2.2.1 (nI 91) hs1) rfl rfl (by omega) (Nat.le_of_ble_eq_true rfl) ?_
                        refine X_aload_n dX12_one_80 rfl ?_
                        match hU2 : S (skT B n (wdT B n (skT B n i)) + 1) with
                        | .error (k2, p2) =>
                          refine X_callVrV dX12_one_81 mkX12_275 (k_87 hSh) (hU m0 _ (skT B n (wdT B n (skT B n i)) + 1) T a hS1) rfl rfl (by omega) (Nat.le_of_ble_eq_true rfl) (fun m2 l2 hm2 => ?_)
                          rw [hU2] at hm2
                          obtain ⟨hm2, hL2⟩ := hm2
                          rw [hL2]
                          refine X_aload_n dX12_one_84 rfl ?_
                          refine X_bipush (v := nI 44) dX12_one_85 (by decide) ?_
                          refine X_callVV dX12_one_87 mkX12_224 (k_87 hSh) (c_signF Γ g m2 ml hSh (RHE_f hm2) (nI 44)) rfl rfl (by omega) (Nat.le_of_ble_eq_true rfl) ?_
                          refine X_aload_n dX12_one_90 rfl ?_
                          refine X_callVV dX12_one_91 mkX12_275 (k_87 hSh) (c_sumF Γ g m2 ml hSh (RHE_f hm2)) rfl rfl (by omega) (Nat.le_of_ble_eq_true rfl) ?_
                          refine X_aload_n dX12_one_94 rfl ?_
                          refine X_bipush (v := nI 93) dX12_one_95 (by decide) ?_
                          refine X_callVV dX12_one_97 mkX12_224 (k_87 hSh) (c_signF Γ g m2 ml hSh (RHE_f hm2) (nI 93)) rfl rfl (by omega) (Nat.le_of_ble_eq_true rfl) ?_
                          refine X_aload_n dX12_one_100 rfl ?_
                          refine X_iload_n dX12_one_101 rfl ?_
                          refine X_iconst (v := nI 0) dX12_one_102 (by decide) ?_
                          refine X_callVV dX12_one_103 mkX12_262 (k_87 hSh) (c_notesF Γ g m2 ml hSh (RHE_f hm2) (nI 8) (nI 0)) rfl rfl (by omega) (Nat.le_of_ble_eq_true rfl) ?_
                          refine X_aload_n dX12_one_106 rfl ?_
                          refine X_dup dX12_one_107 rfl ?_
                          refine X_geti dX12_one_108 fkX12_217 rfl (k_87 hSh) ?_
                          refine X_iconst (v := nI 1) dX12_one_111 (by decide) ?_
                          refine X_isub dX12_one_112 ?_
                          refine X_puti dX12_one_113 fkX12_217 rfl rfl (k_87 hSh) ?_
                          exact X_vret dX12_one_116 rfl ⟨rfl, rfl, by rw [show unitR (some S) B n i = .error (k2, p2) from by simp only [unitR, pairR, choR, sgK, wdK, bS, hd, hp, hW, hs1, hU2, if_true, if_false, Bool.false_eq_true, reduceIte, Nat.reduceLT, Nat.reduceSub]]; exact RHE_o hm2, rfl⟩
                        | .ok (e2, t2, b2) =>
                          obtain ⟨hb2, hc2, hd2⟩ := (hUO _ hS1.1.2.1).1 e2 t2 b2 hU2
                          refine X_callVrV dX12_one_81 mkX12_275 (k_87 hSh) (hU m0 _ (skT B n (wdT B n (skT B n i)) + 1) T a hS1) rfl rfl (by omega) (Nat.le_of_ble_eq_true rfl) (fun m2 l2 hm2 => ?_)
                          rw [hU2] at hm2
                          obtain ⟨hm2, hL2⟩ := hm2
                          rw [hL2]
                          have hlen2 := List.length_append (as := T) (bs := t2)
                          refine X_aload_n dX12_one_84 rfl ?_
                          refine X_bipush (v := nI 44) dX12_one_85 (by decide) ?_
                          by_cases hs3 : byT B n (skT B n e2) = nI 44
                          ·
                            have hl3 := by_lt hs3
                            have hg3 := skT_ge (B := B) (n := n) (i := e2)
                            have hS3 := RST_at hm2 hl3 (by omega)
                            refine X_callVV dX12_one_87 mkX12_224 (k_87 hSh) (c_sign1 Γ g m2 ml hSh B n e2 hm2.1 hm2.2.2.1 (nI 44) hs3) rfl rfl (by omega) (Nat.le_of_ble_eq_true rfl) ?_
                            refine X_aload_n dX12_one_90 rfl ?_
                            match hU4 : S (skT B n e2 + 1) with
                            | .error (k4, p4) =>
                              refine X_callVrV dX12_one_91 mkX12_275 (k_87 hSh) (hU m0 _ (skT B n e2 + 1) (T ++ t2) (a || b2) hS3) rfl rfl (by omega) (Nat.le_of_ble_eq_true rfl) (fun m4 l4 hm4 => ?_)
                              rw [hU4] at hm4
                              obtain ⟨hm4, hL4⟩ := hm4
                              rw [hL4]
                              refine X_aload_n dX12_one_94 rfl ?_
                              refine X_bipush (v := nI 93) dX12_one_95 (by decide) ?_
                              refine X_callVV dX12_one_97 mkX12_224 (k_87 hSh) (c_signF Γ g m4 ml hSh (RHE_f hm4) (nI 93)) rfl rfl (by omega) (Nat.le_of_ble_eq_true rfl) ?_
                              refine X_aload_n dX12_one_100 rfl ?_
                              refine X_iload_n dX12_one_101 rfl ?_
                              refine X_iconst (v := nI 0) dX12_one_102 (by decide) ?_
                              refine X_callVV dX12_one_103 mkX12_262 (k_87 hSh) (c_notesF Γ g m4 ml hSh (RHE_f hm4) (nI 8) (nI 0)) rfl rfl (by omega) (Nat.le_of_ble_eq_true rfl) ?_
                              refine X_aload_n dX12_one_106 rfl ?_
                              refine X_dup dX12_one_107 rfl ?_
                              refine X_geti dX12_one_108 fkX12_217 rfl (k_87 hSh) ?_
                              refine X_iconst (v := nI 1) dX12_one_111 (by decide) ?_
                              refine X_isub dX12_one_112 ?_
                              refine X_puti dX12_one_113 fkX12_217 rfl rfl (k_87 hSh) ?_
                              exact X_vret dX12_one_116 rfl ⟨rfl, rfl, by rw [show unitR (some S) B n i = .error (k4, p4) from by simp only [unitR, pairR, choR, sgK, wdK, bS, hd, hp, hW, hs1, hU2, hs3, hU4, if_true, if_false, Bool.false_eq_true, reduceIte, Nat.reduceLT, Nat.reduceSub]]; exact RHE_o hm4, rfl⟩
                            | .ok (e4, t4, b4) =>
                              obtain ⟨hb4, hc4, hd4⟩ := (hUO _ hS3.1.2.1).1 e4 t4 b4 hU4
                              refine X_callVrV dX12_one_91 mkX12_275 (k_87 hSh) (hU m0 _ (skT B n e2 + 1) (T ++ t2) (a || b2) hS3) rfl rfl (by omega) (Nat.le_of_ble_eq_true rfl) (fun m4 l4 hm4 => ?_)
                              rw [hU4] at hm4
                              obtain ⟨hm4, hL4⟩ := hm4
                              rw [hL4]
                              have hlen4 := List.length_append (as := T ++ t2) (bs := t4)
                              refine X_aload_n dX12_one_94 rfl ?_
                              refine X_bipush (v := nI 93) dX12_one_95 (by decide) ?_
                              by_cases hs5 : byT B n (skT B n e4) = nI 93
                              ·
                                have hl5 := by_lt hs5
                                have hg5 := skT_ge (B := B) (n := n) (i := e4)
                                have hS5 := RST_at hm4 hl5 (by omega)
                                refine X_callVV dX12_one_97 mkX12_224 (k_87 hSh) (c_sign1 Γ g m4 ml hSh B n e4 hm4.1 hm4.2.2.1 (nI 93) hs5) rfl rfl (by omega) (Nat.le_of_ble_eq_true rfl) ?_
                                refine X_aload_n dX12_one_100 rfl ?_
                                refine X_iload_n dX12_one_101 rfl ?_
                                refine X_iconst (v := nI 0) dX12_one_102 (by decide) ?_
                                have h156 := hS5.2.1
                                have hlb6 := hS5.2.2.2.2.2.2.2.1
                                have hlc6 := hS5.1.2.1
                                have hle6 : ((T ++ t2) ++ t4).length + 1 ≤ skT B n e4 + 1 := by omega
                                have hS6 := RST_nt (t := (8, 0)) (u := nI 8) (v := nI 0) hS5 hle6 rfl rfl
                                have hlen6 := List.length_append (as := (T ++ t2) ++ t4) (bs := [(8, 0)])
                                rw [List.length_singleton] at hlen6
                                refine X_callVV dX12_one_103 mkX12_262 (k_87 hSh) (c_notes Γ g (up2 m4 87 4 (nI (skT B n e4 + 1))) ml hSh hS5.2.2.1 _ hS5.2.2.2.1 (by omega) (nI 8) (nI 0)) rfl rfl (by omega) (Nat.le_of_ble_eq_true rfl) ?_
                                refine X_aload_n dX12_one_106 rfl ?_
                                refine X_dup dX12_one_107 rfl ?_
                                refine X_geti dX12_one_108 fkX12_217 rfl (k_87 hSh) ?_
                                rw [hS6.2.2.2.2.2.2.1]
                                refine X_iconst (v := nI 1) dX12_one_111 (by decide) ?_
                                refine X_isub dX12_one_112 ?_
                                refine X_topi (pk_sub (a := op + 1) (b := 1) (by omega)) ?_
                                refine X_puti dX12_one_113 fkX12_217 rfl rfl (k_87 hSh) ?_
                                exact X_vret dX12_one_116 rfl ⟨rfl, rfl, by rw [show unitR (some S) B n i = .ok (skT B n e4 + 1, t2 ++ (t4 ++ [(8, 0)]), b2 || b4) from by simp only [unitR, pairR, choR, sgK, wdK, bS, hd, hp, hW, hs1, hU2, hs3, hU4, hs5, if_true, if_false, Bool.false_eq_true, reduceIte, Nat.reduceLT, Nat.reduceSub]]; exact RST_eq (RST_o hS6 rfl) (by simp [List.append_assoc]) (by simp [Bool.or_assoc]), rfl⟩
                              ·
                                have hE5 := RHE_of (p := skT B n e4) hm4 (skT_le (B := B) hm4.1.2.1) (show 1 ≤ 1 ∧ 1 ≤ 3 by omega)
                                refine X_callVV dX12_one_97 mkX12_224 (k_87 hSh) (c_sign0 Γ g m4 ml hSh B n e4 hm4.1 hm4.2.2.1 (nI 93) hs5) rfl rfl (by omega) (Nat.le_of_ble_eq_true rfl) ?_
                                refine X_aload_n dX12_one_100 rfl ?_
                                refine X_iload_n dX12_one_101 rfl ?_
                                refine X_iconst (v := nI 0) dX12_one_102 (by decide) ?_
                                refine X_callVV dX12_one_103 mkX12_262 (k_87 hSh) (c_notesF Γ g (up2 (up2 (up2 m4 87 4 (nI (skT B n e4))) 87 5 (nI 1)) 87 6 (nI (skT B n e4))) ml hSh (RHE_f hE5) (nI 8) (nI 0)) rfl rfl (by omega) (Nat.le_of_ble_eq_true rfl) ?_
                                refine X_aload_n dX12_one_106 rfl ?_
                                refine X_dup dX12_one_107 rfl ?_
                                refine X_geti dX12_one_108 fkX12_217 rfl (k_87 hSh) ?_
                                refine X_topi (show (up2 (up2 (up2 m4 87 4 (nI (skT B n e4))) 87 5 (nI 1)) 87 6 (nI (skT B n e4))) 87 8 = nI (op + 1) by rw [up2_n (by omega), up2_n (by omega), up2_n (by omega)]; exact hm4.2.2.2.2.2.2.1) ?_
                                refine X_iconst (v := nI 1) dX12_one_111 (by decide) ?_
                                refine X_isub dX12_one_112 ?_
                                refine X_topi (pk_sub (a := op + 1) (b := 1) (by omega)) ?_
                                refine X_puti dX12_one_113 fkX12_217 rfl rfl (k_87 hSh) ?_
                                exact X_vret dX12_one_116 rfl ⟨rfl, rfl, by rw [show unitR (some S) B n i = .error (1, skT B n e4) from by simp only [unitR, pairR, choR, sgK, wdK, bS, hd, hp, hW, hs1, hU2, hs3, hU4, hs5, if_true, if_false, Bool.false_eq_true, reduceIte, Nat.reduceLT, Nat.reduceSub]]; exact RHE_o hE5, rfl⟩
                          ·
                            have hE3 := RHE_of (p := skT B n e2) hm2 (skT_le (B := B) hm2.1.2.1) (show 1 ≤ 1 ∧ 1 ≤ 3 by omega)
                            refine X_callVV dX12_one_87 mkX12_224 (k_87 hSh) (c_sign0 Γ g m2 ml hSh B n e2 hm2.1 hm2.2.2.1 (nI 44) hs3) rfl rfl (by omega) (Nat.le_of_ble_eq_true rfl) ?_
                            refine X_aload_n dX12_one_90 rfl ?_
                            refine X_callVV dX12_one_91 mkX12_275 (k_87 hSh) (c_sumF Γ g (up2 (up2 (up2 m2 87 4 (nI (skT B n e2))) 87 5 (nI 1)) 87 6 (nI (skT B n e2))) ml hSh (RHE_f hE3)) rfl rfl (by omega) (Nat.le_of_ble_eq_true rfl) ?_
                            refine X_aload_n dX12_one_94 rfl ?_
                            refine X_bipush (v := nI 93) dX12_one_95 (by decide) ?_
                            refine X_callVV dX12_one_97 mkX12_224 (k_87 hSh) (c_signF Γ g (up2 (up2 (up2 m2 87 4 (nI (skT B n e2))) 87 5 (nI 1)) 87 6 (nI (skT B n e2))) ml hSh (RHE_f hE3) (nI 93)) rfl rfl (by omega) (Nat.le_of_ble_eq_true rfl) ?_
                            refine X_aload_n dX12_one_100 rfl ?_
                            refine X_iload_n dX12_one_101 rfl ?_
                            refine X_iconst (v := nI 0) dX12_one_102 (by decide) ?_
                            refine X_callVV dX12_one_103 mkX12_262 (k_87 hSh) (c_notesF Γ g (up2 (up2 (up2 m2 87 4 (nI (skT B n e2))) 87 5 (nI 1)) 87 6 (nI (skT B n e2))) ml hSh (RHE_f hE3) (nI 8) (nI 0)) rfl rfl (by omega) (Nat.le_of_ble_eq_true rfl) ?_
                            refine X_aload_n dX12_one_106 rfl ?_
                            refine X_dup dX12_one_107 rfl ?_
                            refine X_geti dX12_one_108 fkX12_217 rfl (k_87 hSh) ?_
                            refine X_topi (show (up2 (up2 (up2 m2 87 4 (nI (skT B n e2))) 87 5 (nI 1)) 87 6 (nI (skT B n e2))) 87 8 = nI (op + 1) by rw [up2_n (by omega), up2_n (by omega), up2_n (by omega)]; exact hm2.2.2.2.2.2.2.1) ?_
                            refine X_iconst (v := nI 1) dX12_one_111 (by decide) ?_
                            refine X_isub dX12_one_112 ?_
                            refine X_topi (pk_sub (a := op + 1) (b := 1) (by omega)) ?_
                            refine X_puti dX12_one_113 fkX12_217 rfl rfl (k_87 hSh) ?_
                            exact X_vret dX12_one_116 rfl ⟨rfl, rfl, by rw [show unitR (some S) B n i = .error (1, skT B n e2) from by simp only [unitR, pairR, choR, sgK, wdK, bS, hd, hp, hW, hs1, hU2, hs3, if_true, if_false, Bool.false_eq_true, reduceIte, Nat.reduceLT, Nat.reduceSub]]; exact RHE_o hE3, rfl⟩
                      ·
                        have hE1 := RHE_of (p := skT B n (wdT B n (skT B n i))) hSw (skT_le (B := B) hSw.1.2.1) (show 1 ≤ 1 ∧ 1 ≤ 3 by omega)
                        refine X_callVV dX12_one_77 mkX12_224 (k_87 hSh) (c_sign0 Γ g (up2 (up2 (up2 mi 87 4 (nI (skT B n i))) 87 8 (nI (op + 1))) 87 4 (nI (wdT B n (skT B n i)))) ml hSh B n (wdT B n (skT B n i)) hSw.1 hSw.2.2.1 (nI 91) hs1) rfl rfl (by omega) (Nat.le_of_ble_eq_true rfl) ?_
                        refine X_aload_n dX12_one_80 rfl ?_
                        refine X_callVV dX12_one_81 mkX12_275 (k_87 hSh) (c_sumF Γ g (up2 (up2 (up2 (up2 (up2 (up2 mi 87 4 (nI (skT B n i))) 87 8 (nI (op + 1))) 87 4 (nI (wdT B n (skT B n i)))) 87 4 (nI (skT B n (wdT B n (skT B n i))))) 87 5 (nI 1)) 87 6 (nI (skT B n (wdT B n (skT B n i))))) ml hSh (RHE_f hE1)) rfl rfl (by omega) (Nat.le_of_ble_eq_true rfl) ?_
                        refine X_aload_n dX12_one_84 rfl ?_
                        refine X_bipush (v := nI 44) dX12_one_85 (by decide) ?_
                        refine X_callVV dX12_one_87 mkX12_224 (k_87 hSh) (c_signF Γ g (up2 (up2 (up2 (up2 (up2 (up2 mi 87 4 (nI (skT B n i))) 87 8 (nI (op + 1))) 87 4 (nI (wdT B n (skT B n i)))) 87 4 (nI (skT B n (wdT B n (skT B n i))))) 87 5 (nI 1)) 87 6 (nI (skT B n (wdT B n (skT B n i))))) ml hSh (RHE_f hE1) (nI 44)) rfl rfl (by omega) (Nat.le_of_ble_eq_true rfl) ?_
                        refine X_aload_n dX12_one_90 rfl ?_
                        refine X_callVV dX12_one_91 mkX12_275 (k_87 hSh) (c_sumF Γ g (up2 (up2 (up2 (up2 (up2 (up2 mi 87 4 (nI (skT B n i))) 87 8 (nI (op + 1))) 87 4 (nI (wdT B n (skT B n i)))) 87 4 (nI (skT B n (wdT B n (skT B n i))))) 87 5 (nI 1)) 87 6 (nI (skT B n (wdT B n (skT B n i))))) ml hSh (RHE_f hE1)) rfl rfl (by omega) (Nat.le_of_ble_eq_true rfl) ?_
                        refine X_aload_n dX12_one_94 rfl ?_
                        refine X_bipush (v := nI 93) dX12_one_95 (by decide) ?_
                        refine X_callVV dX12_one_97 mkX12_224 (k_87 hSh) (c_signF Γ g (up2 (up2 (up2 (up2 (up2 (up2 mi 87 4 (nI (skT B n i))) 87 8 (nI (op + 1))) 87 4 (nI (wdT B n (skT B n i)))) 87 4 (nI (skT B n (wdT B n (skT B n i))))) 87 5 (nI 1)) 87 6 (nI (skT B n (wdT B n (skT B n i))))) ml hSh (RHE_f hE1) (nI 93)) rfl rfl (by omega) (Nat.le_of_ble_eq_true rfl) ?_
                        refine X_aload_n dX12_one_100 rfl ?_
                        refine X_iload_n dX12_one_101 rfl ?_
                        refine X_iconst (v := nI 0) dX12_one_102 (by decide) ?_
                        refine X_callVV dX12_one_103 mkX12_262 (k_87 hSh) (c_notesF Γ g (up2 (up2 (up2 (up2 (up2 (up2 mi 87 4 (nI (skT B n i))) 87 8 (nI (op + 1))) 87 4 (nI (wdT B n (skT B n i)))) 87 4 (nI (skT B n (wdT B n (skT B n i))))) 87 5 (nI 1)) 87 6 (nI (skT B n (wdT B n (skT B n i))))) ml hSh (RHE_f hE1) (nI 8) (nI 0)) rfl rfl (by omega) (Nat.le_of_ble_eq_true rfl) ?_
                        refine X_aload_n dX12_one_106 rfl ?_
                        refine X_dup dX12_one_107 rfl ?_
                        refine X_geti dX12_one_108 fkX12_217 rfl (k_87 hSh) ?_
                        refine X_topi (show (up2 (up2 (up2 (up2 (up2 (up2 mi 87 4 (nI (skT B n i))) 87 8 (nI (op + 1))) 87 4 (nI (wdT B n (skT B n i)))) 87 4 (nI (skT B n (wdT B n (skT B n i))))) 87 5 (nI 1)) 87 6 (nI (skT B n (wdT B n (skT B n i))))) 87 8 = nI (op + 1) by rw [up2_n (by omega), up2_n (by omega), up2_n (by omega), up2_n (by omega), up2_s]) ?_
                        refine X_iconst (v := nI 1) dX12_one_111 (by decide) ?_
                        refine X_isub dX12_one_112 ?_
                        refine X_topi (pk_sub (a := op + 1) (b := 1) (by omega)) ?_
                        refine X_puti dX12_one_113 fkX12_217 rfl rfl (k_87 hSh) ?_
                        exact X_vret dX12_one_116 rfl ⟨rfl, rfl, by rw [show unitR (some S) B n i = .error (1, skT B n (wdT B n (skT B n i))) from by simp only [unitR, pairR, choR, sgK, wdK, bS, hd, hp, hW, hs1, if_true, if_false, Bool.false_eq_true, reduceIte, Nat.reduceLT, Nat.reduceSub]]; exact RHE_o hE1, rfl⟩
                    · exact absurd h_47 (by omega)
              · exact absurd h_44 (by omega)
            · exact absurd h_43 (by omega)
          · skip
            refine X_aload_n dX12_one_0 rfl ?_
            refine X_geti dX12_one_1 fkX12_174 rfl (k_87 hSh) ?_
            rw [hS.2.2.1]
            refine X_if_eqN (a := 0) 8 dX12_one_4 (by decide) (by omega) (fun h_48 => ?_) (fun h_48 => ?_)
            · refine X_aload_n dX12_one_8 rfl ?_
              refine X_callVV dX12_one_9 mkX12_180 (k_87 hSh) (c_blanks Γ g mi ml hSh B n i hS.1) rfl rfl (by omega) (Nat.le_of_ble_eq_true rfl) ?_
              refine X_aload_n dX12_one_12 rfl ?_
              refine X_bipush (v := nI 12) dX12_one_13 (by decide) ?_
              refine X_iconst (v := nI 5) dX12_one_15 (by decide) ?_
              refine X_iconst (v := nI 1) dX12_one_16 (by decide) ?_
              refine X_bipush (v := nI 19) dX12_one_17 (by decide) ?_
              refine X_bipush (v := nI 20) dX12_one_19 (by decide) ?_
              refine X_iconst (v := nI 0) dX12_one_21 (by decide) ?_
              refine X_callVI dX12_one_22 mkX12_207 (k_87 hSh) (c_isW0 Γ g (up2 mi 87 4 (nI (skT B n i))) ml hSh B n (skT B n i) hS1.1 skT_sk hS1.2.2.1 12 5 1 19 20 0 (by decide) (by decide) (by decide) (by decide) (fun q => by have h9 := wq_1_11.mp q; rw [hW] at h9; cases h9)) rfl rfl (by omega) (Nat.le_of_ble_eq_true rfl) ?_
              refine X_if_eqN (a := 0) 33 dX12_one_25 (by decide) (by omega) (fun h_49 => ?_) (fun h_49 => ?_)
              · refine X_aload_n dX12_one_33 rfl ?_
                refine X_bipush (v := nI 13) dX12_one_34 (by decide) ?_
                refine X_bipush (v := nI 15) dX12_one_36 (by decide) ?_
                refine X_bipush (v := nI 19) dX12_one_38 (by decide) ?_
                refine X_bipush (v := nI 20) dX12_one_40 (by decide) ?_
                refine X_iconst (v := nI 0) dX12_one_42 (by decide) ?_
                refine X_iconst (v := nI 0) dX12_one_43 (by decide) ?_
                refine X_callVI dX12_one_44 mkX12_207 (k_87 hSh) (c_isW0 Γ g (up2 mi 87 4 (nI (skT B n i))) ml hSh B n (skT B n i) hS1.1 skT_sk hS1.2.2.1 13 15 19 20 0 0 (by decide) (by decide) (by decide) (by decide) (fun q => by have h9 := wq_1_12.mp q; rw [hW] at h9; cases h9)) rfl rfl (by omega) (Nat.le_of_ble_eq_true rfl) ?_
                refine X_if_eqN (a := 0) 55 dX12_one_47 (by decide) (by omega) (fun h_50 => ?_) (fun h_50 => ?_)
                · refine X_iconst (v := -1) dX12_one_55 (by decide) ?_
                  refine X_istore_n dX12_one_56 (by decide) ?_
                  refine X_iload_n dX12_one_57 rfl ?_
                  refine X_iconst (v := -1) dX12_one_58 (by decide) ?_
                  refine X_icmp_eq 117 dX12_one_59 (by decide) (fun h_51 => ?_) (fun h_51 => ?_)
                  · refine X_aload_n dX12_one_117 rfl ?_
                    refine X_bipush (v := nI 9) dX12_one_118 (by decide) ?_
                    refine X_bipush (v := nI 6) dX12_one_120 (by decide) ?_
                    refine X_iconst (v := nI 0) dX12_one_122 (by decide) ?_
                    refine X_iconst (v := nI 0) dX12_one_123 (by decide) ?_
                    refine X_iconst (v := nI 0) dX12_one_124 (by decide) ?_
                    refine X_iconst (v := nI 0) dX12_one_125 (by decide) ?_
                    refine X_callVI dX12_one_126 mkX12_207 (k_87 hSh) (c_isW1 Γ g (up2 mi 87 4 (nI (skT B n i))) ml hSh B n (skT B n i) hS1.1 skT_sk hS1.2.2.1 9 6 0 0 0 0 (by decide) (by decide) (by decide) (by decide) (wq_1_13.mpr hW)) rfl rfl (by omega) (Nat.le_of_ble_eq_true rfl) ?_
                    refine X_if_eqN (a := 1) 291 dX12_one_129 (by decide) (by omega) (fun h_52 => ?_) (fun h_52 => ?_)
                    · exact absurd h_52 (by omega)
                    · refine X_aload_n dX12_one_132 rfl ?_
                      have hSo := RST_o (op' := op + 1) (v := nI (op + 1)) hS1 rfl
                      refine X_callVI dX12_one_133 mkX12_271 (k_87 hSh) (c_opens1 Γ g (up2 mi 87 4 (nI (skT B n i))) ml hSh hS1.2.2.1 op hS1.2.2.2.2.2.2.1 ho) rfl rfl (by omega) (Nat.le_of_ble_eq_true rfl) ?_
                      refine X_if_neN (a := 1) 140 dX12_one_136 (by decide) (by omega) (fun h_53 => ?_) (fun h_53 => ?_)
                      · refine X_aload_n dX12_one_140 rfl ?_
                        have hSw := RST_at hSo hwl hwg
                        refine X_callVV dX12_one_141 mkX12_211 (k_87 hSh) (c_skipWord Γ g (up2 (up2 mi 87 4 (nI (skT B n i))) 87 8 (nI (op + 1))) ml hSh B n (skT B n i) hSo.1) rfl rfl (by omega) (Nat.le_of_ble_eq_true rfl) ?_
                        refine X_aload_n dX12_one_144 rfl ?_
                        match hU1 : S (wdT B n (skT B n i)) with
                        | .error (k1, p1) =>
                          refine X_callVrV dX12_one_145 mkX12_275 (k_87 hSh) (hU m0 _ (wdT B n (skT B n i)) T a hSw) rfl rfl (by omega) (Nat.le_of_ble_eq_true rfl) (fun m1 l1 hm1 => ?_)
                          rw [hU1] at hm1
                          obtain ⟨hm1, hL1⟩ := hm1
                          rw [hL1]
                          refine X_aload_n dX12_one_148 rfl ?_
                          refine X_bipush (v := nI 60) dX12_one_149 (by decide) ?_
                          refine X_callVI dX12_one_151 mkX12_259 (k_87 hSh) (c_takesSignF Γ g m1 ml hSh (RHE_f hm1) (nI 60)) rfl rfl (by omega) (Nat.le_of_ble_eq_true rfl) ?_
                          refine X_if_eqN (a := 0) 162 dX12_one_154 (by decide) (by omega) (fun h_54 => ?_) (fun h_54 => ?_)
                          · refine X_aload_n dX12_one_162 rfl ?_
                            refine X_bipush (v := nI 62) dX12_one_163 (by decide) ?_
                            refine X_callVI dX12_one_165 mkX12_259 (k_87 hSh) (c_takesSignF Γ g m1 ml hSh (RHE_f hm1) (nI 62)) rfl rfl (by omega) (Nat.le_of_ble_eq_true rfl) ?_
                            refine X_if_eqN (a := 0) 176 dX12_one_168 (by decide) (by omega) (fun h_55 => ?_) (fun h_55 => ?_)
                            · refine X_aload_n dX12_one_176 rfl ?_
                              refine X_bipush (v := nI 61) dX12_one_177 (by decide) ?_
                              refine X_callVI dX12_one_179 mkX12_259 (k_87 hSh) (c_takesSignF Γ g m1 ml hSh (RHE_f hm1) (nI 61)) rfl rfl (by omega) (Nat.le_of_ble_eq_true rfl) ?_
                              refine X_if_eqN (a := 0) 190 dX12_one_182 (by decide) (by omega) (fun h_56 => ?_) (fun h_56 => ?_)
                              · refine X_iconst (v := -1) dX12_one_190 (by decide) ?_
                                refine X_istore_n dX12_one_191 (by decide) ?_
                                refine X_iload_n dX12_one_192 rfl ?_
                                refine X_iconst (v := -1) dX12_one_193 (by decide) ?_
                                refine X_icmp_ne 206 dX12_one_194 (by decide) (fun h_57 => ?_) (fun h_57 => ?_)
                                · exact absurd rfl h_57
                                · refine X_aload_n dX12_one_197 rfl ?_
                                  refine X_iconst (v := nI 1) dX12_one_198 (by decide) ?_
                                  refine X_aload_n dX12_one_199 rfl ?_
                                  refine X_geti dX12_one_200 fkX12_167 rfl (k_87 hSh) ?_
                                  refine X_callVV dX12_one_203 mkX12_187 (k_87 hSh) (c_wrongF Γ g m1 ml hSh (RHE_f hm1) (nI 1) (m1 87 4)) rfl rfl (by omega) (Nat.le_of_ble_eq_true rfl) ?_
                                  refine X_aload_n dX12_one_206 rfl ?_
                                  refine X_callVV dX12_one_207 mkX12_275 (k_87 hSh) (c_sumF Γ g m1 ml hSh (RHE_f hm1)) rfl rfl (by omega) (Nat.le_of_ble_eq_true rfl) ?_
                                  refine X_aload_n dX12_one_210 rfl ?_
                                  refine X_iload_n dX12_one_211 rfl ?_
                                  refine X_iconst (v := nI 0) dX12_one_212 (by decide) ?_
                                  refine X_callVV dX12_one_213 mkX12_262 (k_87 hSh) (c_notesF Γ g m1 ml hSh (RHE_f hm1) (-1) (nI 0)) rfl rfl (by omega) (Nat.le_of_ble_eq_true rfl) ?_
                                  refine X_aload_n dX12_one_216 rfl ?_
                                  refine X_bipush (v := nI 20) dX12_one_217 (by decide) ?_
                                  refine X_bipush (v := nI 8) dX12_one_219 (by decide) ?_
                                  refine X_iconst (v := nI 5) dX12_one_221 (by decide) ?_
                                  refine X_bipush (v := nI 14) dX12_one_222 (by decide) ?_
                                  refine X_iconst (v := nI 0) dX12_one_224 (by decide) ?_
                                  refine X_iconst (v := nI 0) dX12_one_225 (by decide) ?_
                                  refine X_callVI dX12_one_226 mkX12_268 (k_87 hSh) (c_takesF Γ g m1 ml hSh (RHE_f hm1) (nI 20) (nI 8) (nI 5) (nI 14) (nI 0) (nI 0)) rfl rfl (by omega) (Nat.le_of_ble_eq_true rfl) ?_
                                  refine X_if_neN (a := 0) 241 dX12_one_229 (by decide) (by omega) (fun h_58 => ?_) (fun h_58 => ?_)
                                  · exact absurd h_58 (by omega)
                                  · refine X_aload_n dX12_one_232 rfl ?_
                                    refine X_iconst (v := nI 1) dX12_one_233 (by decide) ?_
                                    refine X_aload_n dX12_one_234 rfl ?_
                                    refine X_geti dX12_one_235 fkX12_167 rfl (k_87 hSh) ?_
                                    refine X_callVV dX12_one_238 mkX12_187 (k_87 hSh) (c_wrongF Γ g m1 ml hSh (RHE_f hm1) (nI 1) (m1 87 4)) rfl rfl (by omega) (Nat.le_of_ble_eq_true rfl) ?_
                                    refine X_aload_n dX12_one_241 rfl ?_
                                    refine X_callVV dX12_one_242 mkX12_275 (k_87 hSh) (c_sumF Γ g m1 ml hSh (RHE_f hm1)) rfl rfl (by omega) (Nat.le_of_ble_eq_true rfl) ?_
                                    refine X_aload_n dX12_one_245 rfl ?_
                                    refine X_iconst (v := nI 5) dX12_one_246 (by decide) ?_
                                    refine X_bipush (v := nI 12) dX12_one_247 (by decide) ?_
                                    refine X_bipush (v := nI 19) dX12_one_249 (by decide) ?_
                                    refine X_iconst (v := nI 5) dX12_one_251 (by decide) ?_
                                    refine X_iconst (v := nI 0) dX12_one_252 (by decide) ?_
                                    refine X_iconst (v := nI 0) dX12_one_253 (by decide) ?_
                                    refine X_callVI dX12_one_254 mkX12_268 (k_87 hSh) (c_takesF Γ g m1 ml hSh (RHE_f hm1) (nI 5) (nI 12) (nI 19) (nI 5) (nI 0) (nI 0)) rfl rfl (by omega) (Nat.le_of_ble_eq_true rfl) ?_
                                    refine X_if_neN (a := 0) 269 dX12_one_257 (by decide) (by omega) (fun h_59 => ?_) (fun h_59 => ?_)
                                    · exact absurd h_59 (by omega)
                                    · refine X_aload_n dX12_one_260 rfl ?_
                                      refine X_iconst (v := nI 1) dX12_one_261 (by decide) ?_
                                      refine X_aload_n dX12_one_262 rfl ?_
                                      refine X_geti dX12_one_263 fkX12_167 rfl (k_87 hSh) ?_
                                      refine X_callVV dX12_one_266 mkX12_187 (k_87 hSh) (c_wrongF Γ g m1 ml hSh (RHE_f hm1) (nI 1) (m1 87 4)) rfl rfl (by omega) (Nat.le_of_ble_eq_true rfl) ?_
                                      refine X_aload_n dX12_one_269 rfl ?_
                                      refine X_callVV dX12_one_270 mkX12_275 (k_87 hSh) (c_sumF Γ g m1 ml hSh (RHE_f hm1)) rfl rfl (by omega) (Nat.le_of_ble_eq_true rfl) ?_
                                      refine X_aload_n dX12_one_273 rfl ?_
                                      refine X_bipush (v := nI 12) dX12_one_274 (by decide) ?_
                                      refine X_iconst (v := nI 0) dX12_one_276 (by decide) ?_
                                      refine X_callVV dX12_one_277 mkX12_262 (k_87 hSh) (c_notesF Γ g m1 ml hSh (RHE_f hm1) (nI 12) (nI 0)) rfl rfl (by omega) (Nat.le_of_ble_eq_true rfl) ?_
                                      refine X_aload_n dX12_one_280 rfl ?_
                                      refine X_dup dX12_one_281 rfl ?_
                                      refine X_geti dX12_one_282 fkX12_217 rfl (k_87 hSh) ?_
                                      refine X_iconst (v := nI 1) dX12_one_285 (by decide) ?_
                                      refine X_isub dX12_one_286 ?_
                                      refine X_puti dX12_one_287 fkX12_217 rfl rfl (k_87 hSh) ?_
                                      exact X_vret dX12_one_290 rfl ⟨rfl, rfl, by rw [show unitR (some S) B n i = .error (k1, p1) from by simp only [unitR, pairR, choR, sgK, wdK, bS, hd, hp, hW, hU1, if_true, if_false, Bool.false_eq_true, reduceIte, Nat.reduceLT, Nat.reduceSub]]; exact RHE_o hm1, rfl⟩
                              · exact absurd h_56 (by omega)
                            · exact absurd h_55 (by omega)
                          · exact absurd h_54 (by omega)
                        | .ok (e1, t1, b1) =>
                          obtain ⟨hb1, hc1, hd1⟩ := (hUO _ hSw.1.2.1).1 e1 t1 b1 hU1
                          refine X_callVrV dX12_one_145 mkX12_275 (k_87 hSh) (hU m0 _ (wdT B n (skT B n i)) T a hSw) rfl rfl (by omega) (Nat.le_of_ble_eq_true rfl) (fun m1 l1 hm1 => ?_)
                          rw [hU1] at hm1
                          obtain ⟨hm1, hL1⟩ := hm1
                          rw [hL1]
                          have hlen1 := List.length_append (as := T) (bs := t1)
                          have hsa := skT_le (B := B) hm1.1.2.1
                          have hsb := skT_ge (B := B) (n := n) (i := e1)
                          have hSk := RST_at hm1 hsa hsb
                          by_cases q0 : byT B n (skT B n e1) = nI 60
                          · have hO : cmO (byT B n (skT B n e1)) = some 9 := if_pos q0
                            have hlt := by_lt q0
                            have hSq := RST_at hm1 hlt (by omega)
                            refine X_aload_n dX12_one_148 rfl ?_
                            refine X_bipush (v := nI 60) dX12_one_149 (by decide) ?_
                            refine X_callVI dX12_one_151 mkX12_259 (k_87 hSh) (c_takesSign1 Γ g m1 ml hSh B n e1 hm1.1 hm1.2.2.1 (nI 60) q0) rfl rfl (by omega) (Nat.le_of_ble_eq_true rfl) ?_
                            refine X_if_eqN (a := 1) 162 dX12_one_154 (by decide) (by omega) (fun h_60 => ?_) (fun h_60 => ?_)
                            · exact absurd h_60 (by omega)
                            · refine X_bipush (v := nI 9) dX12_one_157 (by decide) ?_
                              refine X_goto 191 dX12_one_159 (by decide) ?_
                              refine X_istore_n dX12_one_191 (by decide) ?_
                              refine X_iload_n dX12_one_192 rfl ?_
                              refine X_iconst (v := -1) dX12_one_193 (by decide) ?_
                              refine X_icmp_ne 206 dX12_one_194 (by decide) (fun h_61 => ?_) (fun h_61 => ?_)
                              · refine X_aload_n dX12_one_206 rfl ?_
                                match hU2 : S (skT B n e1 + 1) with
                                | .error (k2, p2) =>
                                  refine X_callVrV dX12_one_207 mkX12_275 (k_87 hSh) (hU m0 _ (skT B n e1 + 1) (T ++ t1) (a || b1) hSq) rfl rfl (by omega) (Nat.le_of_ble_eq_true rfl) (fun m2 l2 hm2 => ?_)
                                  rw [hU2] at hm2
                                  obtain ⟨hm2, hL2⟩ := hm2
                                  rw [hL2]
                                  refine X_aload_n dX12_one_210 rfl ?_
                                  refine X_iload_n dX12_one_211 rfl ?_
                                  refine X_iconst (v := nI 0) dX12_one_212 (by decide) ?_
                                  refine X_callVV dX12_one_213 mkX12_262 (k_87 hSh) (c_notesF Γ g m2 ml hSh (RHE_f hm2) (nI 9) (nI 0)) rfl rfl (by omega) (Nat.le_of_ble_eq_true rfl) ?_
                                  refine X_aload_n dX12_one_216 rfl ?_
                                  refine X_bipush (v := nI 20) dX12_one_217 (by decide) ?_
                                  refine X_bipush (v := nI 8) dX12_one_219 (by decide) ?_
                                  refine X_iconst (v := nI 5) dX12_one_221 (by decide) ?_
                                  refine X_bipush (v := nI 14) dX12_one_222 (by decide) ?_
                                  refine X_iconst (v := nI 0) dX12_one_224 (by decide) ?_
                                  refine X_iconst (v := nI 0) dX12_one_225 (by decide) ?_
                                  refine X_callVI dX12_one_226 mkX12_268 (k_87 hSh) (c_takesF Γ g m2 ml hSh (RHE_f hm2) (nI 20) (nI 8) (nI 5) (nI 14) (nI 0) (nI 0)) rfl rfl (by omega) (Nat.le_of_ble_eq_true rfl) ?_
                                  refine X_if_neN (a := 0) 241 dX12_one_229 (by decide) (by omega) (fun h_62 => ?_) (fun h_62 => ?_)
                                  · exact absurd h_62 (by omega)
                                  · refine X_aload_n dX12_one_232 rfl ?_
                                    refine X_iconst (v := nI 1) dX12_one_233 (by decide) ?_
                                    refine X_aload_n dX12_one_234 rfl ?_
                                    refine X_geti dX12_one_235 fkX12_167 rfl (k_87 hSh) ?_
                                    refine X_callVV dX12_one_238 mkX12_187 (k_87 hSh) (c_wrongF Γ g m2 ml hSh (RHE_f hm2) (nI 1) (m2 87 4)) rfl rfl (by omega) (Nat.le_of_ble_eq_true rfl) ?_
                                    refine X_aload_n dX12_one_241 rfl ?_
                                    refine X_callVV dX12_one_242 mkX12_275 (k_87 hSh) (c_sumF Γ g m2 ml hSh (RHE_f hm2)) rfl rfl (by omega) (Nat.le_of_ble_eq_true rfl) ?_
                                    refine X_aload_n dX12_one_245 rfl ?_
                                    refine X_iconst (v := nI 5) dX12_one_246 (by decide) ?_
                                    refine X_bipush (v := nI 12) dX12_one_247 (by decide) ?_
                                    refine X_bipush (v := nI 19) dX12_one_249 (by decide) ?_
                                    refine X_iconst (v := nI 5) dX12_one_251 (by decide) ?_
                                    refine X_iconst (v := nI 0) dX12_one_252 (by decide) ?_
                                    refine X_iconst (v := nI 0) dX12_one_253 (by decide) ?_
                                    refine X_callVI dX12_one_254 mkX12_268 (k_87 hSh) (c_takesF Γ g m2 ml hSh (RHE_f hm2) (nI 5) (nI 12) (nI 19) (nI 5) (nI 0) (nI 0)) rfl rfl (by omega) (Nat.le_of_ble_eq_true rfl) ?_
                                    refine X_if_neN (a := 0) 269 dX12_one_257 (by decide) (by omega) (fun h_63 => ?_) (fun h_63 => ?_)
                                    · exact absurd h_63 (by omega)
                                    · refine X_aload_n dX12_one_260 rfl ?_
                                      refine X_iconst (v := nI 1) dX12_one_261 (by decide) ?_
                                      refine X_aload_n dX12_one_262 rfl ?_
                                      refine X_geti dX12_one_263 fkX12_167 rfl (k_87 hSh) ?_
                                      refine X_callVV dX12_one_266 mkX12_187 (k_87 hSh) (c_wrongF Γ g m2 ml hSh (RHE_f hm2) (nI 1) (m2 87 4)) rfl rfl (by omega) (Nat.le_of_ble_eq_true rfl) ?_
                                      refine X_aload_n dX12_one_269 rfl ?_
                                      refine X_callVV dX12_one_270 mkX12_275 (k_87 hSh) (c_sumF Γ g m2 ml hSh (RHE_f hm2)) rfl rfl (by omega) (Nat.le_of_ble_eq_true rfl) ?_
                                      refine X_aload_n dX12_one_273 rfl ?_
                                      refine X_bipush (v := nI 12) dX12_one_274 (by decide) ?_
                                      refine X_iconst (v := nI 0) dX12_one_276 (by decide) ?_
                                      refine X_callVV dX12_one_277 mkX12_262 (k_87 hSh) (c_notesF Γ g m2 ml hSh (RHE_f hm2) (nI 12) (nI 0)) rfl rfl (by omega) (Nat.le_of_ble_eq_true rfl) ?_
                                      refine X_aload_n dX12_one_280 rfl ?_
                                      refine X_dup dX12_one_281 rfl ?_
                                      refine X_geti dX12_one_282 fkX12_217 rfl (k_87 hSh) ?_
                                      refine X_iconst (v := nI 1) dX12_one_285 (by decide) ?_
                                      refine X_isub dX12_one_286 ?_
                                      refine X_puti dX12_one_287 fkX12_217 rfl rfl (k_87 hSh) ?_
                                      exact X_vret dX12_one_290 rfl ⟨rfl, rfl, by rw [show unitR (some S) B n i = .error (k2, p2) from by simp only [unitR, pairR, choR, sgK, wdK, bS, hd, hp, hW, hU1, hO, hU2, if_true, if_false, Bool.false_eq_true, reduceIte, Nat.reduceLT, Nat.reduceSub]]; exact RHE_o hm2, rfl⟩
                                | .ok (e2, t2, b2) =>
                                  obtain ⟨hb2, hc2, hd2⟩ := (hUO _ hSq.1.2.1).1 e2 t2 b2 hU2
                                  refine X_callVrV dX12_one_207 mkX12_275 (k_87 hSh) (hU m0 _ (skT B n e1 + 1) (T ++ t1) (a || b1) hSq) rfl rfl (by omega) (Nat.le_of_ble_eq_true rfl) (fun m2 l2 hm2 => ?_)
                                  rw [hU2] at hm2
                                  obtain ⟨hm2, hL2⟩ := hm2
                                  rw [hL2]
                                  have hlen2 := List.length_append (as := T ++ t1) (bs := t2)
                                  refine X_aload_n dX12_one_210 rfl ?_
                                  refine X_iload_n dX12_one_211 rfl ?_
                                  refine X_iconst (v := nI 0) dX12_one_212 (by decide) ?_
                                  have h153 := hm2.2.1
                                  have hlb3 := hm2.2.2.2.2.2.2.2.1
                                  have hlc3 := hm2.1.2.1
                                  have hle3 : ((T ++ t1) ++ t2).length + 1 ≤ e2 := by omega
                                  have hS3 := RST_nt (t := (9, 0)) (u := nI 9) (v := nI 0) hm2 hle3 rfl rfl
                                  have hlen3 := List.length_append (as := (T ++ t1) ++ t2) (bs := [(9, 0)])
                                  rw [List.length_singleton] at hlen3
                                  refine X_callVV dX12_one_213 mkX12_262 (k_87 hSh) (c_notes Γ g m2 ml hSh hm2.2.2.1 _ hm2.2.2.2.1 (by omega) (nI 9) (nI 0)) rfl rfl (by omega) (Nat.le_of_ble_eq_true rfl) ?_
                                  refine X_aload_n dX12_one_216 rfl ?_
                                  refine X_bipush (v := nI 20) dX12_one_217 (by decide) ?_
                                  refine X_bipush (v := nI 8) dX12_one_219 (by decide) ?_
                                  refine X_iconst (v := nI 5) dX12_one_221 (by decide) ?_
                                  refine X_bipush (v := nI 14) dX12_one_222 (by decide) ?_
                                  refine X_iconst (v := nI 0) dX12_one_224 (by decide) ?_
                                  refine X_iconst (v := nI 0) dX12_one_225 (by decide) ?_
                                  by_cases hs4 : wIx 2 B n (skT B n e2) = some 0
                                  ·
                                    have hl4 := wdT_le (B := B) (skT_le (B := B) hS3.1.2.1)
                                    have hg4 := skT_ge (B := B) (n := n) (i := e2)
                                    have hx4 := wdT_gt (by decide) hs4
                                    have hS4 := RST_at hS3 hl4 (by omega)
                                    refine X_callVI dX12_one_226 mkX12_268 (k_87 hSh) (c_takes1 Γ g (ntW m2 ((T ++ t1) ++ t2).length (nI 9) (nI 0)) ml hSh B n e2 hS3.1 hS3.2.2.1 20 8 5 14 0 0 (by decide) (by decide) (by decide) (by decide) (wq_2_0.mpr hs4)) rfl rfl (by omega) (Nat.le_of_ble_eq_true rfl) ?_
                                    refine X_if_neN (a := 1) 241 dX12_one_229 (by decide) (by omega) (fun h_64 => ?_) (fun h_64 => ?_)
                                    · refine X_aload_n dX12_one_241 rfl ?_
                                      match hU5 : S (wdT B n (skT B n e2)) with
                                      | .error (k5, p5) =>
                                        refine X_callVrV dX12_one_242 mkX12_275 (k_87 hSh) (hU m0 _ (wdT B n (skT B n e2)) (((T ++ t1) ++ t2) ++ [(9, 0)]) ((a || b1) || b2) hS4) rfl rfl (by omega) (Nat.le_of_ble_eq_true rfl) (fun m5 l5 hm5 => ?_)
                                        rw [hU5] at hm5
                                        obtain ⟨hm5, hL5⟩ := hm5
                                        rw [hL5]
                                        refine X_aload_n dX12_one_245 rfl ?_
                                        refine X_iconst (v := nI 5) dX12_one_246 (by decide) ?_
                                        refine X_bipush (v := nI 12) dX12_one_247 (by decide) ?_
                                        refine X_bipush (v := nI 19) dX12_one_249 (by decide) ?_
                                        refine X_iconst (v := nI 5) dX12_one_251 (by decide) ?_
                                        refine X_iconst (v := nI 0) dX12_one_252 (by decide) ?_
                                        refine X_iconst (v := nI 0) dX12_one_253 (by decide) ?_
                                        refine X_callVI dX12_one_254 mkX12_268 (k_87 hSh) (c_takesF Γ g m5 ml hSh (RHE_f hm5) (nI 5) (nI 12) (nI 19) (nI 5) (nI 0) (nI 0)) rfl rfl (by omega) (Nat.le_of_ble_eq_true rfl) ?_
                                        refine X_if_neN (a := 0) 269 dX12_one_257 (by decide) (by omega) (fun h_65 => ?_) (fun h_65 => ?_)
                                        · exact absurd h_65 (by omega)
                                        · refine X_aload_n dX12_one_260 rfl ?_
                                          refine X_iconst (v := nI 1) dX12_one_261 (by decide) ?_
                                          refine X_aload_n dX12_one_262 rfl ?_
                                          refine X_geti dX12_one_263 fkX12_167 rfl (k_87 hSh) ?_
                                          refine X_callVV dX12_one_266 mkX12_187 (k_87 hSh) (c_wrongF Γ g m5 ml hSh (RHE_f hm5) (nI 1) (m5 87 4)) rfl rfl (by omega) (Nat.le_of_ble_eq_true rfl) ?_
                                          refine X_aload_n dX12_one_269 rfl ?_
                                          refine X_callVV dX12_one_270 mkX12_275 (k_87 hSh) (c_sumF Γ g m5 ml hSh (RHE_f hm5)) rfl rfl (by omega) (Nat.le_of_ble_eq_true rfl) ?_
                                          refine X_aload_n dX12_one_273 rfl ?_
                                          refine X_bipush (v := nI 12) dX12_one_274 (by decide) ?_
                                          refine X_iconst (v := nI 0) dX12_one_276 (by decide) ?_
                                          refine X_callVV dX12_one_277 mkX12_262 (k_87 hSh) (c_notesF Γ g m5 ml hSh (RHE_f hm5) (nI 12) (nI 0)) rfl rfl (by omega) (Nat.le_of_ble_eq_true rfl) ?_
                                          refine X_aload_n dX12_one_280 rfl ?_
                                          refine X_dup dX12_one_281 rfl ?_
                                          refine X_geti dX12_one_282 fkX12_217 rfl (k_87 hSh) ?_
                                          refine X_iconst (v := nI 1) dX12_one_285 (by decide) ?_
                                          refine X_isub dX12_one_286 ?_
                                          refine X_puti dX12_one_287 fkX12_217 rfl rfl (k_87 hSh) ?_
                                          exact X_vret dX12_one_290 rfl ⟨rfl, rfl, by rw [show unitR (some S) B n i = .error (k5, p5) from by simp only [unitR, pairR, choR, sgK, wdK, bS, hd, hp, hW, hU1, hO, hU2, hs4, hU5, if_true, if_false, Bool.false_eq_true, reduceIte, Nat.reduceLT, Nat.reduceSub]]; exact RHE_o hm5, rfl⟩
                                      | .ok (e5, t5, b5) =>
                                        obtain ⟨hb5, hc5, hd5⟩ := (hUO _ hS4.1.2.1).1 e5 t5 b5 hU5
                                        refine X_callVrV dX12_one_242 mkX12_275 (k_87 hSh) (hU m0 _ (wdT B n (skT B n e2)) (((T ++ t1) ++ t2) ++ [(9, 0)]) ((a || b1) || b2) hS4) rfl rfl (by omega) (Nat.le_of_ble_eq_true rfl) (fun m5 l5 hm5 => ?_)
                                        rw [hU5] at hm5
                                        obtain ⟨hm5, hL5⟩ := hm5
                                        rw [hL5]
                                        have hlen5 := List.length_append (as := ((T ++ t1) ++ t2) ++ [(9, 0)]) (bs := t5)
                                        refine X_aload_n dX12_one_245 rfl ?_
                                        refine X_iconst (v := nI 5) dX12_one_246 (by decide) ?_
                                        refine X_bipush (v := nI 12) dX12_one_247 (by decide) ?_
                                        refine X_bipush (v := nI 19) dX12_one_249 (by decide) ?_
                                        refine X_iconst (v := nI 5) dX12_one_251 (by decide) ?_
                                        refine X_iconst (v := nI 0) dX12_one_252 (by decide) ?_
                                        refine X_iconst (v := nI 0) dX12_one_253 (by decide) ?_
                                        by_cases hs6 : wIx 3 B n (skT B n e5) = some 0
                                        ·
                                          have hl6 := wdT_le (B := B) (skT_le (B := B) hm5.1.2.1)
                                          have hg6 := skT_ge (B := B) (n := n) (i := e5)
                                          have hx6 := wdT_gt (by decide) hs6
                                          have hS6 := RST_at hm5 hl6 (by omega)
                                          refine X_callVI dX12_one_254 mkX12_268 (k_87 hSh) (c_takes1 Γ g m5 ml hSh B n e5 hm5.1 hm5.2.2.1 5 12 19 5 0 0 (by decide) (by decide) (by decide) (by decide) (wq_3_0.mpr hs6)) rfl rfl (by omega) (Nat.le_of_ble_eq_true rfl) ?_
                                          refine X_if_neN (a := 1) 269 dX12_one_257 (by decide) (by omega) (fun h_66 => ?_) (fun h_66 => ?_)
                                          · refine X_aload_n dX12_one_269 rfl ?_
                                            match hU7 : S (wdT B n (skT B n e5)) with
                                            | .error (k7, p7) =>
                                              refine X_callVrV dX12_one_270 mkX12_275 (k_87 hSh) (hU m0 _ (wdT B n (skT B n e5)) ((((T ++ t1) ++ t2) ++ [(9, 0)]) ++ t5) (((a || b1) || b2) || b5) hS6) rfl rfl (by omega) (Nat.le_of_ble_eq_true rfl) (fun m7 l7 hm7 => ?_)
                                              rw [hU7] at hm7
                                              obtain ⟨hm7, hL7⟩ := hm7
                                              rw [hL7]
                                              refine X_aload_n dX12_one_273 rfl ?_
                                              refine X_bipush (v := nI 12) dX12_one_274 (by decide) ?_
                                              refine X_iconst (v := nI 0) dX12_one_276 (by decide) ?_
                                              refine X_callVV dX12_one_277 mkX12_262 (k_87 hSh) (c_notesF Γ g m7 ml hSh (RHE_f hm7) (nI 12) (nI 0)) rfl rfl (by omega) (Nat.le_of_ble_eq_true rfl) ?_
                                              refine X_aload_n dX12_one_280 rfl ?_
                                              refine X_dup dX12_one_281 rfl ?_
                                              refine X_geti dX12_one_282 fkX12_217 rfl (k_87 hSh) ?_
                                              refine X_iconst (v := nI 1) dX12_one_285 (by decide) ?_
                                              refine X_isub dX12_one_286 ?_
                                              refine X_puti dX12_one_287 fkX12_217 rfl rfl (k_87 hSh) ?_
                                              exact X_vret dX12_one_290 rfl ⟨rfl, rfl, by rw [show unitR (some S) B n i = .error (k7, p7) from by simp only [unitR, pairR, choR, sgK, wdK, bS, hd, hp, hW, hU1, hO, hU2, hs4, hU5, hs6, hU7, if_true, if_false, Bool.false_eq_true, reduceIte, Nat.reduceLT, Nat.reduceSub]]; exact RHE_o hm7, rfl⟩
                                            | .ok (e7, t7, b7) =>
                                              obtain ⟨hb7, hc7, hd7⟩ := (hUO _ hS6.1.2.1).1 e7 t7 b7 hU7
                                              refine X_callVrV dX12_one_270 mkX12_275 (k_87 hSh) (hU m0 _ (wdT B n (skT B n e5)) ((((T ++ t1) ++ t2) ++ [(9, 0)]) ++ t5) (((a || b1) || b2) || b5) hS6) rfl rfl (by omega) (Nat.le_of_ble_eq_true rfl) (fun m7 l7 hm7 => ?_)
                                              rw [hU7] at hm7
                                              obtain ⟨hm7, hL7⟩ := hm7
                                              rw [hL7]
                                              have hlen7 := List.length_append (as := (((T ++ t1) ++ t2) ++ [(9, 0)]) ++ t5) (bs := t7)
                                              refine X_aload_n dX12_one_273 rfl ?_
                                              refine X_bipush (v := nI 12) dX12_one_274 (by decide) ?_
                                              refine X_iconst (v := nI 0) dX12_one_276 (by decide) ?_
                                              have h158 := hm7.2.1
                                              have hlb8 := hm7.2.2.2.2.2.2.2.1
                                              have hlc8 := hm7.1.2.1
                                              have hle8 : (((((T ++ t1) ++ t2) ++ [(9, 0)]) ++ t5) ++ t7).length + 1 ≤ e7 := by omega
                                              have hS8 := RST_nt (t := (12, 0)) (u := nI 12) (v := nI 0) hm7 hle8 rfl rfl
                                              have hlen8 := List.length_append (as := ((((T ++ t1) ++ t2) ++ [(9, 0)]) ++ t5) ++ t7) (bs := [(12, 0)])
                                              rw [List.length_singleton] at hlen8
                                              refine X_callVV dX12_one_277 mkX12_262 (k_87 hSh) (c_notes Γ g m7 ml hSh hm7.2.2.1 _ hm7.2.2.2.1 (by omega) (nI 12) (nI 0)) rfl rfl (by omega) (Nat.le_of_ble_eq_true rfl) ?_
                                              refine X_aload_n dX12_one_280 rfl ?_
                                              refine X_dup dX12_one_281 rfl ?_
                                              refine X_geti dX12_one_282 fkX12_217 rfl (k_87 hSh) ?_
                                              rw [hS8.2.2.2.2.2.2.1]
                                              refine X_iconst (v := nI 1) dX12_one_285 (by decide) ?_
                                              refine X_isub dX12_one_286 ?_
                                              refine X_topi (pk_sub (a := op + 1) (b := 1) (by omega)) ?_
                                              refine X_puti dX12_one_287 fkX12_217 rfl rfl (k_87 hSh) ?_
                                              exact X_vret dX12_one_290 rfl ⟨rfl, rfl, by rw [show unitR (some S) B n i = .ok (e7, t1 ++ (t2 ++ ((9, 0) :: (t5 ++ (t7 ++ [(12, 0)])))), b1 || (b2 || (b5 || b7))) from by simp only [unitR, pairR, choR, sgK, wdK, bS, hd, hp, hW, hU1, hO, hU2, hs4, hU5, hs6, hU7, if_true, if_false, Bool.false_eq_true, reduceIte, Nat.reduceLT, Nat.reduceSub]]; exact RST_eq (RST_o hS8 rfl) (by simp [List.append_assoc]) (by simp [Bool.or_assoc]), rfl⟩
                                          · exact absurd h_66 (by omega)
                                        ·
                                          have hS6 := RST_at hm5 (skT_le (B := B) hm5.1.2.1) skT_ge
                                          refine X_callVI dX12_one_254 mkX12_268 (k_87 hSh) (c_takes0 Γ g m5 ml hSh B n e5 hm5.1 hm5.2.2.1 5 12 19 5 0 0 (by decide) (by decide) (by decide) (by decide) (fun q => hs6 (wq_3_0.mp q))) rfl rfl (by omega) (Nat.le_of_ble_eq_true rfl) ?_
                                          refine X_if_neN (a := 0) 269 dX12_one_257 (by decide) (by omega) (fun h_67 => ?_) (fun h_67 => ?_)
                                          · exact absurd h_67 (by omega)
                                          · refine X_aload_n dX12_one_260 rfl ?_
                                            refine X_iconst (v := nI 1) dX12_one_261 (by decide) ?_
                                            refine X_aload_n dX12_one_262 rfl ?_
                                            refine X_geti dX12_one_263 fkX12_167 rfl (k_87 hSh) ?_
                                            rw [up2_s]
                                            have hE7 := RHE_of2 (p := skT B n e5) hS6 (show 1 ≤ 1 ∧ 1 ≤ 3 by omega)
                                            refine X_callVV dX12_one_266 mkX12_187 (k_87 hSh) (c_wrong0 Γ g (up2 m5 87 4 (nI (skT B n e5))) ml hSh hS6.2.2.1 (nI 1) (nI (skT B n e5))) rfl rfl (by omega) (Nat.le_of_ble_eq_true rfl) ?_
                                            refine X_aload_n dX12_one_269 rfl ?_
                                            refine X_callVV dX12_one_270 mkX12_275 (k_87 hSh) (c_sumF Γ g (up2 (up2 (up2 m5 87 4 (nI (skT B n e5))) 87 5 (nI 1)) 87 6 (nI (skT B n e5))) ml hSh (RHE_f hE7)) rfl rfl (by omega) (Nat.le_of_ble_eq_true rfl) ?_
                                            refine X_aload_n dX12_one_273 rfl ?_
                                            refine X_bipush (v := nI 12) dX12_one_274 (by decide) ?_
                                            refine X_iconst (v := nI 0) dX12_one_276 (by decide) ?_
                                            refine X_callVV dX12_one_277 mkX12_262 (k_87 hSh) (c_notesF Γ g (up2 (up2 (up2 m5 87 4 (nI (skT B n e5))) 87 5 (nI 1)) 87 6 (nI (skT B n e5))) ml hSh (RHE_f hE7) (nI 12) (nI 0)) rfl rfl (by omega) (Nat.le_of_ble_eq_true rfl) ?_
                                            refine X_aload_n dX12_one_280 rfl ?_
                                            refine X_dup dX12_one_281 rfl ?_
                                            refine X_geti dX12_one_282 fkX12_217 rfl (k_87 hSh) ?_
                                            refine X_topi (show (up2 (up2 (up2 m5 87 4 (nI (skT B n e5))) 87 5 (nI 1)) 87 6 (nI (skT B n e5))) 87 8 = nI (op + 1) by rw [up2_n (by omega), up2_n (by omega), up2_n (by omega)]; exact hm5.2.2.2.2.2.2.1) ?_
                                            refine X_iconst (v := nI 1) dX12_one_285 (by decide) ?_
                                            refine X_isub dX12_one_286 ?_
                                            refine X_topi (pk_sub (a := op + 1) (b := 1) (by omega)) ?_
                                            refine X_puti dX12_one_287 fkX12_217 rfl rfl (k_87 hSh) ?_
                                            exact X_vret dX12_one_290 rfl ⟨rfl, rfl, by rw [show unitR (some S) B n i = .error (1, skT B n e5) from by simp only [unitR, pairR, choR, sgK, wdK, bS, hd, hp, hW, hU1, hO, hU2, hs4, hU5, hs6, if_true, if_false, Bool.false_eq_true, reduceIte, Nat.reduceLT, Nat.reduceSub]]; exact RHE_o hE7, rfl⟩
                                    · exact absurd h_64 (by omega)
                                  ·
                                    have hS4 := RST_at hS3 (skT_le (B := B) hS3.1.2.1) skT_ge
                                    refine X_callVI dX12_one_226 mkX12_268 (k_87 hSh) (c_takes0 Γ g (ntW m2 ((T ++ t1) ++ t2).length (nI 9) (nI 0)) ml hSh B n e2 hS3.1 hS3.2.2.1 20 8 5 14 0 0 (by decide) (by decide) (by decide) (by decide) (fun q => hs4 (wq_2_0.mp q))) rfl rfl (by omega) (Nat.le_of_ble_eq_true rfl) ?_
                                    refine X_if_neN (a := 0) 241 dX12_one_229 (by decide) (by omega) (fun h_68 => ?_) (fun h_68 => ?_)
                                    · exact absurd h_68 (by omega)
                                    · refine X_aload_n dX12_one_232 rfl ?_
                                      refine X_iconst (v := nI 1) dX12_one_233 (by decide) ?_
                                      refine X_aload_n dX12_one_234 rfl ?_
                                      refine X_geti dX12_one_235 fkX12_167 rfl (k_87 hSh) ?_
                                      rw [up2_s]
                                      have hE5 := RHE_of2 (p := skT B n e2) hS4 (show 1 ≤ 1 ∧ 1 ≤ 3 by omega)
                                      refine X_callVV dX12_one_238 mkX12_187 (k_87 hSh) (c_wrong0 Γ g (up2 (ntW m2 ((T ++ t1) ++ t2).length (nI 9) (nI 0)) 87 4 (nI (skT B n e2))) ml hSh hS4.2.2.1 (nI 1) (nI (skT B n e2))) rfl rfl (by omega) (Nat.le_of_ble_eq_true rfl) ?_
                                      refine X_aload_n dX12_one_241 rfl ?_
                                      refine X_callVV dX12_one_242 mkX12_275 (k_87 hSh) (c_sumF Γ g (up2 (up2 (up2 (ntW m2 ((T ++ t1) ++ t2).length (nI 9) (nI 0)) 87 4 (nI (skT B n e2))) 87 5 (nI 1)) 87 6 (nI (skT B n e2))) ml hSh (RHE_f hE5)) rfl rfl (by omega) (Nat.le_of_ble_eq_true rfl) ?_
                                      refine X_aload_n dX12_one_245 rfl ?_
                                      refine X_iconst (v := nI 5) dX12_one_246 (by decide) ?_
                                      refine X_bipush (v := nI 12) dX12_one_247 (by decide) ?_
                                      refine X_bipush (v := nI 19) dX12_one_249 (by decide) ?_
                                      refine X_iconst (v := nI 5) dX12_one_251 (by decide) ?_
                                      refine X_iconst (v := nI 0) dX12_one_252 (by decide) ?_
                                      refine X_iconst (v := nI 0) dX12_one_253 (by decide) ?_
                                      refine X_callVI dX12_one_254 mkX12_268 (k_87 hSh) (c_takesF Γ g (up2 (up2 (up2 (ntW m2 ((T ++ t1) ++ t2).length (nI 9) (nI 0)) 87 4 (nI (skT B n e2))) 87 5 (nI 1)) 87 6 (nI (skT B n e2))) ml hSh (RHE_f hE5) (nI 5) (nI 12) (nI 19) (nI 5) (nI 0) (nI 0)) rfl rfl (by omega) (Nat.le_of_ble_eq_true rfl) ?_
                                      refine X_if_neN (a := 0) 269 dX12_one_257 (by decide) (by omega) (fun h_69 => ?_) (fun h_69 => ?_)
                                      · exact absurd h_69 (by omega)
                                      · refine X_aload_n dX12_one_260 rfl ?_
                                        refine X_iconst (v := nI 1) dX12_one_261 (by decide) ?_
                                        refine X_aload_n dX12_one_262 rfl ?_
                                        refine X_geti dX12_one_263 fkX12_167 rfl (k_87 hSh) ?_
                                        refine X_topi (show (up2 (up2 (up2 (ntW m2 ((T ++ t1) ++ t2).length (nI 9) (nI 0)) 87 4 (nI (skT B n e2))) 87 5 (nI 1)) 87 6 (nI (skT B n e2))) 87 4 = nI (skT B n e2) by rw [up2_n (by omega), up2_n (by omega), up2_s]) ?_
                                        refine X_callVV dX12_one_266 mkX12_187 (k_87 hSh) (c_wrongF Γ g (up2 (up2 (up2 (ntW m2 ((T ++ t1) ++ t2).length (nI 9) (nI 0)) 87 4 (nI (skT B n e2))) 87 5 (nI 1)) 87 6 (nI (skT B n e2))) ml hSh (RHE_f hE5) (nI 1) (nI (skT B n e2))) rfl rfl (by omega) (Nat.le_of_ble_eq_true rfl) ?_
                                        refine X_aload_n dX12_one_269 rfl ?_
                                        refine X_callVV dX12_one_270 mkX12_275 (k_87 hSh) (c_sumF Γ g (up2 (up2 (up2 (ntW m2 ((T ++ t1) ++ t2).length (nI 9) (nI 0)) 87 4 (nI (skT B n e2))) 87 5 (nI 1)) 87 6 (nI (skT B n e2))) ml hSh (RHE_f hE5)) rfl rfl (by omega) (Nat.le_of_ble_eq_true rfl) ?_
                                        refine X_aload_n dX12_one_273 rfl ?_
                                        refine X_bipush (v := nI 12) dX12_one_274 (by decide) ?_
                                        refine X_iconst (v := nI 0) dX12_one_276 (by decide) ?_
                                        refine X_callVV dX12_one_277 mkX12_262 (k_87 hSh) (c_notesF Γ g (up2 (up2 (up2 (ntW m2 ((T ++ t1) ++ t2).length (nI 9) (nI 0)) 87 4 (nI (skT B n e2))) 87 5 (nI 1)) 87 6 (nI (skT B n e2))) ml hSh (RHE_f hE5) (nI 12) (nI 0)) rfl rfl (by omega) (Nat.le_of_ble_eq_true rfl) ?_
                                        refine X_aload_n dX12_one_280 rfl ?_
                                        refine X_dup dX12_one_281 rfl ?_
                                        refine X_geti dX12_one_282 fkX12_217 rfl (k_87 hSh) ?_
                                        refine X_topi (show (up2 (up2 (up2 (ntW m2 ((T ++ t1) ++ t2).length (nI 9) (nI 0)) 87 4 (nI (skT B n e2))) 87 5 (nI 1)) 87 6 (nI (skT B n e2))) 87 8 = nI (op + 1) by rw [up2_n (by omega), up2_n (by omega), up2_n (by omega)]; exact hS3.2.2.2.2.2.2.1) ?_
                                        refine X_iconst (v := nI 1) dX12_one_285 (by decide) ?_
                                        refine X_isub dX12_one_286 ?_
                                        refine X_topi (pk_sub (a := op + 1) (b := 1) (by omega)) ?_
                                        refine X_puti dX12_one_287 fkX12_217 rfl rfl (k_87 hSh) ?_
                                        exact X_vret dX12_one_290 rfl ⟨rfl, rfl, by rw [show unitR (some S) B n i = .error (1, skT B n e2) from by simp only [unitR, pairR, choR, sgK, wdK, bS, hd, hp, hW, hU1, hO, hU2, hs4, if_true, if_false, Bool.false_eq_true, reduceIte, Nat.reduceLT, Nat.reduceSub]]; exact RHE_o hE5, rfl⟩
                              · exact absurd h_61 (nI_m1 (by omega))
                          by_cases q1 : byT B n (skT B n e1) = nI 62
                          · have hO : cmO (byT B n (skT B n e1)) = some 10 := (if_neg q0).trans (if_pos q1)
                            have hlt := by_lt q1
                            have hSq := RST_at hm1 hlt (by omega)
                            refine X_aload_n dX12_one_148 rfl ?_
                            refine X_bipush (v := nI 60) dX12_one_149 (by decide) ?_
                            refine X_callVI dX12_one_151 mkX12_259 (k_87 hSh) (c_takesSign0 Γ g m1 ml hSh B n e1 hm1.1 hm1.2.2.1 (nI 60) q0) rfl rfl (by omega) (Nat.le_of_ble_eq_true rfl) ?_
                            refine X_if_eqN (a := 0) 162 dX12_one_154 (by decide) (by omega) (fun h_70 => ?_) (fun h_70 => ?_)
                            · refine X_aload_n dX12_one_162 rfl ?_
                              refine X_bipush (v := nI 62) dX12_one_163 (by decide) ?_
                              have hts1 := c_takesSign1 Γ g (up2 m1 87 4 (nI (skT B n e1))) ml hSh B n (skT B n e1) hSk.1 hSk.2.2.1 (nI 62) (by rw [skT_sk]; exact q1)
                              rw [skT_sk, up2_up2] at hts1
                              refine X_callVI dX12_one_165 mkX12_259 (k_87 hSh) (hts1) rfl rfl (by omega) (Nat.le_of_ble_eq_true rfl) ?_
                              refine X_if_eqN (a := 1) 176 dX12_one_168 (by decide) (by omega) (fun h_71 => ?_) (fun h_71 => ?_)
                              · exact absurd h_71 (by omega)
                              · refine X_bipush (v := nI 10) dX12_one_171 (by decide) ?_
                                refine X_goto 191 dX12_one_173 (by decide) ?_
                                refine X_istore_n dX12_one_191 (by decide) ?_
                                refine X_iload_n dX12_one_192 rfl ?_
                                refine X_iconst (v := -1) dX12_one_193 (by decide) ?_
                                refine X_icmp_ne 206 dX12_one_194 (by decide) (fun h_72 => ?_) (fun h_72 => ?_)
                                · refine X_aload_n dX12_one_206 rfl ?_
                                  match hU2 : S (skT B n e1 + 1) with
                                  | .error (k2, p2) =>
                                    refine X_callVrV dX12_one_207 mkX12_275 (k_87 hSh) (hU m0 _ (skT B n e1 + 1) (T ++ t1) (a || b1) hSq) rfl rfl (by omega) (Nat.le_of_ble_eq_true rfl) (fun m2 l2 hm2 => ?_)
                                    rw [hU2] at hm2
                                    obtain ⟨hm2, hL2⟩ := hm2
                                    rw [hL2]
                                    refine X_aload_n dX12_one_210 rfl ?_
                                    refine X_iload_n dX12_one_211 rfl ?_
                                    refine X_iconst (v := nI 0) dX12_one_212 (by decide) ?_
                                    refine X_callVV dX12_one_213 mkX12_262 (k_87 hSh) (c_notesF Γ g m2 ml hSh (RHE_f hm2) (nI 10) (nI 0)) rfl rfl (by omega) (Nat.le_of_ble_eq_true rfl) ?_
                                    refine X_aload_n dX12_one_216 rfl ?_
                                    refine X_bipush (v := nI 20) dX12_one_217 (by decide) ?_
                                    refine X_bipush (v := nI 8) dX12_one_219 (by decide) ?_
                                    refine X_iconst (v := nI 5) dX12_one_221 (by decide) ?_
                                    refine X_bipush (v := nI 14) dX12_one_222 (by decide) ?_
                                    refine X_iconst (v := nI 0) dX12_one_224 (by decide) ?_
                                    refine X_iconst (v := nI 0) dX12_one_225 (by decide) ?_
                                    refine X_callVI dX12_one_226 mkX12_268 (k_87 hSh) (c_takesF Γ g m2 ml hSh (RHE_f hm2) (nI 20) (nI 8) (nI 5) (nI 14) (nI 0) (nI 0)) rfl rfl (by omega) (Nat.le_of_ble_eq_true rfl) ?_
                                    refine X_if_neN (a := 0) 241 dX12_one_229 (by decide) (by omega) (fun h_73 => ?_) (fun h_73 => ?_)
                                    · exact absurd h_73 (by omega)
                                    · refine X_aload_n dX12_one_232 rfl ?_
                                      refine X_iconst (v := nI 1) dX12_one_233 (by decide) ?_
                                      refine X_aload_n dX12_one_234 rfl ?_
                                      refine X_geti dX12_one_235 fkX12_167 rfl (k_87 hSh) ?_
                                      refine X_callVV dX12_one_238 mkX12_187 (k_87 hSh) (c_wrongF Γ g m2 ml hSh (RHE_f hm2) (nI 1) (m2 87 4)) rfl rfl (by omega) (Nat.le_of_ble_eq_true rfl) ?_
                                      refine X_aload_n dX12_one_241 rfl ?_
                                      refine X_callVV dX12_one_242 mkX12_275 (k_87 hSh) (c_sumF Γ g m2 ml hSh (RHE_f hm2)) rfl rfl (by omega) (Nat.le_of_ble_eq_true rfl) ?_
                                      refine X_aload_n dX12_one_245 rfl ?_
                                      refine X_iconst (v := nI 5) dX12_one_246 (by decide) ?_
                                      refine X_bipush (v := nI 12) dX12_one_247 (by decide) ?_
                                      refine X_bipush (v := nI 19) dX12_one_249 (by decide) ?_
                                      refine X_iconst (v := nI 5) dX12_one_251 (by decide) ?_
                                      refine X_iconst (v := nI 0) dX12_one_252 (by decide) ?_
                                      refine X_iconst (v := nI 0) dX12_one_253 (by decide) ?_
                                      refine X_callVI dX12_one_254 mkX12_268 (k_87 hSh) (c_takesF Γ g m2 ml hSh (RHE_f hm2) (nI 5) (nI 12) (nI 19) (nI 5) (nI 0) (nI 0)) rfl rfl (by omega) (Nat.le_of_ble_eq_true rfl) ?_
                                      refine X_if_neN (a := 0) 269 dX12_one_257 (by decide) (by omega) (fun h_74 => ?_) (fun h_74 => ?_)
                                      · exact absurd h_74 (by omega)
                                      · refine X_aload_n dX12_one_260 rfl ?_
                                        refine X_iconst (v := nI 1) dX12_one_261 (by decide) ?_
                                        refine X_aload_n dX12_one_262 rfl ?_
                                        refine X_geti dX12_one_263 fkX12_167 rfl (k_87 hSh) ?_
                                        refine X_callVV dX12_one_266 mkX12_187 (k_87 hSh) (c_wrongF Γ g m2 ml hSh (RHE_f hm2) (nI 1) (m2 87 4)) rfl rfl (by omega) (Nat.le_of_ble_eq_true rfl) ?_
                                        refine X_aload_n dX12_one_269 rfl ?_
                                        refine X_callVV dX12_one_270 mkX12_275 (k_87 hSh) (c_sumF Γ g m2 ml hSh (RHE_f hm2)) rfl rfl (by omega) (Nat.le_of_ble_eq_true rfl) ?_
                                        refine X_aload_n dX12_one_273 rfl ?_
                                        refine X_bipush (v := nI 12) dX12_one_274 (by decide) ?_
                                        refine X_iconst (v := nI 0) dX12_one_276 (by decide) ?_
                                        refine X_callVV dX12_one_277 mkX12_262 (k_87 hSh) (c_notesF Γ g m2 ml hSh (RHE_f hm2) (nI 12) (nI 0)) rfl rfl (by omega) (Nat.le_of_ble_eq_true rfl) ?_
                                        refine X_aload_n dX12_one_280 rfl ?_
                                        refine X_dup dX12_one_281 rfl ?_
                                        refine X_geti dX12_one_282 fkX12_217 rfl (k_87 hSh) ?_
                                        refine X_iconst (v := nI 1) dX12_one_285 (by decide) ?_
                                        refine X_isub dX12_one_286 ?_
                                        refine X_puti dX12_one_287 fkX12_217 rfl rfl (k_87 hSh) ?_
                                        exact X_vret dX12_one_290 rfl ⟨rfl, rfl, by rw [show unitR (some S) B n i = .error (k2, p2) from by simp only [unitR, pairR, choR, sgK, wdK, bS, hd, hp, hW, hU1, hO, hU2, if_true, if_false, Bool.false_eq_true, reduceIte, Nat.reduceLT, Nat.reduceSub]]; exact RHE_o hm2, rfl⟩
                                  | .ok (e2, t2, b2) =>
                                    obtain ⟨hb2, hc2, hd2⟩ := (hUO _ hSq.1.2.1).1 e2 t2 b2 hU2
                                    refine X_callVrV dX12_one_207 mkX12_275 (k_87 hSh) (hU m0 _ (skT B n e1 + 1) (T ++ t1) (a || b1) hSq) rfl rfl (by omega) (Nat.le_of_ble_eq_true rfl) (fun m2 l2 hm2 => ?_)
                                    rw [hU2] at hm2
                                    obtain ⟨hm2, hL2⟩ := hm2
                                    rw [hL2]
                                    have hlen2 := List.length_append (as := T ++ t1) (bs := t2)
                                    refine X_aload_n dX12_one_210 rfl ?_
                                    refine X_iload_n dX12_one_211 rfl ?_
                                    refine X_iconst (v := nI 0) dX12_one_212 (by decide) ?_
                                    have h153 := hm2.2.1
                                    have hlb3 := hm2.2.2.2.2.2.2.2.1
                                    have hlc3 := hm2.1.2.1
                                    have hle3 : ((T ++ t1) ++ t2).length + 1 ≤ e2 := by omega
                                    have hS3 := RST_nt (t := (10, 0)) (u := nI 10) (v := nI 0) hm2 hle3 rfl rfl
                                    have hlen3 := List.length_append (as := (T ++ t1) ++ t2) (bs := [(10, 0)])
                                    rw [List.length_singleton] at hlen3
                                    refine X_callVV dX12_one_213 mkX12_262 (k_87 hSh) (c_notes Γ g m2 ml hSh hm2.2.2.1 _ hm2.2.2.2.1 (by omega) (nI 10) (nI 0)) rfl rfl (by omega) (Nat.le_of_ble_eq_true rfl) ?_
                                    refine X_aload_n dX12_one_216 rfl ?_
                                    refine X_bipush (v := nI 20) dX12_one_217 (by decide) ?_
                                    refine X_bipush (v := nI 8) dX12_one_219 (by decide) ?_
                                    refine X_iconst (v := nI 5) dX12_one_221 (by decide) ?_
                                    refine X_bipush (v := nI 14) dX12_one_222 (by decide) ?_
                                    refine X_iconst (v := nI 0) dX12_one_224 (by decide) ?_
                                    refine X_iconst (v := nI 0) dX12_one_225 (by decide) ?_
                                    by_cases hs4 : wIx 2 B n (skT B n e2) = some 0
                                    ·
                                      have hl4 := wdT_le (B := B) (skT_le (B := B) hS3.1.2.1)
                                      have hg4 := skT_ge (B := B) (n := n) (i := e2)
                                      have hx4 := wdT_gt (by decide) hs4
                                      have hS4 := RST_at hS3 hl4 (by omega)
                                      refine X_callVI dX12_one_226 mkX12_268 (k_87 hSh) (c_takes1 Γ g (ntW m2 ((T ++ t1) ++ t2).length (nI 10) (nI 0)) ml hSh B n e2 hS3.1 hS3.2.2.1 20 8 5 14 0 0 (by decide) (by decide) (by decide) (by decide) (wq_2_0.mpr hs4)) rfl rfl (by omega) (Nat.le_of_ble_eq_true rfl) ?_
                                      refine X_if_neN (a := 1) 241 dX12_one_229 (by decide) (by omega) (fun h_75 => ?_) (fun h_75 => ?_)
                                      · refine X_aload_n dX12_one_241 rfl ?_
                                        match hU5 : S (wdT B n (skT B n e2)) with
                                        | .error (k5, p5) =>
                                          refine X_callVrV dX12_one_242 mkX12_275 (k_87 hSh) (hU m0 _ (wdT B n (skT B n e2)) (((T ++ t1) ++ t2) ++ [(10, 0)]) ((a || b1) || b2) hS4) rfl rfl (by omega) (Nat.le_of_ble_eq_true rfl) (fun m5 l5 hm5 => ?_)
                                          rw [hU5] at hm5
                                          obtain ⟨hm5, hL5⟩ := hm5
                                          rw [hL5]
                                          refine X_aload_n dX12_one_245 rfl ?_
                                          refine X_iconst (v := nI 5) dX12_one_246 (by decide) ?_
                                          refine X_bipush (v := nI 12) dX12_one_247 (by decide) ?_
                                          refine X_bipush (v := nI 19) dX12_one_249 (by decide) ?_
                                          refine X_iconst (v := nI 5) dX12_one_251 (by decide) ?_
                                          refine X_iconst (v := nI 0) dX12_one_252 (by decide) ?_
                                          refine X_iconst (v := nI 0) dX12_one_253 (by decide) ?_
                                          refine X_callVI dX12_one_254 mkX12_268 (k_87 hSh) (c_takesF Γ g m5 ml hSh (RHE_f hm5) (nI 5) (nI 12) (nI 19) (nI 5) (nI 0) (nI 0)) rfl rfl (by omega) (Nat.le_of_ble_eq_true rfl) ?_
                                          refine X_if_neN (a := 0) 269 dX12_one_257 (by decide) (by omega) (fun h_76 => ?_) (fun h_76 => ?_)
                                          · exact absurd h_76 (by omega)
                                          · refine X_aload_n dX12_one_260 rfl ?_
                                            refine X_iconst (v := nI 1) dX12_one_261 (by decide) ?_
                                            refine X_aload_n dX12_one_262 rfl ?_
                                            refine X_geti dX12_one_263 fkX12_167 rfl (k_87 hSh) ?_
                                            refine X_callVV dX12_one_266 mkX12_187 (k_87 hSh) (c_wrongF Γ g m5 ml hSh (RHE_f hm5) (nI 1) (m5 87 4)) rfl rfl (by omega) (Nat.le_of_ble_eq_true rfl) ?_
                                            refine X_aload_n dX12_one_269 rfl ?_
                                            refine X_callVV dX12_one_270 mkX12_275 (k_87 hSh) (c_sumF Γ g m5 ml hSh (RHE_f hm5)) rfl rfl (by omega) (Nat.le_of_ble_eq_true rfl) ?_
                                            refine X_aload_n dX12_one_273 rfl ?_
                                            refine X_bipush (v := nI 12) dX12_one_274 (by decide) ?_
                                            refine X_iconst (v := nI 0) dX12_one_276 (by decide) ?_
                                            refine X_callVV dX12_one_277 mkX12_262 (k_87 hSh) (c_notesF Γ g m5 ml hSh (RHE_f hm5) (nI 12) (nI 0)) rfl rfl (by omega) (Nat.le_of_ble_eq_true rfl) ?_
                                            refine X_aload_n dX12_one_280 rfl ?_
                                            refine X_dup dX12_one_281 rfl ?_
                                            refine X_geti dX12_one_282 fkX12_217 rfl (k_87 hSh) ?_
                                            refine X_iconst (v := nI 1) dX12_one_285 (by decide) ?_
                                            refine X_isub dX12_one_286 ?_
                                            refine X_puti dX12_one_287 fkX12_217 rfl rfl (k_87 hSh) ?_
                                            exact X_vret dX12_one_290 rfl ⟨rfl, rfl, by rw [show unitR (some S) B n i = .error (k5, p5) from by simp only [unitR, pairR, choR, sgK, wdK, bS, hd, hp, hW, hU1, hO, hU2, hs4, hU5, if_true, if_false, Bool.false_eq_true, reduceIte, Nat.reduceLT, Nat.reduceSub]]; exact RHE_o hm5, rfl⟩
                                        | .ok (e5, t5, b5) =>
                                          obtain ⟨hb5, hc5, hd5⟩ := (hUO _ hS4.1.2.1).1 e5 t5 b5 hU5
                                          refine X_callVrV dX12_one_242 mkX12_275 (k_87 hSh) (hU m0 _ (wdT B n (skT B n e2)) (((T ++ t1) ++ t2) ++ [(10, 0)]) ((a || b1) || b2) hS4) rfl rfl (by omega) (Nat.le_of_ble_eq_true rfl) (fun m5 l5 hm5 => ?_)
                                          rw [hU5] at hm5
                                          obtain ⟨hm5, hL5⟩ := hm5
                                          rw [hL5]
                                          have hlen5 := List.length_append (as := ((T ++ t1) ++ t2) ++ [(10, 0)]) (bs := t5)
                                          refine X_aload_n dX12_one_245 rfl ?_
                                          refine X_iconst (v := nI 5) dX12_one_246 (by decide) ?_
                                          refine X_bipush (v := nI 12) dX12_one_247 (by decide) ?_
                                          refine X_bipush (v := nI 19) dX12_one_249 (by decide) ?_
                                          refine X_iconst (v := nI 5) dX12_one_251 (by decide) ?_
                                          refine X_iconst (v := nI 0) dX12_one_252 (by decide) ?_
                                          refine X_iconst (v := nI 0) dX12_one_253 (by decide) ?_
                                          by_cases hs6 : wIx 3 B n (skT B n e5) = some 0
                                          ·
                                            have hl6 := wdT_le (B := B) (skT_le (B := B) hm5.1.2.1)
                                            have hg6 := skT_ge (B := B) (n := n) (i := e5)
                                            have hx6 := wdT_gt (by decide) hs6
                                            have hS6 := RST_at hm5 hl6 (by omega)
                                            refine X_callVI dX12_one_254 mkX12_268 (k_87 hSh) (c_takes1 Γ g m5 ml hSh B n e5 hm5.1 hm5.2.2.1 5 12 19 5 0 0 (by decide) (by decide) (by decide) (by decide) (wq_3_0.mpr hs6)) rfl rfl (by omega) (Nat.le_of_ble_eq_true rfl) ?_
                                            refine X_if_neN (a := 1) 269 dX12_one_257 (by decide) (by omega) (fun h_77 => ?_) (fun h_77 => ?_)
                                            · refine X_aload_n dX12_one_269 rfl ?_
                                              match hU7 : S (wdT B n (skT B n e5)) with
                                              | .error (k7, p7) =>
                                                refine X_callVrV dX12_one_270 mkX12_275 (k_87 hSh) (hU m0 _ (wdT B n (skT B n e5)) ((((T ++ t1) ++ t2) ++ [(10, 0)]) ++ t5) (((a || b1) || b2) || b5) hS6) rfl rfl (by omega) (Nat.le_of_ble_eq_true rfl) (fun m7 l7 hm7 => ?_)
                                                rw [hU7] at hm7
                                                obtain ⟨hm7, hL7⟩ := hm7
                                                rw [hL7]
                                                refine X_aload_n dX12_one_273 rfl ?_
                                                refine X_bipush (v := nI 12) dX12_one_274 (by decide) ?_
                                                refine X_iconst (v := nI 0) dX12_one_276 (by decide) ?_
                                                refine X_callVV dX12_one_277 mkX12_262 (k_87 hSh) (c_notesF Γ g m7 ml hSh (RHE_f hm7) (nI 12) (nI 0)) rfl rfl (by omega) (Nat.le_of_ble_eq_true rfl) ?_
                                                refine X_aload_n dX12_one_280 rfl ?_
                                                refine X_dup dX12_one_281 rfl ?_
                                                refine X_geti dX12_one_282 fkX12_217 rfl (k_87 hSh) ?_
                                                refine X_iconst (v := nI 1) dX12_one_285 (by decide) ?_
                                                refine X_isub dX12_one_286 ?_
                                                refine X_puti dX12_one_287 fkX12_217 rfl rfl (k_87 hSh) ?_
                                                exact X_vret dX12_one_290 rfl ⟨rfl, rfl, by rw [show unitR (some S) B n i = .error (k7, p7) from by simp only [unitR, pairR, choR, sgK, wdK, bS, hd, hp, hW, hU1, hO, hU2, hs4, hU5, hs6, hU7, if_true, if_false, Bool.false_eq_true, reduceIte, Nat.reduceLT, Nat.reduceSub]]; exact RHE_o hm7, rfl⟩
                                              | .ok (e7, t7, b7) =>
                                                obtain ⟨hb7, hc7, hd7⟩ := (hUO _ hS6.1.2.1).1 e7 t7 b7 hU7
                                                refine X_callVrV dX12_one_270 mkX12_275 (k_87 hSh) (hU m0 _ (wdT B n (skT B n e5)) ((((T ++ t1) ++ t2) ++ [(10, 0)]) ++ t5) (((a || b1) || b2) || b5) hS6) rfl rfl (by omega) (Nat.le_of_ble_eq_true rfl) (fun m7 l7 hm7 => ?_)
                                                rw [hU7] at hm7
                                                obtain ⟨hm7, hL7⟩ := hm7
                                                rw [hL7]
                                                have hlen7 := List.length_append (as := (((T ++ t1) ++ t2) ++ [(10, 0)]) ++ t5) (bs := t7)
                                                refine X_aload_n dX12_one_273 rfl ?_
                                                refine X_bipush (v := nI 12) dX12_one_274 (by decide) ?_
                                                refine X_iconst (v := nI 0) dX12_one_276 (by decide) ?_
                                                have h158 := hm7.2.1
                                                have hlb8 := hm7.2.2.2.2.2.2.2.1
                                                have hlc8 := hm7.1.2.1
                                                have hle8 : (((((T ++ t1) ++ t2) ++ [(10, 0)]) ++ t5) ++ t7).length + 1 ≤ e7 := by omega
                                                have hS8 := RST_nt (t := (12, 0)) (u := nI 12) (v := nI 0) hm7 hle8 rfl rfl
                                                have hlen8 := List.length_append (as := ((((T ++ t1) ++ t2) ++ [(10, 0)]) ++ t5) ++ t7) (bs := [(12, 0)])
                                                rw [List.length_singleton] at hlen8
                                                refine X_callVV dX12_one_277 mkX12_262 (k_87 hSh) (c_notes Γ g m7 ml hSh hm7.2.2.1 _ hm7.2.2.2.1 (by omega) (nI 12) (nI 0)) rfl rfl (by omega) (Nat.le_of_ble_eq_true rfl) ?_
                                                refine X_aload_n dX12_one_280 rfl ?_
                                                refine X_dup dX12_one_281 rfl ?_
                                                refine X_geti dX12_one_282 fkX12_217 rfl (k_87 hSh) ?_
                                                rw [hS8.2.2.2.2.2.2.1]
                                                refine X_iconst (v := nI 1) dX12_one_285 (by decide) ?_
                                                refine X_isub dX12_one_286 ?_
                                                refine X_topi (pk_sub (a := op + 1) (b := 1) (by omega)) ?_
                                                refine X_puti dX12_one_287 fkX12_217 rfl rfl (k_87 hSh) ?_
                                                exact X_vret dX12_one_290 rfl ⟨rfl, rfl, by rw [show unitR (some S) B n i = .ok (e7, t1 ++ (t2 ++ ((10, 0) :: (t5 ++ (t7 ++ [(12, 0)])))), b1 || (b2 || (b5 || b7))) from by simp only [unitR, pairR, choR, sgK, wdK, bS, hd, hp, hW, hU1, hO, hU2, hs4, hU5, hs6, hU7, if_true, if_false, Bool.false_eq_true, reduceIte, Nat.reduceLT, Nat.reduceSub]]; exact RST_eq (RST_o hS8 rfl) (by simp [List.append_assoc]) (by simp [Bool.or_assoc]), rfl⟩
                                            · exact absurd h_77 (by omega)
                                          ·
                                            have hS6 := RST_at hm5 (skT_le (B := B) hm5.1.2.1) skT_ge
                                            refine X_callVI dX12_one_254 mkX12_268 (k_87 hSh) (c_takes0 Γ g m5 ml hSh B n e5 hm5.1 hm5.2.2.1 5 12 19 5 0 0 (by decide) (by decide) (by decide) (by decide) (fun q => hs6 (wq_3_0.mp q))) rfl rfl (by omega) (Nat.le_of_ble_eq_true rfl) ?_
                                            refine X_if_neN (a := 0) 269 dX12_one_257 (by decide) (by omega) (fun h_78 => ?_) (fun h_78 => ?_)
                                            · exact absurd h_78 (by omega)
                                            · refine X_aload_n dX12_one_260 rfl ?_
                                              refine X_iconst (v := nI 1) dX12_one_261 (by decide) ?_
                                              refine X_aload_n dX12_one_262 rfl ?_
                                              refine X_geti dX12_one_263 fkX12_167 rfl (k_87 hSh) ?_
                                              rw [up2_s]
                                              have hE7 := RHE_of2 (p := skT B n e5) hS6 (show 1 ≤ 1 ∧ 1 ≤ 3 by omega)
                                              refine X_callVV dX12_one_266 mkX12_187 (k_87 hSh) (c_wrong0 Γ g (up2 m5 87 4 (nI (skT B n e5))) ml hSh hS6.2.2.1 (nI 1) (nI (skT B n e5))) rfl rfl (by omega) (Nat.le_of_ble_eq_true rfl) ?_
                                              refine X_aload_n dX12_one_269 rfl ?_
                                              refine X_callVV dX12_one_270 mkX12_275 (k_87 hSh) (c_sumF Γ g (up2 (up2 (up2 m5 87 4 (nI (skT B n e5))) 87 5 (nI 1)) 87 6 (nI (skT B n e5))) ml hSh (RHE_f hE7)) rfl rfl (by omega) (Nat.le_of_ble_eq_true rfl) ?_
                                              refine X_aload_n dX12_one_273 rfl ?_
                                              refine X_bipush (v := nI 12) dX12_one_274 (by decide) ?_
                                              refine X_iconst (v := nI 0) dX12_one_276 (by decide) ?_
                                              refine X_callVV dX12_one_277 mkX12_262 (k_87 hSh) (c_notesF Γ g (up2 (up2 (up2 m5 87 4 (nI (skT B n e5))) 87 5 (nI 1)) 87 6 (nI (skT B n e5))) ml hSh (RHE_f hE7) (nI 12) (nI 0)) rfl rfl (by omega) (Nat.le_of_ble_eq_true rfl) ?_
                                              refine X_aload_n dX12_one_280 rfl ?_
                                              refine X_dup dX12_one_281 rfl ?_
                                              refine X_geti dX12_one_282 fkX12_217 rfl (k_87 hSh) ?_
                                              refine X_topi (show (up2 (up2 (up2 m5 87 4 (nI (skT B n e5))) 87 5 (nI 1)) 87 6 (nI (skT B n e5))) 87 8 = nI (op + 1) by rw [up2_n (by omega), up2_n (by omega), up2_n (by omega)]; exact hm5.2.2.2.2.2.2.1) ?_
                                              refine X_iconst (v := nI 1) dX12_one_285 (by decide) ?_
                                              refine X_isub dX12_one_286 ?_
                                              refine X_topi (pk_sub (a := op + 1) (b := 1) (by omega)) ?_
                                              refine X_puti dX12_one_287 fkX12_217 rfl rfl (k_87 hSh) ?_
                                              exact X_vret dX12_one_290 rfl ⟨rfl, rfl, by rw [show unitR (some S) B n i = .error (1, skT B n e5) from by simp only [unitR, pairR, choR, sgK, wdK, bS, hd, hp, hW, hU1, hO, hU2, hs4, hU5, hs6, if_true, if_false, Bool.false_eq_true, reduceIte, Nat.reduceLT, Nat.reduceSub]]; exact RHE_o hE7, rfl⟩
                                      · exact absurd h_75 (by omega)
                                    ·
                                      have hS4 := RST_at hS3 (skT_le (B := B) hS3.1.2.1) skT_ge
                                      refine X_callVI dX12_one_226 mkX12_268 (k_87 hSh) (c_takes0 Γ g (ntW m2 ((T ++ t1) ++ t2).length (nI 10) (nI 0)) ml hSh B n e2 hS3.1 hS3.2.2.1 20 8 5 14 0 0 (by decide) (by decide) (by decide) (by decide) (fun q => hs4 (wq_2_0.mp q))) rfl rfl (by omega) (Nat.le_of_ble_eq_true rfl) ?_
                                      refine X_if_neN (a := 0) 241 dX12_one_229 (by decide) (by omega) (fun h_79 => ?_) (fun h_79 => ?_)
                                      · exact absurd h_79 (by omega)
                                      · refine X_aload_n dX12_one_232 rfl ?_
                                        refine X_iconst (v := nI 1) dX12_one_233 (by decide) ?_
                                        refine X_aload_n dX12_one_234 rfl ?_
                                        refine X_geti dX12_one_235 fkX12_167 rfl (k_87 hSh) ?_
                                        rw [up2_s]
                                        have hE5 := RHE_of2 (p := skT B n e2) hS4 (show 1 ≤ 1 ∧ 1 ≤ 3 by omega)
                                        refine X_callVV dX12_one_238 mkX12_187 (k_87 hSh) (c_wrong0 Γ g (up2 (ntW m2 ((T ++ t1) ++ t2).length (nI 10) (nI 0)) 87 4 (nI (skT B n e2))) ml hSh hS4.2.2.1 (nI 1) (nI (skT B n e2))) rfl rfl (by omega) (Nat.le_of_ble_eq_true rfl) ?_
                                        refine X_aload_n dX12_one_241 rfl ?_
                                        refine X_callVV dX12_one_242 mkX12_275 (k_87 hSh) (c_sumF Γ g (up2 (up2 (up2 (ntW m2 ((T ++ t1) ++ t2).length (nI 10) (nI 0)) 87 4 (nI (skT B n e2))) 87 5 (nI 1)) 87 6 (nI (skT B n e2))) ml hSh (RHE_f hE5)) rfl rfl (by omega) (Nat.le_of_ble_eq_true rfl) ?_
                                        refine X_aload_n dX12_one_245 rfl ?_
                                        refine X_iconst (v := nI 5) dX12_one_246 (by decide) ?_
                                        refine X_bipush (v := nI 12) dX12_one_247 (by decide) ?_
                                        refine X_bipush (v := nI 19) dX12_one_249 (by decide) ?_
                                        refine X_iconst (v := nI 5) dX12_one_251 (by decide) ?_
                                        refine X_iconst (v := nI 0) dX12_one_252 (by decide) ?_
                                        refine X_iconst (v := nI 0) dX12_one_253 (by decide) ?_
                                        refine X_callVI dX12_one_254 mkX12_268 (k_87 hSh) (c_takesF Γ g (up2 (up2 (up2 (ntW m2 ((T ++ t1) ++ t2).length (nI 10) (nI 0)) 87 4 (nI (skT B n e2))) 87 5 (nI 1)) 87 6 (nI (skT B n e2))) ml hSh (RHE_f hE5) (nI 5) (nI 12) (nI 19) (nI 5) (nI 0) (nI 0)) rfl rfl (by omega) (Nat.le_of_ble_eq_true rfl) ?_
                                        refine X_if_neN (a := 0) 269 dX12_one_257 (by decide) (by omega) (fun h_80 => ?_) (fun h_80 => ?_)
                                        · exact absurd h_80 (by omega)
                                        · refine X_aload_n dX12_one_260 rfl ?_
                                          refine X_iconst (v := nI 1) dX12_one_261 (by decide) ?_
                                          refine X_aload_n dX12_one_262 rfl ?_
                                          refine X_geti dX12_one_263 fkX12_167 rfl (k_87 hSh) ?_
                                          refine X_topi (show (up2 (up2 (up2 (ntW m2 ((T ++ t1) ++ t2).length (nI 10) (nI 0)) 87 4 (nI (skT B n e2))) 87 5 (nI 1)) 87 6 (nI (skT B n e2))) 87 4 = nI (skT B n e2) by rw [up2_n (by omega), up2_n (by omega), up2_s]) ?_
                                          refine X_callVV dX12_one_266 mkX12_187 (k_87 hSh) (c_wrongF Γ g (up2 (up2 (up2 (ntW m2 ((T ++ t1) ++ t2).length (nI 10) (nI 0)) 87 4 (nI (skT B n e2))) 87 5 (nI 1)) 87 6 (nI (skT B n e2))) ml hSh (RHE_f hE5) (nI 1) (nI (skT B n e2))) rfl rfl (by omega) (Nat.le_of_ble_eq_true rfl) ?_
                                          refine X_aload_n dX12_one_269 rfl ?_
                                          refine X_callVV dX12_one_270 mkX12_275 (k_87 hSh) (c_sumF Γ g (up2 (up2 (up2 (ntW m2 ((T ++ t1) ++ t2).length (nI 10) (nI 0)) 87 4 (nI (skT B n e2))) 87 5 (nI 1)) 87 6 (nI (skT B n e2))) ml hSh (RHE_f hE5)) rfl rfl (by omega) (Nat.le_of_ble_eq_true rfl) ?_
                                          refine X_aload_n dX12_one_273 rfl ?_
                                          refine X_bipush (v := nI 12) dX12_one_274 (by decide) ?_
                                          refine X_iconst (v := nI 0) dX12_one_276 (by decide) ?_
                                          refine X_callVV dX12_one_277 mkX12_262 (k_87 hSh) (c_notesF Γ g (up2 (up2 (up2 (ntW m2 ((T ++ t1) ++ t2).length (nI 10) (nI 0)) 87 4 (nI (skT B n e2))) 87 5 (nI 1)) 87 6 (nI (skT B n e2))) ml hSh (RHE_f hE5) (nI 12) (nI 0)) rfl rfl (by omega) (Nat.le_of_ble_eq_true rfl) ?_
                                          refine X_aload_n dX12_one_280 rfl ?_
                                          refine X_dup dX12_one_281 rfl ?_
                                          refine X_geti dX12_one_282 fkX12_217 rfl (k_87 hSh) ?_
                                          refine X_topi (show (up2 (up2 (up2 (ntW m2 ((T ++ t1) ++ t2).length (nI 10) (nI 0)) 87 4 (nI (skT B n e2))) 87 5 (nI 1)) 87 6 (nI (skT B n e2))) 87 8 = nI (op + 1) by rw [up2_n (by omega), up2_n (by omega), up2_n (by omega)]; exact hS3.2.2.2.2.2.2.1) ?_
                                          refine X_iconst (v := nI 1) dX12_one_285 (by decide) ?_
                                          refine X_isub dX12_one_286 ?_
                                          refine X_topi (pk_sub (a := op + 1) (b := 1) (by omega)) ?_
                                          refine X_puti dX12_one_287 fkX12_217 rfl rfl (k_87 hSh) ?_
                                          exact X_vret dX12_one_290 rfl ⟨rfl, rfl, by rw [show unitR (some S) B n i = .error (1, skT B n e2) from by simp only [unitR, pairR, choR, sgK, wdK, bS, hd, hp, hW, hU1, hO, hU2, hs4, if_true, if_false, Bool.false_eq_true, reduceIte, Nat.reduceLT, Nat.reduceSub]]; exact RHE_o hE5, rfl⟩
                                · exact absurd h_72 (nI_m1 (by omega))
                            · exact absurd h_70 (by omega)
                          by_cases q2 : byT B n (skT B n e1) = nI 61
                          · have hO : cmO (byT B n (skT B n e1)) = some 11 := (if_neg q0).trans ((if_neg q1).trans (if_pos q2))
                            have hlt := by_lt q2
                            have hSq := RST_at hm1 hlt (by omega)
                            refine X_aload_n dX12_one_148 rfl ?_
                            refine X_bipush (v := nI 60) dX12_one_149 (by decide) ?_
                            refine X_callVI dX12_one_151 mkX12_259 (k_87 hSh) (c_takesSign0 Γ g m1 ml hSh B n e1 hm1.1 hm1.2.2.1 (nI 60) q0) rfl rfl (by omega) (Nat.le_of_ble_eq_true rfl) ?_
                            refine X_if_eqN (a := 0) 162 dX12_one_154 (by decide) (by omega) (fun h_81 => ?_) (fun h_81 => ?_)
                            · refine X_aload_n dX12_one_162 rfl ?_
                              refine X_bipush (v := nI 62) dX12_one_163 (by decide) ?_
                              have hts1 := c_takesSign0 Γ g (up2 m1 87 4 (nI (skT B n e1))) ml hSh B n (skT B n e1) hSk.1 hSk.2.2.1 (nI 62) (by rw [skT_sk]; exact q1)
                              rw [skT_sk, up2_up2] at hts1
                              refine X_callVI dX12_one_165 mkX12_259 (k_87 hSh) (hts1) rfl rfl (by omega) (Nat.le_of_ble_eq_true rfl) ?_
                              refine X_if_eqN (a := 0) 176 dX12_one_168 (by decide) (by omega) (fun h_82 => ?_) (fun h_82 => ?_)
                              · refine X_aload_n dX12_one_176 rfl ?_
                                refine X_bipush (v := nI 61) dX12_one_177 (by decide) ?_
                                have hts2 := c_takesSign1 Γ g (up2 m1 87 4 (nI (skT B n e1))) ml hSh B n (skT B n e1) hSk.1 hSk.2.2.1 (nI 61) (by rw [skT_sk]; exact q2)
                                rw [skT_sk, up2_up2] at hts2
                                refine X_callVI dX12_one_179 mkX12_259 (k_87 hSh) (hts2) rfl rfl (by omega) (Nat.le_of_ble_eq_true rfl) ?_
                                refine X_if_eqN (a := 1) 190 dX12_one_182 (by decide) (by omega) (fun h_83 => ?_) (fun h_83 => ?_)
                                · exact absurd h_83 (by omega)
                                · refine X_bipush (v := nI 11) dX12_one_185 (by decide) ?_
                                  refine X_goto 191 dX12_one_187 (by decide) ?_
                                  refine X_istore_n dX12_one_191 (by decide) ?_
                                  refine X_iload_n dX12_one_192 rfl ?_
                                  refine X_iconst (v := -1) dX12_one_193 (by decide) ?_
                                  refine X_icmp_ne 206 dX12_one_194 (by decide) (fun h_84 => ?_) (fun h_84 => ?_)
                                  · refine X_aload_n dX12_one_206 rfl ?_
                                    match hU2 : S (skT B n e1 + 1) with
                                    | .error (k2, p2) =>
                                      refine X_callVrV dX12_one_207 mkX12_275 (k_87 hSh) (hU m0 _ (skT B n e1 + 1) (T ++ t1) (a || b1) hSq) rfl rfl (by omega) (Nat.le_of_ble_eq_true rfl) (fun m2 l2 hm2 => ?_)
                                      rw [hU2] at hm2
                                      obtain ⟨hm2, hL2⟩ := hm2
                                      rw [hL2]
                                      refine X_aload_n dX12_one_210 rfl ?_
                                      refine X_iload_n dX12_one_211 rfl ?_
                                      refine X_iconst (v := nI 0) dX12_one_212 (by decide) ?_
                                      refine X_callVV dX12_one_213 mkX12_262 (k_87 hSh) (c_notesF Γ g m2 ml hSh (RHE_f hm2) (nI 11) (nI 0)) rfl rfl (by omega) (Nat.le_of_ble_eq_true rfl) ?_
                                      refine X_aload_n dX12_one_216 rfl ?_
                                      refine X_bipush (v := nI 20) dX12_one_217 (by decide) ?_
                                      refine X_bipush (v := nI 8) dX12_one_219 (by decide) ?_
                                      refine X_iconst (v := nI 5) dX12_one_221 (by decide) ?_
                                      refine X_bipush (v := nI 14) dX12_one_222 (by decide) ?_
                                      refine X_iconst (v := nI 0) dX12_one_224 (by decide) ?_
                                      refine X_iconst (v := nI 0) dX12_one_225 (by decide) ?_
                                      refine X_callVI dX12_one_226 mkX12_268 (k_87 hSh) (c_takesF Γ g m2 ml hSh (RHE_f hm2) (nI 20) (nI 8) (nI 5) (nI 14) (nI 0) (nI 0)) rfl rfl (by omega) (Nat.le_of_ble_eq_true rfl) ?_
                                      refine X_if_neN (a := 0) 241 dX12_one_229 (by decide) (by omega) (fun h_85 => ?_) (fun h_85 => ?_)
                                      · exact absurd h_85 (by omega)
                                      · refine X_aload_n dX12_one_232 rfl ?_
                                        refine X_iconst (v := nI 1) dX12_one_233 (by decide) ?_
                                        refine X_aload_n dX12_one_234 rfl ?_
                                        refine X_geti dX12_one_235 fkX12_167 rfl (k_87 hSh) ?_
                                        refine X_callVV dX12_one_238 mkX12_187 (k_87 hSh) (c_wrongF Γ g m2 ml hSh (RHE_f hm2) (nI 1) (m2 87 4)) rfl rfl (by omega) (Nat.le_of_ble_eq_true rfl) ?_
                                        refine X_aload_n dX12_one_241 rfl ?_
                                        refine X_callVV dX12_one_242 mkX12_275 (k_87 hSh) (c_sumF Γ g m2 ml hSh (RHE_f hm2)) rfl rfl (by omega) (Nat.le_of_ble_eq_true rfl) ?_
                                        refine X_aload_n dX12_one_245 rfl ?_
                                        refine X_iconst (v := nI 5) dX12_one_246 (by decide) ?_
                                        refine X_bipush (v := nI 12) dX12_one_247 (by decide) ?_
                                        refine X_bipush (v := nI 19) dX12_one_249 (by decide) ?_
                                        refine X_iconst (v := nI 5) dX12_one_251 (by decide) ?_
                                        refine X_iconst (v := nI 0) dX12_one_252 (by decide) ?_
                                        refine X_iconst (v := nI 0) dX12_one_253 (by decide) ?_
                                        refine X_callVI dX12_one_254 mkX12_268 (k_87 hSh) (c_takesF Γ g m2 ml hSh (RHE_f hm2) (nI 5) (nI 12) (nI 19) (nI 5) (nI 0) (nI 0)) rfl rfl (by omega) (Nat.le_of_ble_eq_true rfl) ?_
                                        refine X_if_neN (a := 0) 269 dX12_one_257 (by decide) (by omega) (fun h_86 => ?_) (fun h_86 => ?_)
                                        · exact absurd h_86 (by omega)
                                        · refine X_aload_n dX12_one_260 rfl ?_
                                          refine X_iconst (v := nI 1) dX12_one_261 (by decide) ?_
                                          refine X_aload_n dX12_one_262 rfl ?_
                                          refine X_geti dX12_one_263 fkX12_167 rfl (k_87 hSh) ?_
                                          refine X_callVV dX12_one_266 mkX12_187 (k_87 hSh) (c_wrongF Γ g m2 ml hSh (RHE_f hm2) (nI 1) (m2 87 4)) rfl rfl (by omega) (Nat.le_of_ble_eq_true rfl) ?_
                                          refine X_aload_n dX12_one_269 rfl ?_
                                          refine X_callVV dX12_one_270 mkX12_275 (k_87 hSh) (c_sumF Γ g m2 ml hSh (RHE_f hm2)) rfl rfl (by omega) (Nat.le_of_ble_eq_true rfl) ?_
                                          refine X_aload_n dX12_one_273 rfl ?_
                                          refine X_bipush (v := nI 12) dX12_one_274 (by decide) ?_
                                          refine X_iconst (v := nI 0) dX12_one_276 (by decide) ?_
                                          refine X_callVV dX12_one_277 mkX12_262 (k_87 hSh) (c_notesF Γ g m2 ml hSh (RHE_f hm2) (nI 12) (nI 0)) rfl rfl (by omega) (Nat.le_of_ble_eq_true rfl) ?_
                                          refine X_aload_n dX12_one_280 rfl ?_
                                          refine X_dup dX12_one_281 rfl ?_
                                          refine X_geti dX12_one_282 fkX12_217 rfl (k_87 hSh) ?_
                                          refine X_iconst (v := nI 1) dX12_one_285 (by decide) ?_
                                          refine X_isub dX12_one_286 ?_
                                          refine X_puti dX12_one_287 fkX12_217 rfl rfl (k_87 hSh) ?_
                                          exact X_vret dX12_one_290 rfl ⟨rfl, rfl, by rw [show unitR (some S) B n i = .error (k2, p2) from by simp only [unitR, pairR, choR, sgK, wdK, bS, hd, hp, hW, hU1, hO, hU2, if_true, if_false, Bool.false_eq_true, reduceIte, Nat.reduceLT, Nat.reduceSub]]; exact RHE_o hm2, rfl⟩
                                    | .ok (e2, t2, b2) =>
                                      obtain ⟨hb2, hc2, hd2⟩ := (hUO _ hSq.1.2.1).1 e2 t2 b2 hU2
                                      refine X_callVrV dX12_one_207 mkX12_275 (k_87 hSh) (hU m0 _ (skT B n e1 + 1) (T ++ t1) (a || b1) hSq) rfl rfl (by omega) (Nat.le_of_ble_eq_true rfl) (fun m2 l2 hm2 => ?_)
                                      rw [hU2] at hm2
                                      obtain ⟨hm2, hL2⟩ := hm2
                                      rw [hL2]
                                      have hlen2 := List.length_append (as := T ++ t1) (bs := t2)
                                      refine X_aload_n dX12_one_210 rfl ?_
                                      refine X_iload_n dX12_one_211 rfl ?_
                                      refine X_iconst (v := nI 0) dX12_one_212 (by decide) ?_
                                      have h153 := hm2.2.1
                                      have hlb3 := hm2.2.2.2.2.2.2.2.1
                                      have hlc3 := hm2.1.2.1
                                      have hle3 : ((T ++ t1) ++ t2).length + 1 ≤ e2 := by omega
                                      have hS3 := RST_nt (t := (11, 0)) (u := nI 11) (v := nI 0) hm2 hle3 rfl rfl
                                      have hlen3 := List.length_append (as := (T ++ t1) ++ t2) (bs := [(11, 0)])
                                      rw [List.length_singleton] at hlen3
                                      refine X_callVV dX12_one_213 mkX12_262 (k_87 hSh) (c_notes Γ g m2 ml hSh hm2.2.2.1 _ hm2.2.2.2.1 (by omega) (nI 11) (nI 0)) rfl rfl (by omega) (Nat.le_of_ble_eq_true rfl) ?_
                                      refine X_aload_n dX12_one_216 rfl ?_
                                      refine X_bipush (v := nI 20) dX12_one_217 (by decide) ?_
                                      refine X_bipush (v := nI 8) dX12_one_219 (by decide) ?_
                                      refine X_iconst (v := nI 5) dX12_one_221 (by decide) ?_
                                      refine X_bipush (v := nI 14) dX12_one_222 (by decide) ?_
                                      refine X_iconst (v := nI 0) dX12_one_224 (by decide) ?_
                                      refine X_iconst (v := nI 0) dX12_one_225 (by decide) ?_
                                      by_cases hs4 : wIx 2 B n (skT B n e2) = some 0
                                      ·
                                        have hl4 := wdT_le (B := B) (skT_le (B := B) hS3.1.2.1)
                                        have hg4 := skT_ge (B := B) (n := n) (i := e2)
                                        have hx4 := wdT_gt (by decide) hs4
                                        have hS4 := RST_at hS3 hl4 (by omega)
                                        refine X_callVI dX12_one_226 mkX12_268 (k_87 hSh) (c_takes1 Γ g (ntW m2 ((T ++ t1) ++ t2).length (nI 11) (nI 0)) ml hSh B n e2 hS3.1 hS3.2.2.1 20 8 5 14 0 0 (by decide) (by decide) (by decide) (by decide) (wq_2_0.mpr hs4)) rfl rfl (by omega) (Nat.le_of_ble_eq_true rfl) ?_
                                        refine X_if_neN (a := 1) 241 dX12_one_229 (by decide) (by omega) (fun h_87 => ?_) (fun h_87 => ?_)
                                        · refine X_aload_n dX12_one_241 rfl ?_
                                          match hU5 : S (wdT B n (skT B n e2)) with
                                          | .error (k5, p5) =>
                                            refine X_callVrV dX12_one_242 mkX12_275 (k_87 hSh) (hU m0 _ (wdT B n (skT B n e2)) (((T ++ t1) ++ t2) ++ [(11, 0)]) ((a || b1) || b2) hS4) rfl rfl (by omega) (Nat.le_of_ble_eq_true rfl) (fun m5 l5 hm5 => ?_)
                                            rw [hU5] at hm5
                                            obtain ⟨hm5, hL5⟩ := hm5
                                            rw [hL5]
                                            refine X_aload_n dX12_one_245 rfl ?_
                                            refine X_iconst (v := nI 5) dX12_one_246 (by decide) ?_
                                            refine X_bipush (v := nI 12) dX12_one_247 (by decide) ?_
                                            refine X_bipush (v := nI 19) dX12_one_249 (by decide) ?_
                                            refine X_iconst (v := nI 5) dX12_one_251 (by decide) ?_
                                            refine X_iconst (v := nI 0) dX12_one_252 (by decide) ?_
                                            refine X_iconst (v := nI 0) dX12_one_253 (by decide) ?_
                                            refine X_callVI dX12_one_254 mkX12_268 (k_87 hSh) (c_takesF Γ g m5 ml hSh (RHE_f hm5) (nI 5) (nI 12) (nI 19) (nI 5) (nI 0) (nI 0)) rfl rfl (by omega) (Nat.le_of_ble_eq_true rfl) ?_
                                            refine X_if_neN (a := 0) 269 dX12_one_257 (by decide) (by omega) (fun h_88 => ?_) (fun h_88 => ?_)
                                            · exact absurd h_88 (by omega)
                                            · refine X_aload_n dX12_one_260 rfl ?_
                                              refine X_iconst (v := nI 1) dX12_one_261 (by decide) ?_
                                              refine X_aload_n dX12_one_262 rfl ?_
                                              refine X_geti dX12_one_263 fkX12_167 rfl (k_87 hSh) ?_
                                              refine X_callVV dX12_one_266 mkX12_187 (k_87 hSh) (c_wrongF Γ g m5 ml hSh (RHE_f hm5) (nI 1) (m5 87 4)) rfl rfl (by omega) (Nat.le_of_ble_eq_true rfl) ?_
                                              refine X_aload_n dX12_one_269 rfl ?_
                                              refine X_callVV dX12_one_270 mkX12_275 (k_87 hSh) (c_sumF Γ g m5 ml hSh (RHE_f hm5)) rfl rfl (by omega) (Nat.le_of_ble_eq_true rfl) ?_
                                              refine X_aload_n dX12_one_273 rfl ?_
                                              refine X_bipush (v := nI 12) dX12_one_274 (by decide) ?_
                                              refine X_iconst (v := nI 0) dX12_one_276 (by decide) ?_
                                              refine X_callVV dX12_one_277 mkX12_262 (k_87 hSh) (c_notesF Γ g m5 ml hSh (RHE_f hm5) (nI 12) (nI 0)) rfl rfl (by omega) (Nat.le_of_ble_eq_true rfl) ?_
                                              refine X_aload_n dX12_one_280 rfl ?_
                                              refine X_dup dX12_one_281 rfl ?_
                                              refine X_geti dX12_one_282 fkX12_217 rfl (k_87 hSh) ?_
                                              refine X_iconst (v := nI 1) dX12_one_285 (by decide) ?_
                                              refine X_isub dX12_one_286 ?_
                                              refine X_puti dX12_one_287 fkX12_217 rfl rfl (k_87 hSh) ?_
                                              exact X_vret dX12_one_290 rfl ⟨rfl, rfl, by rw [show unitR (some S) B n i = .error (k5, p5) from by simp only [unitR, pairR, choR, sgK, wdK, bS, hd, hp, hW, hU1, hO, hU2, hs4, hU5, if_true, if_false, Bool.false_eq_true, reduceIte, Nat.reduceLT, Nat.reduceSub]]; exact RHE_o hm5, rfl⟩
                                          | .ok (e5, t5, b5) =>
                                            obtain ⟨hb5, hc5, hd5⟩ := (hUO _ hS4.1.2.1).1 e5 t5 b5 hU5
                                            refine X_callVrV dX12_one_242 mkX12_275 (k_87 hSh) (hU m0 _ (wdT B n (skT B n e2)) (((T ++ t1) ++ t2) ++ [(11, 0)]) ((a || b1) || b2) hS4) rfl rfl (by omega) (Nat.le_of_ble_eq_true rfl) (fun m5 l5 hm5 => ?_)
                                            rw [hU5] at hm5
                                            obtain ⟨hm5, hL5⟩ := hm5
                                            rw [hL5]
                                            have hlen5 := List.length_append (as := ((T ++ t1) ++ t2) ++ [(11, 0)]) (bs := t5)
                                            refine X_aload_n dX12_one_245 rfl ?_
                                            refine X_iconst (v := nI 5) dX12_one_246 (by decide) ?_
                                            refine X_bipush (v := nI 12) dX12_one_247 (by decide) ?_
                                            refine X_bipush (v := nI 19) dX12_one_249 (by decide) ?_
                                            refine X_iconst (v := nI 5) dX12_one_251 (by decide) ?_
                                            refine X_iconst (v := nI 0) dX12_one_252 (by decide) ?_
                                            refine X_iconst (v := nI 0) dX12_one_253 (by decide) ?_
                                            by_cases hs6 : wIx 3 B n (skT B n e5) = some 0
                                            ·
                                              have hl6 := wdT_le (B := B) (skT_le (B := B) hm5.1.2.1)
                                              have hg6 := skT_ge (B := B) (n := n) (i := e5)
                                              have hx6 := wdT_gt (by decide) hs6
                                              have hS6 := RST_at hm5 hl6 (by omega)
                                              refine X_callVI dX12_one_254 mkX12_268 (k_87 hSh) (c_takes1 Γ g m5 ml hSh B n e5 hm5.1 hm5.2.2.1 5 12 19 5 0 0 (by decide) (by decide) (by decide) (by decide) (wq_3_0.mpr hs6)) rfl rfl (by omega) (Nat.le_of_ble_eq_true rfl) ?_
                                              refine X_if_neN (a := 1) 269 dX12_one_257 (by decide) (by omega) (fun h_89 => ?_) (fun h_89 => ?_)
                                              · refine X_aload_n dX12_one_269 rfl ?_
                                                match hU7 : S (wdT B n (skT B n e5)) with
                                                | .error (k7, p7) =>
                                                  refine X_callVrV dX12_one_270 mkX12_275 (k_87 hSh) (hU m0 _ (wdT B n (skT B n e5)) ((((T ++ t1) ++ t2) ++ [(11, 0)]) ++ t5) (((a || b1) || b2) || b5) hS6) rfl rfl (by omega) (Nat.le_of_ble_eq_true rfl) (fun m7 l7 hm7 => ?_)
                                                  rw [hU7] at hm7
                                                  obtain ⟨hm7, hL7⟩ := hm7
                                                  rw [hL7]
                                                  refine X_aload_n dX12_one_273 rfl ?_
                                                  refine X_bipush (v := nI 12) dX12_one_274 (by decide) ?_
                                                  refine X_iconst (v := nI 0) dX12_one_276 (by decide) ?_
                                                  refine X_callVV dX12_one_277 mkX12_262 (k_87 hSh) (c_notesF Γ g m7 ml hSh (RHE_f hm7) (nI 12) (nI 0)) rfl rfl (by omega) (Nat.le_of_ble_eq_true rfl) ?_
                                                  refine X_aload_n dX12_one_280 rfl ?_
                                                  refine X_dup dX12_one_281 rfl ?_
                                                  refine X_geti dX12_one_282 fkX12_217 rfl (k_87 hSh) ?_
                                                  refine X_iconst (v := nI 1) dX12_one_285 (by decide) ?_
                                                  refine X_isub dX12_one_286 ?_
                                                  refine X_puti dX12_one_287 fkX12_217 rfl rfl (k_87 hSh) ?_
                                                  exact X_vret dX12_one_290 rfl ⟨rfl, rfl, by rw [show unitR (some S) B n i = .error (k7, p7) from by simp only [unitR, pairR, choR, sgK, wdK, bS, hd, hp, hW, hU1, hO, hU2, hs4, hU5, hs6, hU7, if_true, if_false, Bool.false_eq_true, reduceIte, Nat.reduceLT, Nat.reduceSub]]; exact RHE_o hm7, rfl⟩
                                                | .ok (e7, t7, b7) =>
                                                  obtain ⟨hb7, hc7, hd7⟩ := (hUO _ hS6.1.2.1).1 e7 t7 b7 hU7
                                                  refine X_callVrV dX12_one_270 mkX12_275 (k_87 hSh) (hU m0 _ (wdT B n (skT B n e5)) ((((T ++ t1) ++ t2) ++ [(11, 0)]) ++ t5) (((a || b1) || b2) || b5) hS6) rfl rfl (by omega) (Nat.le_of_ble_eq_true rfl) (fun m7 l7 hm7 => ?_)
                                                  rw [hU7] at hm7
                                                  obtain ⟨hm7, hL7⟩ := hm7
                                                  rw [hL7]
                                                  have hlen7 := List.length_append (as := (((T ++ t1) ++ t2) ++ [(11, 0)]) ++ t5) (bs := t7)
                                                  refine X_aload_n dX12_one_273 rfl ?_
                                                  refine X_bipush (v := nI 12) dX12_one_274 (by decide) ?_
                                                  refine X_iconst (v := nI 0) dX12_one_276 (by decide) ?_
                                                  have h158 := hm7.2.1
                                                  have hlb8 := hm7.2.2.2.2.2.2.2.1
                                                  have hlc8 := hm7.1.2.1
                                                  have hle8 : (((((T ++ t1) ++ t2) ++ [(11, 0)]) ++ t5) ++ t7).length + 1 ≤ e7 := by omega
                                                  have hS8 := RST_nt (t := (12, 0)) (u := nI 12) (v := nI 0) hm7 hle8 rfl rfl
                                                  have hlen8 := List.length_append (as := ((((T ++ t1) ++ t2) ++ [(11, 0)]) ++ t5) ++ t7) (bs := [(12, 0)])
                                                  rw [List.length_singleton] at hlen8
                                                  refine X_callVV dX12_one_277 mkX12_262 (k_87 hSh) (c_notes Γ g m7 ml hSh hm7.2.2.1 _ hm7.2.2.2.1 (by omega) (nI 12) (nI 0)) rfl rfl (by omega) (Nat.le_of_ble_eq_true rfl) ?_
                                                  refine X_aload_n dX12_one_280 rfl ?_
                                                  refine X_dup dX12_one_281 rfl ?_
                                                  refine X_geti dX12_one_282 fkX12_217 rfl (k_87 hSh) ?_
                                                  rw [hS8.2.2.2.2.2.2.1]
                                                  refine X_iconst (v := nI 1) dX12_one_285 (by decide) ?_
                                                  refine X_isub dX12_one_286 ?_
                                                  refine X_topi (pk_sub (a := op + 1) (b := 1) (by omega)) ?_
                                                  refine X_puti dX12_one_287 fkX12_217 rfl rfl (k_87 hSh) ?_
                                                  exact X_vret dX12_one_290 rfl ⟨rfl, rfl, by rw [show unitR (some S) B n i = .ok (e7, t1 ++ (t2 ++ ((11, 0) :: (t5 ++ (t7 ++ [(12, 0)])))), b1 || (b2 || (b5 || b7))) from by simp only [unitR, pairR, choR, sgK, wdK, bS, hd, hp, hW, hU1, hO, hU2, hs4, hU5, hs6, hU7, if_true, if_false, Bool.false_eq_true, reduceIte, Nat.reduceLT, Nat.reduceSub]]; exact RST_eq (RST_o hS8 rfl) (by simp [List.append_assoc]) (by simp [Bool.or_assoc]), rfl⟩
                                              · exact absurd h_89 (by omega)
                                            ·
                                              have hS6 := RST_at hm5 (skT_le (B := B) hm5.1.2.1) skT_ge
                                              refine X_callVI dX12_one_254 mkX12_268 (k_87 hSh) (c_takes0 Γ g m5 ml hSh B n e5 hm5.1 hm5.2.2.1 5 12 19 5 0 0 (by decide) (by decide) (by decide) (by decide) (fun q => hs6 (wq_3_0.mp q))) rfl rfl (by omega) (Nat.le_of_ble_eq_true rfl) ?_
                                              refine X_if_neN (a := 0) 269 dX12_one_257 (by decide) (by omega) (fun h_90 => ?_) (fun h_90 => ?_)
                                              · exact absurd h_90 (by omega)
                                              · refine X_aload_n dX12_one_260 rfl ?_
                                                refine X_iconst (v := nI 1) dX12_one_261 (by decide) ?_
                                                refine X_aload_n dX12_one_262 rfl ?_
                                                refine X_geti dX12_one_263 fkX12_167 rfl (k_87 hSh) ?_
                                                rw [up2_s]
                                                have hE7 := RHE_of2 (p := skT B n e5) hS6 (show 1 ≤ 1 ∧ 1 ≤ 3 by omega)
                                                refine X_callVV dX12_one_266 mkX12_187 (k_87 hSh) (c_wrong0 Γ g (up2 m5 87 4 (nI (skT B n e5))) ml hSh hS6.2.2.1 (nI 1) (nI (skT B n e5))) rfl rfl (by omega) (Nat.le_of_ble_eq_true rfl) ?_
                                                refine X_aload_n dX12_one_269 rfl ?_
                                                refine X_callVV dX12_one_270 mkX12_275 (k_87 hSh) (c_sumF Γ g (up2 (up2 (up2 m5 87 4 (nI (skT B n e5))) 87 5 (nI 1)) 87 6 (nI (skT B n e5))) ml hSh (RHE_f hE7)) rfl rfl (by omega) (Nat.le_of_ble_eq_true rfl) ?_
                                                refine X_aload_n dX12_one_273 rfl ?_
                                                refine X_bipush (v := nI 12) dX12_one_274 (by decide) ?_
                                                refine X_iconst (v := nI 0) dX12_one_276 (by decide) ?_
                                                refine X_callVV dX12_one_277 mkX12_262 (k_87 hSh) (c_notesF Γ g (up2 (up2 (up2 m5 87 4 (nI (skT B n e5))) 87 5 (nI 1)) 87 6 (nI (skT B n e5))) ml hSh (RHE_f hE7) (nI 12) (nI 0)) rfl rfl (by omega) (Nat.le_of_ble_eq_true rfl) ?_
                                                refine X_aload_n dX12_one_280 rfl ?_
                                                refine X_dup dX12_one_281 rfl ?_
                                                refine X_geti dX12_one_282 fkX12_217 rfl (k_87 hSh) ?_
                                                refine X_topi (show (up2 (up2 (up2 m5 87 4 (nI (skT B n e5))) 87 5 (nI 1)) 87 6 (nI (skT B n e5))) 87 8 = nI (op + 1) by rw [up2_n (by omega), up2_n (by omega), up2_n (by omega)]; exact hm5.2.2.2.2.2.2.1) ?_
                                                refine X_iconst (v := nI 1) dX12_one_285 (by decide) ?_
                                                refine X_isub dX12_one_286 ?_
                                                refine X_topi (pk_sub (a := op + 1) (b := 1) (by omega)) ?_
                                                refine X_puti dX12_one_287 fkX12_217 rfl rfl (k_87 hSh) ?_
                                                exact X_vret dX12_one_290 rfl ⟨rfl, rfl, by rw [show unitR (some S) B n i = .error (1, skT B n e5) from by simp only [unitR, pairR, choR, sgK, wdK, bS, hd, hp, hW, hU1, hO, hU2, hs4, hU5, hs6, if_true, if_false, Bool.false_eq_true, reduceIte, Nat.reduceLT, Nat.reduceSub]]; exact RHE_o hE7, rfl⟩
                                        · exact absurd h_87 (by omega)
                                      ·
                                        have hS4 := RST_at hS3 (skT_le (B := B) hS3.1.2.1) skT_ge
                                        refine X_callVI dX12_one_226 mkX12_268 (k_87 hSh) (c_takes0 Γ g (ntW m2 ((T ++ t1) ++ t2).length (nI 11) (nI 0)) ml hSh B n e2 hS3.1 hS3.2.2.1 20 8 5 14 0 0 (by decide) (by decide) (by decide) (by decide) (fun q => hs4 (wq_2_0.mp q))) rfl rfl (by omega) (Nat.le_of_ble_eq_true rfl) ?_
                                        refine X_if_neN (a := 0) 241 dX12_one_229 (by decide) (by omega) (fun h_91 => ?_) (fun h_91 => ?_)
                                        · exact absurd h_91 (by omega)
                                        · refine X_aload_n dX12_one_232 rfl ?_
                                          refine X_iconst (v := nI 1) dX12_one_233 (by decide) ?_
                                          refine X_aload_n dX12_one_234 rfl ?_
                                          refine X_geti dX12_one_235 fkX12_167 rfl (k_87 hSh) ?_
                                          rw [up2_s]
                                          have hE5 := RHE_of2 (p := skT B n e2) hS4 (show 1 ≤ 1 ∧ 1 ≤ 3 by omega)
                                          refine X_callVV dX12_one_238 mkX12_187 (k_87 hSh) (c_wrong0 Γ g (up2 (ntW m2 ((T ++ t1) ++ t2).length (nI 11) (nI 0)) 87 4 (nI (skT B n e2))) ml hSh hS4.2.2.1 (nI 1) (nI (skT B n e2))) rfl rfl (by omega) (Nat.le_of_ble_eq_true rfl) ?_
                                          refine X_aload_n dX12_one_241 rfl ?_
                                          refine X_callVV dX12_one_242 mkX12_275 (k_87 hSh) (c_sumF Γ g (up2 (up2 (up2 (ntW m2 ((T ++ t1) ++ t2).length (nI 11) (nI 0)) 87 4 (nI (skT B n e2))) 87 5 (nI 1)) 87 6 (nI (skT B n e2))) ml hSh (RHE_f hE5)) rfl rfl (by omega) (Nat.le_of_ble_eq_true rfl) ?_
                                          refine X_aload_n dX12_one_245 rfl ?_
                                          refine X_iconst (v := nI 5) dX12_one_246 (by decide) ?_
                                          refine X_bipush (v := nI 12) dX12_one_247 (by decide) ?_
                                          refine X_bipush (v := nI 19) dX12_one_249 (by decide) ?_
                                          refine X_iconst (v := nI 5) dX12_one_251 (by decide) ?_
                                          refine X_iconst (v := nI 0) dX12_one_252 (by decide) ?_
                                          refine X_iconst (v := nI 0) dX12_one_253 (by decide) ?_
                                          refine X_callVI dX12_one_254 mkX12_268 (k_87 hSh) (c_takesF Γ g (up2 (up2 (up2 (ntW m2 ((T ++ t1) ++ t2).length (nI 11) (nI 0)) 87 4 (nI (skT B n e2))) 87 5 (nI 1)) 87 6 (nI (skT B n e2))) ml hSh (RHE_f hE5) (nI 5) (nI 12) (nI 19) (nI 5) (nI 0) (nI 0)) rfl rfl (by omega) (Nat.le_of_ble_eq_true rfl) ?_
                                          refine X_if_neN (a := 0) 269 dX12_one_257 (by decide) (by omega) (fun h_92 => ?_) (fun h_92 => ?_)
                                          · exact absurd h_92 (by omega)
                                          · refine X_aload_n dX12_one_260 rfl ?_
                                            refine X_iconst (v := nI 1) dX12_one_261 (by decide) ?_
                                            refine X_aload_n dX12_one_262 rfl ?_
                                            refine X_geti dX12_one_263 fkX12_167 rfl (k_87 hSh) ?_
                                            refine X_topi (show (up2 (up2 (up2 (ntW m2 ((T ++ t1) ++ t2).length (nI 11) (nI 0)) 87 4 (nI (skT B n e2))) 87 5 (nI 1)) 87 6 (nI (skT B n e2))) 87 4 = nI (skT B n e2) by rw [up2_n (by omega), up2_n (by omega), up2_s]) ?_
                                            refine X_callVV dX12_one_266 mkX12_187 (k_87 hSh) (c_wrongF Γ g (up2 (up2 (up2 (ntW m2 ((T ++ t1) ++ t2).length (nI 11) (nI 0)) 87 4 (nI (skT B n e2))) 87 5 (nI 1)) 87 6 (nI (skT B n e2))) ml hSh (RHE_f hE5) (nI 1) (nI (skT B n e2))) rfl rfl (by omega) (Nat.le_of_ble_eq_true rfl) ?_
                                            refine X_aload_n dX12_one_269 rfl ?_
                                            refine X_callVV dX12_one_270 mkX12_275 (k_87 hSh) (c_sumF Γ g (up2 (up2 (up2 (ntW m2 ((T ++ t1) ++ t2).length (nI 11) (nI 0)) 87 4 (nI (skT B n e2))) 87 5 (nI 1)) 87 6 (nI (skT B n e2))) ml hSh (RHE_f hE5)) rfl rfl (by omega) (Nat.le_of_ble_eq_true rfl) ?_
                                            refine X_aload_n dX12_one_273 rfl ?_
                                            refine X_bipush (v := nI 12) dX12_one_274 (by decide) ?_
                                            refine X_iconst (v := nI 0) dX12_one_276 (by decide) ?_
                                            refine X_callVV dX12_one_277 mkX12_262 (k_87 hSh) (c_notesF Γ g (up2 (up2 (up2 (ntW m2 ((T ++ t1) ++ t2).length (nI 11) (nI 0)) 87 4 (nI (skT B n e2))) 87 5 (nI 1)) 87 6 (nI (skT B n e2))) ml hSh (RHE_f hE5) (nI 12) (nI 0)) rfl rfl (by omega) (Nat.le_of_ble_eq_true rfl) ?_
                                            refine X_aload_n dX12_one_280 rfl ?_
                                            refine X_dup dX12_one_281 rfl ?_
                                            refine X_geti dX12_one_282 fkX12_217 rfl (k_87 hSh) ?_
                                            refine X_topi (show (up2 (up2 (up2 (ntW m2 ((T ++ t1) ++ t2).length (nI 11) (nI 0)) 87 4 (nI (skT B n e2))) 87 5 (nI 1)) 87 6 (nI (skT B n e2))) 87 8 = nI (op + 1) by rw [up2_n (by omega), up2_n (by omega), up2_n (by omega)]; exact hS3.2.2.2.2.2.2.1) ?_
                                            refine X_iconst (v := nI 1) dX12_one_285 (by decide) ?_
                                            refine X_isub dX12_one_286 ?_
                                            refine X_topi (pk_sub (a := op + 1) (b := 1) (by omega)) ?_
                                            refine X_puti dX12_one_287 fkX12_217 rfl rfl (k_87 hSh) ?_
                                            exact X_vret dX12_one_290 rfl ⟨rfl, rfl, by rw [show unitR (some S) B n i = .error (1, skT B n e2) from by simp only [unitR, pairR, choR, sgK, wdK, bS, hd, hp, hW, hU1, hO, hU2, hs4, if_true, if_false, Bool.false_eq_true, reduceIte, Nat.reduceLT, Nat.reduceSub]]; exact RHE_o hE5, rfl⟩
                                  · exact absurd h_84 (nI_m1 (by omega))
                              · exact absurd h_82 (by omega)
                            · exact absurd h_81 (by omega)
                          · have hO : cmO (byT B n (skT B n e1)) = none := (if_neg q0).trans ((if_neg q1).trans (if_neg q2))
                            refine X_aload_n dX12_one_148 rfl ?_
                            refine X_bipush (v := nI 60) dX12_one_149 (by decide) ?_
                            refine X_callVI dX12_one_151 mkX12_259 (k_87 hSh) (c_takesSign0 Γ g m1 ml hSh B n e1 hm1.1 hm1.2.2.1 (nI 60) q0) rfl rfl (by omega) (Nat.le_of_ble_eq_true rfl) ?_
                            refine X_if_eqN (a := 0) 162 dX12_one_154 (by decide) (by omega) (fun h_93 => ?_) (fun h_93 => ?_)
                            · refine X_aload_n dX12_one_162 rfl ?_
                              refine X_bipush (v := nI 62) dX12_one_163 (by decide) ?_
                              have hts1 := c_takesSign0 Γ g (up2 m1 87 4 (nI (skT B n e1))) ml hSh B n (skT B n e1) hSk.1 hSk.2.2.1 (nI 62) (by rw [skT_sk]; exact q1)
                              rw [skT_sk, up2_up2] at hts1
                              refine X_callVI dX12_one_165 mkX12_259 (k_87 hSh) (hts1) rfl rfl (by omega) (Nat.le_of_ble_eq_true rfl) ?_
                              refine X_if_eqN (a := 0) 176 dX12_one_168 (by decide) (by omega) (fun h_94 => ?_) (fun h_94 => ?_)
                              · refine X_aload_n dX12_one_176 rfl ?_
                                refine X_bipush (v := nI 61) dX12_one_177 (by decide) ?_
                                have hts2 := c_takesSign0 Γ g (up2 m1 87 4 (nI (skT B n e1))) ml hSh B n (skT B n e1) hSk.1 hSk.2.2.1 (nI 61) (by rw [skT_sk]; exact q2)
                                rw [skT_sk, up2_up2] at hts2
                                refine X_callVI dX12_one_179 mkX12_259 (k_87 hSh) (hts2) rfl rfl (by omega) (Nat.le_of_ble_eq_true rfl) ?_
                                refine X_if_eqN (a := 0) 190 dX12_one_182 (by decide) (by omega) (fun h_95 => ?_) (fun h_95 => ?_)
                                · refine X_iconst (v := -1) dX12_one_190 (by decide) ?_
                                  refine X_istore_n dX12_one_191 (by decide) ?_
                                  refine X_iload_n dX12_one_192 rfl ?_
                                  refine X_iconst (v := -1) dX12_one_193 (by decide) ?_
                                  refine X_icmp_ne 206 dX12_one_194 (by decide) (fun h_96 => ?_) (fun h_96 => ?_)
                                  · exact absurd rfl h_96
                                  · refine X_aload_n dX12_one_197 rfl ?_
                                    refine X_iconst (v := nI 1) dX12_one_198 (by decide) ?_
                                    refine X_aload_n dX12_one_199 rfl ?_
                                    refine X_geti dX12_one_200 fkX12_167 rfl (k_87 hSh) ?_
                                    rw [up2_s]
                                    have hE2 := RHE_of2 (p := skT B n e1) hSk (show 1 ≤ 1 ∧ 1 ≤ 3 by omega)
                                    refine X_callVV dX12_one_203 mkX12_187 (k_87 hSh) (c_wrong0 Γ g (up2 m1 87 4 (nI (skT B n e1))) ml hSh hSk.2.2.1 (nI 1) (nI (skT B n e1))) rfl rfl (by omega) (Nat.le_of_ble_eq_true rfl) ?_
                                    refine X_aload_n dX12_one_206 rfl ?_
                                    refine X_callVV dX12_one_207 mkX12_275 (k_87 hSh) (c_sumF Γ g (up2 (up2 (up2 m1 87 4 (nI (skT B n e1))) 87 5 (nI 1)) 87 6 (nI (skT B n e1))) ml hSh (RHE_f hE2)) rfl rfl (by omega) (Nat.le_of_ble_eq_true rfl) ?_
                                    refine X_aload_n dX12_one_210 rfl ?_
                                    refine X_iload_n dX12_one_211 rfl ?_
                                    refine X_iconst (v := nI 0) dX12_one_212 (by decide) ?_
                                    refine X_callVV dX12_one_213 mkX12_262 (k_87 hSh) (c_notesF Γ g (up2 (up2 (up2 m1 87 4 (nI (skT B n e1))) 87 5 (nI 1)) 87 6 (nI (skT B n e1))) ml hSh (RHE_f hE2) (-1) (nI 0)) rfl rfl (by omega) (Nat.le_of_ble_eq_true rfl) ?_
                                    refine X_aload_n dX12_one_216 rfl ?_
                                    refine X_bipush (v := nI 20) dX12_one_217 (by decide) ?_
                                    refine X_bipush (v := nI 8) dX12_one_219 (by decide) ?_
                                    refine X_iconst (v := nI 5) dX12_one_221 (by decide) ?_
                                    refine X_bipush (v := nI 14) dX12_one_222 (by decide) ?_
                                    refine X_iconst (v := nI 0) dX12_one_224 (by decide) ?_
                                    refine X_iconst (v := nI 0) dX12_one_225 (by decide) ?_
                                    refine X_callVI dX12_one_226 mkX12_268 (k_87 hSh) (c_takesF Γ g (up2 (up2 (up2 m1 87 4 (nI (skT B n e1))) 87 5 (nI 1)) 87 6 (nI (skT B n e1))) ml hSh (RHE_f hE2) (nI 20) (nI 8) (nI 5) (nI 14) (nI 0) (nI 0)) rfl rfl (by omega) (Nat.le_of_ble_eq_true rfl) ?_
                                    refine X_if_neN (a := 0) 241 dX12_one_229 (by decide) (by omega) (fun h_97 => ?_) (fun h_97 => ?_)
                                    · exact absurd h_97 (by omega)
                                    · refine X_aload_n dX12_one_232 rfl ?_
                                      refine X_iconst (v := nI 1) dX12_one_233 (by decide) ?_
                                      refine X_aload_n dX12_one_234 rfl ?_
                                      refine X_geti dX12_one_235 fkX12_167 rfl (k_87 hSh) ?_
                                      refine X_topi (show (up2 (up2 (up2 m1 87 4 (nI (skT B n e1))) 87 5 (nI 1)) 87 6 (nI (skT B n e1))) 87 4 = nI (skT B n e1) by rw [up2_n (by omega), up2_n (by omega), up2_s]) ?_
                                      refine X_callVV dX12_one_238 mkX12_187 (k_87 hSh) (c_wrongF Γ g (up2 (up2 (up2 m1 87 4 (nI (skT B n e1))) 87 5 (nI 1)) 87 6 (nI (skT B n e1))) ml hSh (RHE_f hE2) (nI 1) (nI (skT B n e1))) rfl rfl (by omega) (Nat.le_of_ble_eq_true rfl) ?_
                                      refine X_aload_n dX12_one_241 rfl ?_
                                      refine X_callVV dX12_one_242 mkX12_275 (k_87 hSh) (c_sumF Γ g (up2 (up2 (up2 m1 87 4 (nI (skT B n e1))) 87 5 (nI 1)) 87 6 (nI (skT B n e1))) ml hSh (RHE_f hE2)) rfl rfl (by omega) (Nat.le_of_ble_eq_true rfl) ?_
                                      refine X_aload_n dX12_one_245 rfl ?_
                                      refine X_iconst (v := nI 5) dX12_one_246 (by decide) ?_
                                      refine X_bipush (v := nI 12) dX12_one_247 (by decide) ?_
                                      refine X_bipush (v := nI 19) dX12_one_249 (by decide) ?_
                                      refine X_iconst (v := nI 5) dX12_one_251 (by decide) ?_
                                      refine X_iconst (v := nI 0) dX12_one_252 (by decide) ?_
                                      refine X_iconst (v := nI 0) dX12_one_253 (by decide) ?_
                                      refine X_callVI dX12_one_254 mkX12_268 (k_87 hSh) (c_takesF Γ g (up2 (up2 (up2 m1 87 4 (nI (skT B n e1))) 87 5 (nI 1)) 87 6 (nI (skT B n e1))) ml hSh (RHE_f hE2) (nI 5) (nI 12) (nI 19) (nI 5) (nI 0) (nI 0)) rfl rfl (by omega) (Nat.le_of_ble_eq_true rfl) ?_
                                      refine X_if_neN (a := 0) 269 dX12_one_257 (by decide) (by omega) (fun h_98 => ?_) (fun h_98 => ?_)
                                      · exact absurd h_98 (by omega)
                                      · refine X_aload_n dX12_one_260 rfl ?_
                                        refine X_iconst (v := nI 1) dX12_one_261 (by decide) ?_
                                        refine X_aload_n dX12_one_262 rfl ?_
                                        refine X_geti dX12_one_263 fkX12_167 rfl (k_87 hSh) ?_
                                        refine X_topi (show (up2 (up2 (up2 m1 87 4 (nI (skT B n e1))) 87 5 (nI 1)) 87 6 (nI (skT B n e1))) 87 4 = nI (skT B n e1) by rw [up2_n (by omega), up2_n (by omega), up2_s]) ?_
                                        refine X_callVV dX12_one_266 mkX12_187 (k_87 hSh) (c_wrongF Γ g (up2 (up2 (up2 m1 87 4 (nI (skT B n e1))) 87 5 (nI 1)) 87 6 (nI (skT B n e1))) ml hSh (RHE_f hE2) (nI 1) (nI (skT B n e1))) rfl rfl (by omega) (Nat.le_of_ble_eq_true rfl) ?_
                                        refine X_aload_n dX12_one_269 rfl ?_
                                        refine X_callVV dX12_one_270 mkX12_275 (k_87 hSh) (c_sumF Γ g (up2 (up2 (up2 m1 87 4 (nI (skT B n e1))) 87 5 (nI 1)) 87 6 (nI (skT B n e1))) ml hSh (RHE_f hE2)) rfl rfl (by omega) (Nat.le_of_ble_eq_true rfl) ?_
                                        refine X_aload_n dX12_one_273 rfl ?_
                                        refine X_bipush (v := nI 12) dX12_one_274 (by decide) ?_
                                        refine X_iconst (v := nI 0) dX12_one_276 (by decide) ?_
                                        refine X_callVV dX12_one_277 mkX12_262 (k_87 hSh) (c_notesF Γ g (up2 (up2 (up2 m1 87 4 (nI (skT B n e1))) 87 5 (nI 1)) 87 6 (nI (skT B n e1))) ml hSh (RHE_f hE2) (nI 12) (nI 0)) rfl rfl (by omega) (Nat.le_of_ble_eq_true rfl) ?_
                                        refine X_aload_n dX12_one_280 rfl ?_
                                        refine X_dup dX12_one_281 rfl ?_
                                        refine X_geti dX12_one_282 fkX12_217 rfl (k_87 hSh) ?_
                                        refine X_topi (show (up2 (up2 (up2 m1 87 4 (nI (skT B n e1))) 87 5 (nI 1)) 87 6 (nI (skT B n e1))) 87 8 = nI (op + 1) by rw [up2_n (by omega), up2_n (by omega), up2_n (by omega)]; exact hm1.2.2.2.2.2.2.1) ?_
                                        refine X_iconst (v := nI 1) dX12_one_285 (by decide) ?_
                                        refine X_isub dX12_one_286 ?_
                                        refine X_topi (pk_sub (a := op + 1) (b := 1) (by omega)) ?_
                                        refine X_puti dX12_one_287 fkX12_217 rfl rfl (k_87 hSh) ?_
                                        exact X_vret dX12_one_290 rfl ⟨rfl, rfl, by rw [show unitR (some S) B n i = .error (1, skT B n e1) from by simp only [unitR, pairR, choR, sgK, wdK, bS, hd, hp, hW, hU1, hO, if_true, if_false, Bool.false_eq_true, reduceIte, Nat.reduceLT, Nat.reduceSub]]; exact RHE_o hE2, rfl⟩
                                · exact absurd h_95 (by omega)
                              · exact absurd h_94 (by omega)
                            · exact absurd h_93 (by omega)
                      · exact absurd h_53 (by omega)
                  · exact absurd rfl h_51
                · exact absurd h_50 (by omega)
              · exact absurd h_49 (by omega)
            · exact absurd h_48 (by omega)
theorem rc_all (Γ : pTG) (g : pGG) (ml : pML) (hSh : Sh g) (B : Nat → Int32) (n : Nat) : ∀ k, k ≤ 6 → RC2 Γ g ml B n (3 * k + 12) mX12_sum (6 - k) (sumR (unitN B n k) B n)
  | 0, _ => rc_sum Γ g ml hSh B n 11 6 (by omega) _ (rc_prod Γ g ml hSh B n 10 6 (by omega) _ (rc_unit0 Γ g ml hSh B n 10 (by omega)) (unitN_ok 0)) prodN_ok
  | k + 1, hk => by
    have ih := rc_all Γ g ml hSh B n k (by omega)
    rw [show 6 - k = (6 - (k + 1)) + 1 by omega] at ih
    have hu := rc_unitS Γ g ml hSh B n (3 * k + 12) (6 - (k + 1)) (by omega) (by omega) _ ih sumN_ok
    exact rc_sum Γ g ml hSh B n (3 * k + 14) (6 - (k + 1)) (by omega) _ (rc_prod Γ g ml hSh B n (3 * k + 13) (6 - (k + 1)) (by omega) _ hu (unitN_ok (k + 1))) prodN_ok

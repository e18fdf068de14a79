def gC1 : pGG := newG g00 (11, 0)
def mC1 : pMI := newR m00 g00.1 0
def lC1 : pML := newR l00 g00.1 0
def gC2 : pGG := newG gC1 (20, 600)
def mC2 : pMI := newR mC1 gC1.1 0
def lC2 : pML := newR lC1 gC1.1 0
def gC3 : pGG := (gC2.1, gC2.2.1, up2 gC2.2.2 0 0 (some 1))
def gC4 : pGG := newG gC3 (10, 0)
def mC4 : pMI := newR mC2 gC3.1 0
def lC4 : pML := newR lC2 gC3.1 0
def mC5 : pMI := up2 mC4 2 4 (-1)
def gC6 : pGG := (gC4.1, gC4.2.1, up2 gC4.2.2 2 0 (some 1))
set_option maxRecDepth 100000 in
set_option maxHeartbeats 4000000 in
theorem ct1_X10_init (Γ : pTG) : CT Γ 1 0 0 mX10_init [.ref 2, .ref 1] gC4 mC4 lC4 (fun o g' mi' ml' => o = .inl none ∧ g' = gC6 ∧ mi' = mC5 ∧ ml' = lC4) := by
  refine CT_of (by decide +kernel) (Nat.le_of_ble_eq_true rfl) ?_
  refine X_aload_n dX10_init_0 rfl ?_
  refine X_objInit dX10_init_1 oiX10 (by decide) (by decide) ?_
  refine X_aload_n dX10_init_4 rfl ?_
  refine X_iconst (v := -1) dX10_init_5 (by decide) ?_
  refine X_puti (z := 0) dX10_init_6 fkX10_9 rfl rfl (by decide +kernel) ?_
  refine X_gml (g' := gC4) (mi' := mC5) (ml' := lC4) rfl rfl rfl ?_
  refine X_aload_n dX10_init_9 rfl ?_
  refine X_aload_n dX10_init_10 rfl ?_
  refine X_putrF (z := 0) dX10_init_11 fkX10_15 rfl rfl rfl rfl (by decide +kernel) (by decide) ?_
  refine X_gml (g' := gC6) (mi' := mC5) (ml' := lC4) rfl rfl rfl ?_
  exact X_vret dX10_init_14 rfl ⟨rfl, rfl, rfl, rfl⟩
def gC7 : pGG := (gC6.1, gC6.2.1, up2 gC6.2.2 0 1 (some 2))
def gC8 : pGG := newG gC7 (8, 0)
def mC8 : pMI := newR mC5 gC7.1 0
def lC8 : pML := newR lC4 gC7.1 0
def gC9 : pGG := newG gC8 (20, 8)
def mC9 : pMI := newR mC8 gC8.1 0
def lC9 : pML := newR lC8 gC8.1 0
def gC10 : pGG := (gC9.1, gC9.2.1, up2 gC9.2.2 3 0 (some 4))
def gC11 : pGG := newG gC10 (20, 8)
def mC11 : pMI := newR mC9 gC10.1 0
def lC11 : pML := newR lC9 gC10.1 0
def gC12 : pGG := (gC11.1, gC11.2.1, up2 gC11.2.2 3 1 (some 5))
def gC13 : pGG := newG gC12 (20, 8)
def mC13 : pMI := newR mC11 gC12.1 0
def lC13 : pML := newR lC11 gC12.1 0
def gC14 : pGG := (gC13.1, gC13.2.1, up2 gC13.2.2 3 2 (some 6))
def gC15 : pGG := newG gC14 (20, 8)
def mC15 : pMI := newR mC13 gC14.1 0
def lC15 : pML := newR lC13 gC14.1 0
def gC16 : pGG := (gC15.1, gC15.2.1, up2 gC15.2.2 3 3 (some 7))
def gC17 : pGG := newG gC16 (20, 8)
def mC17 : pMI := newR mC15 gC16.1 0
def lC17 : pML := newR lC15 gC16.1 0
def gC18 : pGG := (gC17.1, gC17.2.1, up2 gC17.2.2 3 4 (some 8))
def gC19 : pGG := newG gC18 (20, 8)
def mC19 : pMI := newR mC17 gC18.1 0
def lC19 : pML := newR lC17 gC18.1 0
def gC20 : pGG := (gC19.1, gC19.2.1, up2 gC19.2.2 3 5 (some 9))
set_option maxRecDepth 100000 in
set_option maxHeartbeats 4000000 in
theorem ct2_X8_init (Γ : pTG) : CT Γ 1 6 48 mX8_init [.ref 3] gC8 mC8 lC8 (fun o g' mi' ml' => o = .inl none ∧ g' = gC20 ∧ mi' = mC19 ∧ ml' = lC19) := by
  refine CT_of (by decide +kernel) (Nat.le_of_ble_eq_true rfl) ?_
  refine X_aload_n dX8_init_0 rfl ?_
  refine X_objInit dX8_init_1 oiX8 (by decide) (by decide) ?_
  refine X_aload_n dX8_init_4 rfl ?_
  refine X_bipush (v := nI 8) dX8_init_5 (by decide) ?_
  refine X_newI (len := 8) dX8_init_7 acI rfl (by decide) (by decide +kernel) (by decide) (by decide) ?_
  refine X_gml (g' := gC9) (mi' := mC9) (ml' := lC9) rfl rfl rfl ?_
  refine X_topr (a' := 4) (show gC8.1 = 4 by decide +kernel) ?_
  refine X_putrF (z := 0) dX8_init_9 fkX8_9 rfl rfl rfl rfl (by decide +kernel) (by decide) ?_
  refine X_gml (g' := gC10) (mi' := mC9) (ml' := lC9) rfl rfl rfl ?_
  refine X_aload_n dX8_init_12 rfl ?_
  refine X_bipush (v := nI 8) dX8_init_13 (by decide) ?_
  refine X_newI (len := 8) dX8_init_15 acI rfl (by decide) (by decide +kernel) (by decide) (by decide) ?_
  refine X_gml (g' := gC11) (mi' := mC11) (ml' := lC11) rfl rfl rfl ?_
  refine X_topr (a' := 5) (show gC10.1 = 5 by decide +kernel) ?_
  refine X_putrF (z := 0) dX8_init_17 fkX8_15 rfl rfl rfl rfl (by decide +kernel) (by decide) ?_
  refine X_gml (g' := gC12) (mi' := mC11) (ml' := lC11) rfl rfl rfl ?_
  refine X_aload_n dX8_init_20 rfl ?_
  refine X_bipush (v := nI 8) dX8_init_21 (by decide) ?_
  refine X_newI (len := 8) dX8_init_23 acI rfl (by decide) (by decide +kernel) (by decide) (by decide) ?_
  refine X_gml (g' := gC13) (mi' := mC13) (ml' := lC13) rfl rfl rfl ?_
  refine X_topr (a' := 6) (show gC12.1 = 6 by decide +kernel) ?_
  refine X_putrF (z := 0) dX8_init_25 fkX8_18 rfl rfl rfl rfl (by decide +kernel) (by decide) ?_
  refine X_gml (g' := gC14) (mi' := mC13) (ml' := lC13) rfl rfl rfl ?_
  refine X_aload_n dX8_init_28 rfl ?_
  refine X_bipush (v := nI 8) dX8_init_29 (by decide) ?_
  refine X_newI (len := 8) dX8_init_31 acI rfl (by decide) (by decide +kernel) (by decide) (by decide) ?_
  refine X_gml (g' := gC15) (mi' := mC15) (ml' := lC15) rfl rfl rfl ?_
  refine X_topr (a' := 7) (show gC14.1 = 7 by decide +kernel) ?_
  refine X_putrF (z := 0) dX8_init_33 fkX8_21 rfl rfl rfl rfl (by decide +kernel) (by decide) ?_
  refine X_gml (g' := gC16) (mi' := mC15) (ml' := lC15) rfl rfl rfl ?_
  refine X_aload_n dX8_init_36 rfl ?_
  refine X_bipush (v := nI 8) dX8_init_37 (by decide) ?_
  refine X_newI (len := 8) dX8_init_39 acI rfl (by decide) (by decide +kernel) (by decide) (by decide) ?_
  refine X_gml (g' := gC17) (mi' := mC17) (ml' := lC17) rfl rfl rfl ?_
  refine X_topr (a' := 8) (show gC16.1 = 8 by decide +kernel) ?_
  refine X_putrF (z := 0) dX8_init_41 fkX8_24 rfl rfl rfl rfl (by decide +kernel) (by decide) ?_
  refine X_gml (g' := gC18) (mi' := mC17) (ml' := lC17) rfl rfl rfl ?_
  refine X_aload_n dX8_init_44 rfl ?_
  refine X_bipush (v := nI 8) dX8_init_45 (by decide) ?_
  refine X_newI (len := 8) dX8_init_47 acI rfl (by decide) (by decide +kernel) (by decide) (by decide) ?_
  refine X_gml (g' := gC19) (mi' := mC19) (ml' := lC19) rfl rfl rfl ?_
  refine X_topr (a' := 9) (show gC18.1 = 9 by decide +kernel) ?_
  refine X_putrF (z := 0) dX8_init_49 fkX8_27 rfl rfl rfl rfl (by decide +kernel) (by decide) ?_
  refine X_gml (g' := gC20) (mi' := mC19) (ml' := lC19) rfl rfl rfl ?_
  exact X_vret dX8_init_52 rfl ⟨rfl, rfl, rfl, rfl⟩
def gC21 : pGG := (gC20.1, gC20.2.1, up2 gC20.2.2 0 2 (some 3))
def gC22 : pGG := newG gC21 (8, 0)
def mC22 : pMI := newR mC19 gC21.1 0
def lC22 : pML := newR lC19 gC21.1 0
def gC23 : pGG := newG gC22 (20, 8)
def mC23 : pMI := newR mC22 gC22.1 0
def lC23 : pML := newR lC22 gC22.1 0
def gC24 : pGG := (gC23.1, gC23.2.1, up2 gC23.2.2 10 0 (some 11))
def gC25 : pGG := newG gC24 (20, 8)
def mC25 : pMI := newR mC23 gC24.1 0
def lC25 : pML := newR lC23 gC24.1 0
def gC26 : pGG := (gC25.1, gC25.2.1, up2 gC25.2.2 10 1 (some 12))
def gC27 : pGG := newG gC26 (20, 8)
def mC27 : pMI := newR mC25 gC26.1 0
def lC27 : pML := newR lC25 gC26.1 0
def gC28 : pGG := (gC27.1, gC27.2.1, up2 gC27.2.2 10 2 (some 13))
def gC29 : pGG := newG gC28 (20, 8)
def mC29 : pMI := newR mC27 gC28.1 0
def lC29 : pML := newR lC27 gC28.1 0
def gC30 : pGG := (gC29.1, gC29.2.1, up2 gC29.2.2 10 3 (some 14))
def gC31 : pGG := newG gC30 (20, 8)
def mC31 : pMI := newR mC29 gC30.1 0
def lC31 : pML := newR lC29 gC30.1 0
def gC32 : pGG := (gC31.1, gC31.2.1, up2 gC31.2.2 10 4 (some 15))
def gC33 : pGG := newG gC32 (20, 8)
def mC33 : pMI := newR mC31 gC32.1 0
def lC33 : pML := newR lC31 gC32.1 0
def gC34 : pGG := (gC33.1, gC33.2.1, up2 gC33.2.2 10 5 (some 16))
set_option maxRecDepth 100000 in
set_option maxHeartbeats 4000000 in
theorem ct3_X8_init (Γ : pTG) : CT Γ 1 6 48 mX8_init [.ref 10] gC22 mC22 lC22 (fun o g' mi' ml' => o = .inl none ∧ g' = gC34 ∧ mi' = mC33 ∧ ml' = lC33) := by
  refine CT_of (by decide +kernel) (Nat.le_of_ble_eq_true rfl) ?_
  refine X_aload_n dX8_init_0 rfl ?_
  refine X_objInit dX8_init_1 oiX8 (by decide) (by decide) ?_
  refine X_aload_n dX8_init_4 rfl ?_
  refine X_bipush (v := nI 8) dX8_init_5 (by decide) ?_
  refine X_newI (len := 8) dX8_init_7 acI rfl (by decide) (by decide +kernel) (by decide) (by decide) ?_
  refine X_gml (g' := gC23) (mi' := mC23) (ml' := lC23) rfl rfl rfl ?_
  refine X_topr (a' := 11) (show gC22.1 = 11 by decide +kernel) ?_
  refine X_putrF (z := 0) dX8_init_9 fkX8_9 rfl rfl rfl rfl (by decide +kernel) (by decide) ?_
  refine X_gml (g' := gC24) (mi' := mC23) (ml' := lC23) rfl rfl rfl ?_
  refine X_aload_n dX8_init_12 rfl ?_
  refine X_bipush (v := nI 8) dX8_init_13 (by decide) ?_
  refine X_newI (len := 8) dX8_init_15 acI rfl (by decide) (by decide +kernel) (by decide) (by decide) ?_
  refine X_gml (g' := gC25) (mi' := mC25) (ml' := lC25) rfl rfl rfl ?_
  refine X_topr (a' := 12) (show gC24.1 = 12 by decide +kernel) ?_
  refine X_putrF (z := 0) dX8_init_17 fkX8_15 rfl rfl rfl rfl (by decide +kernel) (by decide) ?_
  refine X_gml (g' := gC26) (mi' := mC25) (ml' := lC25) rfl rfl rfl ?_
  refine X_aload_n dX8_init_20 rfl ?_
  refine X_bipush (v := nI 8) dX8_init_21 (by decide) ?_
  refine X_newI (len := 8) dX8_init_23 acI rfl (by decide) (by decide +kernel) (by decide) (by decide) ?_
  refine X_gml (g' := gC27) (mi' := mC27) (ml' := lC27) rfl rfl rfl ?_
  refine X_topr (a' := 13) (show gC26.1 = 13 by decide +kernel) ?_
  refine X_putrF (z := 0) dX8_init_25 fkX8_18 rfl rfl rfl rfl (by decide +kernel) (by decide) ?_
  refine X_gml (g' := gC28) (mi' := mC27) (ml' := lC27) rfl rfl rfl ?_
  refine X_aload_n dX8_init_28 rfl ?_
  refine X_bipush (v := nI 8) dX8_init_29 (by decide) ?_
  refine X_newI (len := 8) dX8_init_31 acI rfl (by decide) (by decide +kernel) (by decide) (by decide) ?_
  refine X_gml (g' := gC29) (mi' := mC29) (ml' := lC29) rfl rfl rfl ?_
  refine X_topr (a' := 14) (show gC28.1 = 14 by decide +kernel) ?_
  refine X_putrF (z := 0) dX8_init_33 fkX8_21 rfl rfl rfl rfl (by decide +kernel) (by decide) ?_
  refine X_gml (g' := gC30) (mi' := mC29) (ml' := lC29) rfl rfl rfl ?_
  refine X_aload_n dX8_init_36 rfl ?_
  refine X_bipush (v := nI 8) dX8_init_37 (by decide) ?_
  refine X_newI (len := 8) dX8_init_39 acI rfl (by decide) (by decide +kernel) (by decide) (by decide) ?_
  refine X_gml (g' := gC31) (mi' := mC31) (ml' := lC31) rfl rfl rfl ?_
  refine X_topr (a' := 15) (show gC30.1 = 15 by decide +kernel) ?_
  refine X_putrF (z := 0) dX8_init_41 fkX8_24 rfl rfl rfl rfl (by decide +kernel) (by decide) ?_
  refine X_gml (g' := gC32) (mi' := mC31) (ml' := lC31) rfl rfl rfl ?_
  refine X_aload_n dX8_init_44 rfl ?_
  refine X_bipush (v := nI 8) dX8_init_45 (by decide) ?_
  refine X_newI (len := 8) dX8_init_47 acI rfl (by decide) (by decide +kernel) (by decide) (by decide) ?_
  refine X_gml (g' := gC33) (mi' := mC33) (ml' := lC33) rfl rfl rfl ?_
  refine X_topr (a' := 16) (show gC32.1 = 16 by decide +kernel) ?_
  refine X_putrF (z := 0) dX8_init_49 fkX8_27 rfl rfl rfl rfl (by decide +kernel) (by decide) ?_
  refine X_gml (g' := gC34) (mi' := mC33) (ml' := lC33) rfl rfl rfl ?_
  exact X_vret dX8_init_52 rfl ⟨rfl, rfl, rfl, rfl⟩
def gC35 : pGG := (gC34.1, gC34.2.1, up2 gC34.2.2 0 3 (some 10))
def gC36 : pGG := newG gC35 (6, 0)
def mC36 : pMI := newR mC33 gC35.1 0
def lC36 : pML := newR lC33 gC35.1 0
def gC37 : pGG := newG gC36 (20, 1200)
def mC37 : pMI := newR mC36 gC36.1 0
def lC37 : pML := newR lC36 gC36.1 0
def gC38 : pGG := (gC37.1, gC37.2.1, up2 gC37.2.2 17 0 (some 18))
def gC39 : pGG := newG gC38 (20, 8)
def mC39 : pMI := newR mC37 gC38.1 0
def lC39 : pML := newR lC37 gC38.1 0
def gC40 : pGG := (gC39.1, gC39.2.1, up2 gC39.2.2 17 1 (some 19))
def gC41 : pGG := newG gC40 (20, 11)
def mC41 : pMI := newR mC39 gC40.1 0
def lC41 : pML := newR lC39 gC40.1 0
def gC42 : pGG := (gC41.1, gC41.2.1, up2 gC41.2.2 17 2 (some 20))
def gC43 : pGG := newG gC42 (20, 40)
def mC43 : pMI := newR mC41 gC42.1 0
def lC43 : pML := newR lC41 gC42.1 0
def gC44 : pGG := (gC43.1, gC43.2.1, up2 gC43.2.2 17 3 (some 21))
set_option maxRecDepth 100000 in
set_option maxHeartbeats 4000000 in
theorem ct4_X6_init (Γ : pTG) : CT Γ 1 4 1259 mX6_init [.ref 17] gC36 mC36 lC36 (fun o g' mi' ml' => o = .inl none ∧ g' = gC44 ∧ mi' = mC43 ∧ ml' = lC43) := by
  refine CT_of (by decide +kernel) (Nat.le_of_ble_eq_true rfl) ?_
  refine X_aload_n dX6_init_0 rfl ?_
  refine X_objInit dX6_init_1 oiX6 (by decide) (by decide) ?_
  refine X_aload_n dX6_init_4 rfl ?_
  refine X_sipush (v := nI 1200) dX6_init_5 (by decide) ?_
  refine X_newI (len := 1200) dX6_init_8 acI rfl (by decide) (by decide +kernel) (by decide) (by decide) ?_
  refine X_gml (g' := gC37) (mi' := mC37) (ml' := lC37) rfl rfl rfl ?_
  refine X_topr (a' := 18) (show gC36.1 = 18 by decide +kernel) ?_
  refine X_putrF (z := 0) dX6_init_10 fkX6_9 rfl rfl rfl rfl (by decide +kernel) (by decide) ?_
  refine X_gml (g' := gC38) (mi' := mC37) (ml' := lC37) rfl rfl rfl ?_
  refine X_aload_n dX6_init_13 rfl ?_
  refine X_bipush (v := nI 8) dX6_init_14 (by decide) ?_
  refine X_newI (len := 8) dX6_init_16 acI rfl (by decide) (by decide +kernel) (by decide) (by decide) ?_
  refine X_gml (g' := gC39) (mi' := mC39) (ml' := lC39) rfl rfl rfl ?_
  refine X_topr (a' := 19) (show gC38.1 = 19 by decide +kernel) ?_
  refine X_putrF (z := 0) dX6_init_18 fkX6_15 rfl rfl rfl rfl (by decide +kernel) (by decide) ?_
  refine X_gml (g' := gC40) (mi' := mC39) (ml' := lC39) rfl rfl rfl ?_
  refine X_aload_n dX6_init_21 rfl ?_
  refine X_bipush (v := nI 11) dX6_init_22 (by decide) ?_
  refine X_newI (len := 11) dX6_init_24 acI rfl (by decide) (by decide +kernel) (by decide) (by decide) ?_
  refine X_gml (g' := gC41) (mi' := mC41) (ml' := lC41) rfl rfl rfl ?_
  refine X_topr (a' := 20) (show gC40.1 = 20 by decide +kernel) ?_
  refine X_putrF (z := 0) dX6_init_26 fkX6_18 rfl rfl rfl rfl (by decide +kernel) (by decide) ?_
  refine X_gml (g' := gC42) (mi' := mC41) (ml' := lC41) rfl rfl rfl ?_
  refine X_aload_n dX6_init_29 rfl ?_
  refine X_bipush (v := nI 40) dX6_init_30 (by decide) ?_
  refine X_newI (len := 40) dX6_init_32 acI rfl (by decide) (by decide +kernel) (by decide) (by decide) ?_
  refine X_gml (g' := gC43) (mi' := mC43) (ml' := lC43) rfl rfl rfl ?_
  refine X_topr (a' := 21) (show gC42.1 = 21 by decide +kernel) ?_
  refine X_putrF (z := 0) dX6_init_34 fkX6_21 rfl rfl rfl rfl (by decide +kernel) (by decide) ?_
  refine X_gml (g' := gC44) (mi' := mC43) (ml' := lC43) rfl rfl rfl ?_
  exact X_vret dX6_init_37 rfl ⟨rfl, rfl, rfl, rfl⟩
def gC45 : pGG := (gC44.1, gC44.2.1, up2 gC44.2.2 0 4 (some 17))
def gC46 : pGG := newG gC45 (5, 0)
def mC46 : pMI := newR mC43 gC45.1 0
def lC46 : pML := newR lC43 gC45.1 0
def gC47 : pGG := newG gC46 (20, 150)
def mC47 : pMI := newR mC46 gC46.1 0
def lC47 : pML := newR lC46 gC46.1 0
def gC48 : pGG := (gC47.1, gC47.2.1, up2 gC47.2.2 22 0 (some 23))
def gC49 : pGG := (gC48.1, gC48.2.1, up2 gC48.2.2 22 3 (some 2))
set_option maxRecDepth 100000 in
set_option maxHeartbeats 4000000 in
theorem ct5_X5_init (Γ : pTG) : CT Γ 1 1 150 mX5_init [.ref 22, .ref 2] gC46 mC46 lC46 (fun o g' mi' ml' => o = .inl none ∧ g' = gC49 ∧ mi' = mC47 ∧ ml' = lC47) := by
  refine CT_of (by decide +kernel) (Nat.le_of_ble_eq_true rfl) ?_
  refine X_aload_n dX5_init_0 rfl ?_
  refine X_objInit dX5_init_1 oiX5 (by decide) (by decide) ?_
  refine X_aload_n dX5_init_4 rfl ?_
  refine X_sipush (v := nI 150) dX5_init_5 (by decide) ?_
  refine X_newI (len := 150) dX5_init_8 acI rfl (by decide) (by decide +kernel) (by decide) (by decide) ?_
  refine X_gml (g' := gC47) (mi' := mC47) (ml' := lC47) rfl rfl rfl ?_
  refine X_topr (a' := 23) (show gC46.1 = 23 by decide +kernel) ?_
  refine X_putrF (z := 0) dX5_init_10 fkX5_9 rfl rfl rfl rfl (by decide +kernel) (by decide) ?_
  refine X_gml (g' := gC48) (mi' := mC47) (ml' := lC47) rfl rfl rfl ?_
  refine X_aload_n dX5_init_13 rfl ?_
  refine X_aload_n dX5_init_14 rfl ?_
  refine X_putrF (z := 0) dX5_init_15 fkX5_15 rfl rfl rfl rfl (by decide +kernel) (by decide) ?_
  refine X_gml (g' := gC49) (mi' := mC47) (ml' := lC47) rfl rfl rfl ?_
  exact X_vret dX5_init_18 rfl ⟨rfl, rfl, rfl, rfl⟩
def gC50 : pGG := (gC49.1, gC49.2.1, up2 gC49.2.2 0 5 (some 22))
def gC51 : pGG := newG gC50 (0, 0)
def mC51 : pMI := newR mC47 gC50.1 0
def lC51 : pML := newR lC47 gC50.1 0
def gC52 : pGG := newG gC51 (20, 36)
def mC52 : pMI := newR mC51 gC51.1 0
def lC52 : pML := newR lC51 gC51.1 0
def gC53 : pGG := (gC52.1, gC52.2.1, up2 gC52.2.2 24 0 (some 25))
def gC54 : pGG := newG gC53 (20, 36)
def mC54 : pMI := newR mC52 gC53.1 0
def lC54 : pML := newR lC52 gC53.1 0
def gC55 : pGG := (gC54.1, gC54.2.1, up2 gC54.2.2 24 1 (some 26))
set_option maxRecDepth 100000 in
set_option maxHeartbeats 4000000 in
theorem ct6_X0_init (Γ : pTG) : CT Γ 1 2 72 mX0_init [.ref 24] gC51 mC51 lC51 (fun o g' mi' ml' => o = .inl none ∧ g' = gC55 ∧ mi' = mC54 ∧ ml' = lC54) := by
  refine CT_of (by decide +kernel) (Nat.le_of_ble_eq_true rfl) ?_
  refine X_aload_n dX0_init_0 rfl ?_
  refine X_objInit dX0_init_1 oiX0 (by decide) (by decide) ?_
  refine X_aload_n dX0_init_4 rfl ?_
  refine X_bipush (v := nI 36) dX0_init_5 (by decide) ?_
  refine X_newI (len := 36) dX0_init_7 acI rfl (by decide) (by decide +kernel) (by decide) (by decide) ?_
  refine X_gml (g' := gC52) (mi' := mC52) (ml' := lC52) rfl rfl rfl ?_
  refine X_topr (a' := 25) (show gC51.1 = 25 by decide +kernel) ?_
  refine X_putrF (z := 0) dX0_init_9 fkX0_11 rfl rfl rfl rfl (by decide +kernel) (by decide) ?_
  refine X_gml (g' := gC53) (mi' := mC52) (ml' := lC52) rfl rfl rfl ?_
  refine X_aload_n dX0_init_12 rfl ?_
  refine X_bipush (v := nI 36) dX0_init_13 (by decide) ?_
  refine X_newI (len := 36) dX0_init_15 acI rfl (by decide) (by decide +kernel) (by decide) (by decide) ?_
  refine X_gml (g' := gC54) (mi' := mC54) (ml' := lC54) rfl rfl rfl ?_
  refine X_topr (a' := 26) (show gC53.1 = 26 by decide +kernel) ?_
  refine X_putrF (z := 0) dX0_init_17 fkX0_15 rfl rfl rfl rfl (by decide +kernel) (by decide) ?_
  refine X_gml (g' := gC55) (mi' := mC54) (ml' := lC54) rfl rfl rfl ?_
  exact X_vret dX0_init_20 rfl ⟨rfl, rfl, rfl, rfl⟩
def gC56 : pGG := (gC55.1, gC55.2.1, up2 gC55.2.2 0 6 (some 24))
def gC57 : pGG := newG gC56 (3, 0)
def mC57 : pMI := newR mC54 gC56.1 0
def lC57 : pML := newR lC54 gC56.1 0
def gC58 : pGG := newG gC57 (20, 8)
def mC58 : pMI := newR mC57 gC57.1 0
def lC58 : pML := newR lC57 gC57.1 0
def gC59 : pGG := (gC58.1, gC58.2.1, up2 gC58.2.2 27 3 (some 28))
def gC60 : pGG := newG gC59 (20, 8)
def mC60 : pMI := newR mC58 gC59.1 0
def lC60 : pML := newR lC58 gC59.1 0
def gC61 : pGG := (gC60.1, gC60.2.1, up2 gC60.2.2 27 4 (some 29))
def gC62 : pGG := newG gC61 (21, 200)
def mC62 : pMI := newR mC60 gC61.1 0
def lC62 : pML := newR lC60 gC61.1 0
def gC63 : pGG := (gC62.1, gC62.2.1, up2 gC62.2.2 27 5 (some 30))
def gC64 : pGG := newG gC63 (20, 200)
def mC64 : pMI := newR mC62 gC63.1 0
def lC64 : pML := newR lC62 gC63.1 0
def gC65 : pGG := (gC64.1, gC64.2.1, up2 gC64.2.2 27 6 (some 31))
def gC66 : pGG := (gC65.1, gC65.2.1, up2 gC65.2.2 27 0 (some 3))
def gC67 : pGG := (gC66.1, gC66.2.1, up2 gC66.2.2 27 1 (some 17))
def gC68 : pGG := newG gC67 (2, 0)
def mC68 : pMI := newR mC64 gC67.1 0
def lC68 : pML := newR lC64 gC67.1 0
def gC69 : pGG := newG gC68 (20, 64)
def mC69 : pMI := newR mC68 gC68.1 0
def lC69 : pML := newR lC68 gC68.1 0
def gC70 : pGG := (gC69.1, gC69.2.1, up2 gC69.2.2 32 1 (some 33))
def gC71 : pGG := newG gC70 (20, 24)
def mC71 : pMI := newR mC69 gC70.1 0
def lC71 : pML := newR lC69 gC70.1 0
def gC72 : pGG := (gC71.1, gC71.2.1, up2 gC71.2.2 32 2 (some 34))
def gC73 : pGG := newG gC72 (20, 8)
def mC73 : pMI := newR mC71 gC72.1 0
def lC73 : pML := newR lC71 gC72.1 0
def gC74 : pGG := (gC73.1, gC73.2.1, up2 gC73.2.2 32 5 (some 35))
def gC75 : pGG := newG gC74 (20, 8)
def mC75 : pMI := newR mC73 gC74.1 0
def lC75 : pML := newR lC73 gC74.1 0
def gC76 : pGG := (gC75.1, gC75.2.1, up2 gC75.2.2 32 6 (some 36))
def gC77 : pGG := newG gC76 (20, 8)
def mC77 : pMI := newR mC75 gC76.1 0
def lC77 : pML := newR lC75 gC76.1 0
def gC78 : pGG := (gC77.1, gC77.2.1, up2 gC77.2.2 32 7 (some 37))
def gC79 : pGG := newG gC78 (20, 8)
def mC79 : pMI := newR mC77 gC78.1 0
def lC79 : pML := newR lC77 gC78.1 0
def gC80 : pGG := (gC79.1, gC79.2.1, up2 gC79.2.2 32 8 (some 38))
def gC81 : pGG := newG gC80 (20, 8)
def mC81 : pMI := newR mC79 gC80.1 0
def lC81 : pML := newR lC79 gC80.1 0
def gC82 : pGG := (gC81.1, gC81.2.1, up2 gC81.2.2 32 9 (some 39))
def gC83 : pGG := (gC82.1, gC82.2.1, up2 gC82.2.2 32 0 (some 3))
def mC84 : pMI := up2 mC81 32 10 (nI 0)
def gC85 : pGG := newG gC83 (20, 0)
def mC85 : pMI := newR mC84 gC83.1 0
def lC85 : pML := newR lC81 gC83.1 0
def gC86 : pGG := (gC85.1, gC85.2.1, up2 gC85.2.2 32 3 (some 40))
def gC87 : pGG := newG gC86 (20, 0)
def mC87 : pMI := newR mC85 gC86.1 0
def lC87 : pML := newR lC85 gC86.1 0
def gC88 : pGG := (gC87.1, gC87.2.1, up2 gC87.2.2 32 4 (some 41))
def mC89 : pMI := up2 mC87 38 0 (nI 0)
def mC90 : pMI := up2 mC89 38 1 (nI 1)
def mC91 : pMI := up2 mC90 38 2 (nI 2)
def mC92 : pMI := up2 mC91 38 3 (nI 3)
def mC93 : pMI := up2 mC92 38 4 (nI 4)
def mC94 : pMI := up2 mC93 38 5 (nI 5)
def mC95 : pMI := up2 mC94 38 6 (nI 6)
def mC96 : pMI := up2 mC95 38 7 (nI 7)
set_option maxRecDepth 100000 in
set_option maxHeartbeats 4000000 in
theorem ct7_X2_goByNumber (Γ : pTG) : CT Γ 1 0 0 mX2_goByNumber [.ref 32] gC88 mC87 lC87 (fun o g' mi' ml' => o = .inl none ∧ g' = gC88 ∧ mi' = mC96 ∧ ml' = lC87) := by
  refine CT_of (by decide +kernel) (Nat.le_of_ble_eq_true rfl) ?_
  refine X_iconst (v := nI 0) dX2_goByNumber_0 (by decide) ?_
  refine X_istore_n dX2_goByNumber_1 (by decide) ?_
  refine X_iload_n dX2_goByNumber_2 rfl ?_
  refine X_bipush (v := nI 8) dX2_goByNumber_3 (by decide) ?_
  refine X_icmp_ge 21 dX2_goByNumber_5 (by decide) (fun h => absurd h (by decide)) (fun _ => ?_)
  refine X_aload_n dX2_goByNumber_8 rfl ?_
  refine X_getr (a := 38) (z := 0) dX2_goByNumber_9 fkX2_27 rfl (by decide +kernel) (by decide +kernel) ?_
  refine X_iload_n dX2_goByNumber_12 rfl ?_
  refine X_iload_n dX2_goByNumber_13 rfl ?_
  refine X_iast (len := 8) 0 dX2_goByNumber_14 (by decide +kernel) rfl (by decide) ?_
  refine X_gml (g' := gC88) (mi' := mC89) (ml' := lC87) rfl rfl rfl ?_
  refine X_iinc (v := nI 1) dX2_goByNumber_15 rfl (by decide) (by decide) ?_
  refine X_goto 2 dX2_goByNumber_18 (by decide) ?_
  refine X_iload_n dX2_goByNumber_2 rfl ?_
  refine X_bipush (v := nI 8) dX2_goByNumber_3 (by decide) ?_
  refine X_icmp_ge 21 dX2_goByNumber_5 (by decide) (fun h => absurd h (by decide)) (fun _ => ?_)
  refine X_aload_n dX2_goByNumber_8 rfl ?_
  refine X_getr (a := 38) (z := 0) dX2_goByNumber_9 fkX2_27 rfl (by decide +kernel) (by decide +kernel) ?_
  refine X_iload_n dX2_goByNumber_12 rfl ?_
  refine X_iload_n dX2_goByNumber_13 rfl ?_
  refine X_iast (len := 8) 1 dX2_goByNumber_14 (by decide +kernel) rfl (by decide) ?_
  refine X_gml (g' := gC88) (mi' := mC90) (ml' := lC87) rfl rfl rfl ?_
  refine X_iinc (v := nI 2) dX2_goByNumber_15 rfl (by decide) (by decide) ?_
  refine X_goto 2 dX2_goByNumber_18 (by decide) ?_
  refine X_iload_n dX2_goByNumber_2 rfl ?_
  refine X_bipush (v := nI 8) dX2_goByNumber_3 (by decide) ?_
  refine X_icmp_ge 21 dX2_goByNumber_5 (by decide) (fun h => absurd h (by decide)) (fun _ => ?_)
  refine X_aload_n dX2_goByNumber_8 rfl ?_
  refine X_getr (a := 38) (z := 0) dX2_goByNumber_9 fkX2_27 rfl (by decide +kernel) (by decide +kernel) ?_
  refine X_iload_n dX2_goByNumber_12 rfl ?_
  refine X_iload_n dX2_goByNumber_13 rfl ?_
  refine X_iast (len := 8) 2 dX2_goByNumber_14 (by decide +kernel) rfl (by decide) ?_
  refine X_gml (g' := gC88) (mi' := mC91) (ml' := lC87) rfl rfl rfl ?_
  refine X_iinc (v := nI 3) dX2_goByNumber_15 rfl (by decide) (by decide) ?_
  refine X_goto 2 dX2_goByNumber_18 (by decide) ?_
  refine X_iload_n dX2_goByNumber_2 rfl ?_
  refine X_bipush (v := nI 8) dX2_goByNumber_3 (by decide) ?_
  refine X_icmp_ge 21 dX2_goByNumber_5 (by decide) (fun h => absurd h (by decide)) (fun _ => ?_)
  refine X_aload_n dX2_goByNumber_8 rfl ?_
  refine X_getr (a := 38) (z := 0) dX2_goByNumber_9 fkX2_27 rfl (by decide +kernel) (by decide +kernel) ?_
  refine X_iload_n dX2_goByNumber_12 rfl ?_
  refine X_iload_n dX2_goByNumber_13 rfl ?_
  refine X_iast (len := 8) 3 dX2_goByNumber_14 (by decide +kernel) rfl (by decide) ?_
  refine X_gml (g' := gC88) (mi' := mC92) (ml' := lC87) rfl rfl rfl ?_
  refine X_iinc (v := nI 4) dX2_goByNumber_15 rfl (by decide) (by decide) ?_
  refine X_goto 2 dX2_goByNumber_18 (by decide) ?_
  refine X_iload_n dX2_goByNumber_2 rfl ?_
  refine X_bipush (v := nI 8) dX2_goByNumber_3 (by decide) ?_
  refine X_icmp_ge 21 dX2_goByNumber_5 (by decide) (fun h => absurd h (by decide)) (fun _ => ?_)
  refine X_aload_n dX2_goByNumber_8 rfl ?_
  refine X_getr (a := 38) (z := 0) dX2_goByNumber_9 fkX2_27 rfl (by decide +kernel) (by decide +kernel) ?_
  refine X_iload_n dX2_goByNumber_12 rfl ?_
  refine X_iload_n dX2_goByNumber_13 rfl ?_
  refine X_iast (len := 8) 4 dX2_goByNumber_14 (by decide +kernel) rfl (by decide) ?_
  refine X_gml (g' := gC88) (mi' := mC93) (ml' := lC87) rfl rfl rfl ?_
  refine X_iinc (v := nI 5) dX2_goByNumber_15 rfl (by decide) (by decide) ?_
  refine X_goto 2 dX2_goByNumber_18 (by decide) ?_
  refine X_iload_n dX2_goByNumber_2 rfl ?_
  refine X_bipush (v := nI 8) dX2_goByNumber_3 (by decide) ?_
  refine X_icmp_ge 21 dX2_goByNumber_5 (by decide) (fun h => absurd h (by decide)) (fun _ => ?_)
  refine X_aload_n dX2_goByNumber_8 rfl ?_
  refine X_getr (a := 38) (z := 0) dX2_goByNumber_9 fkX2_27 rfl (by decide +kernel) (by decide +kernel) ?_
  refine X_iload_n dX2_goByNumber_12 rfl ?_
  refine X_iload_n dX2_goByNumber_13 rfl ?_
  refine X_iast (len := 8) 5 dX2_goByNumber_14 (by decide +kernel) rfl (by decide) ?_
  refine X_gml (g' := gC88) (mi' := mC94) (ml' := lC87) rfl rfl rfl ?_
  refine X_iinc (v := nI 6) dX2_goByNumber_15 rfl (by decide) (by decide) ?_
  refine X_goto 2 dX2_goByNumber_18 (by decide) ?_
  refine X_iload_n dX2_goByNumber_2 rfl ?_
  refine X_bipush (v := nI 8) dX2_goByNumber_3 (by decide) ?_
  refine X_icmp_ge 21 dX2_goByNumber_5 (by decide) (fun h => absurd h (by decide)) (fun _ => ?_)
  refine X_aload_n dX2_goByNumber_8 rfl ?_
  refine X_getr (a := 38) (z := 0) dX2_goByNumber_9 fkX2_27 rfl (by decide +kernel) (by decide +kernel) ?_
  refine X_iload_n dX2_goByNumber_12 rfl ?_
  refine X_iload_n dX2_goByNumber_13 rfl ?_
  refine X_iast (len := 8) 6 dX2_goByNumber_14 (by decide +kernel) rfl (by decide) ?_
  refine X_gml (g' := gC88) (mi' := mC95) (ml' := lC87) rfl rfl rfl ?_
  refine X_iinc (v := nI 7) dX2_goByNumber_15 rfl (by decide) (by decide) ?_
  refine X_goto 2 dX2_goByNumber_18 (by decide) ?_
  refine X_iload_n dX2_goByNumber_2 rfl ?_
  refine X_bipush (v := nI 8) dX2_goByNumber_3 (by decide) ?_
  refine X_icmp_ge 21 dX2_goByNumber_5 (by decide) (fun h => absurd h (by decide)) (fun _ => ?_)
  refine X_aload_n dX2_goByNumber_8 rfl ?_
  refine X_getr (a := 38) (z := 0) dX2_goByNumber_9 fkX2_27 rfl (by decide +kernel) (by decide +kernel) ?_
  refine X_iload_n dX2_goByNumber_12 rfl ?_
  refine X_iload_n dX2_goByNumber_13 rfl ?_
  refine X_iast (len := 8) 7 dX2_goByNumber_14 (by decide +kernel) rfl (by decide) ?_
  refine X_gml (g' := gC88) (mi' := mC96) (ml' := lC87) rfl rfl rfl ?_
  refine X_iinc (v := nI 8) dX2_goByNumber_15 rfl (by decide) (by decide) ?_
  refine X_goto 2 dX2_goByNumber_18 (by decide) ?_
  refine X_iload_n dX2_goByNumber_2 rfl ?_
  refine X_bipush (v := nI 8) dX2_goByNumber_3 (by decide) ?_
  refine X_icmp_ge 21 dX2_goByNumber_5 (by decide) (fun _ => ?_) (fun h => absurd h (by decide))
  exact X_vret dX2_goByNumber_21 rfl ⟨rfl, rfl, rfl, rfl⟩
set_option maxRecDepth 100000 in
set_option maxHeartbeats 4000000 in
theorem ct8_X2_init (Γ : pTG) : CT Γ 2 9 128 mX2_init [.ref 32, .ref 3, .int (nI 0)] gC68 mC68 lC68 (fun o g' mi' ml' => o = .inl none ∧ g' = gC88 ∧ mi' = mC96 ∧ ml' = lC87) := by
  refine CT_of (by decide +kernel) (Nat.le_of_ble_eq_true rfl) ?_
  refine X_aload_n dX2_init_0 rfl ?_
  refine X_objInit dX2_init_1 oiX2 (by decide) (by decide) ?_
  refine X_aload_n dX2_init_4 rfl ?_
  refine X_bipush (v := nI 64) dX2_init_5 (by decide) ?_
  refine X_newI (len := 64) dX2_init_7 acI rfl (by decide) (by decide +kernel) (by decide) (by decide) ?_
  refine X_gml (g' := gC69) (mi' := mC69) (ml' := lC69) rfl rfl rfl ?_
  refine X_topr (a' := 33) (show gC68.1 = 33 by decide +kernel) ?_
  refine X_putrF (z := 0) dX2_init_9 fkX2_9 rfl rfl rfl rfl (by decide +kernel) (by decide) ?_
  refine X_gml (g' := gC70) (mi' := mC69) (ml' := lC69) rfl rfl rfl ?_
  refine X_aload_n dX2_init_12 rfl ?_
  refine X_bipush (v := nI 24) dX2_init_13 (by decide) ?_
  refine X_newI (len := 24) dX2_init_15 acI rfl (by decide) (by decide +kernel) (by decide) (by decide) ?_
  refine X_gml (g' := gC71) (mi' := mC71) (ml' := lC71) rfl rfl rfl ?_
  refine X_topr (a' := 34) (show gC70.1 = 34 by decide +kernel) ?_
  refine X_putrF (z := 0) dX2_init_17 fkX2_15 rfl rfl rfl rfl (by decide +kernel) (by decide) ?_
  refine X_gml (g' := gC72) (mi' := mC71) (ml' := lC71) rfl rfl rfl ?_
  refine X_aload_n dX2_init_20 rfl ?_
  refine X_bipush (v := nI 8) dX2_init_21 (by decide) ?_
  refine X_newI (len := 8) dX2_init_23 acI rfl (by decide) (by decide +kernel) (by decide) (by decide) ?_
  refine X_gml (g' := gC73) (mi' := mC73) (ml' := lC73) rfl rfl rfl ?_
  refine X_topr (a' := 35) (show gC72.1 = 35 by decide +kernel) ?_
  refine X_putrF (z := 0) dX2_init_25 fkX2_18 rfl rfl rfl rfl (by decide +kernel) (by decide) ?_
  refine X_gml (g' := gC74) (mi' := mC73) (ml' := lC73) rfl rfl rfl ?_
  refine X_aload_n dX2_init_28 rfl ?_
  refine X_bipush (v := nI 8) dX2_init_29 (by decide) ?_
  refine X_newI (len := 8) dX2_init_31 acI rfl (by decide) (by decide +kernel) (by decide) (by decide) ?_
  refine X_gml (g' := gC75) (mi' := mC75) (ml' := lC75) rfl rfl rfl ?_
  refine X_topr (a' := 36) (show gC74.1 = 36 by decide +kernel) ?_
  refine X_putrF (z := 0) dX2_init_33 fkX2_21 rfl rfl rfl rfl (by decide +kernel) (by decide) ?_
  refine X_gml (g' := gC76) (mi' := mC75) (ml' := lC75) rfl rfl rfl ?_
  refine X_aload_n dX2_init_36 rfl ?_
  refine X_bipush (v := nI 8) dX2_init_37 (by decide) ?_
  refine X_newI (len := 8) dX2_init_39 acI rfl (by decide) (by decide +kernel) (by decide) (by decide) ?_
  refine X_gml (g' := gC77) (mi' := mC77) (ml' := lC77) rfl rfl rfl ?_
  refine X_topr (a' := 37) (show gC76.1 = 37 by decide +kernel) ?_
  refine X_putrF (z := 0) dX2_init_41 fkX2_24 rfl rfl rfl rfl (by decide +kernel) (by decide) ?_
  refine X_gml (g' := gC78) (mi' := mC77) (ml' := lC77) rfl rfl rfl ?_
  refine X_aload_n dX2_init_44 rfl ?_
  refine X_bipush (v := nI 8) dX2_init_45 (by decide) ?_
  refine X_newI (len := 8) dX2_init_47 acI rfl (by decide) (by decide +kernel) (by decide) (by decide) ?_
  refine X_gml (g' := gC79) (mi' := mC79) (ml' := lC79) rfl rfl rfl ?_
  refine X_topr (a' := 38) (show gC78.1 = 38 by decide +kernel) ?_
  refine X_putrF (z := 0) dX2_init_49 fkX2_27 rfl rfl rfl rfl (by decide +kernel) (by decide) ?_
  refine X_gml (g' := gC80) (mi' := mC79) (ml' := lC79) rfl rfl rfl ?_
  refine X_aload_n dX2_init_52 rfl ?_
  refine X_bipush (v := nI 8) dX2_init_53 (by decide) ?_
  refine X_newI (len := 8) dX2_init_55 acI rfl (by decide) (by decide +kernel) (by decide) (by decide) ?_
  refine X_gml (g' := gC81) (mi' := mC81) (ml' := lC81) rfl rfl rfl ?_
  refine X_topr (a' := 39) (show gC80.1 = 39 by decide +kernel) ?_
  refine X_putrF (z := 0) dX2_init_57 fkX2_30 rfl rfl rfl rfl (by decide +kernel) (by decide) ?_
  refine X_gml (g' := gC82) (mi' := mC81) (ml' := lC81) rfl rfl rfl ?_
  refine X_aload_n dX2_init_60 rfl ?_
  refine X_aload_n dX2_init_61 rfl ?_
  refine X_putrF (z := 0) dX2_init_62 fkX2_33 rfl rfl rfl rfl (by decide +kernel) (by decide) ?_
  refine X_gml (g' := gC83) (mi' := mC81) (ml' := lC81) rfl rfl rfl ?_
  refine X_aload_n dX2_init_65 rfl ?_
  refine X_iload_n dX2_init_66 rfl ?_
  refine X_putzF (z := 0) dX2_init_67 fkX2_37 rfl (by decide) rfl rfl rfl (by decide +kernel) ?_
  refine X_gml (g' := gC83) (mi' := mC84) (ml' := lC81) rfl rfl rfl ?_
  refine X_aload_n dX2_init_70 rfl ?_
  refine X_iload_n dX2_init_71 rfl ?_
  refine X_if_eq 81 dX2_init_72 (by decide) (fun _ => ?_) (fun h => absurd h (by decide))
  refine X_iconst (v := nI 0) dX2_init_81 (by decide) ?_
  refine X_newI (len := 0) dX2_init_82 acI rfl (by decide) (by decide +kernel) (by decide) (by decide) ?_
  refine X_gml (g' := gC85) (mi' := mC85) (ml' := lC85) rfl rfl rfl ?_
  refine X_topr (a' := 40) (show gC83.1 = 40 by decide +kernel) ?_
  refine X_putrF (z := 0) dX2_init_84 fkX2_41 rfl rfl rfl rfl (by decide +kernel) (by decide) ?_
  refine X_gml (g' := gC86) (mi' := mC85) (ml' := lC85) rfl rfl rfl ?_
  refine X_aload_n dX2_init_87 rfl ?_
  refine X_iload_n dX2_init_88 rfl ?_
  refine X_if_eq 97 dX2_init_89 (by decide) (fun _ => ?_) (fun h => absurd h (by decide))
  refine X_iconst (v := nI 0) dX2_init_97 (by decide) ?_
  refine X_newI (len := 0) dX2_init_98 acI rfl (by decide) (by decide +kernel) (by decide) (by decide) ?_
  refine X_gml (g' := gC87) (mi' := mC87) (ml' := lC87) rfl rfl rfl ?_
  refine X_topr (a' := 41) (show gC86.1 = 41 by decide +kernel) ?_
  refine X_putrF (z := 0) dX2_init_100 fkX2_44 rfl rfl rfl rfl (by decide +kernel) (by decide) ?_
  refine X_gml (g' := gC88) (mi' := mC87) (ml' := lC87) rfl rfl rfl ?_
  refine X_aload_n dX2_init_103 rfl ?_
  refine X_callV (z := 0) dX2_init_104 mkX2_47 (by decide +kernel) (ct7_X2_goByNumber Γ) rfl rfl (by decide) (by decide) (by decide) (by decide) (fun _ _ _ _ h => by cases h.1) (fun v g' mi' ml' h => ?_)
  obtain ⟨h1, rfl, rfl, rfl⟩ := h
  cases h1
  exact X_vret dX2_init_107 rfl ⟨rfl, rfl, rfl, rfl⟩
def gC97 : pGG := (gC88.1, gC88.2.1, up2 gC88.2.2 27 2 (some 32))
def mC98 : pMI := up2 mC96 28 0 (nI 0)
def mC99 : pMI := up2 mC98 28 1 (nI 1)
def mC100 : pMI := up2 mC99 28 2 (nI 2)
def mC101 : pMI := up2 mC100 28 3 (nI 3)
def mC102 : pMI := up2 mC101 28 4 (nI 4)
def mC103 : pMI := up2 mC102 28 5 (nI 5)
def mC104 : pMI := up2 mC103 28 6 (nI 6)
def mC105 : pMI := up2 mC104 28 7 (nI 7)
set_option maxRecDepth 100000 in
set_option maxHeartbeats 4000000 in
theorem ct9_X3_init (Γ : pTG) : CT Γ 3 14 559 mX3_init [.ref 27, .ref 3, .ref 17] gC57 mC57 lC57 (fun o g' mi' ml' => o = .inl none ∧ g' = gC97 ∧ mi' = mC105 ∧ ml' = lC87) := by
  refine CT_of (by decide +kernel) (Nat.le_of_ble_eq_true rfl) ?_
  refine X_aload_n dX3_init_0 rfl ?_
  refine X_objInit dX3_init_1 oiX3 (by decide) (by decide) ?_
  refine X_aload_n dX3_init_4 rfl ?_
  refine X_bipush (v := nI 8) dX3_init_5 (by decide) ?_
  refine X_newI (len := 8) dX3_init_7 acI rfl (by decide) (by decide +kernel) (by decide) (by decide) ?_
  refine X_gml (g' := gC58) (mi' := mC58) (ml' := lC58) rfl rfl rfl ?_
  refine X_topr (a' := 28) (show gC57.1 = 28 by decide +kernel) ?_
  refine X_putrF (z := 0) dX3_init_9 fkX3_9 rfl rfl rfl rfl (by decide +kernel) (by decide) ?_
  refine X_gml (g' := gC59) (mi' := mC58) (ml' := lC58) rfl rfl rfl ?_
  refine X_aload_n dX3_init_12 rfl ?_
  refine X_bipush (v := nI 8) dX3_init_13 (by decide) ?_
  refine X_newI (len := 8) dX3_init_15 acI rfl (by decide) (by decide +kernel) (by decide) (by decide) ?_
  refine X_gml (g' := gC60) (mi' := mC60) (ml' := lC60) rfl rfl rfl ?_
  refine X_topr (a' := 29) (show gC59.1 = 29 by decide +kernel) ?_
  refine X_putrF (z := 0) dX3_init_17 fkX3_15 rfl rfl rfl rfl (by decide +kernel) (by decide) ?_
  refine X_gml (g' := gC61) (mi' := mC60) (ml' := lC60) rfl rfl rfl ?_
  refine X_aload_n dX3_init_20 rfl ?_
  refine X_sipush (v := nI 200) dX3_init_21 (by decide) ?_
  refine X_newL (len := 200) dX3_init_24 acL rfl (by decide) (by decide +kernel) (by decide) (by decide) ?_
  refine X_gml (g' := gC62) (mi' := mC62) (ml' := lC62) rfl rfl rfl ?_
  refine X_topr (a' := 30) (show gC61.1 = 30 by decide +kernel) ?_
  refine X_putrF (z := 0) dX3_init_26 fkX3_18 rfl rfl rfl rfl (by decide +kernel) (by decide) ?_
  refine X_gml (g' := gC63) (mi' := mC62) (ml' := lC62) rfl rfl rfl ?_
  refine X_aload_n dX3_init_29 rfl ?_
  refine X_sipush (v := nI 200) dX3_init_30 (by decide) ?_
  refine X_newI (len := 200) dX3_init_33 acI rfl (by decide) (by decide +kernel) (by decide) (by decide) ?_
  refine X_gml (g' := gC64) (mi' := mC64) (ml' := lC64) rfl rfl rfl ?_
  refine X_topr (a' := 31) (show gC63.1 = 31 by decide +kernel) ?_
  refine X_putrF (z := 0) dX3_init_35 fkX3_22 rfl rfl rfl rfl (by decide +kernel) (by decide) ?_
  refine X_gml (g' := gC65) (mi' := mC64) (ml' := lC64) rfl rfl rfl ?_
  refine X_aload_n dX3_init_38 rfl ?_
  refine X_aload_n dX3_init_39 rfl ?_
  refine X_putrF (z := 0) dX3_init_40 fkX3_25 rfl rfl rfl rfl (by decide +kernel) (by decide) ?_
  refine X_gml (g' := gC66) (mi' := mC64) (ml' := lC64) rfl rfl rfl ?_
  refine X_aload_n dX3_init_43 rfl ?_
  refine X_aload_n dX3_init_44 rfl ?_
  refine X_putrF (z := 0) dX3_init_45 fkX3_29 rfl rfl rfl rfl (by decide +kernel) (by decide) ?_
  refine X_gml (g' := gC67) (mi' := mC64) (ml' := lC64) rfl rfl rfl ?_
  refine X_aload_n dX3_init_48 rfl ?_
  refine X_new dX3_init_49 nwX3_33 (by decide +kernel) (by decide) (by decide) ?_
  refine X_gml (g' := gC68) (mi' := mC68) (ml' := lC68) rfl rfl rfl ?_
  refine X_topr (a' := 32) (show gC67.1 = 32 by decide +kernel) ?_
  refine X_dup dX3_init_52 rfl ?_
  refine X_aload_n dX3_init_53 rfl ?_
  refine X_iconst (v := nI 0) dX3_init_54 (by decide) ?_
  refine X_callI dX3_init_55 miX3_35 (ct8_X2_init Γ) (fun _ _ _ _ h => by cases h.1) rfl rfl (by decide) (by decide) (by decide) (by decide) (fun v g' mi' ml' h => ?_)
  obtain ⟨h1, rfl, rfl, rfl⟩ := h
  cases h1
  refine X_putrF (z := 0) dX3_init_58 fkX3_38 rfl rfl rfl rfl (by decide +kernel) (by decide) ?_
  refine X_gml (g' := gC97) (mi' := mC96) (ml' := lC87) rfl rfl rfl ?_
  refine X_iconst (v := nI 0) dX3_init_61 (by decide) ?_
  refine X_istore_n dX3_init_62 (by decide) ?_
  refine X_iload_n dX3_init_63 rfl ?_
  refine X_bipush (v := nI 8) dX3_init_64 (by decide) ?_
  refine X_icmp_ge 82 dX3_init_66 (by decide) (fun h => absurd h (by decide)) (fun _ => ?_)
  refine X_aload_n dX3_init_69 rfl ?_
  refine X_getr (a := 28) (z := 0) dX3_init_70 fkX3_9 rfl (by decide +kernel) (by decide +kernel) ?_
  refine X_iload_n dX3_init_73 rfl ?_
  refine X_iload_n dX3_init_74 rfl ?_
  refine X_iast (len := 8) 0 dX3_init_75 (by decide +kernel) rfl (by decide) ?_
  refine X_gml (g' := gC97) (mi' := mC98) (ml' := lC87) rfl rfl rfl ?_
  refine X_iinc (v := nI 1) dX3_init_76 rfl (by decide) (by decide) ?_
  refine X_goto 63 dX3_init_79 (by decide) ?_
  refine X_iload_n dX3_init_63 rfl ?_
  refine X_bipush (v := nI 8) dX3_init_64 (by decide) ?_
  refine X_icmp_ge 82 dX3_init_66 (by decide) (fun h => absurd h (by decide)) (fun _ => ?_)
  refine X_aload_n dX3_init_69 rfl ?_
  refine X_getr (a := 28) (z := 0) dX3_init_70 fkX3_9 rfl (by decide +kernel) (by decide +kernel) ?_
  refine X_iload_n dX3_init_73 rfl ?_
  refine X_iload_n dX3_init_74 rfl ?_
  refine X_iast (len := 8) 1 dX3_init_75 (by decide +kernel) rfl (by decide) ?_
  refine X_gml (g' := gC97) (mi' := mC99) (ml' := lC87) rfl rfl rfl ?_
  refine X_iinc (v := nI 2) dX3_init_76 rfl (by decide) (by decide) ?_
  refine X_goto 63 dX3_init_79 (by decide) ?_
  refine X_iload_n dX3_init_63 rfl ?_
  refine X_bipush (v := nI 8) dX3_init_64 (by decide) ?_
  refine X_icmp_ge 82 dX3_init_66 (by decide) (fun h => absurd h (by decide)) (fun _ => ?_)
  refine X_aload_n dX3_init_69 rfl ?_
  refine X_getr (a := 28) (z := 0) dX3_init_70 fkX3_9 rfl (by decide +kernel) (by decide +kernel) ?_
  refine X_iload_n dX3_init_73 rfl ?_
  refine X_iload_n dX3_init_74 rfl ?_
  refine X_iast (len := 8) 2 dX3_init_75 (by decide +kernel) rfl (by decide) ?_
  refine X_gml (g' := gC97) (mi' := mC100) (ml' := lC87) rfl rfl rfl ?_
  refine X_iinc (v := nI 3) dX3_init_76 rfl (by decide) (by decide) ?_
  refine X_goto 63 dX3_init_79 (by decide) ?_
  refine X_iload_n dX3_init_63 rfl ?_
  refine X_bipush (v := nI 8) dX3_init_64 (by decide) ?_
  refine X_icmp_ge 82 dX3_init_66 (by decide) (fun h => absurd h (by decide)) (fun _ => ?_)
  refine X_aload_n dX3_init_69 rfl ?_
  refine X_getr (a := 28) (z := 0) dX3_init_70 fkX3_9 rfl (by decide +kernel) (by decide +kernel) ?_
  refine X_iload_n dX3_init_73 rfl ?_
  refine X_iload_n dX3_init_74 rfl ?_
  refine X_iast (len := 8) 3 dX3_init_75 (by decide +kernel) rfl (by decide) ?_
  refine X_gml (g' := gC97) (mi' := mC101) (ml' := lC87) rfl rfl rfl ?_
  refine X_iinc (v := nI 4) dX3_init_76 rfl (by decide) (by decide) ?_
  refine X_goto 63 dX3_init_79 (by decide) ?_
  refine X_iload_n dX3_init_63 rfl ?_
  refine X_bipush (v := nI 8) dX3_init_64 (by decide) ?_
  refine X_icmp_ge 82 dX3_init_66 (by decide) (fun h => absurd h (by decide)) (fun _ => ?_)
  refine X_aload_n dX3_init_69 rfl ?_
  refine X_getr (a := 28) (z := 0) dX3_init_70 fkX3_9 rfl (by decide +kernel) (by decide +kernel) ?_
  refine X_iload_n dX3_init_73 rfl ?_
  refine X_iload_n dX3_init_74 rfl ?_
  refine X_iast (len := 8) 4 dX3_init_75 (by decide +kernel) rfl (by decide) ?_
  refine X_gml (g' := gC97) (mi' := mC102) (ml' := lC87) rfl rfl rfl ?_
  refine X_iinc (v := nI 5) dX3_init_76 rfl (by decide) (by decide) ?_
  refine X_goto 63 dX3_init_79 (by decide) ?_
  refine X_iload_n dX3_init_63 rfl ?_
  refine X_bipush (v := nI 8) dX3_init_64 (by decide) ?_
  refine X_icmp_ge 82 dX3_init_66 (by decide) (fun h => absurd h (by decide)) (fun _ => ?_)
  refine X_aload_n dX3_init_69 rfl ?_
  refine X_getr (a := 28) (z := 0) dX3_init_70 fkX3_9 rfl (by decide +kernel) (by decide +kernel) ?_
  refine X_iload_n dX3_init_73 rfl ?_
  refine X_iload_n dX3_init_74 rfl ?_
  refine X_iast (len := 8) 5 dX3_init_75 (by decide +kernel) rfl (by decide) ?_
  refine X_gml (g' := gC97) (mi' := mC103) (ml' := lC87) rfl rfl rfl ?_
  refine X_iinc (v := nI 6) dX3_init_76 rfl (by decide) (by decide) ?_
  refine X_goto 63 dX3_init_79 (by decide) ?_
  refine X_iload_n dX3_init_63 rfl ?_
  refine X_bipush (v := nI 8) dX3_init_64 (by decide) ?_
  refine X_icmp_ge 82 dX3_init_66 (by decide) (fun h => absurd h (by decide)) (fun _ => ?_)
  refine X_aload_n dX3_init_69 rfl ?_
  refine X_getr (a := 28) (z := 0) dX3_init_70 fkX3_9 rfl (by decide +kernel) (by decide +kernel) ?_
  refine X_iload_n dX3_init_73 rfl ?_
  refine X_iload_n dX3_init_74 rfl ?_
  refine X_iast (len := 8) 6 dX3_init_75 (by decide +kernel) rfl (by decide) ?_
  refine X_gml (g' := gC97) (mi' := mC104) (ml' := lC87) rfl rfl rfl ?_
  refine X_iinc (v := nI 7) dX3_init_76 rfl (by decide) (by decide) ?_
  refine X_goto 63 dX3_init_79 (by decide) ?_
  refine X_iload_n dX3_init_63 rfl ?_
  refine X_bipush (v := nI 8) dX3_init_64 (by decide) ?_
  refine X_icmp_ge 82 dX3_init_66 (by decide) (fun h => absurd h (by decide)) (fun _ => ?_)
  refine X_aload_n dX3_init_69 rfl ?_
  refine X_getr (a := 28) (z := 0) dX3_init_70 fkX3_9 rfl (by decide +kernel) (by decide +kernel) ?_
  refine X_iload_n dX3_init_73 rfl ?_
  refine X_iload_n dX3_init_74 rfl ?_
  refine X_iast (len := 8) 7 dX3_init_75 (by decide +kernel) rfl (by decide) ?_
  refine X_gml (g' := gC97) (mi' := mC105) (ml' := lC87) rfl rfl rfl ?_
  refine X_iinc (v := nI 8) dX3_init_76 rfl (by decide) (by decide) ?_
  refine X_goto 63 dX3_init_79 (by decide) ?_
  refine X_iload_n dX3_init_63 rfl ?_
  refine X_bipush (v := nI 8) dX3_init_64 (by decide) ?_
  refine X_icmp_ge 82 dX3_init_66 (by decide) (fun _ => ?_) (fun h => absurd h (by decide))
  exact X_vret dX3_init_82 rfl ⟨rfl, rfl, rfl, rfl⟩
def gC106 : pGG := (gC97.1, gC97.2.1, up2 gC97.2.2 0 7 (some 27))
def gC107 : pGG := newG gC106 (3, 0)
def mC107 : pMI := newR mC105 gC106.1 0
def lC107 : pML := newR lC87 gC106.1 0
def gC108 : pGG := newG gC107 (20, 8)
def mC108 : pMI := newR mC107 gC107.1 0
def lC108 : pML := newR lC107 gC107.1 0
def gC109 : pGG := (gC108.1, gC108.2.1, up2 gC108.2.2 42 3 (some 43))
def gC110 : pGG := newG gC109 (20, 8)
def mC110 : pMI := newR mC108 gC109.1 0
def lC110 : pML := newR lC108 gC109.1 0
def gC111 : pGG := (gC110.1, gC110.2.1, up2 gC110.2.2 42 4 (some 44))
def gC112 : pGG := newG gC111 (21, 200)
def mC112 : pMI := newR mC110 gC111.1 0
def lC112 : pML := newR lC110 gC111.1 0
def gC113 : pGG := (gC112.1, gC112.2.1, up2 gC112.2.2 42 5 (some 45))
def gC114 : pGG := newG gC113 (20, 200)
def mC114 : pMI := newR mC112 gC113.1 0
def lC114 : pML := newR lC112 gC113.1 0
def gC115 : pGG := (gC114.1, gC114.2.1, up2 gC114.2.2 42 6 (some 46))
def gC116 : pGG := (gC115.1, gC115.2.1, up2 gC115.2.2 42 0 (some 3))
def gC117 : pGG := (gC116.1, gC116.2.1, up2 gC116.2.2 42 1 (some 17))
def gC118 : pGG := newG gC117 (2, 0)
def mC118 : pMI := newR mC114 gC117.1 0
def lC118 : pML := newR lC114 gC117.1 0
def gC119 : pGG := newG gC118 (20, 64)
def mC119 : pMI := newR mC118 gC118.1 0
def lC119 : pML := newR lC118 gC118.1 0
def gC120 : pGG := (gC119.1, gC119.2.1, up2 gC119.2.2 47 1 (some 48))
def gC121 : pGG := newG gC120 (20, 24)
def mC121 : pMI := newR mC119 gC120.1 0
def lC121 : pML := newR lC119 gC120.1 0
def gC122 : pGG := (gC121.1, gC121.2.1, up2 gC121.2.2 47 2 (some 49))
def gC123 : pGG := newG gC122 (20, 8)
def mC123 : pMI := newR mC121 gC122.1 0
def lC123 : pML := newR lC121 gC122.1 0
def gC124 : pGG := (gC123.1, gC123.2.1, up2 gC123.2.2 47 5 (some 50))
def gC125 : pGG := newG gC124 (20, 8)
def mC125 : pMI := newR mC123 gC124.1 0
def lC125 : pML := newR lC123 gC124.1 0
def gC126 : pGG := (gC125.1, gC125.2.1, up2 gC125.2.2 47 6 (some 51))
def gC127 : pGG := newG gC126 (20, 8)
def mC127 : pMI := newR mC125 gC126.1 0
def lC127 : pML := newR lC125 gC126.1 0
def gC128 : pGG := (gC127.1, gC127.2.1, up2 gC127.2.2 47 7 (some 52))
def gC129 : pGG := newG gC128 (20, 8)
def mC129 : pMI := newR mC127 gC128.1 0
def lC129 : pML := newR lC127 gC128.1 0
def gC130 : pGG := (gC129.1, gC129.2.1, up2 gC129.2.2 47 8 (some 53))
def gC131 : pGG := newG gC130 (20, 8)
def mC131 : pMI := newR mC129 gC130.1 0
def lC131 : pML := newR lC129 gC130.1 0
def gC132 : pGG := (gC131.1, gC131.2.1, up2 gC131.2.2 47 9 (some 54))
def gC133 : pGG := (gC132.1, gC132.2.1, up2 gC132.2.2 47 0 (some 3))
def mC134 : pMI := up2 mC131 47 10 (nI 0)
def gC135 : pGG := newG gC133 (20, 0)
def mC135 : pMI := newR mC134 gC133.1 0
def lC135 : pML := newR lC131 gC133.1 0
def gC136 : pGG := (gC135.1, gC135.2.1, up2 gC135.2.2 47 3 (some 55))
def gC137 : pGG := newG gC136 (20, 0)
def mC137 : pMI := newR mC135 gC136.1 0
def lC137 : pML := newR lC135 gC136.1 0
def gC138 : pGG := (gC137.1, gC137.2.1, up2 gC137.2.2 47 4 (some 56))
def mC139 : pMI := up2 mC137 53 0 (nI 0)
def mC140 : pMI := up2 mC139 53 1 (nI 1)
def mC141 : pMI := up2 mC140 53 2 (nI 2)
def mC142 : pMI := up2 mC141 53 3 (nI 3)
def mC143 : pMI := up2 mC142 53 4 (nI 4)
def mC144 : pMI := up2 mC143 53 5 (nI 5)
def mC145 : pMI := up2 mC144 53 6 (nI 6)
def mC146 : pMI := up2 mC145 53 7 (nI 7)
set_option maxRecDepth 100000 in
set_option maxHeartbeats 4000000 in
theorem ct10_X2_goByNumber (Γ : pTG) : CT Γ 1 0 0 mX2_goByNumber [.ref 47] gC138 mC137 lC137 (fun o g' mi' ml' => o = .inl none ∧ g' = gC138 ∧ mi' = mC146 ∧ ml' = lC137) := by
  refine CT_of (by decide +kernel) (Nat.le_of_ble_eq_true rfl) ?_
  refine X_iconst (v := nI 0) dX2_goByNumber_0 (by decide) ?_
  refine X_istore_n dX2_goByNumber_1 (by decide) ?_
  refine X_iload_n dX2_goByNumber_2 rfl ?_
  refine X_bipush (v := nI 8) dX2_goByNumber_3 (by decide) ?_
  refine X_icmp_ge 21 dX2_goByNumber_5 (by decide) (fun h => absurd h (by decide)) (fun _ => ?_)
  refine X_aload_n dX2_goByNumber_8 rfl ?_
  refine X_getr (a := 53) (z := 0) dX2_goByNumber_9 fkX2_27 rfl (by decide +kernel) (by decide +kernel) ?_
  refine X_iload_n dX2_goByNumber_12 rfl ?_
  refine X_iload_n dX2_goByNumber_13 rfl ?_
  refine X_iast (len := 8) 0 dX2_goByNumber_14 (by decide +kernel) rfl (by decide) ?_
  refine X_gml (g' := gC138) (mi' := mC139) (ml' := lC137) rfl rfl rfl ?_
  refine X_iinc (v := nI 1) dX2_goByNumber_15 rfl (by decide) (by decide) ?_
  refine X_goto 2 dX2_goByNumber_18 (by decide) ?_
  refine X_iload_n dX2_goByNumber_2 rfl ?_
  refine X_bipush (v := nI 8) dX2_goByNumber_3 (by decide) ?_
  refine X_icmp_ge 21 dX2_goByNumber_5 (by decide) (fun h => absurd h (by decide)) (fun _ => ?_)
  refine X_aload_n dX2_goByNumber_8 rfl ?_
  refine X_getr (a := 53) (z := 0) dX2_goByNumber_9 fkX2_27 rfl (by decide +kernel) (by decide +kernel) ?_
  refine X_iload_n dX2_goByNumber_12 rfl ?_
  refine X_iload_n dX2_goByNumber_13 rfl ?_
  refine X_iast (len := 8) 1 dX2_goByNumber_14 (by decide +kernel) rfl (by decide) ?_
  refine X_gml (g' := gC138) (mi' := mC140) (ml' := lC137) rfl rfl rfl ?_
  refine X_iinc (v := nI 2) dX2_goByNumber_15 rfl (by decide) (by decide) ?_
  refine X_goto 2 dX2_goByNumber_18 (by decide) ?_
  refine X_iload_n dX2_goByNumber_2 rfl ?_
  refine X_bipush (v := nI 8) dX2_goByNumber_3 (by decide) ?_
  refine X_icmp_ge 21 dX2_goByNumber_5 (by decide) (fun h => absurd h (by decide)) (fun _ => ?_)
  refine X_aload_n dX2_goByNumber_8 rfl ?_
  refine X_getr (a := 53) (z := 0) dX2_goByNumber_9 fkX2_27 rfl (by decide +kernel) (by decide +kernel) ?_
  refine X_iload_n dX2_goByNumber_12 rfl ?_
  refine X_iload_n dX2_goByNumber_13 rfl ?_
  refine X_iast (len := 8) 2 dX2_goByNumber_14 (by decide +kernel) rfl (by decide) ?_
  refine X_gml (g' := gC138) (mi' := mC141) (ml' := lC137) rfl rfl rfl ?_
  refine X_iinc (v := nI 3) dX2_goByNumber_15 rfl (by decide) (by decide) ?_
  refine X_goto 2 dX2_goByNumber_18 (by decide) ?_
  refine X_iload_n dX2_goByNumber_2 rfl ?_
  refine X_bipush (v := nI 8) dX2_goByNumber_3 (by decide) ?_
  refine X_icmp_ge 21 dX2_goByNumber_5 (by decide) (fun h => absurd h (by decide)) (fun _ => ?_)
  refine X_aload_n dX2_goByNumber_8 rfl ?_
  refine X_getr (a := 53) (z := 0) dX2_goByNumber_9 fkX2_27 rfl (by decide +kernel) (by decide +kernel) ?_
  refine X_iload_n dX2_goByNumber_12 rfl ?_
  refine X_iload_n dX2_goByNumber_13 rfl ?_
  refine X_iast (len := 8) 3 dX2_goByNumber_14 (by decide +kernel) rfl (by decide) ?_
  refine X_gml (g' := gC138) (mi' := mC142) (ml' := lC137) rfl rfl rfl ?_
  refine X_iinc (v := nI 4) dX2_goByNumber_15 rfl (by decide) (by decide) ?_
  refine X_goto 2 dX2_goByNumber_18 (by decide) ?_
  refine X_iload_n dX2_goByNumber_2 rfl ?_
  refine X_bipush (v := nI 8) dX2_goByNumber_3 (by decide) ?_
  refine X_icmp_ge 21 dX2_goByNumber_5 (by decide) (fun h => absurd h (by decide)) (fun _ => ?_)
  refine X_aload_n dX2_goByNumber_8 rfl ?_
  refine X_getr (a := 53) (z := 0) dX2_goByNumber_9 fkX2_27 rfl (by decide +kernel) (by decide +kernel) ?_
  refine X_iload_n dX2_goByNumber_12 rfl ?_
  refine X_iload_n dX2_goByNumber_13 rfl ?_
  refine X_iast (len := 8) 4 dX2_goByNumber_14 (by decide +kernel) rfl (by decide) ?_
  refine X_gml (g' := gC138) (mi' := mC143) (ml' := lC137) rfl rfl rfl ?_
  refine X_iinc (v := nI 5) dX2_goByNumber_15 rfl (by decide) (by decide) ?_
  refine X_goto 2 dX2_goByNumber_18 (by decide) ?_
  refine X_iload_n dX2_goByNumber_2 rfl ?_
  refine X_bipush (v := nI 8) dX2_goByNumber_3 (by decide) ?_
  refine X_icmp_ge 21 dX2_goByNumber_5 (by decide) (fun h => absurd h (by decide)) (fun _ => ?_)
  refine X_aload_n dX2_goByNumber_8 rfl ?_
  refine X_getr (a := 53) (z := 0) dX2_goByNumber_9 fkX2_27 rfl (by decide +kernel) (by decide +kernel) ?_
  refine X_iload_n dX2_goByNumber_12 rfl ?_
  refine X_iload_n dX2_goByNumber_13 rfl ?_
  refine X_iast (len := 8) 5 dX2_goByNumber_14 (by decide +kernel) rfl (by decide) ?_
  refine X_gml (g' := gC138) (mi' := mC144) (ml' := lC137) rfl rfl rfl ?_
  refine X_iinc (v := nI 6) dX2_goByNumber_15 rfl (by decide) (by decide) ?_
  refine X_goto 2 dX2_goByNumber_18 (by decide) ?_
  refine X_iload_n dX2_goByNumber_2 rfl ?_
  refine X_bipush (v := nI 8) dX2_goByNumber_3 (by decide) ?_
  refine X_icmp_ge 21 dX2_goByNumber_5 (by decide) (fun h => absurd h (by decide)) (fun _ => ?_)
  refine X_aload_n dX2_goByNumber_8 rfl ?_
  refine X_getr (a := 53) (z := 0) dX2_goByNumber_9 fkX2_27 rfl (by decide +kernel) (by decide +kernel) ?_
  refine X_iload_n dX2_goByNumber_12 rfl ?_
  refine X_iload_n dX2_goByNumber_13 rfl ?_
  refine X_iast (len := 8) 6 dX2_goByNumber_14 (by decide +kernel) rfl (by decide) ?_
  refine X_gml (g' := gC138) (mi' := mC145) (ml' := lC137) rfl rfl rfl ?_
  refine X_iinc (v := nI 7) dX2_goByNumber_15 rfl (by decide) (by decide) ?_
  refine X_goto 2 dX2_goByNumber_18 (by decide) ?_
  refine X_iload_n dX2_goByNumber_2 rfl ?_
  refine X_bipush (v := nI 8) dX2_goByNumber_3 (by decide) ?_
  refine X_icmp_ge 21 dX2_goByNumber_5 (by decide) (fun h => absurd h (by decide)) (fun _ => ?_)
  refine X_aload_n dX2_goByNumber_8 rfl ?_
  refine X_getr (a := 53) (z := 0) dX2_goByNumber_9 fkX2_27 rfl (by decide +kernel) (by decide +kernel) ?_
  refine X_iload_n dX2_goByNumber_12 rfl ?_
  refine X_iload_n dX2_goByNumber_13 rfl ?_
  refine X_iast (len := 8) 7 dX2_goByNumber_14 (by decide +kernel) rfl (by decide) ?_
  refine X_gml (g' := gC138) (mi' := mC146) (ml' := lC137) rfl rfl rfl ?_
  refine X_iinc (v := nI 8) dX2_goByNumber_15 rfl (by decide) (by decide) ?_
  refine X_goto 2 dX2_goByNumber_18 (by decide) ?_
  refine X_iload_n dX2_goByNumber_2 rfl ?_
  refine X_bipush (v := nI 8) dX2_goByNumber_3 (by decide) ?_
  refine X_icmp_ge 21 dX2_goByNumber_5 (by decide) (fun _ => ?_) (fun h => absurd h (by decide))
  exact X_vret dX2_goByNumber_21 rfl ⟨rfl, rfl, rfl, rfl⟩
set_option maxRecDepth 100000 in
set_option maxHeartbeats 4000000 in
theorem ct11_X2_init (Γ : pTG) : CT Γ 2 9 128 mX2_init [.ref 47, .ref 3, .int (nI 0)] gC118 mC118 lC118 (fun o g' mi' ml' => o = .inl none ∧ g' = gC138 ∧ mi' = mC146 ∧ ml' = lC137) := by
  refine CT_of (by decide +kernel) (Nat.le_of_ble_eq_true rfl) ?_
  refine X_aload_n dX2_init_0 rfl ?_
  refine X_objInit dX2_init_1 oiX2 (by decide) (by decide) ?_
  refine X_aload_n dX2_init_4 rfl ?_
  refine X_bipush (v := nI 64) dX2_init_5 (by decide) ?_
  refine X_newI (len := 64) dX2_init_7 acI rfl (by decide) (by decide +kernel) (by decide) (by decide) ?_
  refine X_gml (g' := gC119) (mi' := mC119) (ml' := lC119) rfl rfl rfl ?_
  refine X_topr (a' := 48) (show gC118.1 = 48 by decide +kernel) ?_
  refine X_putrF (z := 0) dX2_init_9 fkX2_9 rfl rfl rfl rfl (by decide +kernel) (by decide) ?_
  refine X_gml (g' := gC120) (mi' := mC119) (ml' := lC119) rfl rfl rfl ?_
  refine X_aload_n dX2_init_12 rfl ?_
  refine X_bipush (v := nI 24) dX2_init_13 (by decide) ?_
  refine X_newI (len := 24) dX2_init_15 acI rfl (by decide) (by decide +kernel) (by decide) (by decide) ?_
  refine X_gml (g' := gC121) (mi' := mC121) (ml' := lC121) rfl rfl rfl ?_
  refine X_topr (a' := 49) (show gC120.1 = 49 by decide +kernel) ?_
  refine X_putrF (z := 0) dX2_init_17 fkX2_15 rfl rfl rfl rfl (by decide +kernel) (by decide) ?_
  refine X_gml (g' := gC122) (mi' := mC121) (ml' := lC121) rfl rfl rfl ?_
  refine X_aload_n dX2_init_20 rfl ?_
  refine X_bipush (v := nI 8) dX2_init_21 (by decide) ?_
  refine X_newI (len := 8) dX2_init_23 acI rfl (by decide) (by decide +kernel) (by decide) (by decide) ?_
  refine X_gml (g' := gC123) (mi' := mC123) (ml' := lC123) rfl rfl rfl ?_
  refine X_topr (a' := 50) (show gC122.1 = 50 by decide +kernel) ?_
  refine X_putrF (z := 0) dX2_init_25 fkX2_18 rfl rfl rfl rfl (by decide +kernel) (by decide) ?_
  refine X_gml (g' := gC124) (mi' := mC123) (ml' := lC123) rfl rfl rfl ?_
  refine X_aload_n dX2_init_28 rfl ?_
  refine X_bipush (v := nI 8) dX2_init_29 (by decide) ?_
  refine X_newI (len := 8) dX2_init_31 acI rfl (by decide) (by decide +kernel) (by decide) (by decide) ?_
  refine X_gml (g' := gC125) (mi' := mC125) (ml' := lC125) rfl rfl rfl ?_
  refine X_topr (a' := 51) (show gC124.1 = 51 by decide +kernel) ?_
  refine X_putrF (z := 0) dX2_init_33 fkX2_21 rfl rfl rfl rfl (by decide +kernel) (by decide) ?_
  refine X_gml (g' := gC126) (mi' := mC125) (ml' := lC125) rfl rfl rfl ?_
  refine X_aload_n dX2_init_36 rfl ?_
  refine X_bipush (v := nI 8) dX2_init_37 (by decide) ?_
  refine X_newI (len := 8) dX2_init_39 acI rfl (by decide) (by decide +kernel) (by decide) (by decide) ?_
  refine X_gml (g' := gC127) (mi' := mC127) (ml' := lC127) rfl rfl rfl ?_
  refine X_topr (a' := 52) (show gC126.1 = 52 by decide +kernel) ?_
  refine X_putrF (z := 0) dX2_init_41 fkX2_24 rfl rfl rfl rfl (by decide +kernel) (by decide) ?_
  refine X_gml (g' := gC128) (mi' := mC127) (ml' := lC127) rfl rfl rfl ?_
  refine X_aload_n dX2_init_44 rfl ?_
  refine X_bipush (v := nI 8) dX2_init_45 (by decide) ?_
  refine X_newI (len := 8) dX2_init_47 acI rfl (by decide) (by decide +kernel) (by decide) (by decide) ?_
  refine X_gml (g' := gC129) (mi' := mC129) (ml' := lC129) rfl rfl rfl ?_
  refine X_topr (a' := 53) (show gC128.1 = 53 by decide +kernel) ?_
  refine X_putrF (z := 0) dX2_init_49 fkX2_27 rfl rfl rfl rfl (by decide +kernel) (by decide) ?_
  refine X_gml (g' := gC130) (mi' := mC129) (ml' := lC129) rfl rfl rfl ?_
  refine X_aload_n dX2_init_52 rfl ?_
  refine X_bipush (v := nI 8) dX2_init_53 (by decide) ?_
  refine X_newI (len := 8) dX2_init_55 acI rfl (by decide) (by decide +kernel) (by decide) (by decide) ?_
  refine X_gml (g' := gC131) (mi' := mC131) (ml' := lC131) rfl rfl rfl ?_
  refine X_topr (a' := 54) (show gC130.1 = 54 by decide +kernel) ?_
  refine X_putrF (z := 0) dX2_init_57 fkX2_30 rfl rfl rfl rfl (by decide +kernel) (by decide) ?_
  refine X_gml (g' := gC132) (mi' := mC131) (ml' := lC131) rfl rfl rfl ?_
  refine X_aload_n dX2_init_60 rfl ?_
  refine X_aload_n dX2_init_61 rfl ?_
  refine X_putrF (z := 0) dX2_init_62 fkX2_33 rfl rfl rfl rfl (by decide +kernel) (by decide) ?_
  refine X_gml (g' := gC133) (mi' := mC131) (ml' := lC131) rfl rfl rfl ?_
  refine X_aload_n dX2_init_65 rfl ?_
  refine X_iload_n dX2_init_66 rfl ?_
  refine X_putzF (z := 0) dX2_init_67 fkX2_37 rfl (by decide) rfl rfl rfl (by decide +kernel) ?_
  refine X_gml (g' := gC133) (mi' := mC134) (ml' := lC131) rfl rfl rfl ?_
  refine X_aload_n dX2_init_70 rfl ?_
  refine X_iload_n dX2_init_71 rfl ?_
  refine X_if_eq 81 dX2_init_72 (by decide) (fun _ => ?_) (fun h => absurd h (by decide))
  refine X_iconst (v := nI 0) dX2_init_81 (by decide) ?_
  refine X_newI (len := 0) dX2_init_82 acI rfl (by decide) (by decide +kernel) (by decide) (by decide) ?_
  refine X_gml (g' := gC135) (mi' := mC135) (ml' := lC135) rfl rfl rfl ?_
  refine X_topr (a' := 55) (show gC133.1 = 55 by decide +kernel) ?_
  refine X_putrF (z := 0) dX2_init_84 fkX2_41 rfl rfl rfl rfl (by decide +kernel) (by decide) ?_
  refine X_gml (g' := gC136) (mi' := mC135) (ml' := lC135) rfl rfl rfl ?_
  refine X_aload_n dX2_init_87 rfl ?_
  refine X_iload_n dX2_init_88 rfl ?_
  refine X_if_eq 97 dX2_init_89 (by decide) (fun _ => ?_) (fun h => absurd h (by decide))
  refine X_iconst (v := nI 0) dX2_init_97 (by decide) ?_
  refine X_newI (len := 0) dX2_init_98 acI rfl (by decide) (by decide +kernel) (by decide) (by decide) ?_
  refine X_gml (g' := gC137) (mi' := mC137) (ml' := lC137) rfl rfl rfl ?_
  refine X_topr (a' := 56) (show gC136.1 = 56 by decide +kernel) ?_
  refine X_putrF (z := 0) dX2_init_100 fkX2_44 rfl rfl rfl rfl (by decide +kernel) (by decide) ?_
  refine X_gml (g' := gC138) (mi' := mC137) (ml' := lC137) rfl rfl rfl ?_
  refine X_aload_n dX2_init_103 rfl ?_
  refine X_callV (z := 0) dX2_init_104 mkX2_47 (by decide +kernel) (ct10_X2_goByNumber Γ) rfl rfl (by decide) (by decide) (by decide) (by decide) (fun _ _ _ _ h => by cases h.1) (fun v g' mi' ml' h => ?_)
  obtain ⟨h1, rfl, rfl, rfl⟩ := h
  cases h1
  exact X_vret dX2_init_107 rfl ⟨rfl, rfl, rfl, rfl⟩
def gC147 : pGG := (gC138.1, gC138.2.1, up2 gC138.2.2 42 2 (some 47))
def mC148 : pMI := up2 mC146 43 0 (nI 0)
def mC149 : pMI := up2 mC148 43 1 (nI 1)
def mC150 : pMI := up2 mC149 43 2 (nI 2)
def mC151 : pMI := up2 mC150 43 3 (nI 3)
def mC152 : pMI := up2 mC151 43 4 (nI 4)
def mC153 : pMI := up2 mC152 43 5 (nI 5)
def mC154 : pMI := up2 mC153 43 6 (nI 6)
def mC155 : pMI := up2 mC154 43 7 (nI 7)
set_option maxRecDepth 100000 in
set_option maxHeartbeats 4000000 in
theorem ct12_X3_init (Γ : pTG) : CT Γ 3 14 559 mX3_init [.ref 42, .ref 3, .ref 17] gC107 mC107 lC107 (fun o g' mi' ml' => o = .inl none ∧ g' = gC147 ∧ mi' = mC155 ∧ ml' = lC137) := by
  refine CT_of (by decide +kernel) (Nat.le_of_ble_eq_true rfl) ?_
  refine X_aload_n dX3_init_0 rfl ?_
  refine X_objInit dX3_init_1 oiX3 (by decide) (by decide) ?_
  refine X_aload_n dX3_init_4 rfl ?_
  refine X_bipush (v := nI 8) dX3_init_5 (by decide) ?_
  refine X_newI (len := 8) dX3_init_7 acI rfl (by decide) (by decide +kernel) (by decide) (by decide) ?_
  refine X_gml (g' := gC108) (mi' := mC108) (ml' := lC108) rfl rfl rfl ?_
  refine X_topr (a' := 43) (show gC107.1 = 43 by decide +kernel) ?_
  refine X_putrF (z := 0) dX3_init_9 fkX3_9 rfl rfl rfl rfl (by decide +kernel) (by decide) ?_
  refine X_gml (g' := gC109) (mi' := mC108) (ml' := lC108) rfl rfl rfl ?_
  refine X_aload_n dX3_init_12 rfl ?_
  refine X_bipush (v := nI 8) dX3_init_13 (by decide) ?_
  refine X_newI (len := 8) dX3_init_15 acI rfl (by decide) (by decide +kernel) (by decide) (by decide) ?_
  refine X_gml (g' := gC110) (mi' := mC110) (ml' := lC110) rfl rfl rfl ?_
  refine X_topr (a' := 44) (show gC109.1 = 44 by decide +kernel) ?_
  refine X_putrF (z := 0) dX3_init_17 fkX3_15 rfl rfl rfl rfl (by decide +kernel) (by decide) ?_
  refine X_gml (g' := gC111) (mi' := mC110) (ml' := lC110) rfl rfl rfl ?_
  refine X_aload_n dX3_init_20 rfl ?_
  refine X_sipush (v := nI 200) dX3_init_21 (by decide) ?_
  refine X_newL (len := 200) dX3_init_24 acL rfl (by decide) (by decide +kernel) (by decide) (by decide) ?_
  refine X_gml (g' := gC112) (mi' := mC112) (ml' := lC112) rfl rfl rfl ?_
  refine X_topr (a' := 45) (show gC111.1 = 45 by decide +kernel) ?_
  refine X_putrF (z := 0) dX3_init_26 fkX3_18 rfl rfl rfl rfl (by decide +kernel) (by decide) ?_
  refine X_gml (g' := gC113) (mi' := mC112) (ml' := lC112) rfl rfl rfl ?_
  refine X_aload_n dX3_init_29 rfl ?_
  refine X_sipush (v := nI 200) dX3_init_30 (by decide) ?_
  refine X_newI (len := 200) dX3_init_33 acI rfl (by decide) (by decide +kernel) (by decide) (by decide) ?_
  refine X_gml (g' := gC114) (mi' := mC114) (ml' := lC114) rfl rfl rfl ?_
  refine X_topr (a' := 46) (show gC113.1 = 46 by decide +kernel) ?_
  refine X_putrF (z := 0) dX3_init_35 fkX3_22 rfl rfl rfl rfl (by decide +kernel) (by decide) ?_
  refine X_gml (g' := gC115) (mi' := mC114) (ml' := lC114) rfl rfl rfl ?_
  refine X_aload_n dX3_init_38 rfl ?_
  refine X_aload_n dX3_init_39 rfl ?_
  refine X_putrF (z := 0) dX3_init_40 fkX3_25 rfl rfl rfl rfl (by decide +kernel) (by decide) ?_
  refine X_gml (g' := gC116) (mi' := mC114) (ml' := lC114) rfl rfl rfl ?_
  refine X_aload_n dX3_init_43 rfl ?_
  refine X_aload_n dX3_init_44 rfl ?_
  refine X_putrF (z := 0) dX3_init_45 fkX3_29 rfl rfl rfl rfl (by decide +kernel) (by decide) ?_
  refine X_gml (g' := gC117) (mi' := mC114) (ml' := lC114) rfl rfl rfl ?_
  refine X_aload_n dX3_init_48 rfl ?_
  refine X_new dX3_init_49 nwX3_33 (by decide +kernel) (by decide) (by decide) ?_
  refine X_gml (g' := gC118) (mi' := mC118) (ml' := lC118) rfl rfl rfl ?_
  refine X_topr (a' := 47) (show gC117.1 = 47 by decide +kernel) ?_
  refine X_dup dX3_init_52 rfl ?_
  refine X_aload_n dX3_init_53 rfl ?_
  refine X_iconst (v := nI 0) dX3_init_54 (by decide) ?_
  refine X_callI dX3_init_55 miX3_35 (ct11_X2_init Γ) (fun _ _ _ _ h => by cases h.1) rfl rfl (by decide) (by decide) (by decide) (by decide) (fun v g' mi' ml' h => ?_)
  obtain ⟨h1, rfl, rfl, rfl⟩ := h
  cases h1
  refine X_putrF (z := 0) dX3_init_58 fkX3_38 rfl rfl rfl rfl (by decide +kernel) (by decide) ?_
  refine X_gml (g' := gC147) (mi' := mC146) (ml' := lC137) rfl rfl rfl ?_
  refine X_iconst (v := nI 0) dX3_init_61 (by decide) ?_
  refine X_istore_n dX3_init_62 (by decide) ?_
  refine X_iload_n dX3_init_63 rfl ?_
  refine X_bipush (v := nI 8) dX3_init_64 (by decide) ?_
  refine X_icmp_ge 82 dX3_init_66 (by decide) (fun h => absurd h (by decide)) (fun _ => ?_)
  refine X_aload_n dX3_init_69 rfl ?_
  refine X_getr (a := 43) (z := 0) dX3_init_70 fkX3_9 rfl (by decide +kernel) (by decide +kernel) ?_
  refine X_iload_n dX3_init_73 rfl ?_
  refine X_iload_n dX3_init_74 rfl ?_
  refine X_iast (len := 8) 0 dX3_init_75 (by decide +kernel) rfl (by decide) ?_
  refine X_gml (g' := gC147) (mi' := mC148) (ml' := lC137) rfl rfl rfl ?_
  refine X_iinc (v := nI 1) dX3_init_76 rfl (by decide) (by decide) ?_
  refine X_goto 63 dX3_init_79 (by decide) ?_
  refine X_iload_n dX3_init_63 rfl ?_
  refine X_bipush (v := nI 8) dX3_init_64 (by decide) ?_
  refine X_icmp_ge 82 dX3_init_66 (by decide) (fun h => absurd h (by decide)) (fun _ => ?_)
  refine X_aload_n dX3_init_69 rfl ?_
  refine X_getr (a := 43) (z := 0) dX3_init_70 fkX3_9 rfl (by decide +kernel) (by decide +kernel) ?_
  refine X_iload_n dX3_init_73 rfl ?_
  refine X_iload_n dX3_init_74 rfl ?_
  refine X_iast (len := 8) 1 dX3_init_75 (by decide +kernel) rfl (by decide) ?_
  refine X_gml (g' := gC147) (mi' := mC149) (ml' := lC137) rfl rfl rfl ?_
  refine X_iinc (v := nI 2) dX3_init_76 rfl (by decide) (by decide) ?_
  refine X_goto 63 dX3_init_79 (by decide) ?_
  refine X_iload_n dX3_init_63 rfl ?_
  refine X_bipush (v := nI 8) dX3_init_64 (by decide) ?_
  refine X_icmp_ge 82 dX3_init_66 (by decide) (fun h => absurd h (by decide)) (fun _ => ?_)
  refine X_aload_n dX3_init_69 rfl ?_
  refine X_getr (a := 43) (z := 0) dX3_init_70 fkX3_9 rfl (by decide +kernel) (by decide +kernel) ?_
  refine X_iload_n dX3_init_73 rfl ?_
  refine X_iload_n dX3_init_74 rfl ?_
  refine X_iast (len := 8) 2 dX3_init_75 (by decide +kernel) rfl (by decide) ?_
  refine X_gml (g' := gC147) (mi' := mC150) (ml' := lC137) rfl rfl rfl ?_
  refine X_iinc (v := nI 3) dX3_init_76 rfl (by decide) (by decide) ?_
  refine X_goto 63 dX3_init_79 (by decide) ?_
  refine X_iload_n dX3_init_63 rfl ?_
  refine X_bipush (v := nI 8) dX3_init_64 (by decide) ?_
  refine X_icmp_ge 82 dX3_init_66 (by decide) (fun h => absurd h (by decide)) (fun _ => ?_)
  refine X_aload_n dX3_init_69 rfl ?_
  refine X_getr (a := 43) (z := 0) dX3_init_70 fkX3_9 rfl (by decide +kernel) (by decide +kernel) ?_
  refine X_iload_n dX3_init_73 rfl ?_
  refine X_iload_n dX3_init_74 rfl ?_
  refine X_iast (len := 8) 3 dX3_init_75 (by decide +kernel) rfl (by decide) ?_
  refine X_gml (g' := gC147) (mi' := mC151) (ml' := lC137) rfl rfl rfl ?_
  refine X_iinc (v := nI 4) dX3_init_76 rfl (by decide) (by decide) ?_
  refine X_goto 63 dX3_init_79 (by decide) ?_
  refine X_iload_n dX3_init_63 rfl ?_
  refine X_bipush (v := nI 8) dX3_init_64 (by decide) ?_
  refine X_icmp_ge 82 dX3_init_66 (by decide) (fun h => absurd h (by decide)) (fun _ => ?_)
  refine X_aload_n dX3_init_69 rfl ?_
  refine X_getr (a := 43) (z := 0) dX3_init_70 fkX3_9 rfl (by decide +kernel) (by decide +kernel) ?_
  refine X_iload_n dX3_init_73 rfl ?_
  refine X_iload_n dX3_init_74 rfl ?_
  refine X_iast (len := 8) 4 dX3_init_75 (by decide +kernel) rfl (by decide) ?_
  refine X_gml (g' := gC147) (mi' := mC152) (ml' := lC137) rfl rfl rfl ?_
  refine X_iinc (v := nI 5) dX3_init_76 rfl (by decide) (by decide) ?_
  refine X_goto 63 dX3_init_79 (by decide) ?_
  refine X_iload_n dX3_init_63 rfl ?_
  refine X_bipush (v := nI 8) dX3_init_64 (by decide) ?_
  refine X_icmp_ge 82 dX3_init_66 (by decide) (fun h => absurd h (by decide)) (fun _ => ?_)
  refine X_aload_n dX3_init_69 rfl ?_
  refine X_getr (a := 43) (z := 0) dX3_init_70 fkX3_9 rfl (by decide +kernel) (by decide +kernel) ?_
  refine X_iload_n dX3_init_73 rfl ?_
  refine X_iload_n dX3_init_74 rfl ?_
  refine X_iast (len := 8) 5 dX3_init_75 (by decide +kernel) rfl (by decide) ?_
  refine X_gml (g' := gC147) (mi' := mC153) (ml' := lC137) rfl rfl rfl ?_
  refine X_iinc (v := nI 6) dX3_init_76 rfl (by decide) (by decide) ?_
  refine X_goto 63 dX3_init_79 (by decide) ?_
  refine X_iload_n dX3_init_63 rfl ?_
  refine X_bipush (v := nI 8) dX3_init_64 (by decide) ?_
  refine X_icmp_ge 82 dX3_init_66 (by decide) (fun h => absurd h (by decide)) (fun _ => ?_)
  refine X_aload_n dX3_init_69 rfl ?_
  refine X_getr (a := 43) (z := 0) dX3_init_70 fkX3_9 rfl (by decide +kernel) (by decide +kernel) ?_
  refine X_iload_n dX3_init_73 rfl ?_
  refine X_iload_n dX3_init_74 rfl ?_
  refine X_iast (len := 8) 6 dX3_init_75 (by decide +kernel) rfl (by decide) ?_
  refine X_gml (g' := gC147) (mi' := mC154) (ml' := lC137) rfl rfl rfl ?_
  refine X_iinc (v := nI 7) dX3_init_76 rfl (by decide) (by decide) ?_
  refine X_goto 63 dX3_init_79 (by decide) ?_
  refine X_iload_n dX3_init_63 rfl ?_
  refine X_bipush (v := nI 8) dX3_init_64 (by decide) ?_
  refine X_icmp_ge 82 dX3_init_66 (by decide) (fun h => absurd h (by decide)) (fun _ => ?_)
  refine X_aload_n dX3_init_69 rfl ?_
  refine X_getr (a := 43) (z := 0) dX3_init_70 fkX3_9 rfl (by decide +kernel) (by decide +kernel) ?_
  refine X_iload_n dX3_init_73 rfl ?_
  refine X_iload_n dX3_init_74 rfl ?_
  refine X_iast (len := 8) 7 dX3_init_75 (by decide +kernel) rfl (by decide) ?_
  refine X_gml (g' := gC147) (mi' := mC155) (ml' := lC137) rfl rfl rfl ?_
  refine X_iinc (v := nI 8) dX3_init_76 rfl (by decide) (by decide) ?_
  refine X_goto 63 dX3_init_79 (by decide) ?_
  refine X_iload_n dX3_init_63 rfl ?_
  refine X_bipush (v := nI 8) dX3_init_64 (by decide) ?_
  refine X_icmp_ge 82 dX3_init_66 (by decide) (fun _ => ?_) (fun h => absurd h (by decide))
  exact X_vret dX3_init_82 rfl ⟨rfl, rfl, rfl, rfl⟩
def gC156 : pGG := (gC147.1, gC147.2.1, up2 gC147.2.2 0 8 (some 42))
def gC157 : pGG := newG gC156 (2, 0)
def mC157 : pMI := newR mC155 gC156.1 0
def lC157 : pML := newR lC137 gC156.1 0
def gC158 : pGG := newG gC157 (20, 64)
def mC158 : pMI := newR mC157 gC157.1 0
def lC158 : pML := newR lC157 gC157.1 0
def gC159 : pGG := (gC158.1, gC158.2.1, up2 gC158.2.2 57 1 (some 58))
def gC160 : pGG := newG gC159 (20, 24)
def mC160 : pMI := newR mC158 gC159.1 0
def lC160 : pML := newR lC158 gC159.1 0
def gC161 : pGG := (gC160.1, gC160.2.1, up2 gC160.2.2 57 2 (some 59))
def gC162 : pGG := newG gC161 (20, 8)
def mC162 : pMI := newR mC160 gC161.1 0
def lC162 : pML := newR lC160 gC161.1 0
def gC163 : pGG := (gC162.1, gC162.2.1, up2 gC162.2.2 57 5 (some 60))
def gC164 : pGG := newG gC163 (20, 8)
def mC164 : pMI := newR mC162 gC163.1 0
def lC164 : pML := newR lC162 gC163.1 0
def gC165 : pGG := (gC164.1, gC164.2.1, up2 gC164.2.2 57 6 (some 61))
def gC166 : pGG := newG gC165 (20, 8)
def mC166 : pMI := newR mC164 gC165.1 0
def lC166 : pML := newR lC164 gC165.1 0
def gC167 : pGG := (gC166.1, gC166.2.1, up2 gC166.2.2 57 7 (some 62))
def gC168 : pGG := newG gC167 (20, 8)
def mC168 : pMI := newR mC166 gC167.1 0
def lC168 : pML := newR lC166 gC167.1 0
def gC169 : pGG := (gC168.1, gC168.2.1, up2 gC168.2.2 57 8 (some 63))
def gC170 : pGG := newG gC169 (20, 8)
def mC170 : pMI := newR mC168 gC169.1 0
def lC170 : pML := newR lC168 gC169.1 0
def gC171 : pGG := (gC170.1, gC170.2.1, up2 gC170.2.2 57 9 (some 64))
def gC172 : pGG := (gC171.1, gC171.2.1, up2 gC171.2.2 57 0 (some 3))
def mC173 : pMI := up2 mC170 57 10 (nI 1)
def gC174 : pGG := newG gC172 (20, 192)
def mC174 : pMI := newR mC173 gC172.1 0
def lC174 : pML := newR lC170 gC172.1 0
def gC175 : pGG := (gC174.1, gC174.2.1, up2 gC174.2.2 57 3 (some 65))
def gC176 : pGG := newG gC175 (20, 24)
def mC176 : pMI := newR mC174 gC175.1 0
def lC176 : pML := newR lC174 gC175.1 0
def gC177 : pGG := (gC176.1, gC176.2.1, up2 gC176.2.2 57 4 (some 66))
def mC178 : pMI := up2 mC176 63 0 (nI 0)
def mC179 : pMI := up2 mC178 63 1 (nI 1)
def mC180 : pMI := up2 mC179 63 2 (nI 2)
def mC181 : pMI := up2 mC180 63 3 (nI 3)
def mC182 : pMI := up2 mC181 63 4 (nI 4)
def mC183 : pMI := up2 mC182 63 5 (nI 5)
def mC184 : pMI := up2 mC183 63 6 (nI 6)
def mC185 : pMI := up2 mC184 63 7 (nI 7)
set_option maxRecDepth 100000 in
set_option maxHeartbeats 4000000 in
theorem ct13_X2_goByNumber (Γ : pTG) : CT Γ 1 0 0 mX2_goByNumber [.ref 57] gC177 mC176 lC176 (fun o g' mi' ml' => o = .inl none ∧ g' = gC177 ∧ mi' = mC185 ∧ ml' = lC176) := by
  refine CT_of (by decide +kernel) (Nat.le_of_ble_eq_true rfl) ?_
  refine X_iconst (v := nI 0) dX2_goByNumber_0 (by decide) ?_
  refine X_istore_n dX2_goByNumber_1 (by decide) ?_
  refine X_iload_n dX2_goByNumber_2 rfl ?_
  refine X_bipush (v := nI 8) dX2_goByNumber_3 (by decide) ?_
  refine X_icmp_ge 21 dX2_goByNumber_5 (by decide) (fun h => absurd h (by decide)) (fun _ => ?_)
  refine X_aload_n dX2_goByNumber_8 rfl ?_
  refine X_getr (a := 63) (z := 0) dX2_goByNumber_9 fkX2_27 rfl (by decide +kernel) (by decide +kernel) ?_
  refine X_iload_n dX2_goByNumber_12 rfl ?_
  refine X_iload_n dX2_goByNumber_13 rfl ?_
  refine X_iast (len := 8) 0 dX2_goByNumber_14 (by decide +kernel) rfl (by decide) ?_
  refine X_gml (g' := gC177) (mi' := mC178) (ml' := lC176) rfl rfl rfl ?_
  refine X_iinc (v := nI 1) dX2_goByNumber_15 rfl (by decide) (by decide) ?_
  refine X_goto 2 dX2_goByNumber_18 (by decide) ?_
  refine X_iload_n dX2_goByNumber_2 rfl ?_
  refine X_bipush (v := nI 8) dX2_goByNumber_3 (by decide) ?_
  refine X_icmp_ge 21 dX2_goByNumber_5 (by decide) (fun h => absurd h (by decide)) (fun _ => ?_)
  refine X_aload_n dX2_goByNumber_8 rfl ?_
  refine X_getr (a := 63) (z := 0) dX2_goByNumber_9 fkX2_27 rfl (by decide +kernel) (by decide +kernel) ?_
  refine X_iload_n dX2_goByNumber_12 rfl ?_
  refine X_iload_n dX2_goByNumber_13 rfl ?_
  refine X_iast (len := 8) 1 dX2_goByNumber_14 (by decide +kernel) rfl (by decide) ?_
  refine X_gml (g' := gC177) (mi' := mC179) (ml' := lC176) rfl rfl rfl ?_
  refine X_iinc (v := nI 2) dX2_goByNumber_15 rfl (by decide) (by decide) ?_
  refine X_goto 2 dX2_goByNumber_18 (by decide) ?_
  refine X_iload_n dX2_goByNumber_2 rfl ?_
  refine X_bipush (v := nI 8) dX2_goByNumber_3 (by decide) ?_
  refine X_icmp_ge 21 dX2_goByNumber_5 (by decide) (fun h => absurd h (by decide)) (fun _ => ?_)
  refine X_aload_n dX2_goByNumber_8 rfl ?_
  refine X_getr (a := 63) (z := 0) dX2_goByNumber_9 fkX2_27 rfl (by decide +kernel) (by decide +kernel) ?_
  refine X_iload_n dX2_goByNumber_12 rfl ?_
  refine X_iload_n dX2_goByNumber_13 rfl ?_
  refine X_iast (len := 8) 2 dX2_goByNumber_14 (by decide +kernel) rfl (by decide) ?_
  refine X_gml (g' := gC177) (mi' := mC180) (ml' := lC176) rfl rfl rfl ?_
  refine X_iinc (v := nI 3) dX2_goByNumber_15 rfl (by decide) (by decide) ?_
  refine X_goto 2 dX2_goByNumber_18 (by decide) ?_
  refine X_iload_n dX2_goByNumber_2 rfl ?_
  refine X_bipush (v := nI 8) dX2_goByNumber_3 (by decide) ?_
  refine X_icmp_ge 21 dX2_goByNumber_5 (by decide) (fun h => absurd h (by decide)) (fun _ => ?_)
  refine X_aload_n dX2_goByNumber_8 rfl ?_
  refine X_getr (a := 63) (z := 0) dX2_goByNumber_9 fkX2_27 rfl (by decide +kernel) (by decide +kernel) ?_
  refine X_iload_n dX2_goByNumber_12 rfl ?_
  refine X_iload_n dX2_goByNumber_13 rfl ?_
  refine X_iast (len := 8) 3 dX2_goByNumber_14 (by decide +kernel) rfl (by decide) ?_
  refine X_gml (g' := gC177) (mi' := mC181) (ml' := lC176) rfl rfl rfl ?_
  refine X_iinc (v := nI 4) dX2_goByNumber_15 rfl (by decide) (by decide) ?_
  refine X_goto 2 dX2_goByNumber_18 (by decide) ?_
  refine X_iload_n dX2_goByNumber_2 rfl ?_
  refine X_bipush (v := nI 8) dX2_goByNumber_3 (by decide) ?_
  refine X_icmp_ge 21 dX2_goByNumber_5 (by decide) (fun h => absurd h (by decide)) (fun _ => ?_)
  refine X_aload_n dX2_goByNumber_8 rfl ?_
  refine X_getr (a := 63) (z := 0) dX2_goByNumber_9 fkX2_27 rfl (by decide +kernel) (by decide +kernel) ?_
  refine X_iload_n dX2_goByNumber_12 rfl ?_
  refine X_iload_n dX2_goByNumber_13 rfl ?_
  refine X_iast (len := 8) 4 dX2_goByNumber_14 (by decide +kernel) rfl (by decide) ?_
  refine X_gml (g' := gC177) (mi' := mC182) (ml' := lC176) rfl rfl rfl ?_
  refine X_iinc (v := nI 5) dX2_goByNumber_15 rfl (by decide) (by decide) ?_
  refine X_goto 2 dX2_goByNumber_18 (by decide) ?_
  refine X_iload_n dX2_goByNumber_2 rfl ?_
  refine X_bipush (v := nI 8) dX2_goByNumber_3 (by decide) ?_
  refine X_icmp_ge 21 dX2_goByNumber_5 (by decide) (fun h => absurd h (by decide)) (fun _ => ?_)
  refine X_aload_n dX2_goByNumber_8 rfl ?_
  refine X_getr (a := 63) (z := 0) dX2_goByNumber_9 fkX2_27 rfl (by decide +kernel) (by decide +kernel) ?_
  refine X_iload_n dX2_goByNumber_12 rfl ?_
  refine X_iload_n dX2_goByNumber_13 rfl ?_
  refine X_iast (len := 8) 5 dX2_goByNumber_14 (by decide +kernel) rfl (by decide) ?_
  refine X_gml (g' := gC177) (mi' := mC183) (ml' := lC176) rfl rfl rfl ?_
  refine X_iinc (v := nI 6) dX2_goByNumber_15 rfl (by decide) (by decide) ?_
  refine X_goto 2 dX2_goByNumber_18 (by decide) ?_
  refine X_iload_n dX2_goByNumber_2 rfl ?_
  refine X_bipush (v := nI 8) dX2_goByNumber_3 (by decide) ?_
  refine X_icmp_ge 21 dX2_goByNumber_5 (by decide) (fun h => absurd h (by decide)) (fun _ => ?_)
  refine X_aload_n dX2_goByNumber_8 rfl ?_
  refine X_getr (a := 63) (z := 0) dX2_goByNumber_9 fkX2_27 rfl (by decide +kernel) (by decide +kernel) ?_
  refine X_iload_n dX2_goByNumber_12 rfl ?_
  refine X_iload_n dX2_goByNumber_13 rfl ?_
  refine X_iast (len := 8) 6 dX2_goByNumber_14 (by decide +kernel) rfl (by decide) ?_
  refine X_gml (g' := gC177) (mi' := mC184) (ml' := lC176) rfl rfl rfl ?_
  refine X_iinc (v := nI 7) dX2_goByNumber_15 rfl (by decide) (by decide) ?_
  refine X_goto 2 dX2_goByNumber_18 (by decide) ?_
  refine X_iload_n dX2_goByNumber_2 rfl ?_
  refine X_bipush (v := nI 8) dX2_goByNumber_3 (by decide) ?_
  refine X_icmp_ge 21 dX2_goByNumber_5 (by decide) (fun h => absurd h (by decide)) (fun _ => ?_)
  refine X_aload_n dX2_goByNumber_8 rfl ?_
  refine X_getr (a := 63) (z := 0) dX2_goByNumber_9 fkX2_27 rfl (by decide +kernel) (by decide +kernel) ?_
  refine X_iload_n dX2_goByNumber_12 rfl ?_
  refine X_iload_n dX2_goByNumber_13 rfl ?_
  refine X_iast (len := 8) 7 dX2_goByNumber_14 (by decide +kernel) rfl (by decide) ?_
  refine X_gml (g' := gC177) (mi' := mC185) (ml' := lC176) rfl rfl rfl ?_
  refine X_iinc (v := nI 8) dX2_goByNumber_15 rfl (by decide) (by decide) ?_
  refine X_goto 2 dX2_goByNumber_18 (by decide) ?_
  refine X_iload_n dX2_goByNumber_2 rfl ?_
  refine X_bipush (v := nI 8) dX2_goByNumber_3 (by decide) ?_
  refine X_icmp_ge 21 dX2_goByNumber_5 (by decide) (fun _ => ?_) (fun h => absurd h (by decide))
  exact X_vret dX2_goByNumber_21 rfl ⟨rfl, rfl, rfl, rfl⟩
set_option maxRecDepth 100000 in
set_option maxHeartbeats 4000000 in
theorem ct14_X2_init (Γ : pTG) : CT Γ 2 9 344 mX2_init [.ref 57, .ref 3, .int (nI 1)] gC157 mC157 lC157 (fun o g' mi' ml' => o = .inl none ∧ g' = gC177 ∧ mi' = mC185 ∧ ml' = lC176) := by
  refine CT_of (by decide +kernel) (Nat.le_of_ble_eq_true rfl) ?_
  refine X_aload_n dX2_init_0 rfl ?_
  refine X_objInit dX2_init_1 oiX2 (by decide) (by decide) ?_
  refine X_aload_n dX2_init_4 rfl ?_
  refine X_bipush (v := nI 64) dX2_init_5 (by decide) ?_
  refine X_newI (len := 64) dX2_init_7 acI rfl (by decide) (by decide +kernel) (by decide) (by decide) ?_
  refine X_gml (g' := gC158) (mi' := mC158) (ml' := lC158) rfl rfl rfl ?_
  refine X_topr (a' := 58) (show gC157.1 = 58 by decide +kernel) ?_
  refine X_putrF (z := 0) dX2_init_9 fkX2_9 rfl rfl rfl rfl (by decide +kernel) (by decide) ?_
  refine X_gml (g' := gC159) (mi' := mC158) (ml' := lC158) rfl rfl rfl ?_
  refine X_aload_n dX2_init_12 rfl ?_
  refine X_bipush (v := nI 24) dX2_init_13 (by decide) ?_
  refine X_newI (len := 24) dX2_init_15 acI rfl (by decide) (by decide +kernel) (by decide) (by decide) ?_
  refine X_gml (g' := gC160) (mi' := mC160) (ml' := lC160) rfl rfl rfl ?_
  refine X_topr (a' := 59) (show gC159.1 = 59 by decide +kernel) ?_
  refine X_putrF (z := 0) dX2_init_17 fkX2_15 rfl rfl rfl rfl (by decide +kernel) (by decide) ?_
  refine X_gml (g' := gC161) (mi' := mC160) (ml' := lC160) rfl rfl rfl ?_
  refine X_aload_n dX2_init_20 rfl ?_
  refine X_bipush (v := nI 8) dX2_init_21 (by decide) ?_
  refine X_newI (len := 8) dX2_init_23 acI rfl (by decide) (by decide +kernel) (by decide) (by decide) ?_
  refine X_gml (g' := gC162) (mi' := mC162) (ml' := lC162) rfl rfl rfl ?_
  refine X_topr (a' := 60) (show gC161.1 = 60 by decide +kernel) ?_
  refine X_putrF (z := 0) dX2_init_25 fkX2_18 rfl rfl rfl rfl (by decide +kernel) (by decide) ?_
  refine X_gml (g' := gC163) (mi' := mC162) (ml' := lC162) rfl rfl rfl ?_
  refine X_aload_n dX2_init_28 rfl ?_
  refine X_bipush (v := nI 8) dX2_init_29 (by decide) ?_
  refine X_newI (len := 8) dX2_init_31 acI rfl (by decide) (by decide +kernel) (by decide) (by decide) ?_
  refine X_gml (g' := gC164) (mi' := mC164) (ml' := lC164) rfl rfl rfl ?_
  refine X_topr (a' := 61) (show gC163.1 = 61 by decide +kernel) ?_
  refine X_putrF (z := 0) dX2_init_33 fkX2_21 rfl rfl rfl rfl (by decide +kernel) (by decide) ?_
  refine X_gml (g' := gC165) (mi' := mC164) (ml' := lC164) rfl rfl rfl ?_
  refine X_aload_n dX2_init_36 rfl ?_
  refine X_bipush (v := nI 8) dX2_init_37 (by decide) ?_
  refine X_newI (len := 8) dX2_init_39 acI rfl (by decide) (by decide +kernel) (by decide) (by decide) ?_
  refine X_gml (g' := gC166) (mi' := mC166) (ml' := lC166) rfl rfl rfl ?_
  refine X_topr (a' := 62) (show gC165.1 = 62 by decide +kernel) ?_
  refine X_putrF (z := 0) dX2_init_41 fkX2_24 rfl rfl rfl rfl (by decide +kernel) (by decide) ?_
  refine X_gml (g' := gC167) (mi' := mC166) (ml' := lC166) rfl rfl rfl ?_
  refine X_aload_n dX2_init_44 rfl ?_
  refine X_bipush (v := nI 8) dX2_init_45 (by decide) ?_
  refine X_newI (len := 8) dX2_init_47 acI rfl (by decide) (by decide +kernel) (by decide) (by decide) ?_
  refine X_gml (g' := gC168) (mi' := mC168) (ml' := lC168) rfl rfl rfl ?_
  refine X_topr (a' := 63) (show gC167.1 = 63 by decide +kernel) ?_
  refine X_putrF (z := 0) dX2_init_49 fkX2_27 rfl rfl rfl rfl (by decide +kernel) (by decide) ?_
  refine X_gml (g' := gC169) (mi' := mC168) (ml' := lC168) rfl rfl rfl ?_
  refine X_aload_n dX2_init_52 rfl ?_
  refine X_bipush (v := nI 8) dX2_init_53 (by decide) ?_
  refine X_newI (len := 8) dX2_init_55 acI rfl (by decide) (by decide +kernel) (by decide) (by decide) ?_
  refine X_gml (g' := gC170) (mi' := mC170) (ml' := lC170) rfl rfl rfl ?_
  refine X_topr (a' := 64) (show gC169.1 = 64 by decide +kernel) ?_
  refine X_putrF (z := 0) dX2_init_57 fkX2_30 rfl rfl rfl rfl (by decide +kernel) (by decide) ?_
  refine X_gml (g' := gC171) (mi' := mC170) (ml' := lC170) rfl rfl rfl ?_
  refine X_aload_n dX2_init_60 rfl ?_
  refine X_aload_n dX2_init_61 rfl ?_
  refine X_putrF (z := 0) dX2_init_62 fkX2_33 rfl rfl rfl rfl (by decide +kernel) (by decide) ?_
  refine X_gml (g' := gC172) (mi' := mC170) (ml' := lC170) rfl rfl rfl ?_
  refine X_aload_n dX2_init_65 rfl ?_
  refine X_iload_n dX2_init_66 rfl ?_
  refine X_putzF (z := 0) dX2_init_67 fkX2_37 rfl (by decide) rfl rfl rfl (by decide +kernel) ?_
  refine X_gml (g' := gC172) (mi' := mC173) (ml' := lC170) rfl rfl rfl ?_
  refine X_aload_n dX2_init_70 rfl ?_
  refine X_iload_n dX2_init_71 rfl ?_
  refine X_if_eq 81 dX2_init_72 (by decide) (fun h => absurd h (by decide)) (fun _ => ?_)
  refine X_sipush (v := nI 192) dX2_init_75 (by decide) ?_
  refine X_goto 82 dX2_init_78 (by decide) ?_
  refine X_newI (len := 192) dX2_init_82 acI rfl (by decide) (by decide +kernel) (by decide) (by decide) ?_
  refine X_gml (g' := gC174) (mi' := mC174) (ml' := lC174) rfl rfl rfl ?_
  refine X_topr (a' := 65) (show gC172.1 = 65 by decide +kernel) ?_
  refine X_putrF (z := 0) dX2_init_84 fkX2_41 rfl rfl rfl rfl (by decide +kernel) (by decide) ?_
  refine X_gml (g' := gC175) (mi' := mC174) (ml' := lC174) rfl rfl rfl ?_
  refine X_aload_n dX2_init_87 rfl ?_
  refine X_iload_n dX2_init_88 rfl ?_
  refine X_if_eq 97 dX2_init_89 (by decide) (fun h => absurd h (by decide)) (fun _ => ?_)
  refine X_bipush (v := nI 24) dX2_init_92 (by decide) ?_
  refine X_goto 98 dX2_init_94 (by decide) ?_
  refine X_newI (len := 24) dX2_init_98 acI rfl (by decide) (by decide +kernel) (by decide) (by decide) ?_
  refine X_gml (g' := gC176) (mi' := mC176) (ml' := lC176) rfl rfl rfl ?_
  refine X_topr (a' := 66) (show gC175.1 = 66 by decide +kernel) ?_
  refine X_putrF (z := 0) dX2_init_100 fkX2_44 rfl rfl rfl rfl (by decide +kernel) (by decide) ?_
  refine X_gml (g' := gC177) (mi' := mC176) (ml' := lC176) rfl rfl rfl ?_
  refine X_aload_n dX2_init_103 rfl ?_
  refine X_callV (z := 0) dX2_init_104 mkX2_47 (by decide +kernel) (ct13_X2_goByNumber Γ) rfl rfl (by decide) (by decide) (by decide) (by decide) (fun _ _ _ _ h => by cases h.1) (fun v g' mi' ml' h => ?_)
  obtain ⟨h1, rfl, rfl, rfl⟩ := h
  cases h1
  exact X_vret dX2_init_107 rfl ⟨rfl, rfl, rfl, rfl⟩
def gC186 : pGG := (gC177.1, gC177.2.1, up2 gC177.2.2 0 9 (some 57))
def gC187 : pGG := newG gC186 (2, 0)
def mC187 : pMI := newR mC185 gC186.1 0
def lC187 : pML := newR lC176 gC186.1 0
def gC188 : pGG := newG gC187 (20, 64)
def mC188 : pMI := newR mC187 gC187.1 0
def lC188 : pML := newR lC187 gC187.1 0
def gC189 : pGG := (gC188.1, gC188.2.1, up2 gC188.2.2 67 1 (some 68))
def gC190 : pGG := newG gC189 (20, 24)
def mC190 : pMI := newR mC188 gC189.1 0
def lC190 : pML := newR lC188 gC189.1 0
def gC191 : pGG := (gC190.1, gC190.2.1, up2 gC190.2.2 67 2 (some 69))
def gC192 : pGG := newG gC191 (20, 8)
def mC192 : pMI := newR mC190 gC191.1 0
def lC192 : pML := newR lC190 gC191.1 0
def gC193 : pGG := (gC192.1, gC192.2.1, up2 gC192.2.2 67 5 (some 70))
def gC194 : pGG := newG gC193 (20, 8)
def mC194 : pMI := newR mC192 gC193.1 0
def lC194 : pML := newR lC192 gC193.1 0
def gC195 : pGG := (gC194.1, gC194.2.1, up2 gC194.2.2 67 6 (some 71))
def gC196 : pGG := newG gC195 (20, 8)
def mC196 : pMI := newR mC194 gC195.1 0
def lC196 : pML := newR lC194 gC195.1 0
def gC197 : pGG := (gC196.1, gC196.2.1, up2 gC196.2.2 67 7 (some 72))
def gC198 : pGG := newG gC197 (20, 8)
def mC198 : pMI := newR mC196 gC197.1 0
def lC198 : pML := newR lC196 gC197.1 0
def gC199 : pGG := (gC198.1, gC198.2.1, up2 gC198.2.2 67 8 (some 73))
def gC200 : pGG := newG gC199 (20, 8)
def mC200 : pMI := newR mC198 gC199.1 0
def lC200 : pML := newR lC198 gC199.1 0
def gC201 : pGG := (gC200.1, gC200.2.1, up2 gC200.2.2 67 9 (some 74))
def gC202 : pGG := (gC201.1, gC201.2.1, up2 gC201.2.2 67 0 (some 3))
def mC203 : pMI := up2 mC200 67 10 (nI 0)
def gC204 : pGG := newG gC202 (20, 0)
def mC204 : pMI := newR mC203 gC202.1 0
def lC204 : pML := newR lC200 gC202.1 0
def gC205 : pGG := (gC204.1, gC204.2.1, up2 gC204.2.2 67 3 (some 75))
def gC206 : pGG := newG gC205 (20, 0)
def mC206 : pMI := newR mC204 gC205.1 0
def lC206 : pML := newR lC204 gC205.1 0
def gC207 : pGG := (gC206.1, gC206.2.1, up2 gC206.2.2 67 4 (some 76))
def mC208 : pMI := up2 mC206 73 0 (nI 0)
def mC209 : pMI := up2 mC208 73 1 (nI 1)
def mC210 : pMI := up2 mC209 73 2 (nI 2)
def mC211 : pMI := up2 mC210 73 3 (nI 3)
def mC212 : pMI := up2 mC211 73 4 (nI 4)
def mC213 : pMI := up2 mC212 73 5 (nI 5)
def mC214 : pMI := up2 mC213 73 6 (nI 6)
def mC215 : pMI := up2 mC214 73 7 (nI 7)
set_option maxRecDepth 100000 in
set_option maxHeartbeats 4000000 in
theorem ct15_X2_goByNumber (Γ : pTG) : CT Γ 1 0 0 mX2_goByNumber [.ref 67] gC207 mC206 lC206 (fun o g' mi' ml' => o = .inl none ∧ g' = gC207 ∧ mi' = mC215 ∧ ml' = lC206) := by
  refine CT_of (by decide +kernel) (Nat.le_of_ble_eq_true rfl) ?_
  refine X_iconst (v := nI 0) dX2_goByNumber_0 (by decide) ?_
  refine X_istore_n dX2_goByNumber_1 (by decide) ?_
  refine X_iload_n dX2_goByNumber_2 rfl ?_
  refine X_bipush (v := nI 8) dX2_goByNumber_3 (by decide) ?_
  refine X_icmp_ge 21 dX2_goByNumber_5 (by decide) (fun h => absurd h (by decide)) (fun _ => ?_)
  refine X_aload_n dX2_goByNumber_8 rfl ?_
  refine X_getr (a := 73) (z := 0) dX2_goByNumber_9 fkX2_27 rfl (by decide +kernel) (by decide +kernel) ?_
  refine X_iload_n dX2_goByNumber_12 rfl ?_
  refine X_iload_n dX2_goByNumber_13 rfl ?_
  refine X_iast (len := 8) 0 dX2_goByNumber_14 (by decide +kernel) rfl (by decide) ?_
  refine X_gml (g' := gC207) (mi' := mC208) (ml' := lC206) rfl rfl rfl ?_
  refine X_iinc (v := nI 1) dX2_goByNumber_15 rfl (by decide) (by decide) ?_
  refine X_goto 2 dX2_goByNumber_18 (by decide) ?_
  refine X_iload_n dX2_goByNumber_2 rfl ?_
  refine X_bipush (v := nI 8) dX2_goByNumber_3 (by decide) ?_
  refine X_icmp_ge 21 dX2_goByNumber_5 (by decide) (fun h => absurd h (by decide)) (fun _ => ?_)
  refine X_aload_n dX2_goByNumber_8 rfl ?_
  refine X_getr (a := 73) (z := 0) dX2_goByNumber_9 fkX2_27 rfl (by decide +kernel) (by decide +kernel) ?_
  refine X_iload_n dX2_goByNumber_12 rfl ?_
  refine X_iload_n dX2_goByNumber_13 rfl ?_
  refine X_iast (len := 8) 1 dX2_goByNumber_14 (by decide +kernel) rfl (by decide) ?_
  refine X_gml (g' := gC207) (mi' := mC209) (ml' := lC206) rfl rfl rfl ?_
  refine X_iinc (v := nI 2) dX2_goByNumber_15 rfl (by decide) (by decide) ?_
  refine X_goto 2 dX2_goByNumber_18 (by decide) ?_
  refine X_iload_n dX2_goByNumber_2 rfl ?_
  refine X_bipush (v := nI 8) dX2_goByNumber_3 (by decide) ?_
  refine X_icmp_ge 21 dX2_goByNumber_5 (by decide) (fun h => absurd h (by decide)) (fun _ => ?_)
  refine X_aload_n dX2_goByNumber_8 rfl ?_
  refine X_getr (a := 73) (z := 0) dX2_goByNumber_9 fkX2_27 rfl (by decide +kernel) (by decide +kernel) ?_
  refine X_iload_n dX2_goByNumber_12 rfl ?_
  refine X_iload_n dX2_goByNumber_13 rfl ?_
  refine X_iast (len := 8) 2 dX2_goByNumber_14 (by decide +kernel) rfl (by decide) ?_
  refine X_gml (g' := gC207) (mi' := mC210) (ml' := lC206) rfl rfl rfl ?_
  refine X_iinc (v := nI 3) dX2_goByNumber_15 rfl (by decide) (by decide) ?_
  refine X_goto 2 dX2_goByNumber_18 (by decide) ?_
  refine X_iload_n dX2_goByNumber_2 rfl ?_
  refine X_bipush (v := nI 8) dX2_goByNumber_3 (by decide) ?_
  refine X_icmp_ge 21 dX2_goByNumber_5 (by decide) (fun h => absurd h (by decide)) (fun _ => ?_)
  refine X_aload_n dX2_goByNumber_8 rfl ?_
  refine X_getr (a := 73) (z := 0) dX2_goByNumber_9 fkX2_27 rfl (by decide +kernel) (by decide +kernel) ?_
  refine X_iload_n dX2_goByNumber_12 rfl ?_
  refine X_iload_n dX2_goByNumber_13 rfl ?_
  refine X_iast (len := 8) 3 dX2_goByNumber_14 (by decide +kernel) rfl (by decide) ?_
  refine X_gml (g' := gC207) (mi' := mC211) (ml' := lC206) rfl rfl rfl ?_
  refine X_iinc (v := nI 4) dX2_goByNumber_15 rfl (by decide) (by decide) ?_
  refine X_goto 2 dX2_goByNumber_18 (by decide) ?_
  refine X_iload_n dX2_goByNumber_2 rfl ?_
  refine X_bipush (v := nI 8) dX2_goByNumber_3 (by decide) ?_
  refine X_icmp_ge 21 dX2_goByNumber_5 (by decide) (fun h => absurd h (by decide)) (fun _ => ?_)
  refine X_aload_n dX2_goByNumber_8 rfl ?_
  refine X_getr (a := 73) (z := 0) dX2_goByNumber_9 fkX2_27 rfl (by decide +kernel) (by decide +kernel) ?_
  refine X_iload_n dX2_goByNumber_12 rfl ?_
  refine X_iload_n dX2_goByNumber_13 rfl ?_
  refine X_iast (len := 8) 4 dX2_goByNumber_14 (by decide +kernel) rfl (by decide) ?_
  refine X_gml (g' := gC207) (mi' := mC212) (ml' := lC206) rfl rfl rfl ?_
  refine X_iinc (v := nI 5) dX2_goByNumber_15 rfl (by decide) (by decide) ?_
  refine X_goto 2 dX2_goByNumber_18 (by decide) ?_
  refine X_iload_n dX2_goByNumber_2 rfl ?_
  refine X_bipush (v := nI 8) dX2_goByNumber_3 (by decide) ?_
  refine X_icmp_ge 21 dX2_goByNumber_5 (by decide) (fun h => absurd h (by decide)) (fun _ => ?_)
  refine X_aload_n dX2_goByNumber_8 rfl ?_
  refine X_getr (a := 73) (z := 0) dX2_goByNumber_9 fkX2_27 rfl (by decide +kernel) (by decide +kernel) ?_
  refine X_iload_n dX2_goByNumber_12 rfl ?_
  refine X_iload_n dX2_goByNumber_13 rfl ?_
  refine X_iast (len := 8) 5 dX2_goByNumber_14 (by decide +kernel) rfl (by decide) ?_
  refine X_gml (g' := gC207) (mi' := mC213) (ml' := lC206) rfl rfl rfl ?_
  refine X_iinc (v := nI 6) dX2_goByNumber_15 rfl (by decide) (by decide) ?_
  refine X_goto 2 dX2_goByNumber_18 (by decide) ?_
  refine X_iload_n dX2_goByNumber_2 rfl ?_
  refine X_bipush (v := nI 8) dX2_goByNumber_3 (by decide) ?_
  refine X_icmp_ge 21 dX2_goByNumber_5 (by decide) (fun h => absurd h (by decide)) (fun _ => ?_)
  refine X_aload_n dX2_goByNumber_8 rfl ?_
  refine X_getr (a := 73) (z := 0) dX2_goByNumber_9 fkX2_27 rfl (by decide +kernel) (by decide +kernel) ?_
  refine X_iload_n dX2_goByNumber_12 rfl ?_
  refine X_iload_n dX2_goByNumber_13 rfl ?_
  refine X_iast (len := 8) 6 dX2_goByNumber_14 (by decide +kernel) rfl (by decide) ?_
  refine X_gml (g' := gC207) (mi' := mC214) (ml' := lC206) rfl rfl rfl ?_
  refine X_iinc (v := nI 7) dX2_goByNumber_15 rfl (by decide) (by decide) ?_
  refine X_goto 2 dX2_goByNumber_18 (by decide) ?_
  refine X_iload_n dX2_goByNumber_2 rfl ?_
  refine X_bipush (v := nI 8) dX2_goByNumber_3 (by decide) ?_
  refine X_icmp_ge 21 dX2_goByNumber_5 (by decide) (fun h => absurd h (by decide)) (fun _ => ?_)
  refine X_aload_n dX2_goByNumber_8 rfl ?_
  refine X_getr (a := 73) (z := 0) dX2_goByNumber_9 fkX2_27 rfl (by decide +kernel) (by decide +kernel) ?_
  refine X_iload_n dX2_goByNumber_12 rfl ?_
  refine X_iload_n dX2_goByNumber_13 rfl ?_
  refine X_iast (len := 8) 7 dX2_goByNumber_14 (by decide +kernel) rfl (by decide) ?_
  refine X_gml (g' := gC207) (mi' := mC215) (ml' := lC206) rfl rfl rfl ?_
  refine X_iinc (v := nI 8) dX2_goByNumber_15 rfl (by decide) (by decide) ?_
  refine X_goto 2 dX2_goByNumber_18 (by decide) ?_
  refine X_iload_n dX2_goByNumber_2 rfl ?_
  refine X_bipush (v := nI 8) dX2_goByNumber_3 (by decide) ?_
  refine X_icmp_ge 21 dX2_goByNumber_5 (by decide) (fun _ => ?_) (fun h => absurd h (by decide))
  exact X_vret dX2_goByNumber_21 rfl ⟨rfl, rfl, rfl, rfl⟩
set_option maxRecDepth 100000 in
set_option maxHeartbeats 4000000 in
theorem ct16_X2_init (Γ : pTG) : CT Γ 2 9 128 mX2_init [.ref 67, .ref 3, .int (nI 0)] gC187 mC187 lC187 (fun o g' mi' ml' => o = .inl none ∧ g' = gC207 ∧ mi' = mC215 ∧ ml' = lC206) := by
  refine CT_of (by decide +kernel) (Nat.le_of_ble_eq_true rfl) ?_
  refine X_aload_n dX2_init_0 rfl ?_
  refine X_objInit dX2_init_1 oiX2 (by decide) (by decide) ?_
  refine X_aload_n dX2_init_4 rfl ?_
  refine X_bipush (v := nI 64) dX2_init_5 (by decide) ?_
  refine X_newI (len := 64) dX2_init_7 acI rfl (by decide) (by decide +kernel) (by decide) (by decide) ?_
  refine X_gml (g' := gC188) (mi' := mC188) (ml' := lC188) rfl rfl rfl ?_
  refine X_topr (a' := 68) (show gC187.1 = 68 by decide +kernel) ?_
  refine X_putrF (z := 0) dX2_init_9 fkX2_9 rfl rfl rfl rfl (by decide +kernel) (by decide) ?_
  refine X_gml (g' := gC189) (mi' := mC188) (ml' := lC188) rfl rfl rfl ?_
  refine X_aload_n dX2_init_12 rfl ?_
  refine X_bipush (v := nI 24) dX2_init_13 (by decide) ?_
  refine X_newI (len := 24) dX2_init_15 acI rfl (by decide) (by decide +kernel) (by decide) (by decide) ?_
  refine X_gml (g' := gC190) (mi' := mC190) (ml' := lC190) rfl rfl rfl ?_
  refine X_topr (a' := 69) (show gC189.1 = 69 by decide +kernel) ?_
  refine X_putrF (z := 0) dX2_init_17 fkX2_15 rfl rfl rfl rfl (by decide +kernel) (by decide) ?_
  refine X_gml (g' := gC191) (mi' := mC190) (ml' := lC190) rfl rfl rfl ?_
  refine X_aload_n dX2_init_20 rfl ?_
  refine X_bipush (v := nI 8) dX2_init_21 (by decide) ?_
  refine X_newI (len := 8) dX2_init_23 acI rfl (by decide) (by decide +kernel) (by decide) (by decide) ?_
  refine X_gml (g' := gC192) (mi' := mC192) (ml' := lC192) rfl rfl rfl ?_
  refine X_topr (a' := 70) (show gC191.1 = 70 by decide +kernel) ?_
  refine X_putrF (z := 0) dX2_init_25 fkX2_18 rfl rfl rfl rfl (by decide +kernel) (by decide) ?_
  refine X_gml (g' := gC193) (mi' := mC192) (ml' := lC192) rfl rfl rfl ?_
  refine X_aload_n dX2_init_28 rfl ?_
  refine X_bipush (v := nI 8) dX2_init_29 (by decide) ?_
  refine X_newI (len := 8) dX2_init_31 acI rfl (by decide) (by decide +kernel) (by decide) (by decide) ?_
  refine X_gml (g' := gC194) (mi' := mC194) (ml' := lC194) rfl rfl rfl ?_
  refine X_topr (a' := 71) (show gC193.1 = 71 by decide +kernel) ?_
  refine X_putrF (z := 0) dX2_init_33 fkX2_21 rfl rfl rfl rfl (by decide +kernel) (by decide) ?_
  refine X_gml (g' := gC195) (mi' := mC194) (ml' := lC194) rfl rfl rfl ?_
  refine X_aload_n dX2_init_36 rfl ?_
  refine X_bipush (v := nI 8) dX2_init_37 (by decide) ?_
  refine X_newI (len := 8) dX2_init_39 acI rfl (by decide) (by decide +kernel) (by decide) (by decide) ?_
  refine X_gml (g' := gC196) (mi' := mC196) (ml' := lC196) rfl rfl rfl ?_
  refine X_topr (a' := 72) (show gC195.1 = 72 by decide +kernel) ?_
  refine X_putrF (z := 0) dX2_init_41 fkX2_24 rfl rfl rfl rfl (by decide +kernel) (by decide) ?_
  refine X_gml (g' := gC197) (mi' := mC196) (ml' := lC196) rfl rfl rfl ?_
  refine X_aload_n dX2_init_44 rfl ?_
  refine X_bipush (v := nI 8) dX2_init_45 (by decide) ?_
  refine X_newI (len := 8) dX2_init_47 acI rfl (by decide) (by decide +kernel) (by decide) (by decide) ?_
  refine X_gml (g' := gC198) (mi' := mC198) (ml' := lC198) rfl rfl rfl ?_
  refine X_topr (a' := 73) (show gC197.1 = 73 by decide +kernel) ?_
  refine X_putrF (z := 0) dX2_init_49 fkX2_27 rfl rfl rfl rfl (by decide +kernel) (by decide) ?_
  refine X_gml (g' := gC199) (mi' := mC198) (ml' := lC198) rfl rfl rfl ?_
  refine X_aload_n dX2_init_52 rfl ?_
  refine X_bipush (v := nI 8) dX2_init_53 (by decide) ?_
  refine X_newI (len := 8) dX2_init_55 acI rfl (by decide) (by decide +kernel) (by decide) (by decide) ?_
  refine X_gml (g' := gC200) (mi' := mC200) (ml' := lC200) rfl rfl rfl ?_
  refine X_topr (a' := 74) (show gC199.1 = 74 by decide +kernel) ?_
  refine X_putrF (z := 0) dX2_init_57 fkX2_30 rfl rfl rfl rfl (by decide +kernel) (by decide) ?_
  refine X_gml (g' := gC201) (mi' := mC200) (ml' := lC200) rfl rfl rfl ?_
  refine X_aload_n dX2_init_60 rfl ?_
  refine X_aload_n dX2_init_61 rfl ?_
  refine X_putrF (z := 0) dX2_init_62 fkX2_33 rfl rfl rfl rfl (by decide +kernel) (by decide) ?_
  refine X_gml (g' := gC202) (mi' := mC200) (ml' := lC200) rfl rfl rfl ?_
  refine X_aload_n dX2_init_65 rfl ?_
  refine X_iload_n dX2_init_66 rfl ?_
  refine X_putzF (z := 0) dX2_init_67 fkX2_37 rfl (by decide) rfl rfl rfl (by decide +kernel) ?_
  refine X_gml (g' := gC202) (mi' := mC203) (ml' := lC200) rfl rfl rfl ?_
  refine X_aload_n dX2_init_70 rfl ?_
  refine X_iload_n dX2_init_71 rfl ?_
  refine X_if_eq 81 dX2_init_72 (by decide) (fun _ => ?_) (fun h => absurd h (by decide))
  refine X_iconst (v := nI 0) dX2_init_81 (by decide) ?_
  refine X_newI (len := 0) dX2_init_82 acI rfl (by decide) (by decide +kernel) (by decide) (by decide) ?_
  refine X_gml (g' := gC204) (mi' := mC204) (ml' := lC204) rfl rfl rfl ?_
  refine X_topr (a' := 75) (show gC202.1 = 75 by decide +kernel) ?_
  refine X_putrF (z := 0) dX2_init_84 fkX2_41 rfl rfl rfl rfl (by decide +kernel) (by decide) ?_
  refine X_gml (g' := gC205) (mi' := mC204) (ml' := lC204) rfl rfl rfl ?_
  refine X_aload_n dX2_init_87 rfl ?_
  refine X_iload_n dX2_init_88 rfl ?_
  refine X_if_eq 97 dX2_init_89 (by decide) (fun _ => ?_) (fun h => absurd h (by decide))
  refine X_iconst (v := nI 0) dX2_init_97 (by decide) ?_
  refine X_newI (len := 0) dX2_init_98 acI rfl (by decide) (by decide +kernel) (by decide) (by decide) ?_
  refine X_gml (g' := gC206) (mi' := mC206) (ml' := lC206) rfl rfl rfl ?_
  refine X_topr (a' := 76) (show gC205.1 = 76 by decide +kernel) ?_
  refine X_putrF (z := 0) dX2_init_100 fkX2_44 rfl rfl rfl rfl (by decide +kernel) (by decide) ?_
  refine X_gml (g' := gC207) (mi' := mC206) (ml' := lC206) rfl rfl rfl ?_
  refine X_aload_n dX2_init_103 rfl ?_
  refine X_callV (z := 0) dX2_init_104 mkX2_47 (by decide +kernel) (ct15_X2_goByNumber Γ) rfl rfl (by decide) (by decide) (by decide) (by decide) (fun _ _ _ _ h => by cases h.1) (fun v g' mi' ml' h => ?_)
  obtain ⟨h1, rfl, rfl, rfl⟩ := h
  cases h1
  exact X_vret dX2_init_107 rfl ⟨rfl, rfl, rfl, rfl⟩
def gC216 : pGG := (gC207.1, gC207.2.1, up2 gC207.2.2 0 10 (some 67))
def gC217 : pGG := newG gC216 (4, 0)
def mC217 : pMI := newR mC215 gC216.1 0
def lC217 : pML := newR lC206 gC216.1 0
def gC218 : pGG := newG gC217 (20, 72)
def mC218 : pMI := newR mC217 gC217.1 0
def lC218 : pML := newR lC217 gC217.1 0
def gC219 : pGG := (gC218.1, gC218.2.1, up2 gC218.2.2 77 1 (some 78))
def gC220 : pGG := newG gC219 (20, 2304)
def mC220 : pMI := newR mC218 gC219.1 0
def lC220 : pML := newR lC218 gC219.1 0
def gC221 : pGG := (gC220.1, gC220.2.1, up2 gC220.2.2 77 2 (some 79))
def gC222 : pGG := newG gC221 (20, 8)
def mC222 : pMI := newR mC220 gC221.1 0
def lC222 : pML := newR lC220 gC221.1 0
def gC223 : pGG := (gC222.1, gC222.2.1, up2 gC222.2.2 77 3 (some 80))
def gC224 : pGG := (gC223.1, gC223.2.1, up2 gC223.2.2 77 0 (some 3))
set_option maxRecDepth 100000 in
set_option maxHeartbeats 4000000 in
theorem ct17_X4_init (Γ : pTG) : CT Γ 1 3 2384 mX4_init [.ref 77, .ref 3] gC217 mC217 lC217 (fun o g' mi' ml' => o = .inl none ∧ g' = gC224 ∧ mi' = mC222 ∧ ml' = lC222) := by
  refine CT_of (by decide +kernel) (Nat.le_of_ble_eq_true rfl) ?_
  refine X_aload_n dX4_init_0 rfl ?_
  refine X_objInit dX4_init_1 oiX4 (by decide) (by decide) ?_
  refine X_aload_n dX4_init_4 rfl ?_
  refine X_bipush (v := nI 72) dX4_init_5 (by decide) ?_
  refine X_newI (len := 72) dX4_init_7 acI rfl (by decide) (by decide +kernel) (by decide) (by decide) ?_
  refine X_gml (g' := gC218) (mi' := mC218) (ml' := lC218) rfl rfl rfl ?_
  refine X_topr (a' := 78) (show gC217.1 = 78 by decide +kernel) ?_
  refine X_putrF (z := 0) dX4_init_9 fkX4_11 rfl rfl rfl rfl (by decide +kernel) (by decide) ?_
  refine X_gml (g' := gC219) (mi' := mC218) (ml' := lC218) rfl rfl rfl ?_
  refine X_aload_n dX4_init_12 rfl ?_
  refine X_sipush (v := nI 2304) dX4_init_13 (by decide) ?_
  refine X_newI (len := 2304) dX4_init_16 acI rfl (by decide) (by decide +kernel) (by decide) (by decide) ?_
  refine X_gml (g' := gC220) (mi' := mC220) (ml' := lC220) rfl rfl rfl ?_
  refine X_topr (a' := 79) (show gC219.1 = 79 by decide +kernel) ?_
  refine X_putrF (z := 0) dX4_init_18 fkX4_15 rfl rfl rfl rfl (by decide +kernel) (by decide) ?_
  refine X_gml (g' := gC221) (mi' := mC220) (ml' := lC220) rfl rfl rfl ?_
  refine X_aload_n dX4_init_21 rfl ?_
  refine X_bipush (v := nI 8) dX4_init_22 (by decide) ?_
  refine X_newI (len := 8) dX4_init_24 acI rfl (by decide) (by decide +kernel) (by decide) (by decide) ?_
  refine X_gml (g' := gC222) (mi' := mC222) (ml' := lC222) rfl rfl rfl ?_
  refine X_topr (a' := 80) (show gC221.1 = 80 by decide +kernel) ?_
  refine X_putrF (z := 0) dX4_init_26 fkX4_18 rfl rfl rfl rfl (by decide +kernel) (by decide) ?_
  refine X_gml (g' := gC223) (mi' := mC222) (ml' := lC222) rfl rfl rfl ?_
  refine X_aload_n dX4_init_29 rfl ?_
  refine X_aload_n dX4_init_30 rfl ?_
  refine X_putrF (z := 0) dX4_init_31 fkX4_21 rfl rfl rfl rfl (by decide +kernel) (by decide) ?_
  refine X_gml (g' := gC224) (mi' := mC222) (ml' := lC222) rfl rfl rfl ?_
  exact X_vret dX4_init_34 rfl ⟨rfl, rfl, rfl, rfl⟩
def gC225 : pGG := (gC224.1, gC224.2.1, up2 gC224.2.2 0 11 (some 77))
def gC226 : pGG := newG gC225 (1, 0)
def mC226 : pMI := newR mC222 gC225.1 0
def lC226 : pML := newR lC222 gC225.1 0
def gC227 : pGG := newG gC226 (20, 60)
def mC227 : pMI := newR mC226 gC226.1 0
def lC227 : pML := newR lC226 gC226.1 0
def gC228 : pGG := (gC227.1, gC227.2.1, up2 gC227.2.2 81 0 (some 82))
def gC229 : pGG := newG gC228 (24, 3)
def mC229 : pMI := newR mC227 gC228.1 0
def lC229 : pML := newR lC227 gC228.1 0
def gC230 : pGG := (gC229.1, gC229.2.1, up2 gC229.2.2 81 1 (some 83))
set_option maxRecDepth 100000 in
set_option maxHeartbeats 4000000 in
theorem ct18_X1_init (Γ : pTG) : CT Γ 1 2 63 mX1_init [.ref 81] gC226 mC226 lC226 (fun o g' mi' ml' => o = .inl none ∧ g' = gC230 ∧ mi' = mC229 ∧ ml' = lC229) := by
  refine CT_of (by decide +kernel) (Nat.le_of_ble_eq_true rfl) ?_
  refine X_aload_n dX1_init_0 rfl ?_
  refine X_objInit dX1_init_1 oiX1 (by decide) (by decide) ?_
  refine X_aload_n dX1_init_4 rfl ?_
  refine X_bipush (v := nI 60) dX1_init_5 (by decide) ?_
  refine X_newI (len := 60) dX1_init_7 acI rfl (by decide) (by decide +kernel) (by decide) (by decide) ?_
  refine X_gml (g' := gC227) (mi' := mC227) (ml' := lC227) rfl rfl rfl ?_
  refine X_topr (a' := 82) (show gC226.1 = 82 by decide +kernel) ?_
  refine X_putrF (z := 0) dX1_init_9 fkX1_11 rfl rfl rfl rfl (by decide +kernel) (by decide) ?_
  refine X_gml (g' := gC228) (mi' := mC227) (ml' := lC227) rfl rfl rfl ?_
  refine X_aload_n dX1_init_12 rfl ?_
  refine X_iconst (v := nI 3) dX1_init_13 (by decide) ?_
  refine X_newQ (len := 3) dX1_init_14 clX1_15 rfl (by decide) (by decide +kernel) (by decide) (by decide) ?_
  refine X_gml (g' := gC229) (mi' := mC229) (ml' := lC229) rfl rfl rfl ?_
  refine X_topr (a' := 83) (show gC228.1 = 83 by decide +kernel) ?_
  refine X_putrF (z := 0) dX1_init_17 fkX1_17 rfl rfl rfl rfl (by decide +kernel) (by decide) ?_
  refine X_gml (g' := gC230) (mi' := mC229) (ml' := lC229) rfl rfl rfl ?_
  exact X_vret dX1_init_20 rfl ⟨rfl, rfl, rfl, rfl⟩
def gC231 : pGG := (gC230.1, gC230.2.1, up2 gC230.2.2 0 12 (some 81))
def gC232 : pGG := newG gC231 (20, 8)
def mC232 : pMI := newR mC229 gC231.1 0
def lC232 : pML := newR lC229 gC231.1 0
def gC233 : pGG := (gC232.1, gC232.2.1, up2 gC232.2.2 0 13 (some 84))
def gC234 : pGG := newG gC233 (20, 8)
def mC234 : pMI := newR mC232 gC233.1 0
def lC234 : pML := newR lC232 gC233.1 0
def gC235 : pGG := (gC234.1, gC234.2.1, up2 gC234.2.2 0 14 (some 85))
def gC236 : pGG := newG gC235 (20, 3)
def mC236 : pMI := newR mC234 gC235.1 0
def lC236 : pML := newR lC234 gC235.1 0
def gC237 : pGG := (gC236.1, gC236.2.1, up2 gC236.2.2 0 15 (some 86))
def mC238 : pMI := up2 mC236 3 9 (nI 0)
def mC239 : pMI := up2 mC238 3 10 (nI 0)
def mC240 : pMI := up2 mC239 3 6 (nI 0)
def mC241 : pMI := up2 mC240 3 7 (nI 2)
def mC242 : pMI := up2 mC241 3 8 (nI 0)
set_option maxRecDepth 100000 in
set_option maxHeartbeats 4000000 in
theorem ct19_X8_clear (Γ : pTG) : CT Γ 1 0 0 mX8_clear [.ref 3] gC237 mC236 lC236 (fun o g' mi' ml' => o = .inl none ∧ g' = gC237 ∧ mi' = mC242 ∧ ml' = lC236) := by
  refine CT_of (by decide +kernel) (Nat.le_of_ble_eq_true rfl) ?_
  refine X_aload_n dX8_clear_0 rfl ?_
  refine X_iconst (v := nI 0) dX8_clear_1 (by decide) ?_
  refine X_puti (z := 0) dX8_clear_2 fkX8_30 rfl rfl (by decide +kernel) ?_
  refine X_gml (g' := gC237) (mi' := mC238) (ml' := lC236) rfl rfl rfl ?_
  refine X_aload_n dX8_clear_5 rfl ?_
  refine X_iconst (v := nI 0) dX8_clear_6 (by decide) ?_
  refine X_puti (z := 0) dX8_clear_7 fkX8_34 rfl rfl (by decide +kernel) ?_
  refine X_gml (g' := gC237) (mi' := mC239) (ml' := lC236) rfl rfl rfl ?_
  refine X_aload_n dX8_clear_10 rfl ?_
  refine X_iconst (v := nI 0) dX8_clear_11 (by decide) ?_
  refine X_puti (z := 0) dX8_clear_12 fkX8_37 rfl rfl (by decide +kernel) ?_
  refine X_gml (g' := gC237) (mi' := mC240) (ml' := lC236) rfl rfl rfl ?_
  refine X_aload_n dX8_clear_15 rfl ?_
  refine X_iconst (v := nI 2) dX8_clear_16 (by decide) ?_
  refine X_puti (z := 0) dX8_clear_17 fkX8_40 rfl rfl (by decide +kernel) ?_
  refine X_gml (g' := gC237) (mi' := mC241) (ml' := lC236) rfl rfl rfl ?_
  refine X_aload_n dX8_clear_20 rfl ?_
  refine X_iconst (v := nI 0) dX8_clear_21 (by decide) ?_
  refine X_puti (z := 0) dX8_clear_22 fkX8_43 rfl rfl (by decide +kernel) ?_
  refine X_gml (g' := gC237) (mi' := mC242) (ml' := lC236) rfl rfl rfl ?_
  exact X_vret dX8_clear_25 rfl ⟨rfl, rfl, rfl, rfl⟩
def mC243 : pMI := up2 mC242 17 5 (nI 0)
def mC244 : pMI := up2 mC243 18 0 (nI 108)
def mC245 : pMI := up2 mC244 19 0 (nI 1)
def mC246 : pMI := up2 mC245 18 150 (nI 108)
def mC247 : pMI := up2 mC246 19 1 (nI 1)
def mC248 : pMI := up2 mC247 18 300 (nI 108)
def mC249 : pMI := up2 mC248 19 2 (nI 1)
def mC250 : pMI := up2 mC249 18 450 (nI 108)
def mC251 : pMI := up2 mC250 19 3 (nI 1)
def mC252 : pMI := up2 mC251 18 600 (nI 108)
def mC253 : pMI := up2 mC252 19 4 (nI 1)
def mC254 : pMI := up2 mC253 18 750 (nI 108)
def mC255 : pMI := up2 mC254 19 5 (nI 1)
def mC256 : pMI := up2 mC255 18 900 (nI 108)
def mC257 : pMI := up2 mC256 19 6 (nI 1)
def mC258 : pMI := up2 mC257 18 1050 (nI 108)
def mC259 : pMI := up2 mC258 19 7 (nI 1)
set_option maxRecDepth 100000 in
set_option maxHeartbeats 4000000 in
theorem ct20_X6_clear (Γ : pTG) : CT Γ 1 0 0 mX6_clear [.ref 17] gC237 mC242 lC236 (fun o g' mi' ml' => o = .inl none ∧ g' = gC237 ∧ mi' = mC259 ∧ ml' = lC236) := by
  refine CT_of (by decide +kernel) (Nat.le_of_ble_eq_true rfl) ?_
  refine X_aload_n dX6_clear_0 rfl ?_
  refine X_iconst (v := nI 0) dX6_clear_1 (by decide) ?_
  refine X_puti (z := 0) dX6_clear_2 fkX6_24 rfl rfl (by decide +kernel) ?_
  refine X_gml (g' := gC237) (mi' := mC243) (ml' := lC236) rfl rfl rfl ?_
  refine X_iconst (v := nI 0) dX6_clear_5 (by decide) ?_
  refine X_istore_n dX6_clear_6 (by decide) ?_
  refine X_iload_n dX6_clear_7 rfl ?_
  refine X_bipush (v := nI 8) dX6_clear_8 (by decide) ?_
  refine X_icmp_ge 38 dX6_clear_10 (by decide) (fun h => absurd h (by decide)) (fun _ => ?_)
  refine X_aload_n dX6_clear_13 rfl ?_
  refine X_getr (a := 18) (z := 0) dX6_clear_14 fkX6_9 rfl (by decide +kernel) (by decide +kernel) ?_
  refine X_iload_n dX6_clear_17 rfl ?_
  refine X_sipush (v := nI 150) dX6_clear_18 (by decide) ?_
  refine X_imul dX6_clear_21 ?_
  refine X_topi (y := nI 0) (by decide) ?_
  refine X_bipush (v := nI 108) dX6_clear_22 (by decide) ?_
  refine X_iast (len := 1200) 0 dX6_clear_24 (by decide +kernel) rfl (by decide) ?_
  refine X_gml (g' := gC237) (mi' := mC244) (ml' := lC236) rfl rfl rfl ?_
  refine X_aload_n dX6_clear_25 rfl ?_
  refine X_getr (a := 19) (z := 0) dX6_clear_26 fkX6_15 rfl (by decide +kernel) (by decide +kernel) ?_
  refine X_iload_n dX6_clear_29 rfl ?_
  refine X_iconst (v := nI 1) dX6_clear_30 (by decide) ?_
  refine X_iast (len := 8) 0 dX6_clear_31 (by decide +kernel) rfl (by decide) ?_
  refine X_gml (g' := gC237) (mi' := mC245) (ml' := lC236) rfl rfl rfl ?_
  refine X_iinc (v := nI 1) dX6_clear_32 rfl (by decide) (by decide) ?_
  refine X_goto 7 dX6_clear_35 (by decide) ?_
  refine X_iload_n dX6_clear_7 rfl ?_
  refine X_bipush (v := nI 8) dX6_clear_8 (by decide) ?_
  refine X_icmp_ge 38 dX6_clear_10 (by decide) (fun h => absurd h (by decide)) (fun _ => ?_)
  refine X_aload_n dX6_clear_13 rfl ?_
  refine X_getr (a := 18) (z := 0) dX6_clear_14 fkX6_9 rfl (by decide +kernel) (by decide +kernel) ?_
  refine X_iload_n dX6_clear_17 rfl ?_
  refine X_sipush (v := nI 150) dX6_clear_18 (by decide) ?_
  refine X_imul dX6_clear_21 ?_
  refine X_topi (y := nI 150) (by decide) ?_
  refine X_bipush (v := nI 108) dX6_clear_22 (by decide) ?_
  refine X_iast (len := 1200) 150 dX6_clear_24 (by decide +kernel) rfl (by decide) ?_
  refine X_gml (g' := gC237) (mi' := mC246) (ml' := lC236) rfl rfl rfl ?_
  refine X_aload_n dX6_clear_25 rfl ?_
  refine X_getr (a := 19) (z := 0) dX6_clear_26 fkX6_15 rfl (by decide +kernel) (by decide +kernel) ?_
  refine X_iload_n dX6_clear_29 rfl ?_
  refine X_iconst (v := nI 1) dX6_clear_30 (by decide) ?_
  refine X_iast (len := 8) 1 dX6_clear_31 (by decide +kernel) rfl (by decide) ?_
  refine X_gml (g' := gC237) (mi' := mC247) (ml' := lC236) rfl rfl rfl ?_
  refine X_iinc (v := nI 2) dX6_clear_32 rfl (by decide) (by decide) ?_
  refine X_goto 7 dX6_clear_35 (by decide) ?_
  refine X_iload_n dX6_clear_7 rfl ?_
  refine X_bipush (v := nI 8) dX6_clear_8 (by decide) ?_
  refine X_icmp_ge 38 dX6_clear_10 (by decide) (fun h => absurd h (by decide)) (fun _ => ?_)
  refine X_aload_n dX6_clear_13 rfl ?_
  refine X_getr (a := 18) (z := 0) dX6_clear_14 fkX6_9 rfl (by decide +kernel) (by decide +kernel) ?_
  refine X_iload_n dX6_clear_17 rfl ?_
  refine X_sipush (v := nI 150) dX6_clear_18 (by decide) ?_
  refine X_imul dX6_clear_21 ?_
  refine X_topi (y := nI 300) (by decide) ?_
  refine X_bipush (v := nI 108) dX6_clear_22 (by decide) ?_
  refine X_iast (len := 1200) 300 dX6_clear_24 (by decide +kernel) rfl (by decide) ?_
  refine X_gml (g' := gC237) (mi' := mC248) (ml' := lC236) rfl rfl rfl ?_
  refine X_aload_n dX6_clear_25 rfl ?_
  refine X_getr (a := 19) (z := 0) dX6_clear_26 fkX6_15 rfl (by decide +kernel) (by decide +kernel) ?_
  refine X_iload_n dX6_clear_29 rfl ?_
  refine X_iconst (v := nI 1) dX6_clear_30 (by decide) ?_
  refine X_iast (len := 8) 2 dX6_clear_31 (by decide +kernel) rfl (by decide) ?_
  refine X_gml (g' := gC237) (mi' := mC249) (ml' := lC236) rfl rfl rfl ?_
  refine X_iinc (v := nI 3) dX6_clear_32 rfl (by decide) (by decide) ?_
  refine X_goto 7 dX6_clear_35 (by decide) ?_
  refine X_iload_n dX6_clear_7 rfl ?_
  refine X_bipush (v := nI 8) dX6_clear_8 (by decide) ?_
  refine X_icmp_ge 38 dX6_clear_10 (by decide) (fun h => absurd h (by decide)) (fun _ => ?_)
  refine X_aload_n dX6_clear_13 rfl ?_
  refine X_getr (a := 18) (z := 0) dX6_clear_14 fkX6_9 rfl (by decide +kernel) (by decide +kernel) ?_
  refine X_iload_n dX6_clear_17 rfl ?_
  refine X_sipush (v := nI 150) dX6_clear_18 (by decide) ?_
  refine X_imul dX6_clear_21 ?_
  refine X_topi (y := nI 450) (by decide) ?_
  refine X_bipush (v := nI 108) dX6_clear_22 (by decide) ?_
  refine X_iast (len := 1200) 450 dX6_clear_24 (by decide +kernel) rfl (by decide) ?_
  refine X_gml (g' := gC237) (mi' := mC250) (ml' := lC236) rfl rfl rfl ?_
  refine X_aload_n dX6_clear_25 rfl ?_
  refine X_getr (a := 19) (z := 0) dX6_clear_26 fkX6_15 rfl (by decide +kernel) (by decide +kernel) ?_
  refine X_iload_n dX6_clear_29 rfl ?_
  refine X_iconst (v := nI 1) dX6_clear_30 (by decide) ?_
  refine X_iast (len := 8) 3 dX6_clear_31 (by decide +kernel) rfl (by decide) ?_
  refine X_gml (g' := gC237) (mi' := mC251) (ml' := lC236) rfl rfl rfl ?_
  refine X_iinc (v := nI 4) dX6_clear_32 rfl (by decide) (by decide) ?_
  refine X_goto 7 dX6_clear_35 (by decide) ?_
  refine X_iload_n dX6_clear_7 rfl ?_
  refine X_bipush (v := nI 8) dX6_clear_8 (by decide) ?_
  refine X_icmp_ge 38 dX6_clear_10 (by decide) (fun h => absurd h (by decide)) (fun _ => ?_)
  refine X_aload_n dX6_clear_13 rfl ?_
  refine X_getr (a := 18) (z := 0) dX6_clear_14 fkX6_9 rfl (by decide +kernel) (by decide +kernel) ?_
  refine X_iload_n dX6_clear_17 rfl ?_
  refine X_sipush (v := nI 150) dX6_clear_18 (by decide) ?_
  refine X_imul dX6_clear_21 ?_
  refine X_topi (y := nI 600) (by decide) ?_
  refine X_bipush (v := nI 108) dX6_clear_22 (by decide) ?_
  refine X_iast (len := 1200) 600 dX6_clear_24 (by decide +kernel) rfl (by decide) ?_
  refine X_gml (g' := gC237) (mi' := mC252) (ml' := lC236) rfl rfl rfl ?_
  refine X_aload_n dX6_clear_25 rfl ?_
  refine X_getr (a := 19) (z := 0) dX6_clear_26 fkX6_15 rfl (by decide +kernel) (by decide +kernel) ?_
  refine X_iload_n dX6_clear_29 rfl ?_
  refine X_iconst (v := nI 1) dX6_clear_30 (by decide) ?_
  refine X_iast (len := 8) 4 dX6_clear_31 (by decide +kernel) rfl (by decide) ?_
  refine X_gml (g' := gC237) (mi' := mC253) (ml' := lC236) rfl rfl rfl ?_
  refine X_iinc (v := nI 5) dX6_clear_32 rfl (by decide) (by decide) ?_
  refine X_goto 7 dX6_clear_35 (by decide) ?_
  refine X_iload_n dX6_clear_7 rfl ?_
  refine X_bipush (v := nI 8) dX6_clear_8 (by decide) ?_
  refine X_icmp_ge 38 dX6_clear_10 (by decide) (fun h => absurd h (by decide)) (fun _ => ?_)
  refine X_aload_n dX6_clear_13 rfl ?_
  refine X_getr (a := 18) (z := 0) dX6_clear_14 fkX6_9 rfl (by decide +kernel) (by decide +kernel) ?_
  refine X_iload_n dX6_clear_17 rfl ?_
  refine X_sipush (v := nI 150) dX6_clear_18 (by decide) ?_
  refine X_imul dX6_clear_21 ?_
  refine X_topi (y := nI 750) (by decide) ?_
  refine X_bipush (v := nI 108) dX6_clear_22 (by decide) ?_
  refine X_iast (len := 1200) 750 dX6_clear_24 (by decide +kernel) rfl (by decide) ?_
  refine X_gml (g' := gC237) (mi' := mC254) (ml' := lC236) rfl rfl rfl ?_
  refine X_aload_n dX6_clear_25 rfl ?_
  refine X_getr (a := 19) (z := 0) dX6_clear_26 fkX6_15 rfl (by decide +kernel) (by decide +kernel) ?_
  refine X_iload_n dX6_clear_29 rfl ?_
  refine X_iconst (v := nI 1) dX6_clear_30 (by decide) ?_
  refine X_iast (len := 8) 5 dX6_clear_31 (by decide +kernel) rfl (by decide) ?_
  refine X_gml (g' := gC237) (mi' := mC255) (ml' := lC236) rfl rfl rfl ?_
  refine X_iinc (v := nI 6) dX6_clear_32 rfl (by decide) (by decide) ?_
  refine X_goto 7 dX6_clear_35 (by decide) ?_
  refine X_iload_n dX6_clear_7 rfl ?_
  refine X_bipush (v := nI 8) dX6_clear_8 (by decide) ?_
  refine X_icmp_ge 38 dX6_clear_10 (by decide) (fun h => absurd h (by decide)) (fun _ => ?_)
  refine X_aload_n dX6_clear_13 rfl ?_
  refine X_getr (a := 18) (z := 0) dX6_clear_14 fkX6_9 rfl (by decide +kernel) (by decide +kernel) ?_
  refine X_iload_n dX6_clear_17 rfl ?_
  refine X_sipush (v := nI 150) dX6_clear_18 (by decide) ?_
  refine X_imul dX6_clear_21 ?_
  refine X_topi (y := nI 900) (by decide) ?_
  refine X_bipush (v := nI 108) dX6_clear_22 (by decide) ?_
  refine X_iast (len := 1200) 900 dX6_clear_24 (by decide +kernel) rfl (by decide) ?_
  refine X_gml (g' := gC237) (mi' := mC256) (ml' := lC236) rfl rfl rfl ?_
  refine X_aload_n dX6_clear_25 rfl ?_
  refine X_getr (a := 19) (z := 0) dX6_clear_26 fkX6_15 rfl (by decide +kernel) (by decide +kernel) ?_
  refine X_iload_n dX6_clear_29 rfl ?_
  refine X_iconst (v := nI 1) dX6_clear_30 (by decide) ?_
  refine X_iast (len := 8) 6 dX6_clear_31 (by decide +kernel) rfl (by decide) ?_
  refine X_gml (g' := gC237) (mi' := mC257) (ml' := lC236) rfl rfl rfl ?_
  refine X_iinc (v := nI 7) dX6_clear_32 rfl (by decide) (by decide) ?_
  refine X_goto 7 dX6_clear_35 (by decide) ?_
  refine X_iload_n dX6_clear_7 rfl ?_
  refine X_bipush (v := nI 8) dX6_clear_8 (by decide) ?_
  refine X_icmp_ge 38 dX6_clear_10 (by decide) (fun h => absurd h (by decide)) (fun _ => ?_)
  refine X_aload_n dX6_clear_13 rfl ?_
  refine X_getr (a := 18) (z := 0) dX6_clear_14 fkX6_9 rfl (by decide +kernel) (by decide +kernel) ?_
  refine X_iload_n dX6_clear_17 rfl ?_
  refine X_sipush (v := nI 150) dX6_clear_18 (by decide) ?_
  refine X_imul dX6_clear_21 ?_
  refine X_topi (y := nI 1050) (by decide) ?_
  refine X_bipush (v := nI 108) dX6_clear_22 (by decide) ?_
  refine X_iast (len := 1200) 1050 dX6_clear_24 (by decide +kernel) rfl (by decide) ?_
  refine X_gml (g' := gC237) (mi' := mC258) (ml' := lC236) rfl rfl rfl ?_
  refine X_aload_n dX6_clear_25 rfl ?_
  refine X_getr (a := 19) (z := 0) dX6_clear_26 fkX6_15 rfl (by decide +kernel) (by decide +kernel) ?_
  refine X_iload_n dX6_clear_29 rfl ?_
  refine X_iconst (v := nI 1) dX6_clear_30 (by decide) ?_
  refine X_iast (len := 8) 7 dX6_clear_31 (by decide +kernel) rfl (by decide) ?_
  refine X_gml (g' := gC237) (mi' := mC259) (ml' := lC236) rfl rfl rfl ?_
  refine X_iinc (v := nI 8) dX6_clear_32 rfl (by decide) (by decide) ?_
  refine X_goto 7 dX6_clear_35 (by decide) ?_
  refine X_iload_n dX6_clear_7 rfl ?_
  refine X_bipush (v := nI 8) dX6_clear_8 (by decide) ?_
  refine X_icmp_ge 38 dX6_clear_10 (by decide) (fun _ => ?_) (fun h => absurd h (by decide))
  exact X_vret dX6_clear_38 rfl ⟨rfl, rfl, rfl, rfl⟩
set_option maxRecDepth 100000 in
set_option maxHeartbeats 4000000 in
theorem ct21_X11_init (Γ : pTG) : CT Γ 4 86 6333 mX11_init [.ref 0] gC1 mC1 lC1 (fun o g' mi' ml' => o = .inl none ∧ g' = gC237 ∧ mi' = mC259 ∧ ml' = lC236) := by
  refine CT_of (by decide +kernel) (Nat.le_of_ble_eq_true rfl) ?_
  refine X_aload_n dX11_init_0 rfl ?_
  refine X_objInit dX11_init_1 oiX11 (by decide) (by decide) ?_
  refine X_aload_n dX11_init_4 rfl ?_
  refine X_sipush (v := nI 600) dX11_init_5 (by decide) ?_
  refine X_newI (len := 600) dX11_init_8 acI rfl (by decide) (by decide +kernel) (by decide) (by decide) ?_
  refine X_gml (g' := gC2) (mi' := mC2) (ml' := lC2) rfl rfl rfl ?_
  refine X_topr (a' := 1) (show gC1.1 = 1 by decide +kernel) ?_
  refine X_putrF (z := 0) dX11_init_10 fkX11_9 rfl rfl rfl rfl (by decide +kernel) (by decide) ?_
  refine X_gml (g' := gC3) (mi' := mC2) (ml' := lC2) rfl rfl rfl ?_
  refine X_aload_n dX11_init_13 rfl ?_
  refine X_new dX11_init_14 nwX11_13 (by decide +kernel) (by decide) (by decide) ?_
  refine X_gml (g' := gC4) (mi' := mC4) (ml' := lC4) rfl rfl rfl ?_
  refine X_topr (a' := 2) (show gC3.1 = 2 by decide +kernel) ?_
  refine X_dup dX11_init_17 rfl ?_
  refine X_aload_n dX11_init_18 rfl ?_
  refine X_getr (a := 1) (z := 0) dX11_init_19 fkX11_9 rfl (by decide +kernel) (by decide +kernel) ?_
  refine X_callI dX11_init_22 miX11_15 (ct1_X10_init Γ) (fun _ _ _ _ h => by cases h.1) rfl rfl (by decide) (by decide) (by decide) (by decide) (fun v g' mi' ml' h => ?_)
  obtain ⟨h1, rfl, rfl, rfl⟩ := h
  cases h1
  refine X_putrF (z := 0) dX11_init_25 fkX11_18 rfl rfl rfl rfl (by decide +kernel) (by decide) ?_
  refine X_gml (g' := gC7) (mi' := mC5) (ml' := lC4) rfl rfl rfl ?_
  refine X_aload_n dX11_init_28 rfl ?_
  refine X_new dX11_init_29 nwX11_22 (by decide +kernel) (by decide) (by decide) ?_
  refine X_gml (g' := gC8) (mi' := mC8) (ml' := lC8) rfl rfl rfl ?_
  refine X_topr (a' := 3) (show gC7.1 = 3 by decide +kernel) ?_
  refine X_dup dX11_init_32 rfl ?_
  refine X_callI dX11_init_33 miX11_24 (ct2_X8_init Γ) (fun _ _ _ _ h => by cases h.1) rfl rfl (by decide) (by decide) (by decide) (by decide) (fun v g' mi' ml' h => ?_)
  obtain ⟨h1, rfl, rfl, rfl⟩ := h
  cases h1
  refine X_putrF (z := 0) dX11_init_36 fkX11_25 rfl rfl rfl rfl (by decide +kernel) (by decide) ?_
  refine X_gml (g' := gC21) (mi' := mC19) (ml' := lC19) rfl rfl rfl ?_
  refine X_aload_n dX11_init_39 rfl ?_
  refine X_new dX11_init_40 nwX11_22 (by decide +kernel) (by decide) (by decide) ?_
  refine X_gml (g' := gC22) (mi' := mC22) (ml' := lC22) rfl rfl rfl ?_
  refine X_topr (a' := 10) (show gC21.1 = 10 by decide +kernel) ?_
  refine X_dup dX11_init_43 rfl ?_
  refine X_callI dX11_init_44 miX11_24 (ct3_X8_init Γ) (fun _ _ _ _ h => by cases h.1) rfl rfl (by decide) (by decide) (by decide) (by decide) (fun v g' mi' ml' h => ?_)
  obtain ⟨h1, rfl, rfl, rfl⟩ := h
  cases h1
  refine X_putrF (z := 0) dX11_init_47 fkX11_29 rfl rfl rfl rfl (by decide +kernel) (by decide) ?_
  refine X_gml (g' := gC35) (mi' := mC33) (ml' := lC33) rfl rfl rfl ?_
  refine X_aload_n dX11_init_50 rfl ?_
  refine X_new dX11_init_51 nwX11_32 (by decide +kernel) (by decide) (by decide) ?_
  refine X_gml (g' := gC36) (mi' := mC36) (ml' := lC36) rfl rfl rfl ?_
  refine X_topr (a' := 17) (show gC35.1 = 17 by decide +kernel) ?_
  refine X_dup dX11_init_54 rfl ?_
  refine X_callI dX11_init_55 miX11_34 (ct4_X6_init Γ) (fun _ _ _ _ h => by cases h.1) rfl rfl (by decide) (by decide) (by decide) (by decide) (fun v g' mi' ml' h => ?_)
  obtain ⟨h1, rfl, rfl, rfl⟩ := h
  cases h1
  refine X_putrF (z := 0) dX11_init_58 fkX11_35 rfl rfl rfl rfl (by decide +kernel) (by decide) ?_
  refine X_gml (g' := gC45) (mi' := mC43) (ml' := lC43) rfl rfl rfl ?_
  refine X_aload_n dX11_init_61 rfl ?_
  refine X_new dX11_init_62 nwX11_39 (by decide +kernel) (by decide) (by decide) ?_
  refine X_gml (g' := gC46) (mi' := mC46) (ml' := lC46) rfl rfl rfl ?_
  refine X_topr (a' := 22) (show gC45.1 = 22 by decide +kernel) ?_
  refine X_dup dX11_init_65 rfl ?_
  refine X_aload_n dX11_init_66 rfl ?_
  refine X_getr (a := 2) (z := 0) dX11_init_67 fkX11_18 rfl (by decide +kernel) (by decide +kernel) ?_
  refine X_callI dX11_init_70 miX11_41 (ct5_X5_init Γ) (fun _ _ _ _ h => by cases h.1) rfl rfl (by decide) (by decide) (by decide) (by decide) (fun v g' mi' ml' h => ?_)
  obtain ⟨h1, rfl, rfl, rfl⟩ := h
  cases h1
  refine X_putrF (z := 0) dX11_init_73 fkX11_44 rfl rfl rfl rfl (by decide +kernel) (by decide) ?_
  refine X_gml (g' := gC50) (mi' := mC47) (ml' := lC47) rfl rfl rfl ?_
  refine X_aload_n dX11_init_76 rfl ?_
  refine X_new dX11_init_77 nwX11_48 (by decide +kernel) (by decide) (by decide) ?_
  refine X_gml (g' := gC51) (mi' := mC51) (ml' := lC51) rfl rfl rfl ?_
  refine X_topr (a' := 24) (show gC50.1 = 24 by decide +kernel) ?_
  refine X_dup dX11_init_80 rfl ?_
  refine X_callI dX11_init_81 miX11_50 (ct6_X0_init Γ) (fun _ _ _ _ h => by cases h.1) rfl rfl (by decide) (by decide) (by decide) (by decide) (fun v g' mi' ml' h => ?_)
  obtain ⟨h1, rfl, rfl, rfl⟩ := h
  cases h1
  refine X_putrF (z := 0) dX11_init_84 fkX11_51 rfl rfl rfl rfl (by decide +kernel) (by decide) ?_
  refine X_gml (g' := gC56) (mi' := mC54) (ml' := lC54) rfl rfl rfl ?_
  refine X_aload_n dX11_init_87 rfl ?_
  refine X_new dX11_init_88 nwX11_55 (by decide +kernel) (by decide) (by decide) ?_
  refine X_gml (g' := gC57) (mi' := mC57) (ml' := lC57) rfl rfl rfl ?_
  refine X_topr (a' := 27) (show gC56.1 = 27 by decide +kernel) ?_
  refine X_dup dX11_init_91 rfl ?_
  refine X_aload_n dX11_init_92 rfl ?_
  refine X_getr (a := 3) (z := 0) dX11_init_93 fkX11_25 rfl (by decide +kernel) (by decide +kernel) ?_
  refine X_aload_n dX11_init_96 rfl ?_
  refine X_getr (a := 17) (z := 0) dX11_init_97 fkX11_35 rfl (by decide +kernel) (by decide +kernel) ?_
  refine X_callI dX11_init_100 miX11_57 (ct9_X3_init Γ) (fun _ _ _ _ h => by cases h.1) rfl rfl (by decide) (by decide) (by decide) (by decide) (fun v g' mi' ml' h => ?_)
  obtain ⟨h1, rfl, rfl, rfl⟩ := h
  cases h1
  refine X_putrF (z := 0) dX11_init_103 fkX11_60 rfl rfl rfl rfl (by decide +kernel) (by decide) ?_
  refine X_gml (g' := gC106) (mi' := mC105) (ml' := lC87) rfl rfl rfl ?_
  refine X_aload_n dX11_init_106 rfl ?_
  refine X_new dX11_init_107 nwX11_55 (by decide +kernel) (by decide) (by decide) ?_
  refine X_gml (g' := gC107) (mi' := mC107) (ml' := lC107) rfl rfl rfl ?_
  refine X_topr (a' := 42) (show gC106.1 = 42 by decide +kernel) ?_
  refine X_dup dX11_init_110 rfl ?_
  refine X_aload_n dX11_init_111 rfl ?_
  refine X_getr (a := 3) (z := 0) dX11_init_112 fkX11_25 rfl (by decide +kernel) (by decide +kernel) ?_
  refine X_aload_n dX11_init_115 rfl ?_
  refine X_getr (a := 17) (z := 0) dX11_init_116 fkX11_35 rfl (by decide +kernel) (by decide +kernel) ?_
  refine X_callI dX11_init_119 miX11_57 (ct12_X3_init Γ) (fun _ _ _ _ h => by cases h.1) rfl rfl (by decide) (by decide) (by decide) (by decide) (fun v g' mi' ml' h => ?_)
  obtain ⟨h1, rfl, rfl, rfl⟩ := h
  cases h1
  refine X_putrF (z := 0) dX11_init_122 fkX11_64 rfl rfl rfl rfl (by decide +kernel) (by decide) ?_
  refine X_gml (g' := gC156) (mi' := mC155) (ml' := lC137) rfl rfl rfl ?_
  refine X_aload_n dX11_init_125 rfl ?_
  refine X_new dX11_init_126 nwX11_67 (by decide +kernel) (by decide) (by decide) ?_
  refine X_gml (g' := gC157) (mi' := mC157) (ml' := lC157) rfl rfl rfl ?_
  refine X_topr (a' := 57) (show gC156.1 = 57 by decide +kernel) ?_
  refine X_dup dX11_init_129 rfl ?_
  refine X_aload_n dX11_init_130 rfl ?_
  refine X_getr (a := 3) (z := 0) dX11_init_131 fkX11_25 rfl (by decide +kernel) (by decide +kernel) ?_
  refine X_iconst (v := nI 1) dX11_init_134 (by decide) ?_
  refine X_callI dX11_init_135 miX11_69 (ct14_X2_init Γ) (fun _ _ _ _ h => by cases h.1) rfl rfl (by decide) (by decide) (by decide) (by decide) (fun v g' mi' ml' h => ?_)
  obtain ⟨h1, rfl, rfl, rfl⟩ := h
  cases h1
  refine X_putrF (z := 0) dX11_init_138 fkX11_72 rfl rfl rfl rfl (by decide +kernel) (by decide) ?_
  refine X_gml (g' := gC186) (mi' := mC185) (ml' := lC176) rfl rfl rfl ?_
  refine X_aload_n dX11_init_141 rfl ?_
  refine X_new dX11_init_142 nwX11_67 (by decide +kernel) (by decide) (by decide) ?_
  refine X_gml (g' := gC187) (mi' := mC187) (ml' := lC187) rfl rfl rfl ?_
  refine X_topr (a' := 67) (show gC186.1 = 67 by decide +kernel) ?_
  refine X_dup dX11_init_145 rfl ?_
  refine X_aload_n dX11_init_146 rfl ?_
  refine X_getr (a := 3) (z := 0) dX11_init_147 fkX11_25 rfl (by decide +kernel) (by decide +kernel) ?_
  refine X_iconst (v := nI 0) dX11_init_150 (by decide) ?_
  refine X_callI dX11_init_151 miX11_69 (ct16_X2_init Γ) (fun _ _ _ _ h => by cases h.1) rfl rfl (by decide) (by decide) (by decide) (by decide) (fun v g' mi' ml' h => ?_)
  obtain ⟨h1, rfl, rfl, rfl⟩ := h
  cases h1
  refine X_putrF (z := 0) dX11_init_154 fkX11_76 rfl rfl rfl rfl (by decide +kernel) (by decide) ?_
  refine X_gml (g' := gC216) (mi' := mC215) (ml' := lC206) rfl rfl rfl ?_
  refine X_aload_n dX11_init_157 rfl ?_
  refine X_new dX11_init_158 nwX11_79 (by decide +kernel) (by decide) (by decide) ?_
  refine X_gml (g' := gC217) (mi' := mC217) (ml' := lC217) rfl rfl rfl ?_
  refine X_topr (a' := 77) (show gC216.1 = 77 by decide +kernel) ?_
  refine X_dup dX11_init_161 rfl ?_
  refine X_aload_n dX11_init_162 rfl ?_
  refine X_getr (a := 3) (z := 0) dX11_init_163 fkX11_25 rfl (by decide +kernel) (by decide +kernel) ?_
  refine X_callI dX11_init_166 miX11_81 (ct17_X4_init Γ) (fun _ _ _ _ h => by cases h.1) rfl rfl (by decide) (by decide) (by decide) (by decide) (fun v g' mi' ml' h => ?_)
  obtain ⟨h1, rfl, rfl, rfl⟩ := h
  cases h1
  refine X_putrF (z := 0) dX11_init_169 fkX11_84 rfl rfl rfl rfl (by decide +kernel) (by decide) ?_
  refine X_gml (g' := gC225) (mi' := mC222) (ml' := lC222) rfl rfl rfl ?_
  refine X_aload_n dX11_init_172 rfl ?_
  refine X_new dX11_init_173 nwX11_88 (by decide +kernel) (by decide) (by decide) ?_
  refine X_gml (g' := gC226) (mi' := mC226) (ml' := lC226) rfl rfl rfl ?_
  refine X_topr (a' := 81) (show gC225.1 = 81 by decide +kernel) ?_
  refine X_dup dX11_init_176 rfl ?_
  refine X_callI dX11_init_177 miX11_90 (ct18_X1_init Γ) (fun _ _ _ _ h => by cases h.1) rfl rfl (by decide) (by decide) (by decide) (by decide) (fun v g' mi' ml' h => ?_)
  obtain ⟨h1, rfl, rfl, rfl⟩ := h
  cases h1
  refine X_putrF (z := 0) dX11_init_180 fkX11_91 rfl rfl rfl rfl (by decide +kernel) (by decide) ?_
  refine X_gml (g' := gC231) (mi' := mC229) (ml' := lC229) rfl rfl rfl ?_
  refine X_aload_n dX11_init_183 rfl ?_
  refine X_bipush (v := nI 8) dX11_init_184 (by decide) ?_
  refine X_newI (len := 8) dX11_init_186 acI rfl (by decide) (by decide +kernel) (by decide) (by decide) ?_
  refine X_gml (g' := gC232) (mi' := mC232) (ml' := lC232) rfl rfl rfl ?_
  refine X_topr (a' := 84) (show gC231.1 = 84 by decide +kernel) ?_
  refine X_putrF (z := 0) dX11_init_188 fkX11_95 rfl rfl rfl rfl (by decide +kernel) (by decide) ?_
  refine X_gml (g' := gC233) (mi' := mC232) (ml' := lC232) rfl rfl rfl ?_
  refine X_aload_n dX11_init_191 rfl ?_
  refine X_bipush (v := nI 8) dX11_init_192 (by decide) ?_
  refine X_newI (len := 8) dX11_init_194 acI rfl (by decide) (by decide +kernel) (by decide) (by decide) ?_
  refine X_gml (g' := gC234) (mi' := mC234) (ml' := lC234) rfl rfl rfl ?_
  refine X_topr (a' := 85) (show gC233.1 = 85 by decide +kernel) ?_
  refine X_putrF (z := 0) dX11_init_196 fkX11_98 rfl rfl rfl rfl (by decide +kernel) (by decide) ?_
  refine X_gml (g' := gC235) (mi' := mC234) (ml' := lC234) rfl rfl rfl ?_
  refine X_aload_n dX11_init_199 rfl ?_
  refine X_iconst (v := nI 3) dX11_init_200 (by decide) ?_
  refine X_newI (len := 3) dX11_init_201 acI rfl (by decide) (by decide +kernel) (by decide) (by decide) ?_
  refine X_gml (g' := gC236) (mi' := mC236) (ml' := lC236) rfl rfl rfl ?_
  refine X_topr (a' := 86) (show gC235.1 = 86 by decide +kernel) ?_
  refine X_putrF (z := 0) dX11_init_203 fkX11_101 rfl rfl rfl rfl (by decide +kernel) (by decide) ?_
  refine X_gml (g' := gC237) (mi' := mC236) (ml' := lC236) rfl rfl rfl ?_
  refine X_aload_n dX11_init_206 rfl ?_
  refine X_getr (a := 3) (z := 0) dX11_init_207 fkX11_25 rfl (by decide +kernel) (by decide +kernel) ?_
  refine X_callV (z := 0) dX11_init_210 mkX11_104 (by decide +kernel) (ct19_X8_clear Γ) rfl rfl (by decide) (by decide) (by decide) (by decide) (fun _ _ _ _ h => by cases h.1) (fun v g' mi' ml' h => ?_)
  obtain ⟨h1, rfl, rfl, rfl⟩ := h
  cases h1
  refine X_aload_n dX11_init_213 rfl ?_
  refine X_getr (a := 17) (z := 0) dX11_init_214 fkX11_35 rfl (by decide +kernel) (by decide +kernel) ?_
  refine X_callV (z := 0) dX11_init_217 mkX11_107 (by decide +kernel) (ct20_X6_clear Γ) rfl rfl (by decide) (by decide) (by decide) (by decide) (fun _ _ _ _ h => by cases h.1) (fun v g' mi' ml' h => ?_)
  obtain ⟨h1, rfl, rfl, rfl⟩ := h
  cases h1
  exact X_vret dX11_init_220 rfl ⟨rfl, rfl, rfl, rfl⟩

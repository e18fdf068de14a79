/-- the worths of HALVES s to e less 1 -/
def sW (a b : Int32) (s e : Nat) : Int32 := a * nI (min e 12 - s) + b * nI (e - max s 12)
theorem i_mul0 (a : Int32) : a * nI 0 = nI 0 := by show a * 0 = 0; exact Int32.mul_zero
theorem i_add0 (a : Int32) : a + nI 0 = a := by show a + 0 = a; exact Int32.add_zero a
theorem i_0add (a : Int32) : nI 0 + a = a := by show 0 + a = a; exact Int32.zero_add a
theorem sW_0 (a b : Int32) {s e : Nat} (h : e ≤ s) : sW a b s e = nI 0 := by
  unfold sW
  rw [show min e 12 - s = 0 by omega, show e - max s 12 = 0 by omega, i_mul0, i_mul0, i_add0]
theorem sW_s (a b : Int32) {s e : Nat} (h : s ≤ e) : sW a b s (e + 1) = sW a b s e + (if e < 12 then a else b) := by
  unfold sW
  by_cases q : e < 12
  · rw [if_pos q, show min (e + 1) 12 - s = (min e 12 - s) + 1 by omega, show e + 1 - max s 12 = e - max s 12 by omega, nI_succ, Int32.mul_add, Int32.mul_one, Int32.add_assoc, Int32.add_assoc, Int32.add_comm a]
  · rw [if_neg q, show min (e + 1) 12 - s = min e 12 - s by omega, show e + 1 - max s 12 = (e - max s 12) + 1 by omega, nI_succ, Int32.mul_add, Int32.mul_one, Int32.add_assoc]
set_option maxRecDepth 100000 in
set_option maxHeartbeats 4000000 in
theorem c_stretch (Γ : pTG) (g : pGG) (mi : pMI) (ml : pML) (a b : Int32) (s e : Nat) (hs : s < 100) (he : e < 100) : cI Γ 1 mX8_stretch [.int a, .int b, .int (nI s), .int (nI e)] g mi ml (sW a b s e) mi := by
  refine cI_of (by decide +kernel) (Nat.le_of_ble_eq_true rfl) ?_
  refine X_iconst (v := nI 0) dX8_stretch_0 (by decide) ?_
  refine X_istore dX8_stretch_1 (by decide) ?_
  refine X_iload_n dX8_stretch_3 rfl ?_
  refine X_bipush (v := nI 12) dX8_stretch_4 (by decide) ?_
  refine X_icmp_geN (a := s) (b := 12) 35 dX8_stretch_6 (by decide) (by omega) (by omega) (fun h_1 => ?_) (fun h_1 => ?_)
  · refine X_iload_n dX8_stretch_35 rfl ?_
    refine X_bipush (v := nI 12) dX8_stretch_36 (by decide) ?_
    refine X_icmp_leN (a := e) (b := 12) 67 dX8_stretch_38 (by decide) (by omega) (by omega) (fun h_2 => ?_) (fun h_2 => ?_)
    · refine X_iload dX8_stretch_67 rfl ?_
      exact X_iret dX8_stretch_69 rfl ⟨by unfold sW; first | (rw [show min e 12 - s = 0 by omega, show e - max s 12 = 0 by omega]; simp only [i_mul0, i_0add, i_add0]; done) | (rw [show min e 12 - s = 0 by omega, show e - max s 12 = e - 12 by omega]; simp only [i_mul0, i_0add, i_add0]; done) | (rw [show min e 12 - s = 0 by omega, show e - max s 12 = e - s by omega]; simp only [i_mul0, i_0add, i_add0]; done) | (rw [show min e 12 - s = e - s by omega, show e - max s 12 = 0 by omega]; simp only [i_mul0, i_0add, i_add0]; done) | (rw [show min e 12 - s = e - s by omega, show e - max s 12 = e - 12 by omega]; simp only [i_mul0, i_0add, i_add0]; done) | (rw [show min e 12 - s = e - s by omega, show e - max s 12 = e - s by omega]; simp only [i_mul0, i_0add, i_add0]; done) | (rw [show min e 12 - s = 12 - s by omega, show e - max s 12 = 0 by omega]; simp only [i_mul0, i_0add, i_add0]; done) | (rw [show min e 12 - s = 12 - s by omega, show e - max s 12 = e - 12 by omega]; simp only [i_mul0, i_0add, i_add0]; done) | (rw [show min e 12 - s = 12 - s by omega, show e - max s 12 = e - s by omega]; simp only [i_mul0, i_0add, i_add0]; done), rfl, rfl, rfl⟩
    · refine X_iload_n dX8_stretch_41 rfl ?_
      refine X_iload_n dX8_stretch_42 rfl ?_
      refine X_icmp_geN (a := s) (b := e) 67 dX8_stretch_43 (by decide) (by omega) (by omega) (fun h_3 => ?_) (fun h_3 => ?_)
      · refine X_iload dX8_stretch_67 rfl ?_
        exact X_iret dX8_stretch_69 rfl ⟨by unfold sW; first | (rw [show min e 12 - s = 0 by omega, show e - max s 12 = 0 by omega]; simp only [i_mul0, i_0add, i_add0]; done) | (rw [show min e 12 - s = 0 by omega, show e - max s 12 = e - 12 by omega]; simp only [i_mul0, i_0add, i_add0]; done) | (rw [show min e 12 - s = 0 by omega, show e - max s 12 = e - s by omega]; simp only [i_mul0, i_0add, i_add0]; done) | (rw [show min e 12 - s = e - s by omega, show e - max s 12 = 0 by omega]; simp only [i_mul0, i_0add, i_add0]; done) | (rw [show min e 12 - s = e - s by omega, show e - max s 12 = e - 12 by omega]; simp only [i_mul0, i_0add, i_add0]; done) | (rw [show min e 12 - s = e - s by omega, show e - max s 12 = e - s by omega]; simp only [i_mul0, i_0add, i_add0]; done) | (rw [show min e 12 - s = 12 - s by omega, show e - max s 12 = 0 by omega]; simp only [i_mul0, i_0add, i_add0]; done) | (rw [show min e 12 - s = 12 - s by omega, show e - max s 12 = e - 12 by omega]; simp only [i_mul0, i_0add, i_add0]; done) | (rw [show min e 12 - s = 12 - s by omega, show e - max s 12 = e - s by omega]; simp only [i_mul0, i_0add, i_add0]; done), rfl, rfl, rfl⟩
      · refine X_iload dX8_stretch_46 rfl ?_
        refine X_iload_n dX8_stretch_48 rfl ?_
        refine X_iload_n dX8_stretch_49 rfl ?_
        refine X_iload_n dX8_stretch_50 rfl ?_
        refine X_bipush (v := nI 12) dX8_stretch_51 (by decide) ?_
        refine X_icmp_leN (a := s) (b := 12) 60 dX8_stretch_53 (by decide) (by omega) (by omega) (fun h_4 => ?_) (fun h_4 => ?_)
        · refine X_bipush (v := nI 12) dX8_stretch_60 (by decide) ?_
          refine X_isub dX8_stretch_62 ?_
          refine X_topi (pk_sub (a := e) (b := 12) (by omega)) ?_
          refine X_imul dX8_stretch_63 ?_
          refine X_iadd dX8_stretch_64 ?_
          refine X_istore dX8_stretch_65 (by decide) ?_
          refine X_iload dX8_stretch_67 rfl ?_
          exact X_iret dX8_stretch_69 rfl ⟨by unfold sW; first | (rw [show min e 12 - s = 0 by omega, show e - max s 12 = 0 by omega]; simp only [i_mul0, i_0add, i_add0]; done) | (rw [show min e 12 - s = 0 by omega, show e - max s 12 = e - 12 by omega]; simp only [i_mul0, i_0add, i_add0]; done) | (rw [show min e 12 - s = 0 by omega, show e - max s 12 = e - s by omega]; simp only [i_mul0, i_0add, i_add0]; done) | (rw [show min e 12 - s = e - s by omega, show e - max s 12 = 0 by omega]; simp only [i_mul0, i_0add, i_add0]; done) | (rw [show min e 12 - s = e - s by omega, show e - max s 12 = e - 12 by omega]; simp only [i_mul0, i_0add, i_add0]; done) | (rw [show min e 12 - s = e - s by omega, show e - max s 12 = e - s by omega]; simp only [i_mul0, i_0add, i_add0]; done) | (rw [show min e 12 - s = 12 - s by omega, show e - max s 12 = 0 by omega]; simp only [i_mul0, i_0add, i_add0]; done) | (rw [show min e 12 - s = 12 - s by omega, show e - max s 12 = e - 12 by omega]; simp only [i_mul0, i_0add, i_add0]; done) | (rw [show min e 12 - s = 12 - s by omega, show e - max s 12 = e - s by omega]; simp only [i_mul0, i_0add, i_add0]; done), rfl, rfl, rfl⟩
        · refine X_iload_n dX8_stretch_56 rfl ?_
          refine X_goto 62 dX8_stretch_57 (by decide) ?_
          refine X_isub dX8_stretch_62 ?_
          refine X_topi (pk_sub (a := e) (b := s) (by omega)) ?_
          refine X_imul dX8_stretch_63 ?_
          refine X_iadd dX8_stretch_64 ?_
          refine X_istore dX8_stretch_65 (by decide) ?_
          refine X_iload dX8_stretch_67 rfl ?_
          exact X_iret dX8_stretch_69 rfl ⟨by unfold sW; first | (rw [show min e 12 - s = 0 by omega, show e - max s 12 = 0 by omega]; simp only [i_mul0, i_0add, i_add0]; done) | (rw [show min e 12 - s = 0 by omega, show e - max s 12 = e - 12 by omega]; simp only [i_mul0, i_0add, i_add0]; done) | (rw [show min e 12 - s = 0 by omega, show e - max s 12 = e - s by omega]; simp only [i_mul0, i_0add, i_add0]; done) | (rw [show min e 12 - s = e - s by omega, show e - max s 12 = 0 by omega]; simp only [i_mul0, i_0add, i_add0]; done) | (rw [show min e 12 - s = e - s by omega, show e - max s 12 = e - 12 by omega]; simp only [i_mul0, i_0add, i_add0]; done) | (rw [show min e 12 - s = e - s by omega, show e - max s 12 = e - s by omega]; simp only [i_mul0, i_0add, i_add0]; done) | (rw [show min e 12 - s = 12 - s by omega, show e - max s 12 = 0 by omega]; simp only [i_mul0, i_0add, i_add0]; done) | (rw [show min e 12 - s = 12 - s by omega, show e - max s 12 = e - 12 by omega]; simp only [i_mul0, i_0add, i_add0]; done) | (rw [show min e 12 - s = 12 - s by omega, show e - max s 12 = e - s by omega]; simp only [i_mul0, i_0add, i_add0]; done), rfl, rfl, rfl⟩
  · refine X_iload_n dX8_stretch_9 rfl ?_
    refine X_iload_n dX8_stretch_10 rfl ?_
    refine X_icmp_geN (a := s) (b := e) 35 dX8_stretch_11 (by decide) (by omega) (by omega) (fun h_5 => ?_) (fun h_5 => ?_)
    · refine X_iload_n dX8_stretch_35 rfl ?_
      refine X_bipush (v := nI 12) dX8_stretch_36 (by decide) ?_
      refine X_icmp_leN (a := e) (b := 12) 67 dX8_stretch_38 (by decide) (by omega) (by omega) (fun h_6 => ?_) (fun h_6 => ?_)
      · refine X_iload dX8_stretch_67 rfl ?_
        exact X_iret dX8_stretch_69 rfl ⟨by unfold sW; first | (rw [show min e 12 - s = 0 by omega, show e - max s 12 = 0 by omega]; simp only [i_mul0, i_0add, i_add0]; done) | (rw [show min e 12 - s = 0 by omega, show e - max s 12 = e - 12 by omega]; simp only [i_mul0, i_0add, i_add0]; done) | (rw [show min e 12 - s = 0 by omega, show e - max s 12 = e - s by omega]; simp only [i_mul0, i_0add, i_add0]; done) | (rw [show min e 12 - s = e - s by omega, show e - max s 12 = 0 by omega]; simp only [i_mul0, i_0add, i_add0]; done) | (rw [show min e 12 - s = e - s by omega, show e - max s 12 = e - 12 by omega]; simp only [i_mul0, i_0add, i_add0]; done) | (rw [show min e 12 - s = e - s by omega, show e - max s 12 = e - s by omega]; simp only [i_mul0, i_0add, i_add0]; done) | (rw [show min e 12 - s = 12 - s by omega, show e - max s 12 = 0 by omega]; simp only [i_mul0, i_0add, i_add0]; done) | (rw [show min e 12 - s = 12 - s by omega, show e - max s 12 = e - 12 by omega]; simp only [i_mul0, i_0add, i_add0]; done) | (rw [show min e 12 - s = 12 - s by omega, show e - max s 12 = e - s by omega]; simp only [i_mul0, i_0add, i_add0]; done), rfl, rfl, rfl⟩
      · refine X_iload_n dX8_stretch_41 rfl ?_
        refine X_iload_n dX8_stretch_42 rfl ?_
        refine X_icmp_geN (a := s) (b := e) 67 dX8_stretch_43 (by decide) (by omega) (by omega) (fun h_7 => ?_) (fun h_7 => ?_)
        · refine X_iload dX8_stretch_67 rfl ?_
          exact X_iret dX8_stretch_69 rfl ⟨by unfold sW; first | (rw [show min e 12 - s = 0 by omega, show e - max s 12 = 0 by omega]; simp only [i_mul0, i_0add, i_add0]; done) | (rw [show min e 12 - s = 0 by omega, show e - max s 12 = e - 12 by omega]; simp only [i_mul0, i_0add, i_add0]; done) | (rw [show min e 12 - s = 0 by omega, show e - max s 12 = e - s by omega]; simp only [i_mul0, i_0add, i_add0]; done) | (rw [show min e 12 - s = e - s by omega, show e - max s 12 = 0 by omega]; simp only [i_mul0, i_0add, i_add0]; done) | (rw [show min e 12 - s = e - s by omega, show e - max s 12 = e - 12 by omega]; simp only [i_mul0, i_0add, i_add0]; done) | (rw [show min e 12 - s = e - s by omega, show e - max s 12 = e - s by omega]; simp only [i_mul0, i_0add, i_add0]; done) | (rw [show min e 12 - s = 12 - s by omega, show e - max s 12 = 0 by omega]; simp only [i_mul0, i_0add, i_add0]; done) | (rw [show min e 12 - s = 12 - s by omega, show e - max s 12 = e - 12 by omega]; simp only [i_mul0, i_0add, i_add0]; done) | (rw [show min e 12 - s = 12 - s by omega, show e - max s 12 = e - s by omega]; simp only [i_mul0, i_0add, i_add0]; done), rfl, rfl, rfl⟩
        · refine X_iload dX8_stretch_46 rfl ?_
          refine X_iload_n dX8_stretch_48 rfl ?_
          refine X_iload_n dX8_stretch_49 rfl ?_
          refine X_iload_n dX8_stretch_50 rfl ?_
          refine X_bipush (v := nI 12) dX8_stretch_51 (by decide) ?_
          refine X_icmp_leN (a := s) (b := 12) 60 dX8_stretch_53 (by decide) (by omega) (by omega) (fun h_8 => ?_) (fun h_8 => ?_)
          · refine X_bipush (v := nI 12) dX8_stretch_60 (by decide) ?_
            refine X_isub dX8_stretch_62 ?_
            refine X_topi (pk_sub (a := e) (b := 12) (by omega)) ?_
            refine X_imul dX8_stretch_63 ?_
            refine X_iadd dX8_stretch_64 ?_
            refine X_istore dX8_stretch_65 (by decide) ?_
            refine X_iload dX8_stretch_67 rfl ?_
            exact X_iret dX8_stretch_69 rfl ⟨by unfold sW; first | (rw [show min e 12 - s = 0 by omega, show e - max s 12 = 0 by omega]; simp only [i_mul0, i_0add, i_add0]; done) | (rw [show min e 12 - s = 0 by omega, show e - max s 12 = e - 12 by omega]; simp only [i_mul0, i_0add, i_add0]; done) | (rw [show min e 12 - s = 0 by omega, show e - max s 12 = e - s by omega]; simp only [i_mul0, i_0add, i_add0]; done) | (rw [show min e 12 - s = e - s by omega, show e - max s 12 = 0 by omega]; simp only [i_mul0, i_0add, i_add0]; done) | (rw [show min e 12 - s = e - s by omega, show e - max s 12 = e - 12 by omega]; simp only [i_mul0, i_0add, i_add0]; done) | (rw [show min e 12 - s = e - s by omega, show e - max s 12 = e - s by omega]; simp only [i_mul0, i_0add, i_add0]; done) | (rw [show min e 12 - s = 12 - s by omega, show e - max s 12 = 0 by omega]; simp only [i_mul0, i_0add, i_add0]; done) | (rw [show min e 12 - s = 12 - s by omega, show e - max s 12 = e - 12 by omega]; simp only [i_mul0, i_0add, i_add0]; done) | (rw [show min e 12 - s = 12 - s by omega, show e - max s 12 = e - s by omega]; simp only [i_mul0, i_0add, i_add0]; done), rfl, rfl, rfl⟩
          · refine X_iload_n dX8_stretch_56 rfl ?_
            refine X_goto 62 dX8_stretch_57 (by decide) ?_
            refine X_isub dX8_stretch_62 ?_
            refine X_topi (pk_sub (a := e) (b := s) (by omega)) ?_
            refine X_imul dX8_stretch_63 ?_
            refine X_iadd dX8_stretch_64 ?_
            refine X_istore dX8_stretch_65 (by decide) ?_
            refine X_iload dX8_stretch_67 rfl ?_
            exact X_iret dX8_stretch_69 rfl ⟨by unfold sW; first | (rw [show min e 12 - s = 0 by omega, show e - max s 12 = 0 by omega]; simp only [i_mul0, i_0add, i_add0]; done) | (rw [show min e 12 - s = 0 by omega, show e - max s 12 = e - 12 by omega]; simp only [i_mul0, i_0add, i_add0]; done) | (rw [show min e 12 - s = 0 by omega, show e - max s 12 = e - s by omega]; simp only [i_mul0, i_0add, i_add0]; done) | (rw [show min e 12 - s = e - s by omega, show e - max s 12 = 0 by omega]; simp only [i_mul0, i_0add, i_add0]; done) | (rw [show min e 12 - s = e - s by omega, show e - max s 12 = e - 12 by omega]; simp only [i_mul0, i_0add, i_add0]; done) | (rw [show min e 12 - s = e - s by omega, show e - max s 12 = e - s by omega]; simp only [i_mul0, i_0add, i_add0]; done) | (rw [show min e 12 - s = 12 - s by omega, show e - max s 12 = 0 by omega]; simp only [i_mul0, i_0add, i_add0]; done) | (rw [show min e 12 - s = 12 - s by omega, show e - max s 12 = e - 12 by omega]; simp only [i_mul0, i_0add, i_add0]; done) | (rw [show min e 12 - s = 12 - s by omega, show e - max s 12 = e - s by omega]; simp only [i_mul0, i_0add, i_add0]; done), rfl, rfl, rfl⟩
    · refine X_iload dX8_stretch_14 rfl ?_
      refine X_iload_n dX8_stretch_16 rfl ?_
      refine X_iload_n dX8_stretch_17 rfl ?_
      refine X_bipush (v := nI 12) dX8_stretch_18 (by decide) ?_
      refine X_icmp_geN (a := e) (b := 12) 27 dX8_stretch_20 (by decide) (by omega) (by omega) (fun h_9 => ?_) (fun h_9 => ?_)
      · refine X_bipush (v := nI 12) dX8_stretch_27 (by decide) ?_
        refine X_iload_n dX8_stretch_29 rfl ?_
        refine X_isub dX8_stretch_30 ?_
        refine X_topi (pk_sub (a := 12) (b := s) (by omega)) ?_
        refine X_imul dX8_stretch_31 ?_
        refine X_iadd dX8_stretch_32 ?_
        refine X_istore dX8_stretch_33 (by decide) ?_
        refine X_iload_n dX8_stretch_35 rfl ?_
        refine X_bipush (v := nI 12) dX8_stretch_36 (by decide) ?_
        refine X_icmp_leN (a := e) (b := 12) 67 dX8_stretch_38 (by decide) (by omega) (by omega) (fun h_10 => ?_) (fun h_10 => ?_)
        · refine X_iload dX8_stretch_67 rfl ?_
          exact X_iret dX8_stretch_69 rfl ⟨by unfold sW; first | (rw [show min e 12 - s = 0 by omega, show e - max s 12 = 0 by omega]; simp only [i_mul0, i_0add, i_add0]; done) | (rw [show min e 12 - s = 0 by omega, show e - max s 12 = e - 12 by omega]; simp only [i_mul0, i_0add, i_add0]; done) | (rw [show min e 12 - s = 0 by omega, show e - max s 12 = e - s by omega]; simp only [i_mul0, i_0add, i_add0]; done) | (rw [show min e 12 - s = e - s by omega, show e - max s 12 = 0 by omega]; simp only [i_mul0, i_0add, i_add0]; done) | (rw [show min e 12 - s = e - s by omega, show e - max s 12 = e - 12 by omega]; simp only [i_mul0, i_0add, i_add0]; done) | (rw [show min e 12 - s = e - s by omega, show e - max s 12 = e - s by omega]; simp only [i_mul0, i_0add, i_add0]; done) | (rw [show min e 12 - s = 12 - s by omega, show e - max s 12 = 0 by omega]; simp only [i_mul0, i_0add, i_add0]; done) | (rw [show min e 12 - s = 12 - s by omega, show e - max s 12 = e - 12 by omega]; simp only [i_mul0, i_0add, i_add0]; done) | (rw [show min e 12 - s = 12 - s by omega, show e - max s 12 = e - s by omega]; simp only [i_mul0, i_0add, i_add0]; done), rfl, rfl, rfl⟩
        · refine X_iload_n dX8_stretch_41 rfl ?_
          refine X_iload_n dX8_stretch_42 rfl ?_
          refine X_icmp_geN (a := s) (b := e) 67 dX8_stretch_43 (by decide) (by omega) (by omega) (fun h_11 => ?_) (fun h_11 => ?_)
          · refine X_iload dX8_stretch_67 rfl ?_
            exact X_iret dX8_stretch_69 rfl ⟨by unfold sW; first | (rw [show min e 12 - s = 0 by omega, show e - max s 12 = 0 by omega]; simp only [i_mul0, i_0add, i_add0]; done) | (rw [show min e 12 - s = 0 by omega, show e - max s 12 = e - 12 by omega]; simp only [i_mul0, i_0add, i_add0]; done) | (rw [show min e 12 - s = 0 by omega, show e - max s 12 = e - s by omega]; simp only [i_mul0, i_0add, i_add0]; done) | (rw [show min e 12 - s = e - s by omega, show e - max s 12 = 0 by omega]; simp only [i_mul0, i_0add, i_add0]; done) | (rw [show min e 12 - s = e - s by omega, show e - max s 12 = e - 12 by omega]; simp only [i_mul0, i_0add, i_add0]; done) | (rw [show min e 12 - s = e - s by omega, show e - max s 12 = e - s by omega]; simp only [i_mul0, i_0add, i_add0]; done) | (rw [show min e 12 - s = 12 - s by omega, show e - max s 12 = 0 by omega]; simp only [i_mul0, i_0add, i_add0]; done) | (rw [show min e 12 - s = 12 - s by omega, show e - max s 12 = e - 12 by omega]; simp only [i_mul0, i_0add, i_add0]; done) | (rw [show min e 12 - s = 12 - s by omega, show e - max s 12 = e - s by omega]; simp only [i_mul0, i_0add, i_add0]; done), rfl, rfl, rfl⟩
          · refine X_iload dX8_stretch_46 rfl ?_
            refine X_iload_n dX8_stretch_48 rfl ?_
            refine X_iload_n dX8_stretch_49 rfl ?_
            refine X_iload_n dX8_stretch_50 rfl ?_
            refine X_bipush (v := nI 12) dX8_stretch_51 (by decide) ?_
            refine X_icmp_leN (a := s) (b := 12) 60 dX8_stretch_53 (by decide) (by omega) (by omega) (fun h_12 => ?_) (fun h_12 => ?_)
            · refine X_bipush (v := nI 12) dX8_stretch_60 (by decide) ?_
              refine X_isub dX8_stretch_62 ?_
              refine X_topi (pk_sub (a := e) (b := 12) (by omega)) ?_
              refine X_imul dX8_stretch_63 ?_
              refine X_iadd dX8_stretch_64 ?_
              refine X_istore dX8_stretch_65 (by decide) ?_
              refine X_iload dX8_stretch_67 rfl ?_
              exact X_iret dX8_stretch_69 rfl ⟨by unfold sW; first | (rw [show min e 12 - s = 0 by omega, show e - max s 12 = 0 by omega]; simp only [i_mul0, i_0add, i_add0]; done) | (rw [show min e 12 - s = 0 by omega, show e - max s 12 = e - 12 by omega]; simp only [i_mul0, i_0add, i_add0]; done) | (rw [show min e 12 - s = 0 by omega, show e - max s 12 = e - s by omega]; simp only [i_mul0, i_0add, i_add0]; done) | (rw [show min e 12 - s = e - s by omega, show e - max s 12 = 0 by omega]; simp only [i_mul0, i_0add, i_add0]; done) | (rw [show min e 12 - s = e - s by omega, show e - max s 12 = e - 12 by omega]; simp only [i_mul0, i_0add, i_add0]; done) | (rw [show min e 12 - s = e - s by omega, show e - max s 12 = e - s by omega]; simp only [i_mul0, i_0add, i_add0]; done) | (rw [show min e 12 - s = 12 - s by omega, show e - max s 12 = 0 by omega]; simp only [i_mul0, i_0add, i_add0]; done) | (rw [show min e 12 - s = 12 - s by omega, show e - max s 12 = e - 12 by omega]; simp only [i_mul0, i_0add, i_add0]; done) | (rw [show min e 12 - s = 12 - s by omega, show e - max s 12 = e - s by omega]; simp only [i_mul0, i_0add, i_add0]; done), rfl, rfl, rfl⟩
            · refine X_iload_n dX8_stretch_56 rfl ?_
              refine X_goto 62 dX8_stretch_57 (by decide) ?_
              refine X_isub dX8_stretch_62 ?_
              refine X_topi (pk_sub (a := e) (b := s) (by omega)) ?_
              refine X_imul dX8_stretch_63 ?_
              refine X_iadd dX8_stretch_64 ?_
              refine X_istore dX8_stretch_65 (by decide) ?_
              refine X_iload dX8_stretch_67 rfl ?_
              exact X_iret dX8_stretch_69 rfl ⟨by unfold sW; first | (rw [show min e 12 - s = 0 by omega, show e - max s 12 = 0 by omega]; simp only [i_mul0, i_0add, i_add0]; done) | (rw [show min e 12 - s = 0 by omega, show e - max s 12 = e - 12 by omega]; simp only [i_mul0, i_0add, i_add0]; done) | (rw [show min e 12 - s = 0 by omega, show e - max s 12 = e - s by omega]; simp only [i_mul0, i_0add, i_add0]; done) | (rw [show min e 12 - s = e - s by omega, show e - max s 12 = 0 by omega]; simp only [i_mul0, i_0add, i_add0]; done) | (rw [show min e 12 - s = e - s by omega, show e - max s 12 = e - 12 by omega]; simp only [i_mul0, i_0add, i_add0]; done) | (rw [show min e 12 - s = e - s by omega, show e - max s 12 = e - s by omega]; simp only [i_mul0, i_0add, i_add0]; done) | (rw [show min e 12 - s = 12 - s by omega, show e - max s 12 = 0 by omega]; simp only [i_mul0, i_0add, i_add0]; done) | (rw [show min e 12 - s = 12 - s by omega, show e - max s 12 = e - 12 by omega]; simp only [i_mul0, i_0add, i_add0]; done) | (rw [show min e 12 - s = 12 - s by omega, show e - max s 12 = e - s by omega]; simp only [i_mul0, i_0add, i_add0]; done), rfl, rfl, rfl⟩
      · refine X_iload_n dX8_stretch_23 rfl ?_
        refine X_goto 29 dX8_stretch_24 (by decide) ?_
        refine X_iload_n dX8_stretch_29 rfl ?_
        refine X_isub dX8_stretch_30 ?_
        refine X_topi (pk_sub (a := e) (b := s) (by omega)) ?_
        refine X_imul dX8_stretch_31 ?_
        refine X_iadd dX8_stretch_32 ?_
        refine X_istore dX8_stretch_33 (by decide) ?_
        refine X_iload_n dX8_stretch_35 rfl ?_
        refine X_bipush (v := nI 12) dX8_stretch_36 (by decide) ?_
        refine X_icmp_leN (a := e) (b := 12) 67 dX8_stretch_38 (by decide) (by omega) (by omega) (fun h_13 => ?_) (fun h_13 => ?_)
        · refine X_iload dX8_stretch_67 rfl ?_
          exact X_iret dX8_stretch_69 rfl ⟨by unfold sW; first | (rw [show min e 12 - s = 0 by omega, show e - max s 12 = 0 by omega]; simp only [i_mul0, i_0add, i_add0]; done) | (rw [show min e 12 - s = 0 by omega, show e - max s 12 = e - 12 by omega]; simp only [i_mul0, i_0add, i_add0]; done) | (rw [show min e 12 - s = 0 by omega, show e - max s 12 = e - s by omega]; simp only [i_mul0, i_0add, i_add0]; done) | (rw [show min e 12 - s = e - s by omega, show e - max s 12 = 0 by omega]; simp only [i_mul0, i_0add, i_add0]; done) | (rw [show min e 12 - s = e - s by omega, show e - max s 12 = e - 12 by omega]; simp only [i_mul0, i_0add, i_add0]; done) | (rw [show min e 12 - s = e - s by omega, show e - max s 12 = e - s by omega]; simp only [i_mul0, i_0add, i_add0]; done) | (rw [show min e 12 - s = 12 - s by omega, show e - max s 12 = 0 by omega]; simp only [i_mul0, i_0add, i_add0]; done) | (rw [show min e 12 - s = 12 - s by omega, show e - max s 12 = e - 12 by omega]; simp only [i_mul0, i_0add, i_add0]; done) | (rw [show min e 12 - s = 12 - s by omega, show e - max s 12 = e - s by omega]; simp only [i_mul0, i_0add, i_add0]; done), rfl, rfl, rfl⟩
        · refine X_iload_n dX8_stretch_41 rfl ?_
          refine X_iload_n dX8_stretch_42 rfl ?_
          refine X_icmp_geN (a := s) (b := e) 67 dX8_stretch_43 (by decide) (by omega) (by omega) (fun h_14 => ?_) (fun h_14 => ?_)
          · refine X_iload dX8_stretch_67 rfl ?_
            exact X_iret dX8_stretch_69 rfl ⟨by unfold sW; first | (rw [show min e 12 - s = 0 by omega, show e - max s 12 = 0 by omega]; simp only [i_mul0, i_0add, i_add0]; done) | (rw [show min e 12 - s = 0 by omega, show e - max s 12 = e - 12 by omega]; simp only [i_mul0, i_0add, i_add0]; done) | (rw [show min e 12 - s = 0 by omega, show e - max s 12 = e - s by omega]; simp only [i_mul0, i_0add, i_add0]; done) | (rw [show min e 12 - s = e - s by omega, show e - max s 12 = 0 by omega]; simp only [i_mul0, i_0add, i_add0]; done) | (rw [show min e 12 - s = e - s by omega, show e - max s 12 = e - 12 by omega]; simp only [i_mul0, i_0add, i_add0]; done) | (rw [show min e 12 - s = e - s by omega, show e - max s 12 = e - s by omega]; simp only [i_mul0, i_0add, i_add0]; done) | (rw [show min e 12 - s = 12 - s by omega, show e - max s 12 = 0 by omega]; simp only [i_mul0, i_0add, i_add0]; done) | (rw [show min e 12 - s = 12 - s by omega, show e - max s 12 = e - 12 by omega]; simp only [i_mul0, i_0add, i_add0]; done) | (rw [show min e 12 - s = 12 - s by omega, show e - max s 12 = e - s by omega]; simp only [i_mul0, i_0add, i_add0]; done), rfl, rfl, rfl⟩
          · refine X_iload dX8_stretch_46 rfl ?_
            refine X_iload_n dX8_stretch_48 rfl ?_
            refine X_iload_n dX8_stretch_49 rfl ?_
            refine X_iload_n dX8_stretch_50 rfl ?_
            refine X_bipush (v := nI 12) dX8_stretch_51 (by decide) ?_
            refine X_icmp_leN (a := s) (b := 12) 60 dX8_stretch_53 (by decide) (by omega) (by omega) (fun h_15 => ?_) (fun h_15 => ?_)
            · refine X_bipush (v := nI 12) dX8_stretch_60 (by decide) ?_
              refine X_isub dX8_stretch_62 ?_
              refine X_topi (pk_sub (a := e) (b := 12) (by omega)) ?_
              refine X_imul dX8_stretch_63 ?_
              refine X_iadd dX8_stretch_64 ?_
              refine X_istore dX8_stretch_65 (by decide) ?_
              refine X_iload dX8_stretch_67 rfl ?_
              exact X_iret dX8_stretch_69 rfl ⟨by unfold sW; first | (rw [show min e 12 - s = 0 by omega, show e - max s 12 = 0 by omega]; simp only [i_mul0, i_0add, i_add0]; done) | (rw [show min e 12 - s = 0 by omega, show e - max s 12 = e - 12 by omega]; simp only [i_mul0, i_0add, i_add0]; done) | (rw [show min e 12 - s = 0 by omega, show e - max s 12 = e - s by omega]; simp only [i_mul0, i_0add, i_add0]; done) | (rw [show min e 12 - s = e - s by omega, show e - max s 12 = 0 by omega]; simp only [i_mul0, i_0add, i_add0]; done) | (rw [show min e 12 - s = e - s by omega, show e - max s 12 = e - 12 by omega]; simp only [i_mul0, i_0add, i_add0]; done) | (rw [show min e 12 - s = e - s by omega, show e - max s 12 = e - s by omega]; simp only [i_mul0, i_0add, i_add0]; done) | (rw [show min e 12 - s = 12 - s by omega, show e - max s 12 = 0 by omega]; simp only [i_mul0, i_0add, i_add0]; done) | (rw [show min e 12 - s = 12 - s by omega, show e - max s 12 = e - 12 by omega]; simp only [i_mul0, i_0add, i_add0]; done) | (rw [show min e 12 - s = 12 - s by omega, show e - max s 12 = e - s by omega]; simp only [i_mul0, i_0add, i_add0]; done), rfl, rfl, rfl⟩
            · refine X_iload_n dX8_stretch_56 rfl ?_
              refine X_goto 62 dX8_stretch_57 (by decide) ?_
              refine X_isub dX8_stretch_62 ?_
              refine X_topi (pk_sub (a := e) (b := s) (by omega)) ?_
              refine X_imul dX8_stretch_63 ?_
              refine X_iadd dX8_stretch_64 ?_
              refine X_istore dX8_stretch_65 (by decide) ?_
              refine X_iload dX8_stretch_67 rfl ?_
              exact X_iret dX8_stretch_69 rfl ⟨by unfold sW; first | (rw [show min e 12 - s = 0 by omega, show e - max s 12 = 0 by omega]; simp only [i_mul0, i_0add, i_add0]; done) | (rw [show min e 12 - s = 0 by omega, show e - max s 12 = e - 12 by omega]; simp only [i_mul0, i_0add, i_add0]; done) | (rw [show min e 12 - s = 0 by omega, show e - max s 12 = e - s by omega]; simp only [i_mul0, i_0add, i_add0]; done) | (rw [show min e 12 - s = e - s by omega, show e - max s 12 = 0 by omega]; simp only [i_mul0, i_0add, i_add0]; done) | (rw [show min e 12 - s = e - s by omega, show e - max s 12 = e - 12 by omega]; simp only [i_mul0, i_0add, i_add0]; done) | (rw [show min e 12 - s = e - s by omega, show e - max s 12 = e - s by omega]; simp only [i_mul0, i_0add, i_add0]; done) | (rw [show min e 12 - s = 12 - s by omega, show e - max s 12 = 0 by omega]; simp only [i_mul0, i_0add, i_add0]; done) | (rw [show min e 12 - s = 12 - s by omega, show e - max s 12 = e - 12 by omega]; simp only [i_mul0, i_0add, i_add0]; done) | (rw [show min e 12 - s = 12 - s by omega, show e - max s 12 = e - s by omega]; simp only [i_mul0, i_0add, i_add0]; done), rfl, rfl, rfl⟩

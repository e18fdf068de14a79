set_option maxRecDepth 100000 in
set_option maxHeartbeats 4000000 in
theorem c_goByNumber (Γ : pTG) (g : pGG) (mi : pMI) (ml : pML) (hSh : Sh g) (t : Nat) (hC : ShC g t) : cV Γ 1 mX2_goByNumber [.ref t] g mi ml (fillR mi (t + 6) 8 nI) ml := by
  refine cV_of (by decide +kernel) (Nat.le_of_ble_eq_true rfl) ?_
  refine X_iconst (v := nI 0) dX2_goByNumber_0 (by decide) ?_
  refine X_istore_n dX2_goByNumber_1 (by decide) ?_
  refine X_L [(1, .int (nI 0)), (0, .ref t)] ⟨rfl, rfl, trivial⟩ ?_
  refine X_mi (fill_0 mi (t + 6) nI).symm ?_
  refine X_for3 2 (fun i => [(1, .int (nI i)), (0, .ref t)]) (fun i => fillR mi (t + 6) i nI) 8 ?_ 8 0 (by omega) ?_
  · intro i hi hn
    refine X_iload_n dX2_goByNumber_2 rfl ?_
    refine X_bipush (v := nI 8) dX2_goByNumber_3 (by decide) ?_
    refine X_icmp_geN (a := i) (b := 8) 21 dX2_goByNumber_5 (by decide) (by omega) (by omega) (fun h_1 => ?_) (fun h_1 => ?_)
    · exact absurd hi (by omega)
    · refine X_aload_n dX2_goByNumber_8 rfl ?_
      refine X_getr (a := t + 6) dX2_goByNumber_9 fkX2_27 rfl (sck_0 hC) (scr_8 hC) ?_
      refine X_iload_n dX2_goByNumber_12 rfl ?_
      refine X_iload_n dX2_goByNumber_13 rfl ?_
      refine X_iast i dX2_goByNumber_14 (sck_6 hC) rfl (by omega) ?_
      refine X_iinc (v := nI (i + 1)) dX2_goByNumber_15 rfl (nI_1 _) (by decide) ?_
      refine X_goto 2 dX2_goByNumber_18 (by decide) ?_
      refine X_L [(1, .int (nI (i + 1))), (0, .ref t)] ⟨rfl, rfl, trivial⟩ ?_
      refine X_mi (fill_s mi (t + 6) i nI) ?_
      exact hn
  · refine X_iload_n dX2_goByNumber_2 rfl ?_
    refine X_bipush (v := nI 8) dX2_goByNumber_3 (by decide) ?_
    refine X_icmp_geN (a := 8) (b := 8) 21 dX2_goByNumber_5 (by decide) (by omega) (by omega) (fun h_2 => ?_) (fun h_2 => ?_)
    · exact X_vret dX2_goByNumber_21 rfl ⟨rfl, rfl, rfl, rfl⟩
    · exact absurd h_2 (by omega)
theorem fill_at {m : pMI} {a n j : Nat} {v : Nat → Int32} (h : j < n) : fillR m a n v a j = v j := if_pos ⟨rfl, h⟩
theorem fill_sw {m : pMI} {a k j : Nat} {o : Nat → Nat} (hk : k < 8) (hj : j < 8) : up2 (up2 (fillR m a 8 (fun q => nI (o q))) a k (nI (o j))) a j (nI (o k)) = fillR m a 8 (fun q => nI (swO o k j q)) := by
  have hO : ∀ q, swO o k j q = if q = k then o j else if q = j then o k else o q := fun q => rfl
  funext x y
  unfold up2 fillR
  by_cases h1 : x = a
  · subst h1
    by_cases h2 : y = j
    · subst h2
      rw [if_pos ⟨rfl, rfl⟩, if_pos ⟨rfl, hj⟩]
      dsimp only
      rw [hO]
      by_cases h3 : y = k
      · rw [if_pos h3, h3]
      · rw [if_neg h3, if_pos rfl]
    · rw [if_neg (fun q => h2 q.2)]
      by_cases h3 : y = k
      · rw [if_pos ⟨rfl, h3⟩, if_pos ⟨rfl, by omega⟩]; dsimp only; rw [hO, if_pos h3]
      · rw [if_neg (fun q => h3 q.2)]
        by_cases h4 : y < 8
        · rw [if_pos ⟨rfl, h4⟩, if_pos ⟨rfl, h4⟩]; dsimp only; rw [hO, if_neg h3, if_neg h2]
        · rw [if_neg (fun q => h4 q.2), if_neg (fun q => h4 q.2)]
  · rw [if_neg (fun q => h1 q.1), if_neg (fun q => h1 q.1), if_neg (fun q => h1 q.1), if_neg (fun q => h1 q.1)]
theorem fill_sw2 {m : pMI} {a k j : Nat} {o : Nat → Nat} (hk : k < 8) (hj : j < 8) : up2 (up2 (fillR m a 8 (fun q => nI (o q))) a j (nI (o k))) a k (nI (o j)) = fillR m a 8 (fun q => nI (swO o k j q)) := by
  rw [← fill_sw hk hj]
  funext x y
  unfold up2
  by_cases h1 : x = a ∧ y = k
  · by_cases h2 : x = a ∧ y = j
    · rw [if_pos h1, if_pos h2, show k = j by omega]
    · rw [if_pos h1, if_neg h2, if_pos h1]
  · rw [if_neg h1]
    by_cases h2 : x = a ∧ y = j
    · rw [if_pos h2, if_pos h2]
    · rw [if_neg h2, if_neg h2, if_neg h1]
theorem fill_up {m : pMI} {a n b c : Nat} {v : Nat → Int32} {s s' : Int32} (h : b ≠ a) : up2 (fillR (up2 m b c s) a n v) b c s' = fillR (up2 m b c s') a n v := by
  funext x y
  unfold up2 fillR
  by_cases h1 : x = b ∧ y = c
  · rw [if_pos h1, if_neg (fun q => h (h1.1 ▸ q.1))]; exact (if_pos h1).symm
  · rw [if_neg h1]
    by_cases h2 : x = a ∧ y < n
    · rw [if_pos h2, if_pos h2]
    · rw [if_neg h2, if_neg h2]; exact (if_neg h1).trans (if_neg h1).symm
set_option maxRecDepth 100000 in
set_option maxHeartbeats 4000000 in
theorem c_draw (Γ : pTG) (g : pGG) (mi : pMI) (ml : pML) (hSh : Sh g) (k : Nat) (hk : 0 < k) (hk2 : k < 100) : cI Γ 1 mX12_draw [.ref 87, .int (nI k)] g mi ml (nI (ltA (lt1 (mi 87 60)) % k)) (up2 mi 87 60 (lt1 (mi 87 60))) := by
  refine cI_of (by decide +kernel) (Nat.le_of_ble_eq_true rfl) ?_
  refine X_aload_n dX12_draw_0 rfl ?_
  refine X_aload_n dX12_draw_1 rfl ?_
  refine X_geti dX12_draw_2 fkX12_384 rfl (k_87 hSh) ?_
  refine X_ldcw (v := 1103515245) dX12_draw_5 lc_X12 ?_
  refine X_imul dX12_draw_8 ?_
  refine X_sipush (v := nI 12345) dX12_draw_9 (by decide) ?_
  refine X_iadd dX12_draw_12 ?_
  refine X_puti dX12_draw_13 fkX12_384 rfl rfl (k_87 hSh) ?_
  refine X_aload_n dX12_draw_16 rfl ?_
  refine X_geti dX12_draw_17 fkX12_384 rfl (k_87 hSh) ?_
  refine X_topi (show (up2 mi 87 60 (((mi 87 60) * 1103515245) + (nI 12345))) 87 60 = ((mi 87 60) * 1103515245) + (nI 12345) by rw [up2_s]) ?_
  refine X_bipush (v := nI 16) dX12_draw_20 (by decide) ?_
  refine X_ishr dX12_draw_22 ?_
  refine X_sipush (v := nI 32767) dX12_draw_23 (by decide) ?_
  refine X_iand dX12_draw_26 ?_
  refine X_topi (ltA_e (lt1 (mi 87 60))) ?_
  refine X_iload_n dX12_draw_27 rfl ?_
  refine X_irem dX12_draw_28 (nI_ne0 (by first | omega | (have := ltA_l (lt1 (mi 87 60)); omega)) (by first | omega | (have := ltA_l (lt1 (mi 87 60)); omega))) ?_
  refine X_topi (pk_rem (a := ltA (lt1 (mi 87 60))) (d := k) (by first | omega | (have := ltA_l (lt1 (mi 87 60)); omega)) (by first | omega | (have := ltA_l (lt1 (mi 87 60)); omega)) (by first | omega | (have := ltA_l (lt1 (mi 87 60)); omega))) ?_
  exact X_iret dX12_draw_29 rfl ⟨by rfl, rfl, rfl, rfl⟩
def drW (nG : Nat) (m : pMI) : pMI := fillR (fillR (up2 m 87 60 (dwN nG (m 87 60) (nG - 1)).1) 448 8 (fun q => nI ((dwN nG (m 87 60) (nG - 1)).2.1 q))) 197 8 (fun b => nI ((dwN nG (m 87 60) (nG - 1)).2.2 b))
def rkF (m : pMI) (rk : Nat → Nat) (i : Nat) : pMI := fun a j => if a = 197 ∧ j < 8 ∧ rk j < i then nI (rk j) else m a j
theorem rkF_0 {m : pMI} {rk : Nat → Nat} : rkF m rk 0 = m := by funext a j; unfold rkF; rw [if_neg (by omega)]
theorem rkF_r {m : pMI} {rk : Nat → Nat} {i a j : Nat} (h : a ≠ 197) : rkF m rk i a j = m a j := if_neg (fun q => h q.1)
theorem rkF_s {m : pMI} {rk o : Nat → Nat} {nG i : Nat} (h : okO2 nG rk o) (hi : i < 8) : up2 (rkF m rk i) 197 (o i) (nI i) = rkF m rk (i + 1) := by
  obtain ⟨h1, h2, _⟩ := h
  funext a j
  unfold up2 rkF
  by_cases e : a = 197 ∧ j = o i
  · rw [if_pos e, if_pos ⟨e.1, by rw [e.2]; exact (h2 i hi).1, by rw [e.2, (h2 i hi).2]; omega⟩, e.2, (h2 i hi).2]
  · rw [if_neg e]
    by_cases e2 : a = 197 ∧ j < 8 ∧ rk j < i
    · rw [if_pos e2, if_pos (by omega)]
    · rw [if_neg e2, if_neg (fun q => ?_)]
      have hr : rk j ≠ i := fun z => e ⟨q.1, by rw [← z, (h1 j q.2.1).2]⟩
      exact e2 ⟨q.1, q.2.1, by omega⟩
theorem rkF_8 {m : pMI} {rk o : Nat → Nat} {nG : Nat} (h : okO2 nG rk o) : rkF m rk 8 = fillR m 197 8 (fun b => nI (rk b)) := by
  funext a j
  unfold rkF fillR
  by_cases e : a = 197 ∧ j < 8
  · rw [if_pos e, if_pos ⟨e.1, e.2, (h.1 j e.2).1⟩]
  · rw [if_neg e, if_neg (fun q => e ⟨q.1, q.2.1⟩)]
set_option maxRecDepth 100000 in
set_option maxHeartbeats 4000000 in
theorem c_drawsOrder (Γ : pTG) (g : pGG) (mi : pMI) (ml : pML) (hSh : Sh g) (nG : Nat) (hG : mi 91 1 = nI nG) (h8 : nG ≤ 8) : cV Γ 2 mX12_drawsOrder [.ref 87] g mi ml (drW nG mi) ml := by
  refine cV_of (by decide +kernel) (Nat.le_of_ble_eq_true rfl) ?_
  refine X_iconst (v := nI 0) dX12_drawsOrder_0 (by decide) ?_
  refine X_istore_n dX12_drawsOrder_1 (by decide) ?_
  refine X_L [(1, .int (nI 0)), (0, .ref 87)] ⟨rfl, rfl, trivial⟩ ?_
  refine X_mi (fill_0 mi 448 nI).symm ?_
  refine X_for3 2 (fun i => [(1, .int (nI i)), (0, .ref 87)]) (fun i => fillR mi 448 i nI) 8 ?_ 8 0 (by omega) ?_
  · intro i hi hn
    refine X_iload_n dX12_drawsOrder_2 rfl ?_
    refine X_bipush (v := nI 8) dX12_drawsOrder_3 (by decide) ?_
    refine X_icmp_geN (a := i) (b := 8) 21 dX12_drawsOrder_5 (by decide) (by omega) (by omega) (fun h_1 => ?_) (fun h_1 => ?_)
    · exact absurd hi (by omega)
    · refine X_aload_n dX12_drawsOrder_8 rfl ?_
      refine X_getr (a := 448) dX12_drawsOrder_9 fkX12_146 rfl (k_87 hSh) (r_87_61 hSh) ?_
      refine X_iload_n dX12_drawsOrder_12 rfl ?_
      refine X_iload_n dX12_drawsOrder_13 rfl ?_
      refine X_iast i dX12_drawsOrder_14 (k_448 hSh) rfl (by omega) ?_
      refine X_iinc (v := nI (i + 1)) dX12_drawsOrder_15 rfl (nI_1 _) (by decide) ?_
      refine X_goto 2 dX12_drawsOrder_18 (by decide) ?_
      refine X_L [(1, .int (nI (i + 1))), (0, .ref 87)] ⟨rfl, rfl, trivial⟩ ?_
      refine X_mi (fill_s mi 448 i nI) ?_
      exact hn
  · refine X_iload_n dX12_drawsOrder_2 rfl ?_
    refine X_bipush (v := nI 8) dX12_drawsOrder_3 (by decide) ?_
    refine X_icmp_geN (a := 8) (b := 8) 21 dX12_drawsOrder_5 (by decide) (by omega) (by omega) (fun h_2 => ?_) (fun h_2 => ?_)
    · refine X_aload_n dX12_drawsOrder_21 rfl ?_
      refine X_getr (a := 91) dX12_drawsOrder_22 fkX12_23 rfl (k_87 hSh) (r_87_12 hSh) ?_
      refine X_iconst (v := nI 1) dX12_drawsOrder_25 (by decide) ?_
      refine X_iald 1 dX12_drawsOrder_26 (k_91 hSh) rfl (by omega) ?_
      rw [((fill_row (by omega)).trans hG)]
      refine X_iconst (v := nI 1) dX12_drawsOrder_27 (by decide) ?_
      refine X_isub dX12_drawsOrder_28 ?_
      refine X_topi dn_0 ?_
      refine X_istore_n dX12_drawsOrder_29 (by decide) ?_
      refine X_L [(1, .int (dnI nG 0)), (0, .ref 87)] ⟨rfl, rfl, trivial⟩ ?_
      refine X_mi (show _ = (fillR (up2 mi 87 60 (dwN nG (mi 87 60) 0).1) 448 8 (fun q => nI ((dwN nG (mi 87 60) 0).2.1 q))) from by rw [show up2 mi 87 60 (dwN nG (mi 87 60) 0).1 = mi from up2_same]; rfl) ?_
      refine X_for3 30 (fun i => [(1, .int (dnI nG i)), (0, .ref 87)]) (fun i => (fillR (up2 mi 87 60 (dwN nG (mi 87 60) i).1) 448 8 (fun q => nI ((dwN nG (mi 87 60) i).2.1 q)))) (nG - 1) ?_ (nG - 1) 0 (by omega) ?_
      · intro i hi hn
        refine X_L [(1, .int (nI (nG - 1 - i))), (0, .ref 87)] ⟨by rw [← dn_i (show i < nG by omega)]; rfl, rfl, trivial⟩ ?_
        have hjl : ltA (lt1 (dwN nG (mi 87 60) i).1) % (nG - 1 - i + 1) < nG - 1 - i + 1 := Nat.mod_lt _ (by omega)
        have hk8 : nG - 1 - i < 8 := by omega
        have hj8 : ltA (lt1 (dwN nG (mi 87 60) i).1) % (nG - 1 - i + 1) < 8 := Nat.lt_of_lt_of_le hjl (by omega)
        have h60 : (fillR (up2 mi 87 60 (dwN nG (mi 87 60) i).1) 448 8 (fun q => nI ((dwN nG (mi 87 60) i).2.1 q))) 87 60 = (dwN nG (mi 87 60) i).1 := (fill_row (by omega)).trans up2_s
        have hdr : up2 (fillR (up2 mi 87 60 (dwN nG (mi 87 60) i).1) 448 8 (fun q => nI ((dwN nG (mi 87 60) i).2.1 q))) 87 60 (lt1 (dwN nG (mi 87 60) i).1) = fillR (up2 mi 87 60 (lt1 (dwN nG (mi 87 60) i).1)) 448 8 (fun q => nI ((dwN nG (mi 87 60) i).2.1 q)) := fill_up (by omega)
        refine X_iload_n dX12_drawsOrder_30 rfl ?_
        refine X_if_leN (a := nG - 1 - i) 74 dX12_drawsOrder_31 (by decide) (by omega) (fun h_3 => ?_) (fun h_3 => ?_)
        · exact absurd h_3 (by omega)
        · refine X_aload_n dX12_drawsOrder_34 rfl ?_
          refine X_iload_n dX12_drawsOrder_35 rfl ?_
          refine X_iconst (v := nI 1) dX12_drawsOrder_36 (by decide) ?_
          refine X_iadd dX12_drawsOrder_37 ?_
          refine X_topi (nI_add (nG - 1 - i) 1) ?_
          refine X_callVI dX12_drawsOrder_38 mkX12_388 (k_87 hSh) (c_draw Γ g (fillR (up2 mi 87 60 (dwN nG (mi 87 60) i).1) 448 8 (fun q => nI ((dwN nG (mi 87 60) i).2.1 q))) ml hSh ((nG - 1 - i) + 1) (by omega) (by omega)) rfl rfl (by decide) (Nat.le_of_ble_eq_true rfl) ?_
          refine X_topi (show _ = nI (ltA (lt1 (dwN nG (mi 87 60) i).1) % (nG - 1 - i + 1)) by rw [h60]) ?_
          refine X_mi (show _ = (fillR (up2 mi 87 60 (lt1 (dwN nG (mi 87 60) i).1)) 448 8 (fun q => nI ((dwN nG (mi 87 60) i).2.1 q))) by rw [h60]; exact hdr) ?_
          refine X_istore_n dX12_drawsOrder_41 (by decide) ?_
          refine X_aload_n dX12_drawsOrder_42 rfl ?_
          refine X_getr (a := 448) dX12_drawsOrder_43 fkX12_146 rfl (k_87 hSh) (r_87_61 hSh) ?_
          refine X_iload_n dX12_drawsOrder_46 rfl ?_
          refine X_iald (nG - 1 - i) dX12_drawsOrder_47 (k_448 hSh) rfl (by omega) ?_
          rw [(fill_at (by omega))]
          refine X_istore_n dX12_drawsOrder_48 (by decide) ?_
          refine X_aload_n dX12_drawsOrder_49 rfl ?_
          refine X_getr (a := 448) dX12_drawsOrder_50 fkX12_146 rfl (k_87 hSh) (r_87_61 hSh) ?_
          refine X_iload_n dX12_drawsOrder_53 rfl ?_
          refine X_aload_n dX12_drawsOrder_54 rfl ?_
          refine X_getr (a := 448) dX12_drawsOrder_55 fkX12_146 rfl (k_87 hSh) (r_87_61 hSh) ?_
          refine X_iload_n dX12_drawsOrder_58 rfl ?_
          refine X_iald (ltA (lt1 (dwN nG (mi 87 60) i).1) % (nG - 1 - i + 1)) dX12_drawsOrder_59 (k_448 hSh) rfl (by omega) ?_
          rw [(fill_at (by omega))]
          refine X_iast (nG - 1 - i) dX12_drawsOrder_60 (k_448 hSh) rfl (by omega) ?_
          refine X_aload_n dX12_drawsOrder_61 rfl ?_
          refine X_getr (a := 448) dX12_drawsOrder_62 fkX12_146 rfl (k_87 hSh) (r_87_61 hSh) ?_
          refine X_iload_n dX12_drawsOrder_65 rfl ?_
          refine X_iload_n dX12_drawsOrder_66 rfl ?_
          refine X_iast (ltA (lt1 (dwN nG (mi 87 60) i).1) % (nG - 1 - i + 1)) dX12_drawsOrder_67 (k_448 hSh) rfl (by omega) ?_
          refine X_iinc dX12_drawsOrder_68 rfl rfl (by decide) ?_
          refine X_goto 30 dX12_drawsOrder_71 (by decide) ?_
          refine X_L [(1, .int ((nI (nG - 1 - i)) + Int32.ofInt (-1))), (0, .ref 87)] ⟨rfl, rfl, trivial⟩ ?_
          refine X_L [(1, .int (dnI nG (i + 1))), (0, .ref 87)] ⟨by rw [← dn_s (show i < nG by omega)]; rfl, rfl, trivial⟩ ?_
          refine X_mi (fill_sw hk8 hj8) ?_
          rw [show dwN nG (mi 87 60) (i + 1) = dwS nG i (dwN nG (mi 87 60) i) from by unfold dwN; rw [lpS_snoc, Nat.zero_add]] at hn
          exact hn
      · by_cases hz : nG = 0
        · refine X_L [(1, .int (-1)), (0, .ref 87)] ⟨by rw [show nG - 1 = 0 by omega]; rw [show dnI nG 0 = -1 from if_neg (by omega)]; rfl, rfl, trivial⟩ ?_
          refine X_iload_n dX12_drawsOrder_30 rfl ?_
          refine X_if_le 74 dX12_drawsOrder_31 (by decide) (fun h_4 => ?_) (fun h_4 => ?_)
          · refine X_iconst (v := nI 0) dX12_drawsOrder_74 (by decide) ?_
            refine X_istore_n dX12_drawsOrder_75 (by decide) ?_
            refine X_L [(1, .int (nI 0)), (0, .ref 87)] ⟨rfl, rfl, trivial⟩ ?_
            have hok := dw_ok h8 (mi 87 60) (nG - 1) (Nat.le_refl _)
            refine X_mi (rkF_0 (m := (fillR (up2 mi 87 60 (dwN nG (mi 87 60) (nG - 1)).1) 448 8 (fun q => nI ((dwN nG (mi 87 60) (nG - 1)).2.1 q)))) (rk := (dwN nG (mi 87 60) (nG - 1)).2.2)).symm ?_
            refine X_for3 76 (fun i => [(1, .int (nI i)), (0, .ref 87)]) (fun i => (rkF (fillR (up2 mi 87 60 (dwN nG (mi 87 60) (nG - 1)).1) 448 8 (fun q => nI ((dwN nG (mi 87 60) (nG - 1)).2.1 q))) (dwN nG (mi 87 60) (nG - 1)).2.2 i)) 8 ?_ 8 0 (by omega) ?_
            · intro i hi hn
              have hoi := (hok.2.1 i hi)
              refine X_iload_n dX12_drawsOrder_76 rfl ?_
              refine X_bipush (v := nI 8) dX12_drawsOrder_77 (by decide) ?_
              refine X_icmp_geN (a := i) (b := 8) 100 dX12_drawsOrder_79 (by decide) (by omega) (by omega) (fun h_5 => ?_) (fun h_5 => ?_)
              · exact absurd hi (by omega)
              · refine X_aload_n dX12_drawsOrder_82 rfl ?_
                refine X_getr (a := 197) dX12_drawsOrder_83 fkX12_80 rfl (k_87 hSh) (r_87_37 hSh) ?_
                refine X_aload_n dX12_drawsOrder_86 rfl ?_
                refine X_getr (a := 448) dX12_drawsOrder_87 fkX12_146 rfl (k_87 hSh) (r_87_61 hSh) ?_
                refine X_iload_n dX12_drawsOrder_90 rfl ?_
                refine X_iald i dX12_drawsOrder_91 (k_448 hSh) rfl (by omega) ?_
                rw [(show (rkF (fillR (up2 mi 87 60 (dwN nG (mi 87 60) (nG - 1)).1) 448 8 (fun q => nI ((dwN nG (mi 87 60) (nG - 1)).2.1 q))) (dwN nG (mi 87 60) (nG - 1)).2.2 i) 448 i = nI ((dwN nG (mi 87 60) (nG - 1)).2.1 i) from (rkF_r (by omega)).trans (fill_at hi))]
                refine X_iload_n dX12_drawsOrder_92 rfl ?_
                refine X_iast ((dwN nG (mi 87 60) (nG - 1)).2.1 i) dX12_drawsOrder_93 (k_197 hSh) rfl (by omega) ?_
                refine X_iinc (v := nI (i + 1)) dX12_drawsOrder_94 rfl (nI_1 _) (by decide) ?_
                refine X_goto 76 dX12_drawsOrder_97 (by decide) ?_
                refine X_L [(1, .int (nI (i + 1))), (0, .ref 87)] ⟨rfl, rfl, trivial⟩ ?_
                refine X_mi (rkF_s hok hi) ?_
                exact hn
            · refine X_mi (show _ = drW nG mi from rkF_8 hok) ?_
              refine X_iload_n dX12_drawsOrder_76 rfl ?_
              refine X_bipush (v := nI 8) dX12_drawsOrder_77 (by decide) ?_
              refine X_icmp_geN (a := 8) (b := 8) 100 dX12_drawsOrder_79 (by decide) (by omega) (by omega) (fun h_6 => ?_) (fun h_6 => ?_)
              · exact X_vret dX12_drawsOrder_100 rfl ⟨rfl, rfl, rfl, rfl⟩
              · exact absurd h_6 (by omega)
          · exact absurd (by decide : (-1 : Int32) ≤ 0) h_4
        · refine X_L [(1, .int (nI 0)), (0, .ref 87)] ⟨by rw [show dnI nG (nG - 1) = nI 0 by rw [dn_i (by omega)]; congr 1; omega]; rfl, rfl, trivial⟩ ?_
          refine X_iload_n dX12_drawsOrder_30 rfl ?_
          refine X_if_leN (a := 0) 74 dX12_drawsOrder_31 (by decide) (by omega) (fun h_7 => ?_) (fun h_7 => ?_)
          · refine X_iconst (v := nI 0) dX12_drawsOrder_74 (by decide) ?_
            refine X_istore_n dX12_drawsOrder_75 (by decide) ?_
            refine X_L [(1, .int (nI 0)), (0, .ref 87)] ⟨rfl, rfl, trivial⟩ ?_
            have hok := dw_ok h8 (mi 87 60) (nG - 1) (Nat.le_refl _)
            refine X_mi (rkF_0 (m := (fillR (up2 mi 87 60 (dwN nG (mi 87 60) (nG - 1)).1) 448 8 (fun q => nI ((dwN nG (mi 87 60) (nG - 1)).2.1 q)))) (rk := (dwN nG (mi 87 60) (nG - 1)).2.2)).symm ?_
            refine X_for3 76 (fun i => [(1, .int (nI i)), (0, .ref 87)]) (fun i => (rkF (fillR (up2 mi 87 60 (dwN nG (mi 87 60) (nG - 1)).1) 448 8 (fun q => nI ((dwN nG (mi 87 60) (nG - 1)).2.1 q))) (dwN nG (mi 87 60) (nG - 1)).2.2 i)) 8 ?_ 8 0 (by omega) ?_
            · intro i hi hn
              have hoi := (hok.2.1 i hi)
              refine X_iload_n dX12_drawsOrder_76 rfl ?_
              refine X_bipush (v := nI 8) dX12_drawsOrder_77 (by decide) ?_
              refine X_icmp_geN (a := i) (b := 8) 100 dX12_drawsOrder_79 (by decide) (by omega) (by omega) (fun h_8 => ?_) (fun h_8 => ?_)
              · exact absurd hi (by omega)
              · refine X_aload_n dX12_drawsOrder_82 rfl ?_
                refine X_getr (a := 197) dX12_drawsOrder_83 fkX12_80 rfl (k_87 hSh) (r_87_37 hSh) ?_
                refine X_aload_n dX12_drawsOrder_86 rfl ?_
                refine X_getr (a := 448) dX12_drawsOrder_87 fkX12_146 rfl (k_87 hSh) (r_87_61 hSh) ?_
                refine X_iload_n dX12_drawsOrder_90 rfl ?_
                refine X_iald i dX12_drawsOrder_91 (k_448 hSh) rfl (by omega) ?_
                rw [(show (rkF (fillR (up2 mi 87 60 (dwN nG (mi 87 60) (nG - 1)).1) 448 8 (fun q => nI ((dwN nG (mi 87 60) (nG - 1)).2.1 q))) (dwN nG (mi 87 60) (nG - 1)).2.2 i) 448 i = nI ((dwN nG (mi 87 60) (nG - 1)).2.1 i) from (rkF_r (by omega)).trans (fill_at hi))]
                refine X_iload_n dX12_drawsOrder_92 rfl ?_
                refine X_iast ((dwN nG (mi 87 60) (nG - 1)).2.1 i) dX12_drawsOrder_93 (k_197 hSh) rfl (by omega) ?_
                refine X_iinc (v := nI (i + 1)) dX12_drawsOrder_94 rfl (nI_1 _) (by decide) ?_
                refine X_goto 76 dX12_drawsOrder_97 (by decide) ?_
                refine X_L [(1, .int (nI (i + 1))), (0, .ref 87)] ⟨rfl, rfl, trivial⟩ ?_
                refine X_mi (rkF_s hok hi) ?_
                exact hn
            · refine X_mi (show _ = drW nG mi from rkF_8 hok) ?_
              refine X_iload_n dX12_drawsOrder_76 rfl ?_
              refine X_bipush (v := nI 8) dX12_drawsOrder_77 (by decide) ?_
              refine X_icmp_geN (a := 8) (b := 8) 100 dX12_drawsOrder_79 (by decide) (by omega) (by omega) (fun h_9 => ?_) (fun h_9 => ?_)
              · exact X_vret dX12_drawsOrder_100 rfl ⟨rfl, rfl, rfl, rfl⟩
              · exact absurd h_9 (by omega)
          · exact absurd h_7 (by omega)
    · exact absurd h_2 (by omega)
set_option maxRecDepth 100000 in
set_option maxHeartbeats 4000000 in
theorem c_goByLot (Γ : pTG) (g : pGG) (mi : pMI) (ml : pML) (hSh : Sh g) (t : Nat) (hC : ShC g t) (ht : 32 ≤ t) (nG : Nat) (hG : mi 3 10 = nI nG) (h8 : nG ≤ 8) (sd : Int32) : cI Γ 2 mX2_goByLot [.ref t, .int sd] g mi ml (dwN nG sd (nG - 1)).1 (fillR mi (t + 6) 8 (fun q => nI ((dwN nG sd (nG - 1)).2.1 q))) := by
  refine cI_of (by decide +kernel) (Nat.le_of_ble_eq_true rfl) ?_
  refine X_aload_n dX2_goByLot_0 rfl ?_
  refine X_callVV dX2_goByLot_1 mkX2_47 (sck_0 hC) (c_goByNumber Γ g mi ml hSh t hC) rfl rfl (by decide) (Nat.le_of_ble_eq_true rfl) ?_
  refine X_iload_n dX2_goByLot_4 rfl ?_
  refine X_istore_n dX2_goByLot_5 (by decide) ?_
  refine X_aload_n dX2_goByLot_6 rfl ?_
  refine X_getr (a := 3) dX2_goByLot_7 fkX2_33 rfl (sck_0 hC) (scr_0 hC) ?_
  refine X_geti dX2_goByLot_10 fkX2_50 rfl (k_3 hSh) ?_
  rw [((fill_row (by omega)).trans hG)]
  refine X_iconst (v := nI 1) dX2_goByLot_13 (by decide) ?_
  refine X_isub dX2_goByLot_14 ?_
  refine X_topi dn_0 ?_
  refine X_istore_n dX2_goByLot_15 (by decide) ?_
  refine X_L [(3, .int (dnI nG 0)), (2, .int sd), (0, .ref t), (1, .int sd)] ⟨rfl, rfl, rfl, rfl, trivial⟩ ?_
  refine X_mi (show _ = (fillR mi (t + 6) 8 (fun q => nI ((dwN nG sd 0).2.1 q))) from rfl) ?_
  refine X_for3 16 (fun i => [(3, .int (dnI nG i)), (2, .int (dwN nG sd i).1), (0, .ref t), (1, .int sd)]) (fun i => (fillR mi (t + 6) 8 (fun q => nI ((dwN nG sd i).2.1 q)))) (nG - 1) ?_ (nG - 1) 0 (by omega) ?_
  · intro i hi hn
    refine X_L [(3, .int (nI (nG - 1 - i))), (2, .int (dwN nG sd i).1), (0, .ref t), (1, .int sd)] ⟨by rw [← dn_i (show i < nG by omega)]; rfl, rfl, rfl, rfl, trivial⟩ ?_
    have hjl : ltA (lt1 (dwN nG sd i).1) % (nG - 1 - i + 1) < nG - 1 - i + 1 := Nat.mod_lt _ (by omega)
    have hk8 : nG - 1 - i < 8 := by omega
    have hj8 : ltA (lt1 (dwN nG sd i).1) % (nG - 1 - i + 1) < 8 := Nat.lt_of_lt_of_le hjl (by omega)
    have hal := ltA_l (lt1 (dwN nG sd i).1)
    refine X_iload_n dX2_goByLot_16 rfl ?_
    refine X_iconst (v := nI 1) dX2_goByLot_17 (by decide) ?_
    refine X_icmp_ltN (a := nG - 1 - i) (b := 1) 80 dX2_goByLot_18 (by decide) (by omega) (by omega) (fun h_1 => ?_) (fun h_1 => ?_)
    · exact absurd h_1 (by omega)
    · refine X_iload_n dX2_goByLot_21 rfl ?_
      refine X_ldc (v := 1103515245) dX2_goByLot_22 lc_X2 ?_
      refine X_imul dX2_goByLot_24 ?_
      refine X_sipush (v := nI 12345) dX2_goByLot_25 (by decide) ?_
      refine X_iadd dX2_goByLot_28 ?_
      refine X_istore_n dX2_goByLot_29 (by decide) ?_
      refine X_iload_n dX2_goByLot_30 rfl ?_
      refine X_bipush (v := nI 16) dX2_goByLot_31 (by decide) ?_
      refine X_iushr dX2_goByLot_33 ?_
      refine X_sipush (v := nI 32767) dX2_goByLot_34 (by decide) ?_
      refine X_iand dX2_goByLot_37 ?_
      refine X_topi (ltA_u (lt1 (dwN nG sd i).1)) ?_
      refine X_iload_n dX2_goByLot_38 rfl ?_
      refine X_iconst (v := nI 1) dX2_goByLot_39 (by decide) ?_
      refine X_iadd dX2_goByLot_40 ?_
      refine X_topi (nI_add (nG - 1 - i) 1) ?_
      refine X_irem dX2_goByLot_41 (nI_ne0 (by omega) (by omega)) ?_
      refine X_topi (pk_rem (a := ltA (lt1 (dwN nG sd i).1)) (d := (nG - 1 - i) + 1) (by omega) (by omega) (by omega)) ?_
      refine X_istore dX2_goByLot_42 (by decide) ?_
      refine X_aload_n dX2_goByLot_44 rfl ?_
      refine X_getr (a := t + 6) dX2_goByLot_45 fkX2_27 rfl (sck_0 hC) (scr_8 hC) ?_
      refine X_iload dX2_goByLot_48 rfl ?_
      refine X_iald ((ltA (lt1 (dwN nG sd i).1)) % ((nG - 1 - i) + 1)) dX2_goByLot_50 (sck_6 hC) rfl (by omega) ?_
      refine X_istore dX2_goByLot_51 (by decide) ?_
      refine X_aload_n dX2_goByLot_53 rfl ?_
      refine X_getr (a := t + 6) dX2_goByLot_54 fkX2_27 rfl (sck_0 hC) (scr_8 hC) ?_
      refine X_iload dX2_goByLot_57 rfl ?_
      refine X_aload_n dX2_goByLot_59 rfl ?_
      refine X_getr (a := t + 6) dX2_goByLot_60 fkX2_27 rfl (sck_0 hC) (scr_8 hC) ?_
      refine X_iload_n dX2_goByLot_63 rfl ?_
      refine X_iald (nG - 1 - i) dX2_goByLot_64 (sck_6 hC) rfl (by omega) ?_
      rw [(fill_at (by omega))]
      refine X_iast ((ltA (lt1 (dwN nG sd i).1)) % ((nG - 1 - i) + 1)) dX2_goByLot_65 (sck_6 hC) rfl (by omega) ?_
      refine X_aload_n dX2_goByLot_66 rfl ?_
      refine X_getr (a := t + 6) dX2_goByLot_67 fkX2_27 rfl (sck_0 hC) (scr_8 hC) ?_
      refine X_iload_n dX2_goByLot_70 rfl ?_
      refine X_iload dX2_goByLot_71 rfl ?_
      refine X_iast (nG - 1 - i) dX2_goByLot_73 (sck_6 hC) rfl (by omega) ?_
      refine X_iinc dX2_goByLot_74 rfl rfl (by decide) ?_
      refine X_goto 16 dX2_goByLot_77 (by decide) ?_
      refine X_L [(3, .int ((nI (nG - 1 - i)) + Int32.ofInt (-1))), (2, .int ((((dwN nG sd i).1) * 1103515245) + (nI 12345))), (0, .ref t), (1, .int sd)] ⟨rfl, rfl, rfl, rfl, trivial⟩ ?_
      refine X_L [(3, .int (dnI nG (i + 1))), (2, .int (lt1 (dwN nG sd i).1)), (0, .ref t), (1, .int sd)] ⟨by rw [← dn_s (show i < nG by omega)]; rfl, rfl, rfl, rfl, trivial⟩ ?_
      rw [fill_at hk8]
      refine X_mi (fill_sw2 hk8 hj8) ?_
      rw [show dwN nG sd (i + 1) = dwS nG i (dwN nG sd i) from by unfold dwN; rw [lpS_snoc, Nat.zero_add]] at hn
      exact hn
  · by_cases hz : nG = 0
    · refine X_L [(3, .int (-1)), (2, .int (dwN nG sd (nG - 1)).1), (0, .ref t), (1, .int sd)] ⟨by rw [show nG - 1 = 0 by omega]; rw [show dnI nG 0 = -1 from if_neg (by omega)]; rfl, rfl, rfl, rfl, trivial⟩ ?_
      refine X_iload_n dX2_goByLot_16 rfl ?_
      refine X_iconst (v := nI 1) dX2_goByLot_17 (by decide) ?_
      refine X_icmp_lt 80 dX2_goByLot_18 (by decide) (fun h_2 => ?_) (fun h_2 => ?_)
      · refine X_iload_n dX2_goByLot_80 rfl ?_
        exact X_iret dX2_goByLot_81 rfl ⟨by rfl, rfl, rfl, rfl⟩
      · exact absurd (by decide : (-1 : Int32) < nI 1) h_2
    · refine X_L [(3, .int (nI 0)), (2, .int (dwN nG sd (nG - 1)).1), (0, .ref t), (1, .int sd)] ⟨by rw [show dnI nG (nG - 1) = nI 0 by rw [dn_i (by omega)]; congr 1; omega]; rfl, rfl, rfl, rfl, trivial⟩ ?_
      refine X_iload_n dX2_goByLot_16 rfl ?_
      refine X_iconst (v := nI 1) dX2_goByLot_17 (by decide) ?_
      refine X_icmp_ltN (a := 0) (b := 1) 80 dX2_goByLot_18 (by decide) (by omega) (by omega) (fun h_3 => ?_) (fun h_3 => ?_)
      · refine X_iload_n dX2_goByLot_80 rfl ?_
        exact X_iret dX2_goByLot_81 rfl ⟨by rfl, rfl, rfl, rfl⟩
      · exact absurd h_3 (by omega)

theorem mx_g (a b : Int32) : (if b < a then a else b) = mxI a b := by
  unfold mxI
  by_cases h : b < a
  · rw [if_pos h, if_pos (Int32.le_of_lt h)]
  · rw [if_neg h]
    by_cases h2 : b ≤ a
    · rw [if_pos h2]; exact Int32.le_antisymm h2 (Int32.not_lt.mp h)
    · rw [if_neg h2]
/-- worths as the reference's rows have them -/
def vR (P : PD) (m : pMI) (b c : Nat) : Int32 := sW (m (102 + c) 0) (m (102 + c) 1) (P.2.2.2.2.2.2 b 1) (P.2.2.2.2.2.2 b 2)
theorem gt_pred {V : Nat → Nat → Int32} {nG c i j : Nat} (h : 0 < i) : gtR V nG c i j = bfN (V (nG - i)) (gtR V nG c (i - 1)) j c := by
  obtain ⟨k, rfl⟩ : ∃ k, i = k + 1 := ⟨i - 1, by omega⟩
  rfl
def frL (m x : pMI) : Prop := ∀ i, ¬ (438 ≤ i ∧ i ≤ 446) → x i = m i
theorem frL_u {m x : pMI} {a j : Nat} {v : Int32} (h : frL m x) (ha : 438 ≤ a ∧ a ≤ 446) : frL m (up2 x a j v) := fun i hi => by rw [up2_row (by omega)]; exact h i hi
def tbL (V : Nat → Nat → Int32) (nG c : Nat) (m : pMI) (j : Nat) : Prop := ∀ k, k < j → ∀ q, q < 2 ^ c → m (438 + (nG - k)) q = gtR V nG c k q
set_option maxRecDepth 100000 in
set_option maxHeartbeats 4000000 in
theorem c_laysGiven (Γ : pTG) (g : pGG) (mi : pMI) (ml : pML) (hSh : Sh g) (P : PD) (hP : okPD P) (hr : rfP mi P) (ch : Nat) (hch : ch ≤ 9) : rI Γ 3 mX12_laysGiven [.ref 87, .int (nI ch)] g mi ml (fun v m l => v = gtR (vR P mi) P.2.1 ch P.2.1 0 ∧ frL mi m ∧ tbL (vR P mi) P.2.1 ch m (P.2.1 + 1) ∧ l = ml) := by
  refine rI_of (by decide +kernel) (Nat.le_of_ble_eq_true rfl) ?_
  have hC8 := hP.1
  have hG8 := hP.2.1
  have h256 := p8 hP.1
  have h512 := p9 hch
  refine X_aload_n dX12_laysGiven_0 rfl ?_
  refine X_getr (a := 91) dX12_laysGiven_1 fkX12_23 rfl (k_87 hSh) (r_87_12 hSh) ?_
  refine X_iconst (v := nI 1) dX12_laysGiven_4 (by decide) ?_
  refine X_iald 1 dX12_laysGiven_5 (k_91 hSh) rfl (by first | omega | (have := or_lt hj (show k < ch by omega); omega)) ?_
  rw [hr.2.1]
  refine X_istore_n dX12_laysGiven_6 (by decide) ?_
  refine X_L [(2, .int (nI P.2.1)), (0, .ref 87), (1, .int (nI ch))] ⟨rfl, rfl, rfl, trivial⟩ ?_
  refine X_L [(2, .int (dnI (P.2.1 + 1) 0)), (0, .ref 87), (1, .int (nI ch))] ⟨by rw [dn_i (Nat.succ_pos _)]; rfl, rfl, rfl, trivial⟩ ?_
  refine X_forR (σ := pMI) 7 (fun i y => [(2, .int (dnI (P.2.1 + 1) i)), (0, .ref 87), (1, .int (nI ch))]) (fun y => y) (fun y => ml) (fun i y => frL mi y ∧ tbL (vR P mi) P.2.1 ch y i) (P.2.1 + 1) ?_ ?_ (P.2.1 + 1) 0 mi (by omega) ⟨fun _ _ => rfl, fun k hk => absurd hk (by omega)⟩
  · intro i y hi hI hn
    refine X_L [(2, .int (nI (P.2.1 - i))), (0, .ref 87), (1, .int (nI ch))] ⟨by rw [dn_i hi, show P.2.1 + 1 - 1 - i = P.2.1 - i by omega]; rfl, rfl, rfl, trivial⟩ ?_
    refine X_iload_n dX12_laysGiven_7 rfl ?_
    refine X_if_ltN (a := P.2.1 - i) 140 dX12_laysGiven_8 (by decide) (by first | omega | (have := or_lt hj (show k < ch by omega); omega)) (fun h_1 => ?_) (fun h_1 => ?_)
    · exact False.elim h_1
    · refine X_iconst (v := nI 0) dX12_laysGiven_11 (by decide) ?_
      refine X_istore_n dX12_laysGiven_12 (by decide) ?_
      refine X_L [(3, .int (nI 0)), (2, .int (nI (P.2.1 - i))), (0, .ref 87), (1, .int (nI ch))] ⟨rfl, rfl, rfl, rfl, trivial⟩ ?_
      refine X_forR (σ := pMI) 13 (fun j z => [(3, .int (nI j)), (2, .int (nI (P.2.1 - i))), (0, .ref 87), (1, .int (nI ch))]) (fun z => z) (fun z => ml) (fun j z => frL mi z ∧ tbL (vR P mi) P.2.1 ch z i ∧ ∀ q, q < j → z (438 + (P.2.1 - i)) q = gtR (vR P mi) P.2.1 ch i q) (2 ^ ch) ?_ ?_ (2 ^ ch) 0 y (by omega) ⟨hI.1, hI.2, fun q hq => absurd hq (by omega)⟩
      · intro j z hj hJ hn2
        have hr1 : z 91 1 = nI P.2.1 := by rw [hJ.1 91 (by omega)]; exact hr.2.1
        have hry : ∀ b, b < P.2.1 → z (121 + b) 0 = nI (P.2.2.2.2.2.2 b 0) ∧ z (121 + b) 1 = nI (P.2.2.2.2.2.2 b 1) ∧ z (121 + b) 2 = nI (P.2.2.2.2.2.2 b 2) ∧ z (121 + b) 3 = nI (P.2.2.2.2.2.2 b 3) := fun b hb => by rw [hJ.1 (121 + b) (by omega)]; exact hr.2.2.2.2.2.2 b hb
        by_cases hi0 : i = 0
        · subst hi0
          refine X_iload_n dX12_laysGiven_13 rfl ?_
          refine X_iconst (v := nI 1) dX12_laysGiven_14 (by decide) ?_
          refine X_iload_n dX12_laysGiven_15 rfl ?_
          refine X_ishl dX12_laysGiven_16 ?_
          refine X_topi (nb_sh ch (by omega)) ?_
          refine X_icmp_geN (a := j) (b := 2 ^ ch) 134 dX12_laysGiven_17 (by decide) (by first | omega | (have := or_lt hj (show k < ch by omega); omega)) (by first | omega | (have := or_lt hj (show k < ch by omega); omega)) (fun h_2 => ?_) (fun h_2 => ?_)
          · exact absurd hj (by omega)
          · refine X_iload_n dX12_laysGiven_20 rfl ?_
            refine X_aload_n dX12_laysGiven_21 rfl ?_
            refine X_getr (a := 91) dX12_laysGiven_22 fkX12_23 rfl (k_87 hSh) (r_87_12 hSh) ?_
            refine X_iconst (v := nI 1) dX12_laysGiven_25 (by decide) ?_
            refine X_iald 1 dX12_laysGiven_26 (k_91 hSh) rfl (by first | omega | (have := or_lt hj (show k < ch by omega); omega)) ?_
            rw [hr1]
            refine X_icmp_neN (a := P.2.1 - 0) (b := P.2.1) 34 dX12_laysGiven_27 (by decide) (by first | omega | (have := or_lt hj (show k < ch by omega); omega)) (by first | omega | (have := or_lt hj (show k < ch by omega); omega)) (fun h_3 => ?_) (fun h_3 => ?_)
            · exact absurd h_3 (by omega)
            · refine X_iconst (v := nI 0) dX12_laysGiven_30 (by decide) ?_
              refine X_goto 44 dX12_laysGiven_31 (by decide) ?_
              refine X_istore dX12_laysGiven_44 (by decide) ?_
              refine X_iconst (v := nI 0) dX12_laysGiven_46 (by decide) ?_
              refine X_istore dX12_laysGiven_47 (by decide) ?_
              refine X_L [(5, .int (nI 0)), (4, .int (nI 0)), (3, .int (nI j)), (2, .int (nI (P.2.1 - 0))), (0, .ref 87), (1, .int (nI ch))] ⟨rfl, rfl, rfl, rfl, rfl, rfl, trivial⟩ ?_
              refine X_iload dX12_laysGiven_49 rfl ?_
              refine X_iload_n dX12_laysGiven_51 rfl ?_
              refine X_icmp_geN (a := 0) (b := ch) 118 dX12_laysGiven_52 (by decide) (by first | omega | (have := or_lt hj (show k < ch by omega); omega)) (by first | omega | (have := or_lt hj (show k < ch by omega); omega)) (fun h_4 => ?_) (fun h_4 => ?_)
              · refine X_aload_n dX12_laysGiven_118 rfl ?_
                refine X_getr (a := 437) dX12_laysGiven_119 fkX12_140 rfl (k_87 hSh) (r_87_58 hSh) ?_
                refine X_iload_n dX12_laysGiven_122 rfl ?_
                refine X_aaldr (b := 438 + (P.2.1 - 0)) (P.2.1 - 0) dX12_laysGiven_123 (k_437 hSh) rfl (by first | omega | (have := or_lt hj (show k < ch by omega); omega)) (o_437 hSh (P.2.1 - 0) (by first | omega | (have := or_lt hj (show k < ch by omega); omega))) ?_
                refine X_iload_n dX12_laysGiven_124 rfl ?_
                refine X_iload dX12_laysGiven_125 rfl ?_
                refine X_iast j dX12_laysGiven_127 (kr_437 hSh ((P.2.1 - 0)) (by first | omega | (have := or_lt hj (show k < ch by omega); omega))) rfl (by first | omega | (have := or_lt hj (show k < ch by omega); omega)) ?_
                refine X_iinc (v := nI (j + 1)) dX12_laysGiven_128 rfl (nI_1 _) (by decide) ?_
                refine X_goto 13 dX12_laysGiven_131 (by decide) ?_
                refine X_L [(3, .int (nI (j + 1))), (2, .int (nI (P.2.1 - 0))), (0, .ref 87), (1, .int (nI ch))] ⟨rfl, rfl, rfl, rfl, trivial⟩ ?_
                refine hn2 _ ⟨frL_u hJ.1 (by omega), fun k hk q hq => by rw [up2_row (by omega)]; exact hJ.2.1 k hk q hq, fun q hq => ?_⟩
                by_cases hz : q = j
                · subst hz; exact up2_s
                · rw [up2_n (by omega)]; exact hJ.2.2 q (by omega)
              · refine X_iload_n dX12_laysGiven_55 rfl ?_
                refine X_aload_n dX12_laysGiven_56 rfl ?_
                refine X_getr (a := 91) dX12_laysGiven_57 fkX12_23 rfl (k_87 hSh) (r_87_12 hSh) ?_
                refine X_iconst (v := nI 1) dX12_laysGiven_60 (by decide) ?_
                refine X_iald 1 dX12_laysGiven_61 (k_91 hSh) rfl (by first | omega | (have := or_lt hj (show k < ch by omega); omega)) ?_
                rw [hr1]
                refine X_icmp_geN (a := P.2.1 - 0) (b := P.2.1) 118 dX12_laysGiven_62 (by decide) (by first | omega | (have := or_lt hj (show k < ch by omega); omega)) (by first | omega | (have := or_lt hj (show k < ch by omega); omega)) (fun h_5 => ?_) (fun h_5 => ?_)
                · refine X_aload_n dX12_laysGiven_118 rfl ?_
                  refine X_getr (a := 437) dX12_laysGiven_119 fkX12_140 rfl (k_87 hSh) (r_87_58 hSh) ?_
                  refine X_iload_n dX12_laysGiven_122 rfl ?_
                  refine X_aaldr (b := 438 + (P.2.1 - 0)) (P.2.1 - 0) dX12_laysGiven_123 (k_437 hSh) rfl (by first | omega | (have := or_lt hj (show k < ch by omega); omega)) (o_437 hSh (P.2.1 - 0) (by first | omega | (have := or_lt hj (show k < ch by omega); omega))) ?_
                  refine X_iload_n dX12_laysGiven_124 rfl ?_
                  refine X_iload dX12_laysGiven_125 rfl ?_
                  refine X_iast j dX12_laysGiven_127 (kr_437 hSh ((P.2.1 - 0)) (by first | omega | (have := or_lt hj (show k < ch by omega); omega))) rfl (by first | omega | (have := or_lt hj (show k < ch by omega); omega)) ?_
                  refine X_iinc (v := nI (j + 1)) dX12_laysGiven_128 rfl (nI_1 _) (by decide) ?_
                  refine X_goto 13 dX12_laysGiven_131 (by decide) ?_
                  refine X_L [(3, .int (nI (j + 1))), (2, .int (nI (P.2.1 - 0))), (0, .ref 87), (1, .int (nI ch))] ⟨rfl, rfl, rfl, rfl, trivial⟩ ?_
                  refine hn2 _ ⟨frL_u hJ.1 (by omega), fun k hk q hq => by rw [up2_row (by omega)]; exact hJ.2.1 k hk q hq, fun q hq => ?_⟩
                  by_cases hz : q = j
                  · subst hz; exact up2_s
                  · rw [up2_n (by omega)]; exact hJ.2.2 q (by omega)
                · exact absurd h_5 (by omega)
        · have hnx : ∀ q, q < 2 ^ ch → z (438 + ((P.2.1 - i) + 1)) q = gtR (vR P mi) P.2.1 ch (i - 1) q := fun q hq => by have h9 := hJ.2.1 (i - 1) (by omega) q hq; rw [show P.2.1 - (i - 1) = P.2.1 - i + 1 by omega] at h9; exact h9
          refine X_iload_n dX12_laysGiven_13 rfl ?_
          refine X_iconst (v := nI 1) dX12_laysGiven_14 (by decide) ?_
          refine X_iload_n dX12_laysGiven_15 rfl ?_
          refine X_ishl dX12_laysGiven_16 ?_
          refine X_topi (nb_sh ch (by omega)) ?_
          refine X_icmp_geN (a := j) (b := 2 ^ ch) 134 dX12_laysGiven_17 (by decide) (by first | omega | (have := or_lt hj (show k < ch by omega); omega)) (by first | omega | (have := or_lt hj (show k < ch by omega); omega)) (fun h_6 => ?_) (fun h_6 => ?_)
          · exact absurd hj (by omega)
          · refine X_iload_n dX12_laysGiven_20 rfl ?_
            refine X_aload_n dX12_laysGiven_21 rfl ?_
            refine X_getr (a := 91) dX12_laysGiven_22 fkX12_23 rfl (k_87 hSh) (r_87_12 hSh) ?_
            refine X_iconst (v := nI 1) dX12_laysGiven_25 (by decide) ?_
            refine X_iald 1 dX12_laysGiven_26 (k_91 hSh) rfl (by first | omega | (have := or_lt hj (show k < ch by omega); omega)) ?_
            rw [hr1]
            refine X_icmp_neN (a := P.2.1 - i) (b := P.2.1) 34 dX12_laysGiven_27 (by decide) (by first | omega | (have := or_lt hj (show k < ch by omega); omega)) (by first | omega | (have := or_lt hj (show k < ch by omega); omega)) (fun h_7 => ?_) (fun h_7 => ?_)
            · refine X_aload_n dX12_laysGiven_34 rfl ?_
              refine X_getr (a := 437) dX12_laysGiven_35 fkX12_140 rfl (k_87 hSh) (r_87_58 hSh) ?_
              refine X_iload_n dX12_laysGiven_38 rfl ?_
              refine X_iconst (v := nI 1) dX12_laysGiven_39 (by decide) ?_
              refine X_iadd dX12_laysGiven_40 ?_
              refine X_topi (nI_add (P.2.1 - i) 1) ?_
              refine X_aaldr (b := 438 + ((P.2.1 - i) + 1)) ((P.2.1 - i) + 1) dX12_laysGiven_41 (k_437 hSh) rfl (by first | omega | (have := or_lt hj (show k < ch by omega); omega)) (o_437 hSh ((P.2.1 - i) + 1) (by first | omega | (have := or_lt hj (show k < ch by omega); omega))) ?_
              refine X_iload_n dX12_laysGiven_42 rfl ?_
              refine X_iald j dX12_laysGiven_43 (kr_437 hSh (((P.2.1 - i) + 1)) (by first | omega | (have := or_lt hj (show k < ch by omega); omega))) rfl (by first | omega | (have := or_lt hj (show k < ch by omega); omega)) ?_
              rw [(show z (438 + ((P.2.1 - i) + 1)) j = _ from hnx j hj)]
              refine X_istore dX12_laysGiven_44 (by decide) ?_
              refine X_iconst (v := nI 0) dX12_laysGiven_46 (by decide) ?_
              refine X_istore dX12_laysGiven_47 (by decide) ?_
              refine X_L [(5, .int (nI 0)), (4, .int (gtR (vR P mi) P.2.1 ch (i - 1) j)), (3, .int (nI j)), (2, .int (nI (P.2.1 - i))), (0, .ref 87), (1, .int (nI ch))] ⟨rfl, rfl, rfl, rfl, rfl, rfl, trivial⟩ ?_
              refine X_for3 49 (fun k => [(5, .int (nI k)), (4, .int (bfN (vR P mi (P.2.1 - i)) (gtR (vR P mi) P.2.1 ch (i - 1)) j k)), (3, .int (nI j)), (2, .int (nI (P.2.1 - i))), (0, .ref 87), (1, .int (nI ch))]) (fun _ => z) ch ?_ ch 0 (by omega) ?_
              · intro k hk hn3
                have hwb : P.2.1 - i < P.2.1 := by omega
                have hrc : z (102 + k) = mi (102 + k) := hJ.1 (102 + k) (by omega)
                refine X_iload dX12_laysGiven_49 rfl ?_
                refine X_iload_n dX12_laysGiven_51 rfl ?_
                refine X_icmp_geN (a := k) (b := ch) 118 dX12_laysGiven_52 (by decide) (by first | omega | (have := or_lt hj (show k < ch by omega); omega)) (by first | omega | (have := or_lt hj (show k < ch by omega); omega)) (fun h_8 => ?_) (fun h_8 => ?_)
                · exact absurd hk (by omega)
                · refine X_iload_n dX12_laysGiven_55 rfl ?_
                  refine X_aload_n dX12_laysGiven_56 rfl ?_
                  refine X_getr (a := 91) dX12_laysGiven_57 fkX12_23 rfl (k_87 hSh) (r_87_12 hSh) ?_
                  refine X_iconst (v := nI 1) dX12_laysGiven_60 (by decide) ?_
                  refine X_iald 1 dX12_laysGiven_61 (k_91 hSh) rfl (by first | omega | (have := or_lt hj (show k < ch by omega); omega)) ?_
                  rw [hr1]
                  refine X_icmp_geN (a := P.2.1 - i) (b := P.2.1) 118 dX12_laysGiven_62 (by decide) (by first | omega | (have := or_lt hj (show k < ch by omega); omega)) (by first | omega | (have := or_lt hj (show k < ch by omega); omega)) (fun h_9 => ?_) (fun h_9 => ?_)
                  · exact absurd h_9 (by omega)
                  · refine X_iload_n dX12_laysGiven_65 rfl ?_
                    refine X_iload dX12_laysGiven_66 rfl ?_
                    refine X_ishr dX12_laysGiven_68 ?_
                    refine X_iconst (v := nI 1) dX12_laysGiven_69 (by decide) ?_
                    refine X_iand dX12_laysGiven_70 ?_
                    refine X_topi (bit_ask (k := k) (by omega)) ?_
                    refine X_topi (show _ = bI (j.testBit k) by rw [nb_ask j (by omega) k (by omega)]) ?_
                    cases htb : j.testBit k with
                    | false =>
                      refine X_if_ne 112 dX12_laysGiven_71 (by decide) (fun h_10 => ?_) (fun h_10 => ?_)
                      · exact absurd rfl h_10
                      · refine X_iload dX12_laysGiven_74 rfl ?_
                        refine X_aload_n dX12_laysGiven_76 rfl ?_
                        refine X_iload_n dX12_laysGiven_77 rfl ?_
                        refine X_iload dX12_laysGiven_78 rfl ?_
                        refine X_aload_n dX12_laysGiven_80 rfl ?_
                        refine X_getr (a := 120) dX12_laysGiven_81 fkX12_37 rfl (k_87 hSh) (r_87_16 hSh) ?_
                        refine X_iload_n dX12_laysGiven_84 rfl ?_
                        refine X_aaldr (b := 121 + (P.2.1 - i)) (P.2.1 - i) dX12_laysGiven_85 (k_120 hSh) rfl (by first | omega | (have := or_lt hj (show k < ch by omega); omega)) (o_120 hSh (P.2.1 - i) (by first | omega | (have := or_lt hj (show k < ch by omega); omega))) ?_
                        refine X_iconst (v := nI 1) dX12_laysGiven_86 (by decide) ?_
                        refine X_iald 1 dX12_laysGiven_87 (kr_120 hSh ((P.2.1 - i)) (by first | omega | (have := or_lt hj (show k < ch by omega); omega))) rfl (by first | omega | (have := or_lt hj (show k < ch by omega); omega)) ?_
                        rw [(hry _ hwb).2.1]
                        refine X_callVI dX12_laysGiven_88 mkX12_310 (k_87 hSh) (c_worthOf Γ g z ml hSh (P.2.1 - i) k (P.2.2.2.2.2.2 (P.2.1 - i) 1) (P.2.2.2.2.2.2 (P.2.1 - i) 1) (P.2.2.2.2.2.2 (P.2.1 - i) 2) (by omega) (by omega) (by have := hP.2.2.2.2.2.2.2 _ hwb; omega) (hry _ hwb).2.1 (hry _ hwb).2.2.1 (by have := hP.2.2.2.2.2.2.2 _ hwb; omega) (by have := hP.2.2.2.2.2.2.2 _ hwb; omega)) rfl rfl (by decide) (Nat.le_of_ble_eq_true rfl) ?_
                        refine X_topi (show _ = vR P mi (P.2.1 - i) k by unfold vR; rw [Nat.max_self, hrc]) ?_
                        refine X_aload_n dX12_laysGiven_91 rfl ?_
                        refine X_getr (a := 437) dX12_laysGiven_92 fkX12_140 rfl (k_87 hSh) (r_87_58 hSh) ?_
                        refine X_iload_n dX12_laysGiven_95 rfl ?_
                        refine X_iconst (v := nI 1) dX12_laysGiven_96 (by decide) ?_
                        refine X_iadd dX12_laysGiven_97 ?_
                        refine X_topi (nI_add (P.2.1 - i) 1) ?_
                        refine X_aaldr (b := 438 + ((P.2.1 - i) + 1)) ((P.2.1 - i) + 1) dX12_laysGiven_98 (k_437 hSh) rfl (by first | omega | (have := or_lt hj (show k < ch by omega); omega)) (o_437 hSh ((P.2.1 - i) + 1) (by first | omega | (have := or_lt hj (show k < ch by omega); omega))) ?_
                        refine X_iload_n dX12_laysGiven_99 rfl ?_
                        refine X_iconst (v := nI 1) dX12_laysGiven_100 (by decide) ?_
                        refine X_iload dX12_laysGiven_101 rfl ?_
                        refine X_ishl dX12_laysGiven_103 ?_
                        refine X_ior dX12_laysGiven_104 ?_
                        refine X_topi (nb_or j (by omega) k (by omega)) ?_
                        refine X_iald (j ||| 2 ^ k) dX12_laysGiven_105 (kr_437 hSh (((P.2.1 - i) + 1)) (by first | omega | (have := or_lt hj (show k < ch by omega); omega))) rfl (by first | omega | (have := or_lt hj (show k < ch by omega); omega)) ?_
                        rw [(hnx _ (or_lt hj hk))]
                        refine X_iadd dX12_laysGiven_106 ?_
                        refine X_callSI dX12_laysGiven_107 mkX12_291 (c_greater Γ g z ml (bfN (vR P mi (P.2.1 - i)) (gtR (vR P mi) P.2.1 ch (i - 1)) j k) ((vR P mi (P.2.1 - i) k) + (gtR (vR P mi) P.2.1 ch (i - 1) (j ||| 2 ^ k)))) rfl rfl (by decide) (Nat.le_of_ble_eq_true rfl) ?_
                        refine X_istore dX12_laysGiven_110 (by decide) ?_
                        refine X_iinc (v := nI (k + 1)) dX12_laysGiven_112 rfl (nI_1 _) (by decide) ?_
                        refine X_goto 49 dX12_laysGiven_115 (by decide) ?_
                        refine X_L [(5, .int (nI (k + 1))), (4, .int (if (vR P mi (P.2.1 - i) k) + (gtR (vR P mi) P.2.1 ch (i - 1) (j ||| 2 ^ k)) < bfN (vR P mi (P.2.1 - i)) (gtR (vR P mi) P.2.1 ch (i - 1)) j k then bfN (vR P mi (P.2.1 - i)) (gtR (vR P mi) P.2.1 ch (i - 1)) j k else (vR P mi (P.2.1 - i) k) + (gtR (vR P mi) P.2.1 ch (i - 1) (j ||| 2 ^ k)))), (3, .int (nI j)), (2, .int (nI (P.2.1 - i))), (0, .ref 87), (1, .int (nI ch))] ⟨rfl, rfl, rfl, rfl, rfl, rfl, trivial⟩ ?_
                        rw [show bfN (vR P mi (P.2.1 - i)) (gtR (vR P mi) P.2.1 ch (i - 1)) j (k + 1) = if (vR P mi (P.2.1 - i) k) + (gtR (vR P mi) P.2.1 ch (i - 1) (j ||| 2 ^ k)) < bfN (vR P mi (P.2.1 - i)) (gtR (vR P mi) P.2.1 ch (i - 1)) j k then bfN (vR P mi (P.2.1 - i)) (gtR (vR P mi) P.2.1 ch (i - 1)) j k else (vR P mi (P.2.1 - i) k) + (gtR (vR P mi) P.2.1 ch (i - 1) (j ||| 2 ^ k)) from (if_neg (by rw [htb]; decide)).trans (mx_g _ _).symm] at hn3
                        exact hn3
                    | true =>
                      refine X_if_ne 112 dX12_laysGiven_71 (by decide) (fun h_11 => ?_) (fun h_11 => ?_)
                      · refine X_iinc (v := nI (k + 1)) dX12_laysGiven_112 rfl (nI_1 _) (by decide) ?_
                        refine X_goto 49 dX12_laysGiven_115 (by decide) ?_
                        refine X_L [(5, .int (nI (k + 1))), (4, .int (bfN (vR P mi (P.2.1 - i)) (gtR (vR P mi) P.2.1 ch (i - 1)) j k)), (3, .int (nI j)), (2, .int (nI (P.2.1 - i))), (0, .ref 87), (1, .int (nI ch))] ⟨rfl, rfl, rfl, rfl, rfl, rfl, trivial⟩ ?_
                        rw [show bfN (vR P mi (P.2.1 - i)) (gtR (vR P mi) P.2.1 ch (i - 1)) j (k + 1) = bfN (vR P mi (P.2.1 - i)) (gtR (vR P mi) P.2.1 ch (i - 1)) j k from if_pos htb] at hn3
                        exact hn3
                      · exact absurd h_11 (by decide)
              · have hge : bfN (vR P mi (P.2.1 - i)) (gtR (vR P mi) P.2.1 ch (i - 1)) j ch = gtR (vR P mi) P.2.1 ch i j := (gt_pred (by omega)).symm
                refine X_L [(5, .int (nI ch)), (4, .int (gtR (vR P mi) P.2.1 ch i j)), (3, .int (nI j)), (2, .int (nI (P.2.1 - i))), (0, .ref 87), (1, .int (nI ch))] ⟨rfl, by rw [← hge]; rfl, rfl, rfl, rfl, rfl, trivial⟩ ?_
                refine X_iload dX12_laysGiven_49 rfl ?_
                refine X_iload_n dX12_laysGiven_51 rfl ?_
                refine X_icmp_geN (a := ch) (b := ch) 118 dX12_laysGiven_52 (by decide) (by first | omega | (have := or_lt hj (show k < ch by omega); omega)) (by first | omega | (have := or_lt hj (show k < ch by omega); omega)) (fun h_12 => ?_) (fun h_12 => ?_)
                · refine X_aload_n dX12_laysGiven_118 rfl ?_
                  refine X_getr (a := 437) dX12_laysGiven_119 fkX12_140 rfl (k_87 hSh) (r_87_58 hSh) ?_
                  refine X_iload_n dX12_laysGiven_122 rfl ?_
                  refine X_aaldr (b := 438 + (P.2.1 - i)) (P.2.1 - i) dX12_laysGiven_123 (k_437 hSh) rfl (by first | omega | (have := or_lt hj (show k < ch by omega); omega)) (o_437 hSh (P.2.1 - i) (by first | omega | (have := or_lt hj (show k < ch by omega); omega))) ?_
                  refine X_iload_n dX12_laysGiven_124 rfl ?_
                  refine X_iload dX12_laysGiven_125 rfl ?_
                  refine X_iast j dX12_laysGiven_127 (kr_437 hSh ((P.2.1 - i)) (by first | omega | (have := or_lt hj (show k < ch by omega); omega))) rfl (by first | omega | (have := or_lt hj (show k < ch by omega); omega)) ?_
                  refine X_iinc (v := nI (j + 1)) dX12_laysGiven_128 rfl (nI_1 _) (by decide) ?_
                  refine X_goto 13 dX12_laysGiven_131 (by decide) ?_
                  refine X_L [(3, .int (nI (j + 1))), (2, .int (nI (P.2.1 - i))), (0, .ref 87), (1, .int (nI ch))] ⟨rfl, rfl, rfl, rfl, trivial⟩ ?_
                  refine hn2 _ ⟨frL_u hJ.1 (by omega), fun k hk q hq => by rw [up2_row (by omega)]; exact hJ.2.1 k hk q hq, fun q hq => ?_⟩
                  by_cases hz : q = j
                  · subst hz; exact up2_s
                  · rw [up2_n (by omega)]; exact hJ.2.2 q (by omega)
                · exact absurd h_12 (by omega)
            · exact absurd h_7 (by omega)
      · intro z hJ
        have hK : frL mi z ∧ tbL (vR P mi) P.2.1 ch z (i + 1) := ⟨hJ.1, fun k hk q hq => by
          by_cases hki : k = i
          · subst hki; exact hJ.2.2 q hq
          · exact hJ.2.1 k (by omega) q hq⟩
        refine X_iload_n dX12_laysGiven_13 rfl ?_
        refine X_iconst (v := nI 1) dX12_laysGiven_14 (by decide) ?_
        refine X_iload_n dX12_laysGiven_15 rfl ?_
        refine X_ishl dX12_laysGiven_16 ?_
        refine X_topi (nb_sh ch (by omega)) ?_
        refine X_icmp_geN (a := 2 ^ ch) (b := 2 ^ ch) 134 dX12_laysGiven_17 (by decide) (by first | omega | (have := or_lt hj (show k < ch by omega); omega)) (by first | omega | (have := or_lt hj (show k < ch by omega); omega)) (fun h_13 => ?_) (fun h_13 => ?_)
        · refine X_iinc dX12_laysGiven_134 rfl rfl (by decide) ?_
          refine X_goto 7 dX12_laysGiven_137 (by decide) ?_
          refine X_L [(2, .int ((nI (P.2.1 - i)) + Int32.ofInt (-1))), (0, .ref 87), (1, .int (nI ch))] ⟨rfl, rfl, rfl, trivial⟩ ?_
          refine X_L [(2, .int (dnI (P.2.1 + 1) (i + 1))), (0, .ref 87), (1, .int (nI ch))] ⟨by rw [← dn_s hi, show P.2.1 + 1 - 1 - i = P.2.1 - i by omega]; rfl, rfl, rfl, trivial⟩ ?_
          exact hn _ hK
        · exact absurd h_13 (by omega)
  · intro y hI
    refine X_L [(2, .int (-1)), (0, .ref 87), (1, .int (nI ch))] ⟨by rw [← dn_e (n := P.2.1 + 1)]; rfl, rfl, rfl, trivial⟩ ?_
    have h0 : y 438 0 = gtR (vR P mi) P.2.1 ch P.2.1 0 := by have h9 := hI.2 P.2.1 (by omega) 0 (Nat.pow_pos (by omega)); rw [Nat.sub_self] at h9; exact h9
    refine X_iload_n dX12_laysGiven_7 rfl ?_
    refine X_if_lt 140 dX12_laysGiven_8 (by decide) (fun h_14 => ?_) (fun h_14 => ?_)
    · refine X_aload_n dX12_laysGiven_140 rfl ?_
      refine X_getr (a := 437) dX12_laysGiven_141 fkX12_140 rfl (k_87 hSh) (r_87_58 hSh) ?_
      refine X_iconst (v := nI 0) dX12_laysGiven_144 (by decide) ?_
      refine X_aaldr (b := 438) 0 dX12_laysGiven_145 (k_437 hSh) rfl (by first | omega | (have := or_lt hj (show k < ch by omega); omega)) (o_437 hSh 0 (by first | omega | (have := or_lt hj (show k < ch by omega); omega))) ?_
      refine X_iconst (v := nI 0) dX12_laysGiven_146 (by decide) ?_
      refine X_iald 0 dX12_laysGiven_147 (kr_437 hSh 0 (by omega)) rfl (by first | omega | (have := or_lt hj (show k < ch by omega); omega)) ?_
      rw [h0]
      exact X_iret dX12_laysGiven_148 rfl ⟨rfl, _, rfl, rfl, hI.1, hI.2, rfl⟩
    · exact absurd (by decide : (-1 : Int32) < 0) h_14

set_option maxRecDepth 100000 in
set_option maxHeartbeats 4000000 in
theorem c_learn0 (Γ : pTG) (g : pGG) (mi : pMI) (ml : pML) (hSh : Sh g) (P : PD) (hP : okPD P) (hc : clP mi P) (hl : mi 77 4 = nI 0) : rV Γ 3 mX4_learn [.ref 77] g mi ml (fun m l => frG mi m ∧ GOK P m ∧ m 77 4 = nI 1 ∧ l = ml) := by
  refine rV_of (by decide +kernel) (Nat.le_of_ble_eq_true rfl) ?_
  have hC8 := hP.1
  have hG8 := hP.2.1
  have h256 := p8 hP.1
  refine X_aload_n dX4_learn_0 rfl ?_
  refine X_geti dX4_learn_1 fkX4_25 rfl (k_77 hSh) ?_
  rw [hl]
  refine X_if_eqN (a := 0) 8 dX4_learn_4 (by decide) (by omega) (fun h_1 => ?_) (fun h_1 => ?_)
  · refine X_iconst (v := nI 0) dX4_learn_8 (by decide) ?_
    refine X_istore_n dX4_learn_9 (by decide) ?_
    refine X_L [(1, .int (nI 0)), (0, .ref 77)] ⟨rfl, rfl, trivial⟩ ?_
    refine X_forR (σ := pMI) 10 (fun i y => [(1, .int (nI i)), (0, .ref 77)]) (fun y => y) (fun y => ml) (fun i y => frG mi y ∧ ∀ b, b < i → ∀ c, c < P.1 → y 78 (b * 9 + c) = vP P b c) P.2.1 ?_ ?_ P.2.1 0 mi (by omega) ⟨frG_r, fun b hb => absurd hb (by omega)⟩
    · intro i y hi hI hn
      have hcy0 := frG_cl hI.1 hc
      refine X_iload_n dX4_learn_10 rfl ?_
      refine X_aload_n dX4_learn_11 rfl ?_
      refine X_getr (a := 3) dX4_learn_12 fkX4_21 rfl (k_77 hSh) (r_77_0 hSh) ?_
      refine X_geti dX4_learn_15 fkX4_29 rfl (k_3 hSh) ?_
      rw [hcy0.2.1]
      refine X_icmp_geN (a := i) (b := P.2.1) 67 dX4_learn_18 (by decide) (by omega) (by omega) (fun h_2 => ?_) (fun h_2 => ?_)
      · exact absurd hi (by omega)
      · refine X_iconst (v := nI 0) dX4_learn_21 (by decide) ?_
        refine X_istore_n dX4_learn_22 (by decide) ?_
        refine X_L [(2, .int (nI 0)), (1, .int (nI i)), (0, .ref 77)] ⟨rfl, rfl, rfl, trivial⟩ ?_
        refine X_forR (σ := pMI) 23 (fun j z => [(2, .int (nI j)), (1, .int (nI i)), (0, .ref 77)]) (fun z => z) (fun z => ml) (fun j z => frG mi z ∧ ∀ b c, b < i + 1 → (b < i → c < P.1) → (b = i → c < j) → z 78 (b * 9 + c) = vP P b c) P.1 ?_ ?_ P.1 0 y (by omega) ⟨hI.1, fun b c hb h1 h2 => hI.2 b (by omega) c (h1 (by omega))⟩
        · intro j z hj hJ hn2
          have hcy := frG_cl hJ.1 hc
          have hvb := hi
          have hvc := hj
          refine X_iload_n dX4_learn_23 rfl ?_
          refine X_aload_n dX4_learn_24 rfl ?_
          refine X_getr (a := 3) dX4_learn_25 fkX4_21 rfl (k_77 hSh) (r_77_0 hSh) ?_
          refine X_geti dX4_learn_28 fkX4_35 rfl (k_3 hSh) ?_
          rw [hcy.1]
          refine X_icmp_geN (a := j) (b := P.1) 61 dX4_learn_31 (by decide) (by omega) (by omega) (fun h_3 => ?_) (fun h_3 => ?_)
          · exact absurd hj (by omega)
          · refine X_aload_n dX4_learn_34 rfl ?_
            refine X_getr (a := 78) dX4_learn_35 fkX4_11 rfl (k_77 hSh) (r_77_1 hSh) ?_
            refine X_iload_n dX4_learn_38 rfl ?_
            refine X_bipush (v := nI 9) dX4_learn_39 (by decide) ?_
            refine X_imul dX4_learn_41 ?_
            refine X_topi (pk_mul i 9) ?_
            refine X_iload_n dX4_learn_42 rfl ?_
            refine X_iadd dX4_learn_43 ?_
            refine X_topi (nI_add (i * 9) j) ?_
            refine X_aload_n dX4_learn_44 rfl ?_
            refine X_getr (a := 3) dX4_learn_45 fkX4_21 rfl (k_77 hSh) (r_77_0 hSh) ?_
            refine X_iload_n dX4_learn_48 rfl ?_
            refine X_iload_n dX4_learn_49 rfl ?_
            refine X_iconst (v := nI 0) dX4_learn_50 (by decide) ?_
            refine X_callVI dX4_learn_51 mkX4_38 (k_3 hSh) (c_value Γ g z ml hSh i j 0 (P.2.2.2.2.2.2 i 1) (P.2.2.2.2.2.2 i 2) (by omega) (by omega) (by omega) (hcy.2.2.2.2.2.2 _ hvb).2.1 (hcy.2.2.2.2.2.2 _ hvb).2.2.1 (by have := hP.2.2.2.2.2.2.2 _ hvb; omega) (by have := hP.2.2.2.2.2.2.2 _ hvb; omega)) rfl rfl (by decide) (Nat.le_of_ble_eq_true rfl) ?_
            refine X_topi (show _ = vP P i j by unfold vP; rw [(hcy.2.2.2.2.2.1 _ hvc).1, (hcy.2.2.2.2.2.1 _ hvc).2, Nat.zero_max]) ?_
            refine X_iast ((i * 9) + j) dX4_learn_54 (k_78 hSh) rfl (by omega) ?_
            refine X_iinc (v := nI (j + 1)) dX4_learn_55 rfl (nI_1 _) (by decide) ?_
            refine X_goto 23 dX4_learn_58 (by decide) ?_
            refine X_L [(2, .int (nI (j + 1))), (1, .int (nI i)), (0, .ref 77)] ⟨rfl, rfl, rfl, trivial⟩ ?_
            refine hn2 _ ⟨frG_u hJ.1 (by omega), fun b c hb h1 h2 => ?_⟩
            by_cases hz : b = i ∧ c = j
            · obtain ⟨rfl, rfl⟩ := hz; exact up2_s
            · rw [up2_n (by by_cases hbi : b = i; (have := h2 hbi; omega); (have := h1 (by omega); omega))]; exact hJ.2 b c hb h1 (fun q => by have := h2 q; omega)
        · intro z hJ0
          have hcy := frG_cl hJ0.1 hc
          have hJ : frG mi z ∧ ∀ b c, b < i + 1 → c < P.1 → z 78 (b * 9 + c) = vP P b c := ⟨hJ0.1, fun b c hb hcc => hJ0.2 b c hb (fun _ => hcc) (fun _ => hcc)⟩
          refine X_iload_n dX4_learn_23 rfl ?_
          refine X_aload_n dX4_learn_24 rfl ?_
          refine X_getr (a := 3) dX4_learn_25 fkX4_21 rfl (k_77 hSh) (r_77_0 hSh) ?_
          refine X_geti dX4_learn_28 fkX4_35 rfl (k_3 hSh) ?_
          rw [hcy.1]
          refine X_icmp_geN (a := P.1) (b := P.1) 61 dX4_learn_31 (by decide) (by omega) (by omega) (fun h_4 => ?_) (fun h_4 => ?_)
          · refine X_iinc (v := nI (i + 1)) dX4_learn_61 rfl (nI_1 _) (by decide) ?_
            refine X_goto 10 dX4_learn_64 (by decide) ?_
            refine X_L [(1, .int (nI (i + 1))), (0, .ref 77)] ⟨rfl, rfl, trivial⟩ ?_
            exact hn _ ⟨hJ.1, fun b hb c hcc => hJ.2 b c hb hcc⟩
          · exact absurd h_4 (by omega)
    · intro y hI
      have hcy0 := frG_cl hI.1 hc
      refine X_iload_n dX4_learn_10 rfl ?_
      refine X_aload_n dX4_learn_11 rfl ?_
      refine X_getr (a := 3) dX4_learn_12 fkX4_21 rfl (k_77 hSh) (r_77_0 hSh) ?_
      refine X_geti dX4_learn_15 fkX4_29 rfl (k_3 hSh) ?_
      rw [hcy0.2.1]
      refine X_icmp_geN (a := P.2.1) (b := P.2.1) 67 dX4_learn_18 (by decide) (by omega) (by omega) (fun h_5 => ?_) (fun h_5 => ?_)
      · refine X_iconst (v := nI 1) dX4_learn_67 (by decide) ?_
        refine X_aload_n dX4_learn_68 rfl ?_
        refine X_getr (a := 3) dX4_learn_69 fkX4_21 rfl (k_77 hSh) (r_77_0 hSh) ?_
        refine X_geti dX4_learn_72 fkX4_35 rfl (k_3 hSh) ?_
        rw [hcy0.1]
        refine X_ishl dX4_learn_75 ?_
        refine X_topi (nb_sh P.1 (by omega)) ?_
        refine X_istore_n dX4_learn_76 (by decide) ?_
        refine X_iconst (v := nI 0) dX4_learn_77 (by decide) ?_
        refine X_istore_n dX4_learn_78 (by decide) ?_
        refine X_L [(2, .int (nI 0)), (1, .int (nI (2 ^ P.1))), (0, .ref 77)] ⟨rfl, rfl, rfl, trivial⟩ ?_
        refine X_forR (σ := pMI) 79 (fun j z => [(2, .int (nI j)), (1, .int (nI (2 ^ P.1))), (0, .ref 77)]) (fun z => z) (fun z => ml) (fun j z => frG mi z ∧ vlG P z ∧ ∀ q, q < j → z 79 (P.2.1 * 256 + q) = nI 0) (2 ^ P.1) ?_ ?_ (2 ^ P.1) 0 y (by omega) ⟨hI.1, hI.2, fun q hq => absurd hq (by omega)⟩
        · intro j z hj hJ hn2
          have hcy := frG_cl hJ.1 hc
          refine X_iload_n dX4_learn_79 rfl ?_
          refine X_iload_n dX4_learn_80 rfl ?_
          refine X_icmp_geN (a := j) (b := 2 ^ P.1) 109 dX4_learn_81 (by decide) (by omega) (by omega) (fun h_6 => ?_) (fun h_6 => ?_)
          · exact absurd hj (by omega)
          · refine X_aload_n dX4_learn_84 rfl ?_
            refine X_getr (a := 79) dX4_learn_85 fkX4_15 rfl (k_77 hSh) (r_77_2 hSh) ?_
            refine X_aload_n dX4_learn_88 rfl ?_
            refine X_getr (a := 3) dX4_learn_89 fkX4_21 rfl (k_77 hSh) (r_77_0 hSh) ?_
            refine X_geti dX4_learn_92 fkX4_29 rfl (k_3 hSh) ?_
            rw [hcy.2.1]
            refine X_sipush (v := nI 256) dX4_learn_95 (by decide) ?_
            refine X_imul dX4_learn_98 ?_
            refine X_topi (pk_mul P.2.1 256) ?_
            refine X_iload_n dX4_learn_99 rfl ?_
            refine X_iadd dX4_learn_100 ?_
            refine X_topi (nI_add (P.2.1 * 256) j) ?_
            refine X_iconst (v := nI 0) dX4_learn_101 (by decide) ?_
            refine X_iast ((P.2.1 * 256) + j) dX4_learn_102 (k_79 hSh) rfl (by omega) ?_
            refine X_iinc (v := nI (j + 1)) dX4_learn_103 rfl (nI_1 _) (by decide) ?_
            refine X_goto 79 dX4_learn_106 (by decide) ?_
            refine X_L [(2, .int (nI (j + 1))), (1, .int (nI (2 ^ P.1))), (0, .ref 77)] ⟨rfl, rfl, rfl, trivial⟩ ?_
            refine hn2 _ ⟨frG_u hJ.1 (by omega), fun b hb c hcc => by rw [up2_row (by omega)]; exact hJ.2.1 b hb c hcc, fun q hq => ?_⟩
            by_cases hz : q = j
            · subst hz; exact up2_s
            · rw [up2_n (by omega)]; exact hJ.2.2 q (by omega)
        · intro z hJ
          have hcy := frG_cl hJ.1 hc
          refine X_iload_n dX4_learn_79 rfl ?_
          refine X_iload_n dX4_learn_80 rfl ?_
          refine X_icmp_geN (a := 2 ^ P.1) (b := 2 ^ P.1) 109 dX4_learn_81 (by decide) (by omega) (by omega) (fun h_7 => ?_) (fun h_7 => ?_)
          · refine X_aload_n dX4_learn_109 rfl ?_
            refine X_getr (a := 3) dX4_learn_110 fkX4_21 rfl (k_77 hSh) (r_77_0 hSh) ?_
            refine X_geti dX4_learn_113 fkX4_29 rfl (k_3 hSh) ?_
            rw [hcy.2.1]
            refine X_iconst (v := nI 1) dX4_learn_116 (by decide) ?_
            refine X_isub dX4_learn_117 ?_
            refine X_topi dn_0 ?_
            refine X_istore_n dX4_learn_118 (by decide) ?_
            refine X_L [(2, .int (dnI P.2.1 0)), (1, .int (nI (2 ^ P.1))), (0, .ref 77)] ⟨rfl, rfl, rfl, trivial⟩ ?_
            refine X_forR (σ := pMI) 119 (fun i y => [(2, .int (dnI P.2.1 i)), (1, .int (nI (2 ^ P.1))), (0, .ref 77)]) (fun y => y) (fun y => ml) (fun i y => frG mi y ∧ vlG P y ∧ tbG P y i) P.2.1 ?_ ?_ P.2.1 0 z (by omega) ⟨hJ.1, hJ.2.1, fun k hk q hq => by rw [show k = 0 by omega, Nat.sub_zero]; exact hJ.2.2 q hq⟩
            · intro i y hi hI hn
              have hcy := frG_cl hI.1 hc
              refine X_L [(2, .int (nI (P.2.1 - 1 - i))), (1, .int (nI (2 ^ P.1))), (0, .ref 77)] ⟨by rw [← dn_i hi]; rfl, rfl, rfl, trivial⟩ ?_
              refine X_iload_n dX4_learn_119 rfl ?_
              refine X_if_ltN (a := P.2.1 - 1 - i) 174 dX4_learn_120 (by decide) (by omega) (fun h_8 => ?_) (fun h_8 => ?_)
              · exact False.elim h_8
              · refine X_iconst (v := nI 0) dX4_learn_123 (by decide) ?_
                refine X_istore_n dX4_learn_124 (by decide) ?_
                refine X_L [(3, .int (nI 0)), (2, .int (nI (P.2.1 - 1 - i))), (1, .int (nI (2 ^ P.1))), (0, .ref 77)] ⟨rfl, rfl, rfl, rfl, trivial⟩ ?_
                refine X_forR (σ := pMI) 125 (fun j z => [(3, .int (nI j)), (2, .int (nI (P.2.1 - 1 - i))), (1, .int (nI (2 ^ P.1))), (0, .ref 77)]) (fun z => z) (fun z => ml) (fun j z => frG mi z ∧ vlG P z ∧ tbG P z i ∧ ∀ q, q < j → z 79 ((P.2.1 - 1 - i) * 256 + q) = gtR (vP P) P.2.1 P.1 (i + 1) q) (2 ^ P.1) ?_ ?_ (2 ^ P.1) 0 y (by omega) ⟨hI.1, hI.2.1, hI.2.2, fun q hq => absurd hq (by omega)⟩
                · intro j z hj hJ hn2
                  have hcz := frG_cl hJ.1 hc
                  have hbf : bfN (fun c => z 78 ((P.2.1 - 1 - i) * 9 + c)) (fun k => z 79 (((P.2.1 - 1 - i) + 1) * 256 + k)) j P.1 = gtR (vP P) P.2.1 P.1 (i + 1) j := by
                    have e1 := bfN_eq (V := fun c => z 78 ((P.2.1 - 1 - i) * 9 + c)) (W := vP P (P.2.1 - (i + 1))) (R := fun k => z 79 (((P.2.1 - 1 - i) + 1) * 256 + k)) (S := gtR (vP P) P.2.1 P.1 i) hj P.1 (Nat.le_refl _) (fun c hcc => by rw [show P.2.1 - (i + 1) = P.2.1 - 1 - i by omega]; exact hJ.2.1 _ (by omega) c hcc) (fun k hk => by rw [show P.2.1 - 1 - i + 1 = P.2.1 - i by omega]; exact hJ.2.2.1 i (Nat.le_refl _) k hk)
                    exact e1
                  refine X_iload_n dX4_learn_125 rfl ?_
                  refine X_iload_n dX4_learn_126 rfl ?_
                  refine X_icmp_geN (a := j) (b := 2 ^ P.1) 168 dX4_learn_127 (by decide) (by omega) (by omega) (fun h_9 => ?_) (fun h_9 => ?_)
                  · exact absurd hj (by omega)
                  · refine X_aload_n dX4_learn_130 rfl ?_
                    refine X_getr (a := 79) dX4_learn_131 fkX4_15 rfl (k_77 hSh) (r_77_2 hSh) ?_
                    refine X_iload_n dX4_learn_134 rfl ?_
                    refine X_sipush (v := nI 256) dX4_learn_135 (by decide) ?_
                    refine X_imul dX4_learn_138 ?_
                    refine X_topi (pk_mul (P.2.1 - 1 - i) 256) ?_
                    refine X_iload_n dX4_learn_139 rfl ?_
                    refine X_iadd dX4_learn_140 ?_
                    refine X_topi (nI_add ((P.2.1 - 1 - i) * 256) j) ?_
                    refine X_aload_n dX4_learn_141 rfl ?_
                    refine X_iload_n dX4_learn_142 rfl ?_
                    refine X_iload_n dX4_learn_143 rfl ?_
                    refine X_iload_n dX4_learn_144 rfl ?_
                    refine X_iconst (v := nI 1) dX4_learn_145 (by decide) ?_
                    refine X_iadd dX4_learn_146 ?_
                    refine X_topi (nI_add (P.2.1 - 1 - i) 1) ?_
                    refine X_sipush (v := nI 256) dX4_learn_147 (by decide) ?_
                    refine X_imul dX4_learn_150 ?_
                    refine X_topi (pk_mul ((P.2.1 - 1 - i) + 1) 256) ?_
                    refine X_aload_n dX4_learn_151 rfl ?_
                    refine X_getr (a := 3) dX4_learn_152 fkX4_21 rfl (k_77 hSh) (r_77_0 hSh) ?_
                    refine X_geti dX4_learn_155 fkX4_35 rfl (k_3 hSh) ?_
                    rw [hcz.1]
                    refine X_callVI dX4_learn_158 mkX4_42 (k_77 hSh) (c_bestFrom Γ g z ml hSh (P.2.1 - 1 - i) j (((P.2.1 - 1 - i) + 1) * 256) P.1 (by omega) (by omega) hj (by omega)) rfl rfl (by decide) (Nat.le_of_ble_eq_true rfl) ?_
                    refine X_topi hbf ?_
                    refine X_iast (((P.2.1 - 1 - i) * 256) + j) dX4_learn_161 (k_79 hSh) rfl (by omega) ?_
                    refine X_iinc (v := nI (j + 1)) dX4_learn_162 rfl (nI_1 _) (by decide) ?_
                    refine X_goto 125 dX4_learn_165 (by decide) ?_
                    refine X_L [(3, .int (nI (j + 1))), (2, .int (nI (P.2.1 - 1 - i))), (1, .int (nI (2 ^ P.1))), (0, .ref 77)] ⟨rfl, rfl, rfl, rfl, trivial⟩ ?_
                    refine hn2 _ ⟨frG_u hJ.1 (by omega), fun b hb c hcc => by rw [up2_row (by omega)]; exact hJ.2.1 b hb c hcc, fun k hk q hq => by rw [up2_n (by omega)]; exact hJ.2.2.1 k hk q hq, fun q hq => ?_⟩
                    by_cases hz : q = j
                    · subst hz; exact up2_s
                    · rw [up2_n (by omega)]; exact hJ.2.2.2 q (by omega)
                · intro z hJ
                  have hcz := frG_cl hJ.1 hc
                  have hK : frG mi z ∧ vlG P z ∧ tbG P z (i + 1) := ⟨hJ.1, hJ.2.1, fun k hk q hq => by
                    by_cases hki : k = i + 1
                    · subst hki; rw [show P.2.1 - (i + 1) = P.2.1 - 1 - i by omega]; exact hJ.2.2.2 q hq
                    · exact hJ.2.2.1 k (by omega) q hq⟩
                  refine X_iload_n dX4_learn_125 rfl ?_
                  refine X_iload_n dX4_learn_126 rfl ?_
                  refine X_icmp_geN (a := 2 ^ P.1) (b := 2 ^ P.1) 168 dX4_learn_127 (by decide) (by omega) (by omega) (fun h_10 => ?_) (fun h_10 => ?_)
                  · refine X_iinc dX4_learn_168 rfl rfl (by decide) ?_
                    refine X_goto 119 dX4_learn_171 (by decide) ?_
                    refine X_L [(2, .int ((nI (P.2.1 - 1 - i)) + Int32.ofInt (-1))), (1, .int (nI (2 ^ P.1))), (0, .ref 77)] ⟨rfl, rfl, rfl, trivial⟩ ?_
                    refine X_L [(2, .int (dnI P.2.1 (i + 1))), (1, .int (nI (2 ^ P.1))), (0, .ref 77)] ⟨by rw [← dn_s hi]; rfl, rfl, rfl, trivial⟩ ?_
                    exact hn _ hK
                  · exact absurd h_10 (by omega)
            · intro y hI
              have hcy := frG_cl hI.1 hc
              refine X_L [(2, .int (-1)), (1, .int (nI (2 ^ P.1))), (0, .ref 77)] ⟨by rw [← dn_e (n := P.2.1)]; rfl, rfl, rfl, trivial⟩ ?_
              have h790 : y 79 0 = gtR (vP P) P.2.1 P.1 P.2.1 0 := by have h9 := hI.2.2 P.2.1 (Nat.le_refl _) 0 (Nat.pow_pos (by omega)); rw [Nat.sub_self, Nat.zero_mul, Nat.zero_add] at h9; exact h9
              refine X_iload_n dX4_learn_119 rfl ?_
              refine X_if_lt 174 dX4_learn_120 (by decide) (fun h_11 => ?_) (fun h_11 => ?_)
              · refine X_aload_n dX4_learn_174 rfl ?_
                refine X_aload_n dX4_learn_175 rfl ?_
                refine X_getr (a := 79) dX4_learn_176 fkX4_15 rfl (k_77 hSh) (r_77_2 hSh) ?_
                refine X_iconst (v := nI 0) dX4_learn_179 (by decide) ?_
                refine X_iald 0 dX4_learn_180 (k_79 hSh) rfl (by omega) ?_
                rw [h790]
                refine X_puti dX4_learn_181 fkX4_46 rfl rfl (k_77 hSh) ?_
                refine X_aload_n dX4_learn_184 rfl ?_
                have hd1 : clP (up2 y 77 5 (gtR (vP P) P.2.1 P.1 P.2.1 0)) P := frG_cl (frG_u hI.1 (by omega)) hc
                have hd2 : tbG P (up2 y 77 5 (gtR (vP P) P.2.1 P.1 P.2.1 0)) P.2.1 := fun k hk q hq => by rw [up2_row (by omega)]; exact hI.2.2 k hk q hq
                have hd3 : vlG P (up2 y 77 5 (gtR (vP P) P.2.1 P.1 P.2.1 0)) := fun b hb c hcc => by rw [up2_row (by omega)]; exact hI.2.1 b hb c hcc
                refine X_callVrV dX4_learn_185 mkX4_49 (k_77 hSh) (c_deal Γ g (up2 y 77 5 (gtR (vP P) P.2.1 P.1 P.2.1 0)) ml hSh P hP hd1 hd2 hd3) rfl rfl (by decide) (Nat.le_of_ble_eq_true rfl) (fun m5 l5 h5 => ?_)
                refine X_aload_n dX4_learn_188 rfl ?_
                refine X_iconst (v := nI 1) dX4_learn_189 (by decide) ?_
                refine X_putz dX4_learn_190 fkX4_25 rfl (by first | exact Or.inl rfl | exact Or.inr rfl | assumption) rfl (k_77 hSh) ?_
                exact X_vret dX4_learn_193 rfl ⟨rfl, rfl, frG_u (frG_t (frG_u hI.1 (by omega)) h5.1) (by omega), ⟨fun b hb c hcc => by rw [up2_row (by omega)]; exact h5.2.1 b hb c hcc, by rw [up2_n (by omega), h5.2.2.1 77 (by omega)]; exact up2_s, fun b hb => by rw [up2_row (by omega)]; exact h5.2.2.2.1 b hb⟩, up2_s, h5.2.2.2.2⟩
              · exact absurd (by decide : (-1 : Int32) < 0) h_11
          · exact absurd h_7 (by omega)
      · exact absurd h_5 (by omega)
  · exact absurd rfl h_1
set_option maxRecDepth 100000 in
set_option maxHeartbeats 4000000 in
theorem c_learn1 (Γ : pTG) (g : pGG) (mi : pMI) (ml : pML) (hSh : Sh g) (P : PD) (hl : mi 77 4 = nI 1) (hk : GOK P mi) : rV Γ 3 mX4_learn [.ref 77] g mi ml (fun m l => frG mi m ∧ GOK P m ∧ m 77 4 = nI 1 ∧ l = ml) := by
  refine rV_of (by decide +kernel) (Nat.le_of_ble_eq_true rfl) ?_
  refine X_aload_n dX4_learn_0 rfl ?_
  refine X_geti dX4_learn_1 fkX4_25 rfl (k_77 hSh) ?_
  rw [hl]
  refine X_if_eqN (a := 1) 8 dX4_learn_4 (by decide) (by omega) (fun h_1 => ?_) (fun h_1 => ?_)
  · exact absurd h_1 (by omega)
  · exact X_vret dX4_learn_7 rfl ⟨rfl, rfl, frG_r, hk, hl, rfl⟩
theorem c_learn (Γ : pTG) (g : pGG) (mi : pMI) (ml : pML) (hSh : Sh g) (P : PD) (hP : okPD P) (hc : clP mi P) (hk : mi 77 4 = nI 0 ∨ (mi 77 4 = nI 1 ∧ GOK P mi)) : rV Γ 3 mX4_learn [.ref 77] g mi ml (fun m l => frG mi m ∧ GOK P m ∧ m 77 4 = nI 1 ∧ l = ml) := by
  rcases hk with h | ⟨h1, h2⟩
  · exact c_learn0 Γ g mi ml hSh P hP hc h
  · exact c_learn1 Γ g mi ml hSh P h1 h2

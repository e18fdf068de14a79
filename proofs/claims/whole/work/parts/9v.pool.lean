/-! ===== pool ===== -/
def SND (P : PD) (m x : pMI) : Prop := rfP x P ∧ (∀ b, b < 8 → x 129 b = nI 0 ∧ x 193 b = nI 0) ∧ x 87 28 = nI 0 ∧ x 87 29 = nI 0 ∧ x 87 30 = nI 0 ∧ x 87 31 = nI 0 ∧ (∀ j, j < 28 ∨ 31 < j → x 87 j = m 87 j) ∧ ∀ i, i ≠ 87 → i ≠ 91 → ¬ (102 ≤ i ∧ i ≤ 109) → ¬ (121 ≤ i ∧ i ≤ 129) → i ≠ 193 → x i = m i
set_option maxRecDepth 100000 in
set_option maxHeartbeats 4000000 in
theorem c_stands (Γ : pTG) (g : pGG) (mi : pMI) (ml : pML) (hSh : Sh g) (P : PD) (hP : okPD P) (hr : rdP mi P) : rV Γ 1 mX12_stands [.ref 87] g mi ml (fun m l => SND P mi m ∧ l = ml) := by
  refine rV_of (by decide +kernel) (Nat.le_of_ble_eq_true rfl) ?_
  have hC8 := hP.1
  have hG8 := hP.2.1
  refine X_iconst (v := nI 0) dX12_stands_0 (by decide) ?_
  refine X_istore_n dX12_stands_1 (by decide) ?_
  refine X_L [(1, .int (nI 0)), (0, .ref 87)] ⟨rfl, rfl, trivial⟩ ?_
  refine X_forR (σ := pMI) 2 (fun i y => [(1, .int (nI i)), (0, .ref 87)]) (fun y => y) (fun y => ml) (fun i y => (∀ q, q < i → y 91 q = mi 90 q) ∧ ∀ a, a ≠ 91 → y a = mi a) 5 ?_ ?_ 5 0 mi (by omega) ⟨fun q hq => absurd hq (by omega), fun _ _ => rfl⟩
  · intro i y hi hI hn
    refine X_iload_n dX12_stands_2 rfl ?_
    refine X_iconst (v := nI 5) dX12_stands_3 (by decide) ?_
    refine X_icmp_geN (a := i) (b := 5) 25 dX12_stands_4 (by decide) (by omega) (by omega) (fun h_1 => ?_) (fun h_1 => ?_)
    · exact absurd hi (by omega)
    · refine X_aload_n dX12_stands_7 rfl ?_
      refine X_getr (a := 91) dX12_stands_8 fkX12_23 rfl (k_87 hSh) (r_87_12 hSh) ?_
      refine X_iload_n dX12_stands_11 rfl ?_
      refine X_aload_n dX12_stands_12 rfl ?_
      refine X_getr (a := 90) dX12_stands_13 fkX12_20 rfl (k_87 hSh) (r_87_11 hSh) ?_
      refine X_iload_n dX12_stands_16 rfl ?_
      refine X_iald i dX12_stands_17 (k_90 hSh) rfl (by omega) ?_
      refine X_iast i dX12_stands_18 (k_91 hSh) rfl (by omega) ?_
      refine X_iinc (v := nI (i + 1)) dX12_stands_19 rfl (nI_1 _) (by decide) ?_
      refine X_goto 2 dX12_stands_22 (by decide) ?_
      refine X_L [(1, .int (nI (i + 1))), (0, .ref 87)] ⟨rfl, rfl, trivial⟩ ?_
      refine hn _ ⟨fun q hq => ?_, fun a ha => (up2_row ha).trans (hI.2 a ha)⟩
      by_cases z : q = i
      · subst z; rw [up2_s]; exact congrFun (hI.2 90 (by omega)) q
      · rw [up2_n z]; exact hI.1 q (by omega)
  · intro y hI
    have h91 : y 91 0 = nI P.1 := (hI.1 0 (by omega)).trans hr.1
    refine X_iload_n dX12_stands_2 rfl ?_
    refine X_iconst (v := nI 5) dX12_stands_3 (by decide) ?_
    refine X_icmp_geN (a := 5) (b := 5) 25 dX12_stands_4 (by decide) (by omega) (by omega) (fun h_2 => ?_) (fun h_2 => ?_)
    · refine X_iconst (v := nI 0) dX12_stands_25 (by decide) ?_
      refine X_istore_n dX12_stands_26 (by decide) ?_
      refine X_L [(1, .int (nI 0)), (0, .ref 87)] ⟨rfl, rfl, trivial⟩ ?_
      refine X_forR (σ := pMI) 27 (fun i y => [(1, .int (nI i)), (0, .ref 87)]) (fun y => y) (fun y => ml) (fun i y => (∀ i, i < 5 → y 91 i = mi 90 i) ∧ (∀ c, c < i → ∀ j, j < 2 → y (102 + c) j = mi (93 + c) j) ∧ (∀ a, a ≠ 91 → ¬ (102 ≤ a ∧ a ≤ 109) → y a = mi a)) P.1 ?_ ?_ P.1 0 y (by omega) ⟨fun q hq => hI.1 q hq, fun c hc => absurd hc (by omega), fun a h1 _ => hI.2 a h1⟩
      · intro i y hi hI hn
        have h91 : y 91 0 = nI P.1 := (hI.1 0 (by omega)).trans hr.1
        refine X_iload_n dX12_stands_27 rfl ?_
        refine X_aload_n dX12_stands_28 rfl ?_
        refine X_getr (a := 91) dX12_stands_29 fkX12_23 rfl (k_87 hSh) (r_87_12 hSh) ?_
        refine X_iconst (v := nI 0) dX12_stands_32 (by decide) ?_
        refine X_iald 0 dX12_stands_33 (k_91 hSh) rfl (by omega) ?_
        rw [h91]
        refine X_icmp_geN (a := i) (b := P.1) 72 dX12_stands_34 (by decide) (by omega) (by omega) (fun h_3 => ?_) (fun h_3 => ?_)
        · exact absurd hi (by omega)
        · refine X_iconst (v := nI 0) dX12_stands_37 (by decide) ?_
          refine X_istore_n dX12_stands_38 (by decide) ?_
          refine X_L [(2, .int (nI 0)), (1, .int (nI i)), (0, .ref 87)] ⟨rfl, rfl, rfl, trivial⟩ ?_
          refine X_forR (σ := pMI) 39 (fun j z => [(2, .int (nI j)), (1, .int (nI i)), (0, .ref 87)]) (fun z => z) (fun z => ml) (fun j z => (∀ i, i < 5 → z 91 i = mi 90 i) ∧ (∀ c, c < i → ∀ j, j < 2 → z (102 + c) j = mi (93 + c) j) ∧ (∀ k, k < j → z (102 + i) k = mi (93 + i) k) ∧ (∀ a, a ≠ 91 → ¬ (102 ≤ a ∧ a ≤ 109) → z a = mi a)) 2 ?_ ?_ 2 0 y (by omega) ⟨hI.1, hI.2.1, fun k hk => absurd hk (by omega), hI.2.2⟩
          · intro j z hj hJ hn2
            refine X_iload_n dX12_stands_39 rfl ?_
            refine X_iconst (v := nI 2) dX12_stands_40 (by decide) ?_
            refine X_icmp_geN (a := j) (b := 2) 66 dX12_stands_41 (by decide) (by omega) (by omega) (fun h_4 => ?_) (fun h_4 => ?_)
            · exact absurd hj (by omega)
            · refine X_aload_n dX12_stands_44 rfl ?_
              refine X_getr (a := 101) dX12_stands_45 fkX12_31 rfl (k_87 hSh) (r_87_14 hSh) ?_
              refine X_iload_n dX12_stands_48 rfl ?_
              refine X_aaldr (b := 102 + i) i dX12_stands_49 (k_101 hSh) rfl (by omega) (o_101 hSh i (by omega)) ?_
              refine X_iload_n dX12_stands_50 rfl ?_
              refine X_aload_n dX12_stands_51 rfl ?_
              refine X_getr (a := 92) dX12_stands_52 fkX12_28 rfl (k_87 hSh) (r_87_13 hSh) ?_
              refine X_iload_n dX12_stands_55 rfl ?_
              refine X_aaldr (b := 93 + i) i dX12_stands_56 (k_92 hSh) rfl (by omega) (o_92 hSh i (by omega)) ?_
              refine X_iload_n dX12_stands_57 rfl ?_
              refine X_iald j dX12_stands_58 (kr_92 hSh i (by omega)) rfl (by omega) ?_
              refine X_iast j dX12_stands_59 (kr_101 hSh i (by omega)) rfl (by omega) ?_
              refine X_iinc (v := nI (j + 1)) dX12_stands_60 rfl (nI_1 _) (by decide) ?_
              refine X_goto 39 dX12_stands_63 (by decide) ?_
              refine X_L [(2, .int (nI (j + 1))), (1, .int (nI i)), (0, .ref 87)] ⟨rfl, rfl, rfl, trivial⟩ ?_
              refine hn2 _ ⟨?_, ?_, fun k hk => ?_, ?_⟩
              · intro q hq; rw [up2_row (by omega)]; exact hJ.1 q hq
              · intro c hc j' hj'; rw [up2_row (by omega)]; exact hJ.2.1 c hc j' hj'
              · by_cases z : k = j
                · subst z; rw [up2_s]; exact congrFun (hJ.2.2.2 (93 + i) (by omega) (by omega)) k
                · rw [up2_n z]; exact hJ.2.2.1 k (by omega)
              · intro a h1 h2; rw [up2_row (by omega)]; exact hJ.2.2.2 a h1 h2
          · intro z hJ
            refine X_iload_n dX12_stands_39 rfl ?_
            refine X_iconst (v := nI 2) dX12_stands_40 (by decide) ?_
            refine X_icmp_geN (a := 2) (b := 2) 66 dX12_stands_41 (by decide) (by omega) (by omega) (fun h_5 => ?_) (fun h_5 => ?_)
            · refine X_iinc (v := nI (i + 1)) dX12_stands_66 rfl (nI_1 _) (by decide) ?_
              refine X_goto 27 dX12_stands_69 (by decide) ?_
              refine X_L [(1, .int (nI (i + 1))), (0, .ref 87)] ⟨rfl, rfl, trivial⟩ ?_
              refine hn z ⟨hJ.1, fun c hc j' hj' => ?_, hJ.2.2.2⟩
              by_cases q : c = i
              · subst q; exact hJ.2.2.1 j' hj'
              · exact hJ.2.1 c (by omega) j' hj'
            · exact absurd h_5 (by omega)
      · intro y hI
        have h91 : y 91 0 = nI P.1 := (hI.1 0 (by omega)).trans hr.1
        refine X_iload_n dX12_stands_27 rfl ?_
        refine X_aload_n dX12_stands_28 rfl ?_
        refine X_getr (a := 91) dX12_stands_29 fkX12_23 rfl (k_87 hSh) (r_87_12 hSh) ?_
        refine X_iconst (v := nI 0) dX12_stands_32 (by decide) ?_
        refine X_iald 0 dX12_stands_33 (k_91 hSh) rfl (by omega) ?_
        rw [h91]
        refine X_icmp_geN (a := P.1) (b := P.1) 72 dX12_stands_34 (by decide) (by omega) (by omega) (fun h_6 => ?_) (fun h_6 => ?_)
        · refine X_iconst (v := nI 0) dX12_stands_72 (by decide) ?_
          refine X_istore_n dX12_stands_73 (by decide) ?_
          refine X_L [(1, .int (nI 0)), (0, .ref 87)] ⟨rfl, rfl, trivial⟩ ?_
          refine X_forR (σ := pMI) 74 (fun i y => [(1, .int (nI i)), (0, .ref 87)]) (fun y => y) (fun y => ml) (fun i y => (∀ i, i < 5 → y 91 i = mi 90 i) ∧ (∀ c, c < P.1 → ∀ j, j < 2 → y (102 + c) j = mi (93 + c) j) ∧ (∀ b, b < i → (b < P.2.1 → ∀ j, j < 4 → y (121 + b) j = mi (112 + b) j) ∧ y 129 b = nI 0 ∧ y 193 b = nI 0) ∧ (∀ a, a ≠ 91 → ¬ (102 ≤ a ∧ a ≤ 109) → ¬ (121 ≤ a ∧ a ≤ 129) → a ≠ 193 → y a = mi a)) 8 ?_ ?_ 8 0 y (by omega) ⟨hI.1, hI.2.1, fun b hb => absurd hb (by omega), fun a h1 h2 _ _ => hI.2.2 a h1 h2⟩
          · intro i y hi hI hn
            refine X_iload_n dX12_stands_74 rfl ?_
            refine X_bipush (v := nI 8) dX12_stands_75 (by decide) ?_
            refine X_icmp_geN (a := i) (b := 8) 139 dX12_stands_77 (by decide) (by omega) (by omega) (fun h_7 => ?_) (fun h_7 => ?_)
            · exact absurd hi (by omega)
            · refine X_iconst (v := nI 0) dX12_stands_80 (by decide) ?_
              refine X_istore_n dX12_stands_81 (by decide) ?_
              refine X_L [(2, .int (nI 0)), (1, .int (nI i)), (0, .ref 87)] ⟨rfl, rfl, rfl, trivial⟩ ?_
              by_cases hbG : i < P.2.1
              · skip
                refine X_forR (σ := pMI) 82 (fun j z => [(2, .int (nI j)), (1, .int (nI i)), (0, .ref 87)]) (fun z => z) (fun z => ml) (fun j z => (∀ i, i < 5 → z 91 i = mi 90 i) ∧ (∀ c, c < P.1 → ∀ j, j < 2 → z (102 + c) j = mi (93 + c) j) ∧ (∀ b, b < i → (b < P.2.1 → ∀ j, j < 4 → z (121 + b) j = mi (112 + b) j) ∧ z 129 b = nI 0 ∧ z 193 b = nI 0) ∧ (∀ k, k < j → z (121 + i) k = mi (112 + i) k) ∧ (∀ a, a ≠ 91 → ¬ (102 ≤ a ∧ a ≤ 109) → ¬ (121 ≤ a ∧ a ≤ 129) → a ≠ 193 → z a = mi a)) 4 ?_ ?_ 4 0 y (by omega) ⟨hI.1, hI.2.1, hI.2.2.1, fun k hk => absurd hk (by omega), hI.2.2.2⟩
                · intro j z hj hJ hn2
                  have h911 : z 91 1 = nI P.2.1 := (hJ.1 1 (by omega)).trans hr.2.1
                  refine X_iload_n dX12_stands_82 rfl ?_
                  refine X_iconst (v := nI 4) dX12_stands_83 (by decide) ?_
                  refine X_icmp_geN (a := j) (b := 4) 119 dX12_stands_84 (by decide) (by omega) (by omega) (fun h_8 => ?_) (fun h_8 => ?_)
                  · exact absurd h_8 (by omega)
                  · refine X_iload_n dX12_stands_87 rfl ?_
                    refine X_aload_n dX12_stands_88 rfl ?_
                    refine X_getr (a := 91) dX12_stands_89 fkX12_23 rfl (k_87 hSh) (r_87_12 hSh) ?_
                    refine X_iconst (v := nI 1) dX12_stands_92 (by decide) ?_
                    refine X_iald 1 dX12_stands_93 (k_91 hSh) rfl (by omega) ?_
                    rw [h911]
                    refine X_icmp_geN (a := i) (b := P.2.1) 119 dX12_stands_94 (by decide) (by omega) (by omega) (fun h_9 => ?_) (fun h_9 => ?_)
                    · exact absurd h_9 (by omega)
                    · refine X_aload_n dX12_stands_97 rfl ?_
                      refine X_getr (a := 120) dX12_stands_98 fkX12_37 rfl (k_87 hSh) (r_87_16 hSh) ?_
                      refine X_iload_n dX12_stands_101 rfl ?_
                      refine X_aaldr (b := 121 + i) i dX12_stands_102 (k_120 hSh) rfl (by omega) (o_120 hSh i (by omega)) ?_
                      refine X_iload_n dX12_stands_103 rfl ?_
                      refine X_aload_n dX12_stands_104 rfl ?_
                      refine X_getr (a := 111) dX12_stands_105 fkX12_34 rfl (k_87 hSh) (r_87_15 hSh) ?_
                      refine X_iload_n dX12_stands_108 rfl ?_
                      refine X_aaldr (b := 112 + i) i dX12_stands_109 (k_111 hSh) rfl (by omega) (o_111 hSh i (by omega)) ?_
                      refine X_iload_n dX12_stands_110 rfl ?_
                      refine X_iald j dX12_stands_111 (kr_111 hSh i (by omega)) rfl (by omega) ?_
                      refine X_iast j dX12_stands_112 (kr_120 hSh i (by omega)) rfl (by omega) ?_
                      refine X_iinc (v := nI (j + 1)) dX12_stands_113 rfl (nI_1 _) (by decide) ?_
                      refine X_goto 82 dX12_stands_116 (by decide) ?_
                      refine X_L [(2, .int (nI (j + 1))), (1, .int (nI i)), (0, .ref 87)] ⟨rfl, rfl, rfl, trivial⟩ ?_
                      refine hn2 _ ⟨?_, ?_, ?_, fun k hk => ?_, ?_⟩
                      · intro q hq; rw [up2_row (by omega)]; exact hJ.1 q hq
                      · intro c hc j' hj'; rw [up2_row (by omega)]; exact hJ.2.1 c hc j' hj'
                      · intro b hb; have h9 := hJ.2.2.1 b hb; exact ⟨fun hbG j' hj' => by rw [up2_row (by omega)]; exact h9.1 hbG j' hj', by rw [up2_row (by omega)]; exact h9.2.1, by rw [up2_row (by omega)]; exact h9.2.2⟩
                      · by_cases z0 : k = j
                        · subst z0; rw [up2_s]; exact congrFun (hJ.2.2.2.2 (112 + i) (by omega) (by omega) (by omega) (by omega)) k
                        · rw [up2_n z0]; exact hJ.2.2.2.1 k (by omega)
                      · intro a h1 h2 h3 h4; rw [up2_row (by omega)]; exact hJ.2.2.2.2 a h1 h2 h3 h4
                · intro z hJ
                  refine X_iload_n dX12_stands_82 rfl ?_
                  refine X_iconst (v := nI 4) dX12_stands_83 (by decide) ?_
                  refine X_icmp_geN (a := 4) (b := 4) 119 dX12_stands_84 (by decide) (by omega) (by omega) (fun h_10 => ?_) (fun h_10 => ?_)
                  · refine X_aload_n dX12_stands_119 rfl ?_
                    refine X_getr (a := 129) dX12_stands_120 fkX12_40 rfl (k_87 hSh) (r_87_17 hSh) ?_
                    refine X_iload_n dX12_stands_123 rfl ?_
                    refine X_iconst (v := nI 0) dX12_stands_124 (by decide) ?_
                    refine X_iast i dX12_stands_125 (k_129 hSh) rfl (by omega) ?_
                    refine X_aload_n dX12_stands_126 rfl ?_
                    refine X_getr (a := 193) dX12_stands_127 fkX12_67 rfl (k_87 hSh) (r_87_26 hSh) ?_
                    refine X_iload_n dX12_stands_130 rfl ?_
                    refine X_iconst (v := nI 0) dX12_stands_131 (by decide) ?_
                    refine X_zast i dX12_stands_132 (k_193 hSh) (by first | exact Or.inl rfl | exact Or.inr rfl | assumption) rfl (by omega) ?_
                    refine X_iinc (v := nI (i + 1)) dX12_stands_133 rfl (nI_1 _) (by decide) ?_
                    refine X_goto 74 dX12_stands_136 (by decide) ?_
                    refine X_L [(1, .int (nI (i + 1))), (0, .ref 87)] ⟨rfl, rfl, trivial⟩ ?_
                    refine hn _ ⟨?_, ?_, fun b hb => ?_, ?_⟩
                    · intro q hq; rw [up2_row (by omega), up2_row (by omega)]; exact hJ.1 q hq
                    · intro c hc j' hj'; rw [up2_row (by omega), up2_row (by omega)]; exact hJ.2.1 c hc j' hj'
                    · by_cases q : b = i
                      · subst q
                        exact ⟨fun _ j' hj' => by rw [up2_row (by omega), up2_row (by omega)]; exact hJ.2.2.2.1 j' hj', by rw [up2_row (by omega), up2_s], up2_s⟩
                      · have h9 := hJ.2.2.1 b (by omega)
                        exact ⟨fun z9 j' hj' => by rw [up2_row (by omega), up2_row (by omega)]; exact h9.1 z9 j' hj', by rw [up2_row (by omega), up2_n q]; exact h9.2.1, by rw [up2_n q, up2_row (by omega)]; exact h9.2.2⟩
                    · intro a h1 h2 h3 h4; rw [up2_row (by omega), up2_row (by omega)]; exact hJ.2.2.2.2 a h1 h2 h3 h4
                  · exact absurd h_10 (by omega)
              · have h911 : y 91 1 = nI P.2.1 := (hI.1 1 (by omega)).trans hr.2.1
                refine X_iload_n dX12_stands_82 rfl ?_
                refine X_iconst (v := nI 4) dX12_stands_83 (by decide) ?_
                refine X_icmp_geN (a := 0) (b := 4) 119 dX12_stands_84 (by decide) (by omega) (by omega) (fun h_11 => ?_) (fun h_11 => ?_)
                · exact absurd h_11 (by omega)
                · refine X_iload_n dX12_stands_87 rfl ?_
                  refine X_aload_n dX12_stands_88 rfl ?_
                  refine X_getr (a := 91) dX12_stands_89 fkX12_23 rfl (k_87 hSh) (r_87_12 hSh) ?_
                  refine X_iconst (v := nI 1) dX12_stands_92 (by decide) ?_
                  refine X_iald 1 dX12_stands_93 (k_91 hSh) rfl (by omega) ?_
                  rw [h911]
                  refine X_icmp_geN (a := i) (b := P.2.1) 119 dX12_stands_94 (by decide) (by omega) (by omega) (fun h_12 => ?_) (fun h_12 => ?_)
                  · refine X_aload_n dX12_stands_119 rfl ?_
                    refine X_getr (a := 129) dX12_stands_120 fkX12_40 rfl (k_87 hSh) (r_87_17 hSh) ?_
                    refine X_iload_n dX12_stands_123 rfl ?_
                    refine X_iconst (v := nI 0) dX12_stands_124 (by decide) ?_
                    refine X_iast i dX12_stands_125 (k_129 hSh) rfl (by omega) ?_
                    refine X_aload_n dX12_stands_126 rfl ?_
                    refine X_getr (a := 193) dX12_stands_127 fkX12_67 rfl (k_87 hSh) (r_87_26 hSh) ?_
                    refine X_iload_n dX12_stands_130 rfl ?_
                    refine X_iconst (v := nI 0) dX12_stands_131 (by decide) ?_
                    refine X_zast i dX12_stands_132 (k_193 hSh) (by first | exact Or.inl rfl | exact Or.inr rfl | assumption) rfl (by omega) ?_
                    refine X_iinc (v := nI (i + 1)) dX12_stands_133 rfl (nI_1 _) (by decide) ?_
                    refine X_goto 74 dX12_stands_136 (by decide) ?_
                    refine X_L [(1, .int (nI (i + 1))), (0, .ref 87)] ⟨rfl, rfl, trivial⟩ ?_
                    refine hn _ ⟨?_, ?_, fun b hb => ?_, ?_⟩
                    · intro q hq; rw [up2_row (by omega), up2_row (by omega)]; exact hI.1 q hq
                    · intro c hc j' hj'; rw [up2_row (by omega), up2_row (by omega)]; exact hI.2.1 c hc j' hj'
                    · by_cases q : b = i
                      · subst q
                        exact ⟨fun z9 => absurd z9 hbG, by rw [up2_row (by omega), up2_s], up2_s⟩
                      · have h9 := hI.2.2.1 b (by omega)
                        exact ⟨fun z9 j' hj' => by rw [up2_row (by omega), up2_row (by omega)]; exact h9.1 z9 j' hj', by rw [up2_row (by omega), up2_n q]; exact h9.2.1, by rw [up2_n q, up2_row (by omega)]; exact h9.2.2⟩
                    · intro a h1 h2 h3 h4; rw [up2_row (by omega), up2_row (by omega)]; exact hI.2.2.2 a h1 h2 h3 h4
                  · exact absurd h_12 (by omega)
          · intro y hI
            refine X_iload_n dX12_stands_74 rfl ?_
            refine X_bipush (v := nI 8) dX12_stands_75 (by decide) ?_
            refine X_icmp_geN (a := 8) (b := 8) 139 dX12_stands_77 (by decide) (by omega) (by omega) (fun h_13 => ?_) (fun h_13 => ?_)
            · refine X_aload_n dX12_stands_139 rfl ?_
              refine X_iconst (v := nI 0) dX12_stands_140 (by decide) ?_
              refine X_puti dX12_stands_141 fkX12_241 rfl rfl (k_87 hSh) ?_
              refine X_aload_n dX12_stands_144 rfl ?_
              refine X_iconst (v := nI 0) dX12_stands_145 (by decide) ?_
              refine X_puti dX12_stands_146 fkX12_244 rfl rfl (k_87 hSh) ?_
              refine X_aload_n dX12_stands_149 rfl ?_
              refine X_iconst (v := nI 0) dX12_stands_150 (by decide) ?_
              refine X_puti dX12_stands_151 fkX12_247 rfl rfl (k_87 hSh) ?_
              refine X_aload_n dX12_stands_154 rfl ?_
              refine X_iconst (v := nI 0) dX12_stands_155 (by decide) ?_
              refine X_puti dX12_stands_156 fkX12_250 rfl rfl (k_87 hSh) ?_
              exact X_vret dX12_stands_159 rfl ⟨rfl, rfl, ⟨⟨by rw [up2_row (by omega), up2_row (by omega), up2_row (by omega), up2_row (by omega)]; exact (hI.1 0 (by omega)).trans hr.1, by rw [up2_row (by omega), up2_row (by omega), up2_row (by omega), up2_row (by omega)]; exact (hI.1 1 (by omega)).trans hr.2.1, by rw [up2_row (by omega), up2_row (by omega), up2_row (by omega), up2_row (by omega)]; exact (hI.1 2 (by omega)).trans hr.2.2.1, by rw [up2_row (by omega), up2_row (by omega), up2_row (by omega), up2_row (by omega)]; exact (hI.1 3 (by omega)).trans hr.2.2.2.1, by rw [up2_row (by omega), up2_row (by omega), up2_row (by omega), up2_row (by omega)]; exact (hI.1 4 (by omega)).trans hr.2.2.2.2.1, fun c hc => ⟨by rw [up2_row (by omega), up2_row (by omega), up2_row (by omega), up2_row (by omega)]; exact (hI.2.1 c hc 0 (by omega)).trans (hr.2.2.2.2.2.1 c hc).1, by rw [up2_row (by omega), up2_row (by omega), up2_row (by omega), up2_row (by omega)]; exact (hI.2.1 c hc 1 (by omega)).trans (hr.2.2.2.2.2.1 c hc).2⟩, fun b hb => ⟨by rw [up2_row (by omega), up2_row (by omega), up2_row (by omega), up2_row (by omega)]; exact ((hI.2.2.1 b (by omega)).1 hb 0 (by omega)).trans (hr.2.2.2.2.2.2 b hb).1, by rw [up2_row (by omega), up2_row (by omega), up2_row (by omega), up2_row (by omega)]; exact ((hI.2.2.1 b (by omega)).1 hb 1 (by omega)).trans (hr.2.2.2.2.2.2 b hb).2.1, by rw [up2_row (by omega), up2_row (by omega), up2_row (by omega), up2_row (by omega)]; exact ((hI.2.2.1 b (by omega)).1 hb 2 (by omega)).trans (hr.2.2.2.2.2.2 b hb).2.2.1, by rw [up2_row (by omega), up2_row (by omega), up2_row (by omega), up2_row (by omega)]; exact ((hI.2.2.1 b (by omega)).1 hb 3 (by omega)).trans (hr.2.2.2.2.2.2 b hb).2.2.2⟩⟩, fun b hb => ⟨by rw [up2_row (by omega), up2_row (by omega), up2_row (by omega), up2_row (by omega)]; exact (hI.2.2.1 b hb).2.1, by rw [up2_row (by omega), up2_row (by omega), up2_row (by omega), up2_row (by omega)]; exact (hI.2.2.1 b hb).2.2⟩, by rw [up2_n (by omega), up2_n (by omega), up2_n (by omega), up2_s], by rw [up2_n (by omega), up2_n (by omega), up2_s], by rw [up2_n (by omega), up2_s], up2_s, fun j hj => by rw [up2_n (by omega), up2_n (by omega), up2_n (by omega), up2_n (by omega)]; exact congrFun (hI.2.2.2 87 (by omega) (by omega) (by omega) (by omega)) j, fun a h0 h1 h2 h3 h4 => by rw [up2_row h0, up2_row h0, up2_row h0, up2_row h0]; exact hI.2.2.2 a h1 h2 h3 h4⟩, rfl⟩
            · exact absurd h_13 (by omega)
        · exact absurd h_6 (by omega)
    · exact absurd h_2 (by omega)
def plA (A : AS) (P : PD) : AS := (P, H00, fun _ => false, (0, aB A), 0, (0, aC A), (0, aI A), (0, aT A), -1, aR A)
theorem ok_pl {A : AS} {P : PD} (hP : okPD P) : okAS (plA A P) := ⟨hP, ok_H00, ok_A00, ⟨by show 0 ≤ 12; omega, fun k hk => absurd hk (by show ¬ k < 0; omega)⟩, by show 0 < 200; omega, by show 0 ≤ 20; omega, fun k hk => absurd hk (by show ¬ k < 0; omega), by show 0 ≤ 3; omega, fun k hk => absurd hk (by show ¬ k < 0; omega), by show 0 ≤ 600; omega, fun k hk => absurd hk (by show ¬ k < 0; omega)⟩
theorem mkB_f0 : mkB (fun _ => false) = nI 0 := by decide +kernel
theorem ok_P00 : okPD P00 := ⟨by show 0 ≤ 8; omega, by show 0 ≤ 8; omega, by show 0 < 24; omega, by show 1 ≤ 2; omega, by show 2 < 24; omega, by show 0 < 100; omega, fun c hc => absurd hc (by show ¬ c < 0; omega), fun b hb => absurd hb (by show ¬ b < 0; omega)⟩
set_option maxRecDepth 100000 in
set_option maxHeartbeats 4000000 in
theorem k_pool_f0 (Γ : pTG) (g : pGG) (mi : pMI) (ml : pML) (A : AS) (hA : okAS A) (hC : CI A g mi ml) (w : Int32) (hf : ¬ (nI 0 ≤ w ∧ w ≤ nI (aTn A))) : CT Γ 60 20 5000 mX11_pool [.ref 0, .int w] g mi ml (CQ (rfA A 1) (.inr 1) mi ml) := by
  refine CT_of (by decide +kernel) (Nat.le_of_ble_eq_true rfl) ?_
  have hSh := CI_Sh hC
  have hcl := CI_cl hC
  have hP := hA.1
  have hG8 : aG A ≤ 8 := hP.2.1
  have hC8 : (aP A).1 ≤ 8 := hP.1
  have hT6 := hA.2.2.2.2.2.2.2.2.2.1
  refine X_aload_n dX11_pool_0 rfl ?_
  refine X_iload_n dX11_pool_1 rfl ?_
  refine X_iconst (v := nI 0) dX11_pool_2 (by decide) ?_
  refine X_aload_n dX11_pool_3 rfl ?_
  refine X_geti dX11_pool_4 fkX11_108 rfl (k_0 hSh) ?_
  rw [(CI_k hC).2.2.2.2.1.1]
  exact X_need dX11_pool_7 mkX11_116 (k_0 hSh) (c_needWithin Γ g mi ml hSh w (nI 0) (nI (aTn A))) rfl rfl (by decide) (by decide) (by decide) (by decide) (fun _ => ⟨rfl, CI_rf (by decide) hC, frK_86, rfl⟩) (fun h => absurd h hf)
set_option maxRecDepth 100000 in
set_option maxHeartbeats 4000000 in
theorem r_pool_f0 (Γ : pTG) (g : pGG) (mi : pMI) (ml : pML) (A : AS) (hA : okAS A) (hSh : Sh g) (hR : RI A mi) (w : Int32) (hf : ¬ (nI 0 ≤ w ∧ w ≤ nI (aTn A))) : CT Γ 60 0 0 mX12_pool [.ref 87, .int w] g mi ml (RQ (rfA A 1) (.inr 1) cd1 g mi ml) := by
  refine CT_of (by decide +kernel) (Nat.le_of_ble_eq_true rfl) ?_
  have hP := hA.1
  have hG8 : aG A ≤ 8 := hP.2.1
  have hC8 : (aP A).1 ≤ 8 := hP.1
  have hT6 := hA.2.2.2.2.2.2.2.2.2.1
  refine X_aload_n dX12_pool_0 rfl ?_
  refine X_iconst (v := nI 0) dX12_pool_1 (by decide) ?_
  refine X_puti dX12_pool_2 fkX12_158 rfl rfl (k_87 hSh) ?_
  refine X_aload_n dX12_pool_5 rfl ?_
  refine X_iload_n dX12_pool_6 rfl ?_
  refine X_iconst (v := nI 0) dX12_pool_7 (by decide) ?_
  refine X_aload_n dX12_pool_8 rfl ?_
  refine X_geti dX12_pool_9 fkX12_161 rfl (k_87 hSh) ?_
  refine X_topi (show (up2 mi 87 0 (nI 0)) 87 1 = nI (aTn A) by rw [up2_n (by omega)]; exact hR.2.2.2.2.2.2.2.1.1) ?_
  refine X_callSI dX12_pool_12 mkX12_192 (c_in Γ g (up2 mi 87 0 (nI 0)) ml w (nI 0) (nI (aTn A))) rfl rfl (by decide) (Nat.le_of_ble_eq_true rfl) ?_
  refine X_topi (show bI (decide (nI 0 ≤ w) && decide (w ≤ nI (aTn A))) = nI 0 from congrArg bI (show (decide (nI 0 ≤ w) && decide (w ≤ nI (aTn A))) = false from Bool.eq_false_iff.mpr (fun q => hf (by rw [Bool.and_eq_true, decide_eq_true_eq, decide_eq_true_eq] at q; exact q)))) ?_
  refine X_if_neN (a := 0) 22 dX12_pool_15 (by decide) (by omega) (fun h_1 => ?_) (fun h_1 => ?_)
  · exact absurd h_1 (by omega)
  · refine X_iconst (v := nI 1) dX12_pool_18 (by decide) ?_
    refine X_goto 23 dX12_pool_19 (by decide) ?_
    refine X_iconst (v := nI 1) dX12_pool_23 (by decide) ?_
    refine X_iconst (v := nI 1) dX12_pool_24 (by decide) ?_
    refine X_callVI dX12_pool_25 mkX12_228 (k_87 hSh) (c_bad1 Γ g (up2 mi 87 0 (nI 0)) ml hSh 1 1 (by decide) (by decide) (by decide) up2_s) rfl rfl (by decide) (Nat.le_of_ble_eq_true rfl) ?_
    refine X_mi (show _ = mB mi 1 1 from rfl) ?_
    refine X_if_eqN (a := 1) 33 dX12_pool_28 (by decide) (by omega) (fun h_2 => ?_) (fun h_2 => ?_)
    · exact absurd h_2 (by omega)
    · refine X_iconst (v := nI 0) dX12_pool_31 (by decide) ?_
      exact X_iret dX12_pool_32 rfl ⟨rfl, rfl, RI_rf hA (by decide) hR, fr2_B, _, rfl, mB_0⟩
set_option maxRecDepth 100000 in
set_option maxHeartbeats 4000000 in
theorem k_pool_e (Γ : pTG) (g : pGG) (mi : pMI) (ml : pML) (A : AS) (hA : okAS A) (hC : CI A g mi ml) (k : Nat) (hka : 0 ≤ k) (hk : k ≤ (aTn A)) (c1 p1 : Nat) (hr : plR (aT A) k 61 0 0 P00 = .error (c1, p1)) : CT Γ 60 20 5000 mX11_pool [.ref 0, .int (nI k)] g mi ml (CQ (tbA A (aBn A, aB A) (nI p1)) (.inl (nI c1 - nI 10)) mi ml) := by
  refine CT_of (by decide +kernel) (Nat.le_of_ble_eq_true rfl) ?_
  have hSh := CI_Sh hC
  have hcl := CI_cl hC
  have hP := hA.1
  have hG8 : aG A ≤ 8 := hP.2.1
  have hC8 : (aP A).1 ≤ 8 := hP.1
  have hT6 := hA.2.2.2.2.2.2.2.2.2.1
  refine X_aload_n dX11_pool_0 rfl ?_
  refine X_iload_n dX11_pool_1 rfl ?_
  refine X_iconst (v := nI 0) dX11_pool_2 (by decide) ?_
  refine X_aload_n dX11_pool_3 rfl ?_
  refine X_geti dX11_pool_4 fkX11_108 rfl (k_0 hSh) ?_
  rw [(CI_k hC).2.2.2.2.1.1]
  refine X_need dX11_pool_7 mkX11_116 (k_0 hSh) (c_needWithin Γ g mi ml hSh (nI k) (nI 0) (nI (aTn A))) rfl rfl (by decide) (by decide) (by decide) (by decide) (fun h => absurd (⟨nI_le (by omega) (by omega), nI_le (by omega) (by omega)⟩) h) (fun _ => ?_)
  refine X_aload_n dX11_pool_10 rfl ?_
  refine X_iload_n dX11_pool_11 rfl ?_
  refine X_callVV dX11_pool_12 mkX11_120 (k_0 hSh) (c_startText Γ g mi ml hSh k) rfl rfl (by decide) (Nat.le_of_ble_eq_true rfl) ?_
  have hT0 := tx0_T hA hC hk
  refine X_aload_n dX11_pool_15 rfl ?_
  refine X_getr (a := 10) dX11_pool_16 fkX11_29 rfl (k_0 hSh) (r_0_3 hSh) ?_
  refine X_aload_n dX11_pool_19 rfl ?_
  refine X_getr (a := 2) dX11_pool_20 fkX11_18 rfl (k_0 hSh) (r_0_1 hSh) ?_
  refine X_callVrI dX11_pool_23 mkX11_123 (k_10 hSh) (c_Pread Γ g (tx0 mi k) ml hSh (aT A) k 0 (fun q hq => hA.2.2.2.2.2.2.2.2.2.2 q (by omega)) hT0) rfl rfl (by decide) (Nat.le_of_ble_eq_true rfl) (fun v1 m1 l1 hm1 => ?_)
  obtain ⟨hl1, hm1⟩ := hm1
  rw [hr] at hm1
  obtain ⟨hv1, hE1, hE2, hE3⟩ := hm1
  rw [hl1, hv1]
  refine X_if_neN (a := 0) 40 dX11_pool_26 (by decide) (by omega) (fun h_1 => ?_) (fun h_1 => ?_)
  · exact absurd h_1 (by omega)
  · refine X_aload_n dX11_pool_29 rfl ?_
    refine X_getr (a := 2) dX11_pool_30 fkX11_18 rfl (k_0 hSh) (r_0_1 hSh) ?_
    refine X_geti dX11_pool_33 fkX11_127 rfl (k_2 hSh) ?_
    rw [hE1]
    refine X_bipush (v := nI 10) dX11_pool_36 (by decide) ?_
    refine X_isub dX11_pool_38 ?_
    exact X_iret dX11_pool_39 rfl ⟨rfl, CI_tb hC (fun i h1 h2 h3 h4 h5 h6 => by rw [hE3 i h4 (by unfold scR at h2; omega)]; exact tx0_row h3 h4) (fun j hj => by rw [hE3 0 (by omega) (by omega)]; exact tx0_0 hj) (by rw [hE3 0 (by omega) (by omega)]; exact tx0_17) (by rw [hE3 24 (by omega) (by omega), tx0_row (by omega) (by omega)]; exact (CI_bk hC).1) (fun q hq z hz => by rw [hE3 25 (by omega) (by omega), tx0_row (by omega) (by omega)]; exact (CI_bk hC).2 q hq z hz) hE2, fun i h1 h2 => by rw [hE3 i (by omega) (by omega)]; exact tx0_row (by omega) (by omega), rfl⟩
theorem kc_pool1 {P1 : PD} {m1 m2 m3 x : pMI} {st si : Nat} (hS2 : dfP m1 P1) (hS3 : okPD P1) (hc2 : PCY m1 m2) (hc3 : HCL m2 m3) (hs4 : st = 1 → 451 ≤ si) (hF : FGD st si (up2 (up2 (up2 (up2 (up2 m3 24 2 (nI 0)) 77 4 (nI 0)) 81 2 (nI 0)) 81 3 (nI 0)) 0 18 (nI 0)) x) : clP x P1 := by
  have hC8 := hS3.1
  have hG8 := hS3.2.1
  have e : ∀ i, 3 ≤ i → i ≤ 9 → x i = m2 i := fun i h1 h2 => by rw [hF.1 i (by omega) (by omega) (fun q => by have := hs4 q; omega), up2_row (by omega), up2_row (by omega), up2_row (by omega), up2_row (by omega), up2_row (by omega)]; exact hc3.2.2.2 i (by omega) (by omega) (by omega)
  refine clP_row e ?_
  obtain ⟨p1, p2, p3⟩ := hc2
  exact ⟨p2.1.trans hS2.1, p2.2.1.trans hS2.2.1, p2.2.2.1.trans hS2.2.2.1, p2.2.2.2.1.trans hS2.2.2.2.1, p2.2.2.2.2.trans hS2.2.2.2.2.1, fun c hc => ⟨(p1 c (by omega)).1.trans (hS2.2.2.2.2.2.1 c hc).1, (p1 c (by omega)).2.1.trans (hS2.2.2.2.2.2.1 c hc).2⟩, fun b hb => ⟨(p1 b (by omega)).2.2.1.trans (hS2.2.2.2.2.2.2 b hb).1, (p1 b (by omega)).2.2.2.1.trans (hS2.2.2.2.2.2.2 b hb).2.1, (p1 b (by omega)).2.2.2.2.1.trans (hS2.2.2.2.2.2.2 b hb).2.2.1, (p1 b (by omega)).2.2.2.2.2.trans (hS2.2.2.2.2.2.2 b hb).2.2.2⟩⟩
theorem kc_poolK {m m1 m2 m3 x : pMI} {k st si : Nat} (hS6 : frDf (tx0 m k) m1) (hc2 : PCY m1 m2) (hc3 : HCL m2 m3) (hs4 : st = 1 → 451 ≤ si) (hF : FGD st si (up2 (up2 (up2 (up2 (up2 m3 24 2 (nI 0)) 77 4 (nI 0)) 81 2 (nI 0)) 81 3 (nI 0)) 0 18 (nI 0)) x) : frK m x := fun i h1 h2 => by
  rw [hF.1 i (by omega) (by omega) (fun q => by have := hs4 q; omega), up2_row (by omega), up2_row (by omega), up2_row (by omega), up2_row (by omega), up2_row (by omega), hc3.2.2.2 i (by omega) (by omega) (by omega), hc2.2.2 i (by omega), hS6 i (by omega) (by omega)]
  exact tx0_row (by omega) (by omega)
theorem kc_pool {A : AS} {P1 : PD} {g : pGG} {m m1 m2 m3 x : pMI} {l : pML} {k r im st : Nat} {qi : Nat → Nat} {si : Nat} (hA : okAS A) (hC : CI A g m l) (h : CIx A g m l r im st qi si) (hS6 : frDf (tx0 m k) m1) (hS5 : m1 2 4 = tx0 m k 2 4) (hcl : clP x P1) (hc2 : PCY m1 m2) (hc3 : HCL m2 m3) (hF : FGD st si (up2 (up2 (up2 (up2 (up2 m3 24 2 (nI 0)) 77 4 (nI 0)) 81 2 (nI 0)) 81 3 (nI 0)) 0 18 (nI 0)) x) : CI (plA A P1) g x l := by
  have hST := CI_STC hC
  obtain ⟨c1, c2, c3, c4, c5, c6, c7, c8, c9, c10, c11, c12, c13⟩ := h
  have hs4 : st = 1 → 451 ≤ si := fun q => (c12.2.2.2.2.2.2.2.2 q).2.2.1
  have ex : ∀ i, i < 451 → i ≠ 0 → i ≠ 27 → x i = (up2 (up2 (up2 (up2 (up2 m3 24 2 (nI 0)) 77 4 (nI 0)) 81 2 (nI 0)) 81 3 (nI 0)) 0 18 (nI 0)) i := fun i h0 h1 h2 => hF.1 i h1 h2 (fun q => by have := hs4 q; omega)
  have e3 : ∀ i, i < 451 → i ≠ 0 → i ≠ 24 → i ≠ 77 → i ≠ 81 → (up2 (up2 (up2 (up2 (up2 m3 24 2 (nI 0)) 77 4 (nI 0)) 81 2 (nI 0)) 81 3 (nI 0)) 0 18 (nI 0)) i = m3 i := fun i h h0 h1 h2 h3 => by rw [up2_row h0, up2_row h3, up2_row h3, up2_row h2, up2_row h1]
  have em : ∀ i, (i < 3 ∨ 9 < i) → i ≠ 17 → i ≠ 18 → i ≠ 19 → i ≠ 2 → i ≠ 0 → ¬ (10 ≤ i ∧ i ≤ 16) → m3 i = m i := fun i h1 h2 h3 h4 h5 h6 h7 => by rw [hc3.2.2.2 i h2 h3 h4, hc2.2.2 i h1, hS6 i h5 h7]; exact tx0_row h6 h5
  have e0 : ∀ j, j ≠ 17 → j ≠ 18 → j ≠ 19 → x 0 j = m 0 j := fun j h1 h2 h3 => by rw [hF.2.1 j h3, up2_n h2, up2_row (by omega), up2_row (by omega), up2_row (by omega), up2_row (by omega), hc3.2.2.2 0 (by omega) (by omega) (by omega), hc2.2.2 0 (by omega), hS6 0 (by omega) (by omega)]; exact tx0_0 h1
  refine CI_mk c1 c12 hcl (fun o ho => ?_) ?_ (STC_row hST (fun i hi => ((ex i (by omega) (by omega) (by omega)).trans (e3 i (by omega) (by omega) (by omega) (by omega) (by omega))).trans (em i (by omega) (by omega) (by omega) (by omega) (by omega) (by omega) (by omega)))) ⟨hF.2.2.2.1, hF.2.2.2.2.1⟩ ⟨?_, fun k hk => absurd hk (by show ¬ k < 0; omega)⟩ ?_ ⟨?_, fun k hk => absurd hk (by show ¬ k < 0; omega)⟩ ⟨?_, Nat.zero_le _, fun k hk => absurd hk (by show ¬ k < 0; omega)⟩ ⟨?_, fun k hk => absurd hk (by show ¬ k < 0; omega)⟩ ⟨?_, fun j hj => ?_⟩ hF.2.2.1 (Or.inl ?_) hF.2.2.2.2.2
  · rw [ex 19 (by omega) (by omega) (by omega), e3 19 (by omega) (by omega) (by omega) (by omega) (by omega), ex 18 (by omega) (by omega) (by omega), e3 18 (by omega) (by omega) (by omega) (by omega) (by omega)]
    refine ⟨(hc3.1 o ho).1, fun i hi => ?_⟩
    have hi : i < 1 := hi
    rw [show i = 0 by omega]
    exact (hc3.1 o ho).2
  · rw [ex 17 (by omega) (by omega) (by omega), e3 17 (by omega) (by omega) (by omega) (by omega) (by omega), hc3.2.1]; exact mkB_f0.symm
  · rw [ex 24 (by omega) (by omega) (by omega), up2_row (by omega), up2_row (by omega), up2_row (by omega), up2_row (by omega)]; exact up2_s
  · rw [hF.2.1 18 (by omega)]; exact up2_s
  · rw [ex 81 (by omega) (by omega) (by omega), up2_row (by omega), up2_n (by omega), up2_s]; rfl
  · rw [ex 81 (by omega) (by omega) (by omega), up2_row (by omega), up2_s]; rfl
  · rw [hF.2.1 17 (by omega), up2_n (by omega), up2_row (by omega), up2_row (by omega), up2_row (by omega), up2_row (by omega), hc3.2.2.2 0 (by omega) (by omega) (by omega), hc2.2.2 0 (by omega), hS6 0 (by omega) (by omega), tx0_17]; rfl
  · rw [ex 2 (by omega) (by omega) (by omega), e3 2 (by omega) (by omega) (by omega) (by omega) (by omega), hc3.2.2.2 2 (by omega) (by omega) (by omega), hc2.2.2 2 (by omega), hS5, tx0_24]; rfl
  · rw [ex 86 (by omega) (by omega) (by omega), e3 86 (by omega) (by omega) (by omega) (by omega) (by omega), em 86 (by omega) (by omega) (by omega) (by omega) (by omega) (by omega) (by omega)]; exact c8.2 j hj
  · rw [ex 77 (by omega) (by omega) (by omega), up2_row (by omega), up2_row (by omega), up2_row (by omega), up2_s]
set_option maxRecDepth 100000 in
set_option maxHeartbeats 4000000 in
theorem k_pool_o (Γ : pTG) (g : pGG) (mi : pMI) (ml : pML) (A : AS) (hA : okAS A) (hC : CI A g mi ml) (k : Nat) (hka : 0 ≤ k) (hk : k ≤ (aTn A)) (P1 : PD) (hP1 : okPD P1) (hr : plR (aT A) k 61 0 0 P00 = .ok P1) : CT Γ 60 20 5000 mX11_pool [.ref 0, .int (nI k)] g mi ml (CQ (plA A P1) (.inl (nI P1.2.1)) mi ml) := by
  refine CT_of (by decide +kernel) (Nat.le_of_ble_eq_true rfl) ?_
  have hSh := CI_Sh hC
  have hcl := CI_cl hC
  have hP := hA.1
  have hG8 : aG A ≤ 8 := hP.2.1
  have hC8 : (aP A).1 ≤ 8 := hP.1
  have hT6 := hA.2.2.2.2.2.2.2.2.2.1
  obtain ⟨r, im, st, qi, si, hx⟩ := CI_dyn hC
  have hd := hx.2.2.2.2.2.2.2.2.2.2.2.1
  refine X_aload_n dX11_pool_0 rfl ?_
  refine X_iload_n dX11_pool_1 rfl ?_
  refine X_iconst (v := nI 0) dX11_pool_2 (by decide) ?_
  refine X_aload_n dX11_pool_3 rfl ?_
  refine X_geti dX11_pool_4 fkX11_108 rfl (k_0 hSh) ?_
  rw [(CI_k hC).2.2.2.2.1.1]
  refine X_need dX11_pool_7 mkX11_116 (k_0 hSh) (c_needWithin Γ g mi ml hSh (nI k) (nI 0) (nI (aTn A))) rfl rfl (by decide) (by decide) (by decide) (by decide) (fun h => absurd (⟨nI_le (by omega) (by omega), nI_le (by omega) (by omega)⟩) h) (fun _ => ?_)
  refine X_aload_n dX11_pool_10 rfl ?_
  refine X_iload_n dX11_pool_11 rfl ?_
  refine X_callVV dX11_pool_12 mkX11_120 (k_0 hSh) (c_startText Γ g mi ml hSh k) rfl rfl (by decide) (Nat.le_of_ble_eq_true rfl) ?_
  have hT0 := tx0_T hA hC hk
  refine X_aload_n dX11_pool_15 rfl ?_
  refine X_getr (a := 10) dX11_pool_16 fkX11_29 rfl (k_0 hSh) (r_0_3 hSh) ?_
  refine X_aload_n dX11_pool_19 rfl ?_
  refine X_getr (a := 2) dX11_pool_20 fkX11_18 rfl (k_0 hSh) (r_0_1 hSh) ?_
  refine X_callVrI dX11_pool_23 mkX11_123 (k_10 hSh) (c_Pread Γ g (tx0 mi k) ml hSh (aT A) k 0 (fun q hq => hA.2.2.2.2.2.2.2.2.2.2 q (by omega)) hT0) rfl rfl (by decide) (Nat.le_of_ble_eq_true rfl) (fun v1 m1 l1 hm1 => ?_)
  obtain ⟨hl1, hm1⟩ := hm1
  rw [hr] at hm1
  obtain ⟨hv1, e1, hS1, hS2, hS3, hS4, hS5, hS6⟩ := hm1
  rw [hl1, hv1]
  refine X_if_neN (a := 1) 40 dX11_pool_26 (by decide) (by omega) (fun h_1 => ?_) (fun h_1 => ?_)
  · refine X_aload_n dX11_pool_40 rfl ?_
    refine X_getr (a := 3) dX11_pool_41 fkX11_25 rfl (k_0 hSh) (r_0_2 hSh) ?_
    refine X_aload_n dX11_pool_44 rfl ?_
    refine X_getr (a := 10) dX11_pool_45 fkX11_29 rfl (k_0 hSh) (r_0_3 hSh) ?_
    refine X_callVrV dX11_pool_48 mkX11_130 (k_3 hSh) (c_Pcopy Γ g m1 ml hSh) rfl rfl (by decide) (Nat.le_of_ble_eq_true rfl) (fun m2 l2 hm2 => ?_)
    obtain ⟨hc2, hl2⟩ := hm2
    rw [hl2]
    refine X_aload_n dX11_pool_51 rfl ?_
    refine X_getr (a := 17) dX11_pool_52 fkX11_35 rfl (k_0 hSh) (r_0_4 hSh) ?_
    refine X_callVrV dX11_pool_55 mkX11_107 (k_17 hSh) (c_Hclear Γ g m2 ml hSh) rfl rfl (by decide) (Nat.le_of_ble_eq_true rfl) (fun m3 l3 hm3 => ?_)
    obtain ⟨hc3, hl3⟩ := hm3
    rw [hl3]
    refine X_aload_n dX11_pool_58 rfl ?_
    refine X_getr (a := 24) dX11_pool_59 fkX11_51 rfl (k_0 hSh) (r_0_6 hSh) ?_
    refine X_callVV dX11_pool_62 mkX11_133 (k_24 hSh) (c_Bclear Γ g m3 ml hSh) rfl rfl (by decide) (Nat.le_of_ble_eq_true rfl) ?_
    refine X_aload_n dX11_pool_65 rfl ?_
    refine X_getr (a := 77) dX11_pool_66 fkX11_84 rfl (k_0 hSh) (r_0_11 hSh) ?_
    refine X_callVV dX11_pool_69 mkX11_134 (k_77 hSh) (c_Gforget Γ g (up2 m3 24 2 (nI 0)) ml hSh) rfl rfl (by decide) (Nat.le_of_ble_eq_true rfl) ?_
    refine X_aload_n dX11_pool_72 rfl ?_
    refine X_getr (a := 81) dX11_pool_73 fkX11_91 rfl (k_0 hSh) (r_0_12 hSh) ?_
    refine X_callVV dX11_pool_76 mkX11_137 (k_81 hSh) (c_Cclear Γ g (up2 (up2 m3 24 2 (nI 0)) 77 4 (nI 0)) ml hSh) rfl rfl (by decide) (Nat.le_of_ble_eq_true rfl) ?_
    refine X_aload_n dX11_pool_79 rfl ?_
    refine X_iconst (v := nI 0) dX11_pool_80 (by decide) ?_
    refine X_puti dX11_pool_81 fkX11_138 rfl rfl (k_0 hSh) ?_
    refine X_aload_n dX11_pool_84 rfl ?_
    refine X_callVrV dX11_pool_85 mkX11_141 (k_0 hSh) (c_forgetD Γ g (up2 (up2 (up2 (up2 (up2 m3 24 2 (nI 0)) 77 4 (nI 0)) 81 2 (nI 0)) 81 3 (nI 0)) 0 18 (nI 0)) ml hSh im st si qi hd) rfl rfl (by decide) (Nat.le_of_ble_eq_true rfl) (fun m4 l4 hm4 => ?_)
    obtain ⟨hF4, hl4⟩ := hm4
    rw [hl4]
    have hs4 : st = 1 → 451 ≤ si := fun q => (hd.2.2.2.2.2.2.2.2 q).2.2.1
    have hcl4 := kc_pool1 hS2 hS3 hc2 hc3 hs4 hF4
    refine X_aload_n dX11_pool_88 rfl ?_
    refine X_getr (a := 3) dX11_pool_89 fkX11_25 rfl (k_0 hSh) (r_0_2 hSh) ?_
    refine X_geti dX11_pool_92 fkX11_144 rfl (k_3 hSh) ?_
    rw [hcl4.2.1]
    exact X_iret dX11_pool_95 rfl ⟨rfl, kc_pool hA hC hx hS6 hS5 hcl4 hc2 hc3 hF4, kc_poolK hS6 hc2 hc3 hs4 hF4, rfl⟩
  · exact absurd h_1 (by omega)
theorem rs_1 {A : AS} {m : pMI} {k i : Nat} (h : i ≠ 87) : (up2 (stW (up2 m 87 0 (nI 0)) k) 87 4 (nI (skT (aT A) k 0))) i = m i := by unfold stW; rw [up2_row (by omega), up2_row (by omega), up2_row (by omega), up2_row (by omega), up2_row (by omega), up2_row (by omega), up2_row (by omega), up2_row (by omega), up2_row (by omega)]
theorem rs_87 {A : AS} {m : pMI} {k j : Nat} (h : j = 0 ∨ j = 3 ∨ 8 < j) : (up2 (stW (up2 m 87 0 (nI 0)) k) 87 4 (nI (skT (aT A) k 0))) 87 j = if j = 0 then nI 0 else m 87 j := by
  unfold stW
  rw [up2_n (by omega), up2_n (by omega), up2_n (by omega), up2_n (by omega), up2_n (by omega), up2_n (by omega), up2_n (by omega), up2_n (by omega)]
  by_cases q : j = 0
  · rw [if_pos q, q, up2_s]
  · rw [if_neg q, up2_n q]
theorem rs_x {A : AS} {m : pMI} (hA : okAS A) (hR : RI A m) {k : Nat} (hk : k ≤ aTn A) : RTX (up2 (stW (up2 m 87 0 (nI 0)) k) 87 4 (nI (skT (aT A) k 0))) (aT A) k (skT (aT A) k 0) ∧ (up2 (stW (up2 m 87 0 (nI 0)) k) 87 4 (nI (skT (aT A) k 0))) 87 1 = nI 0 ∧ (up2 (stW (up2 m 87 0 (nI 0)) k) 87 4 (nI (skT (aT A) k 0))) 87 5 = nI 0 ∧ (up2 (stW (up2 m 87 0 (nI 0)) k) 87 4 (nI (skT (aT A) k 0))) 87 6 = -1 ∧ (up2 (stW (up2 m 87 0 (nI 0)) k) 87 4 (nI (skT (aT A) k 0))) 87 7 = nI 0 ∧ (up2 (stW (up2 m 87 0 (nI 0)) k) 87 4 (nI (skT (aT A) k 0))) 87 8 = nI 0 := by
  have h6 := hA.2.2.2.2.2.2.2.2.2.1
  refine ⟨⟨by omega, skT_le (by omega), fun q hq => ?_, ?_, up2_s⟩, ?_, ?_, ?_, ?_, ?_⟩
  · rw [rs_1 (by omega)]; exact hR.2.2.2.2.2.2.2.1.2 q (by omega)
  all_goals (unfold stW)
  · rw [up2_n (by omega), up2_n (by omega), up2_n (by omega), up2_n (by omega), up2_n (by omega), up2_n (by omega), up2_s]
  · rw [up2_n (by omega), up2_n (by omega), up2_n (by omega), up2_n (by omega), up2_n (by omega), up2_n (by omega), up2_n (by omega), up2_s]
  · rw [up2_n (by omega), up2_n (by omega), up2_n (by omega), up2_n (by omega), up2_s]
  · rw [up2_n (by omega), up2_n (by omega), up2_n (by omega), up2_s]
  · rw [up2_n (by omega), up2_n (by omega), up2_s]
  · rw [up2_n (by omega), up2_s]
set_option maxRecDepth 100000 in
set_option maxHeartbeats 4000000 in
theorem r_pool_e (Γ : pTG) (g : pGG) (mi : pMI) (ml : pML) (A : AS) (hA : okAS A) (hSh : Sh g) (hR : RI A mi) (k : Nat) (hka : 0 ≤ k) (hk : k ≤ (aTn A)) (c1 p1 : Nat) (hr : plR (aT A) k 61 0 0 P00 = .error (c1, p1)) : CT Γ 60 0 0 mX12_pool [.ref 87, .int (nI k)] g mi ml (RQ (tbA A (aBn A, aB A) (nI p1)) (.inl (nI c1 - nI 10)) cd1 g mi ml) := by
  refine CT_of (by decide +kernel) (Nat.le_of_ble_eq_true rfl) ?_
  have hP := hA.1
  have hG8 : aG A ≤ 8 := hP.2.1
  have hC8 : (aP A).1 ≤ 8 := hP.1
  have hT6 := hA.2.2.2.2.2.2.2.2.2.1
  refine X_aload_n dX12_pool_0 rfl ?_
  refine X_iconst (v := nI 0) dX12_pool_1 (by decide) ?_
  refine X_puti dX12_pool_2 fkX12_158 rfl rfl (k_87 hSh) ?_
  refine X_aload_n dX12_pool_5 rfl ?_
  refine X_iload_n dX12_pool_6 rfl ?_
  refine X_iconst (v := nI 0) dX12_pool_7 (by decide) ?_
  refine X_aload_n dX12_pool_8 rfl ?_
  refine X_geti dX12_pool_9 fkX12_161 rfl (k_87 hSh) ?_
  refine X_topi (show (up2 mi 87 0 (nI 0)) 87 1 = nI (aTn A) by rw [up2_n (by omega)]; exact hR.2.2.2.2.2.2.2.1.1) ?_
  refine X_callSI dX12_pool_12 mkX12_192 (c_in Γ g (up2 mi 87 0 (nI 0)) ml (nI k) (nI 0) (nI (aTn A))) rfl rfl (by decide) (Nat.le_of_ble_eq_true rfl) ?_
  refine X_topi (show bI (decide (nI 0 ≤ nI k) && decide (nI k ≤ nI (aTn A))) = nI 1 from congrArg bI (show (decide (nI 0 ≤ nI k) && decide (nI k ≤ nI (aTn A))) = true from by rw [decide_eq_true (nI_le (by omega) (by omega)), decide_eq_true (nI_le (by omega) (by omega))]; rfl)) ?_
  refine X_if_neN (a := 1) 22 dX12_pool_15 (by decide) (by omega) (fun h_1 => ?_) (fun h_1 => ?_)
  · refine X_iconst (v := nI 0) dX12_pool_22 (by decide) ?_
    refine X_iconst (v := nI 1) dX12_pool_23 (by decide) ?_
    refine X_iconst (v := nI 1) dX12_pool_24 (by decide) ?_
    refine X_callVI dX12_pool_25 mkX12_228 (k_87 hSh) (c_bad0 Γ g (up2 mi 87 0 (nI 0)) ml hSh 1 1 up2_s) rfl rfl (by decide) (Nat.le_of_ble_eq_true rfl) ?_
    refine X_if_eqN (a := 0) 33 dX12_pool_28 (by decide) (by omega) (fun h_2 => ?_) (fun h_2 => ?_)
    · refine X_aload_n dX12_pool_33 rfl ?_
      refine X_iload_n dX12_pool_34 rfl ?_
      refine X_callVV dX12_pool_35 mkX12_232 (k_87 hSh) (c_starts Γ g (up2 mi 87 0 (nI 0)) ml hSh (aT A) k (by omega) (fun q hq => by rw [up2_row (by omega)]; exact hR.2.2.2.2.2.2.2.1.2 q (by omega))) rfl rfl (by decide) (Nat.le_of_ble_eq_true rfl) ?_
      refine X_aload_n dX12_pool_38 rfl ?_
      refine X_callVV dX12_pool_39 mkX12_152 (k_87 hSh) (c_tellsN Γ g (up2 (stW (up2 mi 87 0 (nI 0)) k) 87 4 (nI (skT (aT A) k 0))) ml hSh) rfl rfl (by decide) (Nat.le_of_ble_eq_true rfl) ?_
      refine X_L [(0, .ref 87), (1, .int (nI k))] ⟨rfl, rfl, trivial⟩ ?_
      have e2 : ∀ i, i ≠ 90 → (up2 (fillR (up2 (stW (up2 mi 87 0 (nI 0)) k) 87 4 (nI (skT (aT A) k 0))) 90 5 (fun _ => nI 0)) 90 3 (nI 2)) i = (up2 (stW (up2 mi 87 0 (nI 0)) k) 87 4 (nI (skT (aT A) k 0))) i := fun i hi => by rw [up2_row hi]; funext j; exact fill_row hi
      obtain ⟨x1, x2, x3, x4, x5, x6⟩ := rs_x hA hR hk
      have f90 : ∀ j, j < 5 → j ≠ 3 → (up2 (fillR (up2 (stW (up2 mi 87 0 (nI 0)) k) 87 4 (nI (skT (aT A) k 0))) 90 5 (fun _ => nI 0)) 90 3 (nI 2)) 90 j = nI 0 := fun j hj h3 => by rw [up2_n h3]; exact fill_at hj
      have hRP : RPS (up2 (fillR (up2 (stW (up2 mi 87 0 (nI 0)) k) 87 4 (nI (skT (aT A) k 0))) 90 5 (fun _ => nI 0)) 90 3 (nI 2)) (up2 (fillR (up2 (stW (up2 mi 87 0 (nI 0)) k) 87 4 (nI (skT (aT A) k 0))) 90 5 (fun _ => nI 0)) 90 3 (nI 2)) (aT A) k (skT (aT A) k 0) 0 P00 := ⟨⟨x1.1, x1.2.1, fun q hq => by rw [e2 88 (by omega)]; exact x1.2.2.1 q hq, by rw [e2 87 (by omega)]; exact x1.2.2.2.1, by rw [e2 87 (by omega)]; exact x1.2.2.2.2⟩, by rw [e2 87 (by omega)]; exact x3, by rw [e2 87 (by omega)]; exact x5, ⟨f90 0 (by omega) (by omega), f90 1 (by omega) (by omega), f90 2 (by omega) (by omega), up2_s, f90 4 (by omega) (by omega), fun c hc => absurd hc (by show ¬ c < 0; omega), fun b hb => absurd hb (by show ¬ b < 0; omega)⟩, ok_P00, frRD_r, rfl⟩
      refine XW_d (d := 20) (by decide) ?_
      refine rplX Γ g (up2 (fillR (up2 (stW (up2 mi 87 0 (nI 0)) k) 87 4 (nI (skT (aT A) k 0))) 90 5 (fun _ => nI 0)) 90 3 (nI 2)) (aT A) k hSh (r := plR (aT A) k 61 0 0 P00) (fun y c2 p2 hr2 hE => ?_) (fun m P2 i2 c2 hr2 _ => by rw [hr] at hr2; cases hr2) 61 (up2 (fillR (up2 (stW (up2 mi 87 0 (nI 0)) k) 87 4 (nI (skT (aT A) k 0))) 90 5 (fun _ => nI 0)) 90 3 (nI 2)) (skT (aT A) k 0) 0 P00 hRP skT_sk (by omega) (by omega) plR_sk
      rw [hr] at hr2
      cases hr2
      have hk1 := hE.2.1
      have hk3 := hE.2.2.1
      have hfr := hE.2.2.2.2.1
      refine X_aload_n dX12_pool_71 rfl ?_
      refine X_geti dX12_pool_72 fkX12_174 rfl (k_87 hSh) ?_
      rw [hE.1]
      refine X_if_eqN (a := c1) 83 dX12_pool_75 (by decide) (by omega) (fun h_3 => ?_) (fun h_3 => ?_)
      · exact absurd h_3 (by omega)
      · refine X_aload_n dX12_pool_78 rfl ?_
        refine X_callVI dX12_pool_79 mkX12_238 (k_87 hSh) (c_ends Γ g y ml hSh) rfl rfl (by decide) (Nat.le_of_ble_eq_true rfl) ?_
        exact X_iret dX12_pool_82 rfl ⟨rfl, rfl, RI_tb hA hR hA.2.2.2.1.1 (fun i h1 h2 h3 h4 => by rw [up2_row (by omega), hfr.1 i (by omega) (by rintro rfl; exact h3 (by unfold rsR; omega)) (fun z => h3 (by unfold rsR; omega)) (fun z => h3 (by unfold rsR; omega)), e2 i (by rintro rfl; exact h3 (by unfold rsR; omega))]; exact rs_1 (by omega)) (fun j h1 h2 => by rw [up2_n (by omega), hfr.2 j (by omega) (by omega) (by omega) (by omega), e2 87 (by omega), rs_87 (by omega), if_neg (by omega)]) (by rw [up2_n (by omega), hfr.2 1 (by omega) (by omega) (by omega) (by omega), e2 87 (by omega)]; exact x2) (by rw [up2_s]; exact hE.2.2.2.1) (by rw [up2_n (by omega), hfr.2 28 (by omega) (by omega) (by omega) (by omega), e2 87 (by omega), rs_87 (by omega), if_neg (by omega)]; exact hR.2.2.2.1.1) (fun q hq z hz => by have hq : q < aBn A := hq; have hb12 := hA.2.2.2.1.1; rw [up2_row (by omega), hfr.1 (143 + q) (by omega) (by omega) (by omega) (by omega), e2 (143 + q) (by omega), rs_1 (by omega)]; exact hR.2.2.2.1.2 q hq z hz), fun i hi => by rw [up2_row (by omega), hfr.1 i (by omega) (by omega) (by omega) (by omega), e2 i (by omega)]; exact rs_1 (by omega), _, rfl, by rw [hE.1], by rw [up2_n (by omega), hfr.2 0 (by omega) (by omega) (by omega) (by omega), e2 87 (by omega), rs_87 (by omega), if_pos rfl]⟩
    · exact absurd h_2 (by omega)
  · exact absurd h_1 (by omega)
set_option maxRecDepth 100000 in
set_option maxHeartbeats 4000000 in
theorem r_pool_o (Γ : pTG) (g : pGG) (mi : pMI) (ml : pML) (A : AS) (hA : okAS A) (hSh : Sh g) (hR : RI A mi) (k : Nat) (hka : 0 ≤ k) (hk : k ≤ (aTn A)) (P1 : PD) (hP1 : okPD P1) (hr : plR (aT A) k 61 0 0 P00 = .ok P1) : CT Γ 60 0 0 mX12_pool [.ref 87, .int (nI k)] g mi ml (RQ (plA A P1) (.inl (nI P1.2.1)) cd1 g mi ml) := by
  refine CT_of (by decide +kernel) (Nat.le_of_ble_eq_true rfl) ?_
  have hP := hA.1
  have hG8 : aG A ≤ 8 := hP.2.1
  have hC8 : (aP A).1 ≤ 8 := hP.1
  have hT6 := hA.2.2.2.2.2.2.2.2.2.1
  refine X_aload_n dX12_pool_0 rfl ?_
  refine X_iconst (v := nI 0) dX12_pool_1 (by decide) ?_
  refine X_puti dX12_pool_2 fkX12_158 rfl rfl (k_87 hSh) ?_
  refine X_aload_n dX12_pool_5 rfl ?_
  refine X_iload_n dX12_pool_6 rfl ?_
  refine X_iconst (v := nI 0) dX12_pool_7 (by decide) ?_
  refine X_aload_n dX12_pool_8 rfl ?_
  refine X_geti dX12_pool_9 fkX12_161 rfl (k_87 hSh) ?_
  refine X_topi (show (up2 mi 87 0 (nI 0)) 87 1 = nI (aTn A) by rw [up2_n (by omega)]; exact hR.2.2.2.2.2.2.2.1.1) ?_
  refine X_callSI dX12_pool_12 mkX12_192 (c_in Γ g (up2 mi 87 0 (nI 0)) ml (nI k) (nI 0) (nI (aTn A))) rfl rfl (by decide) (Nat.le_of_ble_eq_true rfl) ?_
  refine X_topi (show bI (decide (nI 0 ≤ nI k) && decide (nI k ≤ nI (aTn A))) = nI 1 from congrArg bI (show (decide (nI 0 ≤ nI k) && decide (nI k ≤ nI (aTn A))) = true from by rw [decide_eq_true (nI_le (by omega) (by omega)), decide_eq_true (nI_le (by omega) (by omega))]; rfl)) ?_
  refine X_if_neN (a := 1) 22 dX12_pool_15 (by decide) (by omega) (fun h_1 => ?_) (fun h_1 => ?_)
  · refine X_iconst (v := nI 0) dX12_pool_22 (by decide) ?_
    refine X_iconst (v := nI 1) dX12_pool_23 (by decide) ?_
    refine X_iconst (v := nI 1) dX12_pool_24 (by decide) ?_
    refine X_callVI dX12_pool_25 mkX12_228 (k_87 hSh) (c_bad0 Γ g (up2 mi 87 0 (nI 0)) ml hSh 1 1 up2_s) rfl rfl (by decide) (Nat.le_of_ble_eq_true rfl) ?_
    refine X_if_eqN (a := 0) 33 dX12_pool_28 (by decide) (by omega) (fun h_2 => ?_) (fun h_2 => ?_)
    · refine X_aload_n dX12_pool_33 rfl ?_
      refine X_iload_n dX12_pool_34 rfl ?_
      refine X_callVV dX12_pool_35 mkX12_232 (k_87 hSh) (c_starts Γ g (up2 mi 87 0 (nI 0)) ml hSh (aT A) k (by omega) (fun q hq => by rw [up2_row (by omega)]; exact hR.2.2.2.2.2.2.2.1.2 q (by omega))) rfl rfl (by decide) (Nat.le_of_ble_eq_true rfl) ?_
      refine X_aload_n dX12_pool_38 rfl ?_
      refine X_callVV dX12_pool_39 mkX12_152 (k_87 hSh) (c_tellsN Γ g (up2 (stW (up2 mi 87 0 (nI 0)) k) 87 4 (nI (skT (aT A) k 0))) ml hSh) rfl rfl (by decide) (Nat.le_of_ble_eq_true rfl) ?_
      refine X_L [(0, .ref 87), (1, .int (nI k))] ⟨rfl, rfl, trivial⟩ ?_
      have e2 : ∀ i, i ≠ 90 → (up2 (fillR (up2 (stW (up2 mi 87 0 (nI 0)) k) 87 4 (nI (skT (aT A) k 0))) 90 5 (fun _ => nI 0)) 90 3 (nI 2)) i = (up2 (stW (up2 mi 87 0 (nI 0)) k) 87 4 (nI (skT (aT A) k 0))) i := fun i hi => by rw [up2_row hi]; funext j; exact fill_row hi
      obtain ⟨x1, x2, x3, x4, x5, x6⟩ := rs_x hA hR hk
      have f90 : ∀ j, j < 5 → j ≠ 3 → (up2 (fillR (up2 (stW (up2 mi 87 0 (nI 0)) k) 87 4 (nI (skT (aT A) k 0))) 90 5 (fun _ => nI 0)) 90 3 (nI 2)) 90 j = nI 0 := fun j hj h3 => by rw [up2_n h3]; exact fill_at hj
      have hRP : RPS (up2 (fillR (up2 (stW (up2 mi 87 0 (nI 0)) k) 87 4 (nI (skT (aT A) k 0))) 90 5 (fun _ => nI 0)) 90 3 (nI 2)) (up2 (fillR (up2 (stW (up2 mi 87 0 (nI 0)) k) 87 4 (nI (skT (aT A) k 0))) 90 5 (fun _ => nI 0)) 90 3 (nI 2)) (aT A) k (skT (aT A) k 0) 0 P00 := ⟨⟨x1.1, x1.2.1, fun q hq => by rw [e2 88 (by omega)]; exact x1.2.2.1 q hq, by rw [e2 87 (by omega)]; exact x1.2.2.2.1, by rw [e2 87 (by omega)]; exact x1.2.2.2.2⟩, by rw [e2 87 (by omega)]; exact x3, by rw [e2 87 (by omega)]; exact x5, ⟨f90 0 (by omega) (by omega), f90 1 (by omega) (by omega), f90 2 (by omega) (by omega), up2_s, f90 4 (by omega) (by omega), fun c hc => absurd hc (by show ¬ c < 0; omega), fun b hb => absurd hb (by show ¬ b < 0; omega)⟩, ok_P00, frRD_r, rfl⟩
      refine XW_d (d := 20) (by decide) ?_
      refine rplX Γ g (up2 (fillR (up2 (stW (up2 mi 87 0 (nI 0)) k) 87 4 (nI (skT (aT A) k 0))) 90 5 (fun _ => nI 0)) 90 3 (nI 2)) (aT A) k hSh (r := plR (aT A) k 61 0 0 P00) (fun m c2 p2 hr2 _ => by rw [hr] at hr2; cases hr2) (fun y P2 i2 c2 hr2 hO => ?_) 61 (up2 (fillR (up2 (stW (up2 mi 87 0 (nI 0)) k) 87 4 (nI (skT (aT A) k 0))) 90 5 (fun _ => nI 0)) 90 3 (nI 2)) (skT (aT A) k 0) 0 P00 hRP skT_sk (by omega) (by omega) plR_sk
      rw [hr] at hr2
      cases hr2
      have hfr := hO.2.2.2.2.2.1
      refine X_aload_n dX12_pool_71 rfl ?_
      refine X_geti dX12_pool_72 fkX12_174 rfl (k_87 hSh) ?_
      rw [hO.2.1]
      refine X_if_eqN (a := 0) 83 dX12_pool_75 (by decide) (by omega) (fun h_3 => ?_) (fun h_3 => ?_)
      · refine X_aload_n dX12_pool_83 rfl ?_
        refine X_iconst (v := -1) dX12_pool_84 (by decide) ?_
        refine X_puti dX12_pool_85 fkX12_9 rfl rfl (k_87 hSh) ?_
        refine X_aload_n dX12_pool_88 rfl ?_
        refine X_callVrV dX12_pool_89 mkX12_155 (k_87 hSh) (c_stands Γ g (up2 y 87 3 (-1)) ml hSh P1 hP1 (rdP_row (fun i hi => up2_row hi) hO.2.2.2.1)) rfl rfl (by decide) (Nat.le_of_ble_eq_true rfl) (fun x xl hx => ?_)
        obtain ⟨hxS, hxl⟩ := hx
        rw [hxl]
        refine X_aload_n dX12_pool_92 rfl ?_
        refine X_getr (a := 91) dX12_pool_93 fkX12_23 rfl (k_87 hSh) (r_87_12 hSh) ?_
        refine X_iconst (v := nI 1) dX12_pool_96 (by decide) ?_
        refine X_iald 1 dX12_pool_97 (k_91 hSh) rfl (by omega) ?_
        rw [hxS.1.2.1]
        exact X_iret dX12_pool_98 rfl ⟨rfl, rfl, ⟨hxS.1, fun o ho => Or.inl ⟨(hxS.2.1 o ho).1, rfl⟩, fun b hb => (hxS.2.1 b hb).2, ⟨hxS.2.2.1, fun q hq => absurd hq (by show ¬ q < 0; omega)⟩, hxS.2.2.2.1, ⟨hxS.2.2.2.2.1, fun q hq => absurd hq (by show ¬ q < 0; omega)⟩, ⟨hxS.2.2.2.2.2.1, fun q hq => absurd hq (by show ¬ q < 0; omega)⟩, ⟨by rw [hxS.2.2.2.2.2.2.1 1 (by omega), up2_n (by omega), hfr.2 1 (by omega) (by omega) (by omega) (by omega), e2 87 (by omega)]; exact x2, fun q hq => absurd hq (by show ¬ q < 0; omega)⟩, by rw [hxS.2.2.2.2.2.2.1 3 (by omega), up2_s]; rfl, fun j hj => by rw [hxS.2.2.2.2.2.2.2 89 (by omega) (by omega) (by omega) (by omega) (by omega), up2_row (by omega), hfr.1 89 (by omega) (by omega) (by omega) (by omega), e2 89 (by omega), rs_1 (by omega)]; exact hR.2.2.2.2.2.2.2.2.2 j hj⟩, fun i hi => by rw [hxS.2.2.2.2.2.2.2 i (by omega) (by omega) (by omega) (by omega) (by omega), up2_row (by omega), hfr.1 i (by omega) (by omega) (by omega) (by omega), e2 i (by omega)]; exact rs_1 (by omega), _, rfl, rfl, by rw [hxS.2.2.2.2.2.2.1 0 (by omega), up2_n (by omega), hfr.2 0 (by omega) (by omega) (by omega) (by omega), e2 87 (by omega), rs_87 (by omega), if_pos rfl]⟩
      · exact absurd h_3 (by omega)
    · exact absurd h_2 (by omega)
  · exact absurd h_1 (by omega)
theorem m_pool (A : AS) (hA : okAS A) (w : Int32) : MOK mX11_pool mX12_pool cd1 [.int w] A := by
  have hT6 := hA.2.2.2.2.2.2.2.2.2.1
  by_cases hg0 : nI 0 ≤ w ∧ w ≤ nI (aTn A)
  · obtain ⟨k, hka, hk, rfl⟩ := (wi_iff (by decide) (by omega)).mp hg0
    cases hr : plR (aT A) k 61 0 0 P00 with
    | error e =>
      obtain ⟨c1, p1⟩ := e
      exact ⟨.inl (nI c1 - nI 10), tbA A (aBn A, aB A) (nI p1), ok_tb hA hA.2.2.2.1, fun j h => (by cases h), fun Γ g m l hC => k_pool_e Γ g m l A hA hC k hka hk c1 p1 hr, fun Γ g m l hSh hR => r_pool_e Γ g m l A hA hSh hR k hka hk c1 p1 hr⟩
    | ok P1 =>
      have hP1 := plR_ok 61 0 0 P00 P1 (Nat.zero_le _) ok_P00 hr
      exact ⟨.inl (nI P1.2.1), plA A P1, ok_pl hP1, fun j h => (by cases h), fun Γ g m l hC => k_pool_o Γ g m l A hA hC k hka hk P1 hP1 hr, fun Γ g m l hSh hR => r_pool_o Γ g m l A hA hSh hR k hka hk P1 hP1 hr⟩
  · exact ⟨.inr 1, rfA A 1, ok_rf hA, fun j h => by cases h; decide, fun Γ g m l hC => k_pool_f0 Γ g m l A hA hC w hg0, fun Γ g m l hSh hR => r_pool_f0 Γ g m l A hA hSh hR w hg0⟩

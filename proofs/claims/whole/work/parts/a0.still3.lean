/-! ===== still: found, kept, made ===== -/
theorem c_numS (Γ : pTG) (g : pGG) (mi : pMI) (ml : pML) (hSh : Sh g) : rV Γ 1 mX2_goByNumber [.ref 67] g mi ml (fun m l => (∀ i, i < 8 → m 73 i = nI i) ∧ (∀ i, i ≠ 73 → m i = mi i) ∧ l = ml) := by
  refine rV_w (rV_c (c_goByNumber Γ g mi ml hSh 67 (shC_67 hSh))) (fun m l hm => ?_)
  obtain ⟨rfl, rfl⟩ := hm
  exact ⟨fun i hi => fill_at hi, fun i hi => by funext j; exact fill_row hi, rfl⟩
theorem dgQ_lt {nG n q : Nat} (hn0 : 0 < n) (hn8 : n ≤ 8) : ∀ k, dgQ nG n q k < 10 ^ k
  | 0 => by show 0 < 1; omega
  | k + 1 => by
    have h1 := dgQ_lt (nG := nG) (q := q) hn0 hn8 k
    have h2 : cmQ nG n q k < n := cmq_lt hn0
    show 10 * dgQ nG n q k + cmQ nG n q k < 10 ^ k * 10
    omega
def FND (P : PD) (n s : Nat) (m x : pMI) : Prop := x s 5 = nI n ∧ x s 6 = stM P n ∧ x s 7 = stF P n ∧ (∀ i, ¬ (s ≤ i ∧ i ≤ s + 3) → ¬ (67 ≤ i ∧ i ≤ 76) → x i = m i) ∧ x 67 10 = m 67 10
set_option maxRecDepth 100000 in
set_option maxHeartbeats 4000000 in
theorem c_find_b (Γ : pTG) (g : pGG) (mi : pMI) (ml : pML) (hSh : Sh g) (s : Nat) (hs : ShS g s) (h451 : 451 ≤ s) (P : PD) (hP : okPD P) (hcl : clP mi P) (h6710 : mi 67 10 = nI 0) (n : Nat) (hn0 : 0 < n) (hn8 : n ≤ 8) (hG4 : P.2.1 ≤ 4) (fo : Nat) (h5 : mi s 5 = nI fo) (hfo : fo ≠ n) (hf8 : fo ≤ 8) : rV Γ 7 mX9_find [.ref s, .int (nI n)] g mi ml (fun m l => FND P n s mi m ∧ l = ml) := by
  refine rV_of (by decide +kernel) (Nat.le_of_ble_eq_true rfl) ?_
  have hn : 0 < n ∧ n ≤ 8 := ⟨hn0, hn8⟩
  have hN4 : n ^ P.2.1 ≤ 4096 := pw_lt hn hG4
  obtain ⟨hp1, hp2⟩ := p10 P.2.1 (by omega)
  refine X_aload_n dX9_find_0 rfl ?_
  refine X_geti dX9_find_1 fkX9_29 rfl hs.1 ?_
  rw [h5]
  refine X_iload_n dX9_find_4 rfl ?_
  refine X_icmp_neN (a := fo) (b := n) 9 dX9_find_5 (by decide) (by omega) (by omega) (fun h_1 => ?_) (fun h_1 => ?_)
  · refine X_iconst (v := nI 0) dX9_find_9 (by decide) ?_
    refine X_istore_n dX9_find_10 (by decide) ?_
    refine X_L [(2, .int (nI 0)), (0, .ref s), (1, .int (nI n))] ⟨rfl, rfl, rfl, trivial⟩ ?_
    refine X_forR (σ := pMI) 11 (fun i y => [(2, .int (nI i)), (0, .ref s), (1, .int (nI n))]) (fun y => y) (fun y => ml) (fun i y => (∀ j, j < i → y (s + 2) j = nI 0) ∧ ∀ a, a ≠ s + 2 → y a = mi a) 2048 ?_ ?_ 2048 0 mi (by omega) ⟨fun j hj => absurd hj (by omega), fun _ _ => rfl⟩
    · intro i y hi hI hnx
      refine X_iload_n dX9_find_11 rfl ?_
      refine X_aload_n dX9_find_12 rfl ?_
      refine X_getr (a := s + 2) dX9_find_13 fkX9_15 rfl hs.1 hs.2.2.2.2.2.2.2.1 ?_
      refine X_alen (len := 2048) dX9_find_16 hs.2.2.1 (by decide) ?_
      refine X_icmp_geN (a := i) (b := 2048) 33 dX9_find_17 (by decide) (by omega) (by omega) (fun h_2 => ?_) (fun h_2 => ?_)
      · exact absurd hi (by omega)
      · refine X_aload_n dX9_find_20 rfl ?_
        refine X_getr (a := s + 2) dX9_find_21 fkX9_15 rfl hs.1 hs.2.2.2.2.2.2.2.1 ?_
        refine X_iload_n dX9_find_24 rfl ?_
        refine X_iconst (v := nI 0) dX9_find_25 (by decide) ?_
        refine X_iast i dX9_find_26 hs.2.2.1 rfl (by omega) ?_
        refine X_iinc (v := nI (i + 1)) dX9_find_27 rfl (nI_1 _) (by decide) ?_
        refine X_goto 11 dX9_find_30 (by decide) ?_
        refine X_L [(2, .int (nI (i + 1))), (0, .ref s), (1, .int (nI n))] ⟨rfl, rfl, rfl, trivial⟩ ?_
        refine hnx _ ⟨fun j hj => ?_, fun a ha => (up2_row ha).trans (hI.2 a ha)⟩
        by_cases z : j = i
        · rw [z, up2_s]
        · rw [up2_n z]; exact hI.1 j (by omega)
    · intro y hI
      have hcly : clP y P := clP_row (fun i h1 h2 => hI.2 i (by omega)) hcl
      refine X_iload_n dX9_find_11 rfl ?_
      refine X_aload_n dX9_find_12 rfl ?_
      refine X_getr (a := s + 2) dX9_find_13 fkX9_15 rfl hs.1 hs.2.2.2.2.2.2.2.1 ?_
      refine X_alen (len := 2048) dX9_find_16 hs.2.2.1 (by decide) ?_
      refine X_icmp_geN (a := 2048) (b := 2048) 33 dX9_find_17 (by decide) (by omega) (by omega) (fun h_3 => ?_) (fun h_3 => ?_)
      · refine X_iconst (v := nI 1) dX9_find_33 (by decide) ?_
        refine X_istore_n dX9_find_34 (by decide) ?_
        refine X_iconst (v := nI 0) dX9_find_35 (by decide) ?_
        refine X_istore_n dX9_find_36 (by decide) ?_
        refine X_L [(3, .int (nI 0)), (2, .int (nI 1)), (0, .ref s), (1, .int (nI n))] ⟨rfl, rfl, rfl, rfl, trivial⟩ ?_
        refine X_forR (σ := Unit) 37 (fun i u => [(3, .int (nI i)), (2, .int (nI (n ^ i))), (0, .ref s), (1, .int (nI n))]) (fun u => y) (fun u => ml) (fun i u => True) P.2.1 ?_ ?_ P.2.1 0 (()) (by omega) trivial
        · intro i u hi hU hnu
          refine X_iload_n dX9_find_37 rfl ?_
          refine X_aload_n dX9_find_38 rfl ?_
          refine X_getr (a := 3) dX9_find_39 fkX9_21 rfl hs.1 hs.2.2.2.2.1 ?_
          refine X_geti dX9_find_42 fkX9_33 rfl (k_3 hSh) ?_
          rw [hcly.2.1]
          refine X_icmp_geN (a := i) (b := P.2.1) 58 dX9_find_45 (by decide) (by omega) (by omega) (fun h_4 => ?_) (fun h_4 => ?_)
          · exact absurd hi (by omega)
          · refine X_iload_n dX9_find_48 rfl ?_
            refine X_iload_n dX9_find_49 rfl ?_
            refine X_imul dX9_find_50 ?_
            refine X_topi (pk_mul (n ^ i) n) ?_
            refine X_istore_n dX9_find_51 (by decide) ?_
            refine X_iinc (v := nI (i + 1)) dX9_find_52 rfl (nI_1 _) (by decide) ?_
            refine X_goto 37 dX9_find_55 (by decide) ?_
            refine X_L [(3, .int (nI (i + 1))), (2, .int (nI ((n ^ i) * n))), (0, .ref s), (1, .int (nI n))] ⟨rfl, rfl, rfl, rfl, trivial⟩ ?_
            exact hnu () trivial
        · intro u hU
          refine X_iload_n dX9_find_37 rfl ?_
          refine X_aload_n dX9_find_38 rfl ?_
          refine X_getr (a := 3) dX9_find_39 fkX9_21 rfl hs.1 hs.2.2.2.2.1 ?_
          refine X_geti dX9_find_42 fkX9_33 rfl (k_3 hSh) ?_
          rw [hcly.2.1]
          refine X_icmp_geN (a := P.2.1) (b := P.2.1) 58 dX9_find_45 (by decide) (by omega) (by omega) (fun h_5 => ?_) (fun h_5 => ?_)
          · refine X_aload_n dX9_find_58 rfl ?_
            refine X_getr (a := 67) dX9_find_59 fkX9_25 rfl hs.1 hs.2.2.2.2.2.1 ?_
            refine X_callVrV dX9_find_62 mkX9_38 (k_67 hSh) (c_numS Γ g y ml hSh) rfl rfl (by decide) (Nat.le_of_ble_eq_true rfl) (fun w0 wl hw => ?_)
            obtain ⟨hw1, hw2, hwl⟩ := hw
            rw [hwl]
            have hclw : clP w0 P := clP_row (fun i h1 h2 => hw2 i (by omega)) hcly
            have hw67 : w0 67 10 = nI 0 := by rw [hw2 67 (by omega), hI.2 67 (by omega)]; exact h6710
            refine X_iconst (v := nI 0) dX9_find_65 (by decide) ?_
            refine X_istore_n dX9_find_66 (by decide) ?_
            refine X_L [(3, .int (nI 0)), (2, .int (nI (n ^ P.2.1))), (0, .ref s), (1, .int (nI n))] ⟨rfl, rfl, rfl, rfl, trivial⟩ ?_
            refine X_forR (σ := pMI) 67 (fun i z => [(3, .int (nI i)), (2, .int (nI (n ^ P.2.1))), (0, .ref s), (1, .int (nI n))]) (fun z => z) (fun z => ml) (fun i z => WB P n s i z ∧ WF s w0 z) (n ^ P.2.1) ?_ ?_ (n ^ P.2.1) 0 w0 (by omega) ⟨fun b hb o ho => by rw [hw2 (s + 2) (by omega), hI.1 (b * 512 + o) (by omega)]; exact CEL_0, WF_r⟩
            · intro i z hi hJ hnz
              refine X_iload_n dX9_find_67 rfl ?_
              refine X_iload_n dX9_find_68 rfl ?_
              refine X_icmp_geN (a := i) (b := n ^ P.2.1) 84 dX9_find_69 (by decide) (by omega) (by omega) (fun h_6 => ?_) (fun h_6 => ?_)
              · exact absurd hi (by omega)
              · refine X_aload_n dX9_find_72 rfl ?_
                refine X_iload_n dX9_find_73 rfl ?_
                refine X_iload_n dX9_find_74 rfl ?_
                have hclz : clP z P := clP_row (fun i h1 h2 => hJ.2.1 i (by omega) (by omega) (by omega) (by omega)) hclw
                refine X_callVrV dX9_find_75 mkX9_43 hs.1 (c_weigh Γ g z ml hSh s hs h451 P hP hclz (hJ.2.2.trans hw67) (fun i hi => by rw [hJ.2.1 73 (by omega) (by omega) (by omega) (by omega)]; exact hw1 i hi) n hn0 hn8 hG4 i hi hJ.1) rfl rfl (by decide) (Nat.le_of_ble_eq_true rfl) (fun m3 l3 hm3 => ?_)
                obtain ⟨hm3, hl3⟩ := hm3
                rw [hl3]
                refine X_iinc (v := nI (i + 1)) dX9_find_78 rfl (nI_1 _) (by decide) ?_
                refine X_goto 67 dX9_find_81 (by decide) ?_
                refine X_L [(3, .int (nI (i + 1))), (2, .int (nI (n ^ P.2.1))), (0, .ref s), (1, .int (nI n))] ⟨rfl, rfl, rfl, rfl, trivial⟩ ?_
                exact hnz m3 ⟨hm3.1, WF_t hJ.2 hm3.2⟩
            · intro z hJ
              have hclz : clP z P := clP_row (fun i h1 h2 => hJ.2.1 i (by omega) (by omega) (by omega) (by omega)) hclw
              refine X_iload_n dX9_find_67 rfl ?_
              refine X_iload_n dX9_find_68 rfl ?_
              refine X_icmp_geN (a := (n ^ P.2.1)) (b := n ^ P.2.1) 84 dX9_find_69 (by decide) (by omega) (by omega) (fun h_7 => ?_) (fun h_7 => ?_)
              · refine X_aload_n dX9_find_84 rfl ?_
                refine X_iconst (v := nI 0) dX9_find_85 (by decide) ?_
                refine X_puti dX9_find_86 fkX9_47 rfl rfl hs.1 ?_
                refine X_aload_n dX9_find_89 rfl ?_
                refine X_iconst (v := -1) dX9_find_90 (by decide) ?_
                refine X_puti dX9_find_91 fkX9_50 rfl rfl hs.1 ?_
                refine X_iconst (v := nI 0) dX9_find_94 (by decide) ?_
                refine X_istore_n dX9_find_95 (by decide) ?_
                refine X_L [(3, .int (nI 0)), (2, .int (nI (n ^ P.2.1))), (0, .ref s), (1, .int (nI n))] ⟨rfl, rfl, rfl, rfl, trivial⟩ ?_
                refine X_forR (σ := pMI) 96 (fun i x => [(3, .int (nI i)), (2, .int (nI (n ^ P.2.1))), (0, .ref s), (1, .int (nI n))]) (fun x => x) (fun x => ml) (fun i x => x s 6 = nI (cN (stB P n) i) ∧ x s 7 = oI ((fE (stB P n) i).map (fun q => dgQ P.2.1 n q P.2.1)) ∧ (∀ a, a ≠ s → a ≠ s + 3 → x a = z a) ∧ ∀ j, j ≠ 6 → j ≠ 7 → x s j = z s j) (n ^ P.2.1) ?_ ?_ (n ^ P.2.1) 0 ((up2 (up2 z s 6 (nI 0)) s 7 (-1))) (by omega) ⟨by rw [up2_n (by omega), up2_s]; rfl, by rw [up2_s]; rfl, fun a h1 _ => by rw [up2_row h1, up2_row h1], fun j h1 h2 => by rw [up2_n h2, up2_n h1]⟩
                · intro i x hi hK hnk
                  refine X_iload_n dX9_find_96 rfl ?_
                  refine X_iload_n dX9_find_97 rfl ?_
                  refine X_icmp_geN (a := i) (b := n ^ P.2.1) 149 dX9_find_98 (by decide) (by omega) (by omega) (fun h_8 => ?_) (fun h_8 => ?_)
                  · exact absurd hi (by omega)
                  · refine X_aload_n dX9_find_101 rfl ?_
                    refine X_iload_n dX9_find_102 rfl ?_
                    refine X_iload_n dX9_find_103 rfl ?_
                    refine X_callVrI dX9_find_104 mkX9_53 hs.1 (c_isStill Γ g x ml hSh s hs h451 P hP (by rw [hK.2.2.1 3 (by omega) (by omega)]; exact hclz.2.1) n hn0 hn8 hG4 i hi (fun b hb o ho => by rw [hK.2.2.1 (s + 1) (by omega) (by omega), hK.2.2.1 (s + 2) (by omega) (by omega)]; exact hJ.1 b hb o ho)) rfl rfl (by decide) (Nat.le_of_ble_eq_true rfl) (fun v5 m5 l5 hm5 => ?_)
                    obtain ⟨hv5, hD5, hl5⟩ := hm5
                    rw [hl5, hv5]
                    have h56 : m5 s 6 = nI (cN (stB P n) i) := by rw [hD5.2 s (by omega)]; exact hK.1
                    have hcN := cN_le (stB P n) i
                    cases hF : fE (stB P n) i with
                    | none =>
                      have h57 : m5 s 7 = -1 := by rw [hD5.2 s (by omega), hK.2.1, hF]; rfl
                      cases hB : stB P n i with
                      | true =>
                        refine X_topi (show bI true = nI 1 from rfl) ?_
                        refine X_if_eqN (a := 1) 143 dX9_find_107 (by decide) (by omega) (fun h_9 => ?_) (fun h_9 => ?_)
                        · exact absurd h_9 (by omega)
                        · refine X_aload_n dX9_find_110 rfl ?_
                          refine X_dup dX9_find_111 rfl ?_
                          refine X_geti dX9_find_112 fkX9_47 rfl hs.1 ?_
                          rw [h56]
                          refine X_iconst (v := nI 1) dX9_find_115 (by decide) ?_
                          refine X_iadd dX9_find_116 ?_
                          refine X_topi (nI_add (cN (stB P n) i) 1) ?_
                          refine X_puti dX9_find_117 fkX9_47 rfl rfl hs.1 ?_
                          refine X_aload_n dX9_find_120 rfl ?_
                          refine X_aload_n dX9_find_121 rfl ?_
                          refine X_geti dX9_find_122 fkX9_50 rfl hs.1 ?_
                          refine X_topi (show (up2 m5 s 6 (nI ((cN (stB P n) i) + 1))) s 7 = -1 by rw [up2_n (by omega)]; exact h57) ?_
                          refine X_iconst (v := -1) dX9_find_125 (by decide) ?_
                          refine X_icmp_ne 136 dX9_find_126 (by decide) (fun h_10 => ?_) (fun h_10 => ?_)
                          · exact absurd rfl h_10
                          · refine X_aload_n dX9_find_129 rfl ?_
                            refine X_callVI dX9_find_130 mkX9_57 hs.1 (c_digits Γ g (up2 m5 s 6 (nI ((cN (stB P n) i) + 1))) ml hSh s hs h451 P.2.1 (by rw [up2_row (by omega), hD5.2 3 (by omega), hK.2.2.1 3 (by omega) (by omega)]; exact hclz.2.1) (by omega) n i (fun b hb => by rw [up2_row (by omega)]; exact hD5.1 b hb (by omega))) rfl rfl (by decide) (Nat.le_of_ble_eq_true rfl) ?_
                            refine X_goto 140 dX9_find_133 (by decide) ?_
                            refine X_puti dX9_find_140 fkX9_50 rfl rfl hs.1 ?_
                            refine X_iinc (v := nI (i + 1)) dX9_find_143 rfl (nI_1 _) (by decide) ?_
                            refine X_goto 96 dX9_find_146 (by decide) ?_
                            refine X_L [(3, .int (nI (i + 1))), (2, .int (nI (n ^ P.2.1))), (0, .ref s), (1, .int (nI n))] ⟨rfl, rfl, rfl, rfl, trivial⟩ ?_
                            exact hnk _ ⟨by rw [up2_n (by omega), up2_s, cN_t hB], by rw [up2_s, fE_st hF hB]; rfl, fun a h1 h2 => by rw [up2_row h1, up2_row h1, hD5.2 a h2]; exact hK.2.2.1 a h1 h2, fun j h1 h2 => by rw [up2_n h2, up2_n h1, hD5.2 s (by omega)]; exact hK.2.2.2 j h1 h2⟩
                      | false =>
                        refine X_topi (show bI false = nI 0 from rfl) ?_
                        refine X_if_eqN (a := 0) 143 dX9_find_107 (by decide) (by omega) (fun h_11 => ?_) (fun h_11 => ?_)
                        · refine X_iinc (v := nI (i + 1)) dX9_find_143 rfl (nI_1 _) (by decide) ?_
                          refine X_goto 96 dX9_find_146 (by decide) ?_
                          refine X_L [(3, .int (nI (i + 1))), (2, .int (nI (n ^ P.2.1))), (0, .ref s), (1, .int (nI n))] ⟨rfl, rfl, rfl, rfl, trivial⟩ ?_
                          exact hnk _ ⟨by rw [cN_f hB]; exact h56, by rw [fE_sf hF hB]; exact h57, fun a h1 h2 => by rw [hD5.2 a h2]; exact hK.2.2.1 a h1 h2, fun j h1 h2 => by rw [hD5.2 s (by omega)]; exact hK.2.2.2 j h1 h2⟩
                        · exact absurd h_11 (by omega)
                    | some e =>
                      have h57 : m5 s 7 = nI (dgQ P.2.1 n e P.2.1) := by rw [hD5.2 s (by omega), hK.2.1, hF]; rfl
                      have hdg := dgQ_lt (nG := P.2.1) (q := e) hn0 hn8 P.2.1
                      cases hB : stB P n i with
                      | true =>
                        refine X_topi (show bI true = nI 1 from rfl) ?_
                        refine X_if_eqN (a := 1) 143 dX9_find_107 (by decide) (by omega) (fun h_12 => ?_) (fun h_12 => ?_)
                        · exact absurd h_12 (by omega)
                        · refine X_aload_n dX9_find_110 rfl ?_
                          refine X_dup dX9_find_111 rfl ?_
                          refine X_geti dX9_find_112 fkX9_47 rfl hs.1 ?_
                          rw [h56]
                          refine X_iconst (v := nI 1) dX9_find_115 (by decide) ?_
                          refine X_iadd dX9_find_116 ?_
                          refine X_topi (nI_add (cN (stB P n) i) 1) ?_
                          refine X_puti dX9_find_117 fkX9_47 rfl rfl hs.1 ?_
                          refine X_aload_n dX9_find_120 rfl ?_
                          refine X_aload_n dX9_find_121 rfl ?_
                          refine X_geti dX9_find_122 fkX9_50 rfl hs.1 ?_
                          refine X_topi (show (up2 m5 s 6 (nI ((cN (stB P n) i) + 1))) s 7 = nI (dgQ P.2.1 n e P.2.1) by rw [up2_n (by omega)]; exact h57) ?_
                          refine X_iconst (v := -1) dX9_find_125 (by decide) ?_
                          refine X_icmp_ne 136 dX9_find_126 (by decide) (fun h_13 => ?_) (fun h_13 => ?_)
                          · refine X_aload_n dX9_find_136 rfl ?_
                            refine X_geti dX9_find_137 fkX9_50 rfl hs.1 ?_
                            refine X_topi (show (up2 m5 s 6 (nI ((cN (stB P n) i) + 1))) s 7 = nI (dgQ P.2.1 n e P.2.1) by rw [up2_n (by omega)]; exact h57) ?_
                            refine X_puti dX9_find_140 fkX9_50 rfl rfl hs.1 ?_
                            refine X_iinc (v := nI (i + 1)) dX9_find_143 rfl (nI_1 _) (by decide) ?_
                            refine X_goto 96 dX9_find_146 (by decide) ?_
                            refine X_L [(3, .int (nI (i + 1))), (2, .int (nI (n ^ P.2.1))), (0, .ref s), (1, .int (nI n))] ⟨rfl, rfl, rfl, rfl, trivial⟩ ?_
                            exact hnk _ ⟨by rw [up2_n (by omega), up2_s, cN_t hB], by rw [up2_s, fE_ss hF]; rfl, fun a h1 h2 => by rw [up2_row h1, up2_row h1, hD5.2 a h2]; exact hK.2.2.1 a h1 h2, fun j h1 h2 => by rw [up2_n h2, up2_n h1, hD5.2 s (by omega)]; exact hK.2.2.2 j h1 h2⟩
                          · exact absurd h_13 (nI_m1 (by omega))
                      | false =>
                        refine X_topi (show bI false = nI 0 from rfl) ?_
                        refine X_if_eqN (a := 0) 143 dX9_find_107 (by decide) (by omega) (fun h_14 => ?_) (fun h_14 => ?_)
                        · refine X_iinc (v := nI (i + 1)) dX9_find_143 rfl (nI_1 _) (by decide) ?_
                          refine X_goto 96 dX9_find_146 (by decide) ?_
                          refine X_L [(3, .int (nI (i + 1))), (2, .int (nI (n ^ P.2.1))), (0, .ref s), (1, .int (nI n))] ⟨rfl, rfl, rfl, rfl, trivial⟩ ?_
                          exact hnk _ ⟨by rw [cN_f hB]; exact h56, by rw [fE_ss hF]; exact h57, fun a h1 h2 => by rw [hD5.2 a h2]; exact hK.2.2.1 a h1 h2, fun j h1 h2 => by rw [hD5.2 s (by omega)]; exact hK.2.2.2 j h1 h2⟩
                        · exact absurd h_14 (by omega)
                · intro x hK
                  refine X_iload_n dX9_find_96 rfl ?_
                  refine X_iload_n dX9_find_97 rfl ?_
                  refine X_icmp_geN (a := (n ^ P.2.1)) (b := n ^ P.2.1) 149 dX9_find_98 (by decide) (by omega) (by omega) (fun h_15 => ?_) (fun h_15 => ?_)
                  · refine X_aload_n dX9_find_149 rfl ?_
                    refine X_iload_n dX9_find_150 rfl ?_
                    refine X_puti dX9_find_151 fkX9_29 rfl rfl hs.1 ?_
                    exact X_vret dX9_find_154 rfl ⟨rfl, rfl, ⟨up2_s, by rw [up2_n (by omega)]; exact hK.1, by rw [up2_n (by omega)]; exact hK.2.1, fun i h1 h2 => by rw [up2_row (by omega), hK.2.2.1 i (by omega) (by omega), hJ.2.1 i (by omega) (by omega) (by omega) (by omega), hw2 i (by omega), hI.2 i (by omega)], by rw [up2_row (by omega), hK.2.2.1 67 (by omega) (by omega), hJ.2.2, hw2 67 (by omega), hI.2 67 (by omega)]⟩, rfl⟩
                  · exact absurd h_15 (by omega)
              · exact absurd h_7 (by omega)
          · exact absurd h_5 (by omega)
      · exact absurd h_3 (by omega)
  · exact absurd h_1 hfo
set_option maxRecDepth 100000 in
set_option maxHeartbeats 4000000 in
theorem c_find_a (Γ : pTG) (g : pGG) (mi : pMI) (ml : pML) (hSh : Sh g) (s : Nat) (hs : ShS g s) (h451 : 451 ≤ s) (n : Nat) (hn0 : 0 < n) (hn8 : n ≤ 8) (h5 : mi s 5 = nI n) : rV Γ 7 mX9_find [.ref s, .int (nI n)] g mi ml (fun m l => m = mi ∧ l = ml) := by
  refine rV_of (by decide +kernel) (Nat.le_of_ble_eq_true rfl) ?_
  refine X_aload_n dX9_find_0 rfl ?_
  refine X_geti dX9_find_1 fkX9_29 rfl hs.1 ?_
  rw [h5]
  refine X_iload_n dX9_find_4 rfl ?_
  refine X_icmp_neN (a := n) (b := n) 9 dX9_find_5 (by decide) (by omega) (by omega) (fun h_1 => ?_) (fun h_1 => ?_)
  · exact absurd rfl h_1
  · exact X_vret dX9_find_8 rfl ⟨rfl, rfl, rfl, rfl⟩
theorem CIx_mov {A : AS} {g g' : pGG} {m x : pMI} {l l' : pML} {r im st st' : Nat} {qi : Nat → Nat} {si si' : Nat} (h : CIx A g m l r im st qi si) (hSh : Sh g') (hdyn : DYN g' im st' qi si') (e : ∀ i, (i < 87 ∨ (451 ≤ i ∧ i < g.1 ∧ (st = 1 → ¬ (si ≤ i ∧ i ≤ si + 3)))) → ¬ (67 ≤ i ∧ i ≤ 76) → x i = m i) (e67 : x 67 10 = m 67 10) (hl : l' 30 = l 30) (hst : st' = 1 → ∃ fo, x si' 5 = nI fo ∧ (fo = 0 ∨ (2 ≤ fo ∧ fo ≤ 8 ∧ aG A ≤ 4 ∧ x si' 6 = stM (aP A) fo ∧ x si' 7 = stF (aP A) fo))) : CIx A g' x l' r im st' qi si' := by
  obtain ⟨c1, c2, c3, c4, c5, c6, c7, c8, c9, c10, c11, c12, c13⟩ := h
  have e0 : ∀ i, i < 67 ∨ (76 < i ∧ i < 87) → x i = m i := fun i hi => e i (by omega) (by omega)
  refine ⟨hSh, DOK_row c2 (fun i hi => e0 i (by omega)) (by rw [e0 17 (by omega)]) hl, ?_, ?_, ?_, ?_, ?_, ?_, ?_, ?_, ?_, hdyn, hst⟩
  · rw [e0 24 (by omega), e0 25 (by omega)]; exact c3
  · rw [e0 0 (by omega)]; exact c4
  · rw [e0 81 (by omega)]; exact ⟨c5.1, chR_row c5.2 (e0 82 (by omega))⟩
  · rw [e0 81 (by omega)]
    refine ⟨c6.1, c6.2.1, fun k hk => ?_⟩
    have hk2 := Nat.lt_of_lt_of_le hk c6.2.1
    have h1 := c12.2.2.2.2.2.1 k hk2
    have h2 := h1.2.2.1
    have h3 := h1.2.2.2
    have hq : ∀ i, qi k ≤ i → i < qi k + 3 → x i = m i := fun i a1 a2 => e i (Or.inr ⟨by omega, by omega, fun q => by have := (c12.2.2.2.2.2.2.2.2 q).2.2.2.2 k hk2; omega⟩) (by omega)
    exact imC_row (c6.2.2 k hk) (hq _ (by omega) (by omega)) (hq _ (by omega) (by omega)) (hq _ (by omega) (by omega))
  · rw [e0 0 (by omega), e0 1 (by omega)]; exact c7
  · rw [e0 2 (by omega), e0 86 (by omega)]; exact c8
  · rw [e0 0 (by omega)]
    rcases c9 with q | ⟨q1, q2⟩
    · exact Or.inl q
    · exact Or.inr ⟨q1, cdy_row (e0 58 (by omega)) (e0 59 (by omega)) (by rw [e0 57 (by omega)]) (e0 65 (by omega)) (e0 66 (by omega)) q2⟩
  · rw [e0 57 (by omega), e0 63 (by omega), e67, e0 43 (by omega), e0 47 (by omega), e0 53 (by omega)]; exact c10
  · rw [e0 77 (by omega)]
    rcases c11 with q | ⟨q1, q2⟩
    · exact Or.inl q
    · exact Or.inr ⟨q1, GOK_row q2 (by rw [e0 77 (by omega)]) (e0 78 (by omega)) (e0 80 (by omega))⟩
theorem c_findK (Γ : pTG) (g : pGG) (mi : pMI) (ml : pML) (A : AS) (hA : okAS A) (r im : Nat) (qi : Nat → Nat) (si : Nat) (h : CIx A g mi ml r im 1 qi si) (n : Nat) (hn2 : 2 ≤ n) (hn8 : n ≤ 8) (hG4 : aG A ≤ 4) : rV Γ 7 mX9_find [.ref si, .int (nI n)] g mi ml (fun m l => CI A g m l ∧ m si 6 = stM (aP A) n ∧ m si 7 = stF (aP A) n ∧ frK mi m ∧ l = ml) := by
  have hd := h.2.2.2.2.2.2.2.2.2.2.2.1
  obtain ⟨d1, d2, d3, d4, d5⟩ := hd.2.2.2.2.2.2.2.2 rfl
  obtain ⟨fo, f1, f2⟩ := h.2.2.2.2.2.2.2.2.2.2.2.2 rfl
  by_cases e : fo = n
  · refine rV_w (c_find_a Γ g mi ml h.1 si d2 d3 n (by omega) hn8 (by rw [f1, e])) (fun m l hm => ?_)
    obtain ⟨rfl, rfl⟩ := hm
    rcases f2 with f2 | f2
    · omega
    · rw [e] at f2; exact ⟨⟨r, im, 1, qi, si, h⟩, f2.2.2.2.1, f2.2.2.2.2, frK_r, rfl⟩
  · refine rV_w (c_find_b Γ g mi ml h.1 si d2 d3 (aP A) hA.1 h.2.1.1 h.2.2.2.2.2.2.2.2.2.1.2.2.1 n (by omega) hn8 hG4 fo f1 e (by omega)) (fun m l hm => ?_)
    obtain ⟨⟨q1, q2, q3, q4, q5⟩, rfl⟩ := hm
    exact ⟨⟨r, im, 1, qi, si, CIx_mov h h.1 hd (fun i hi h6 => q4 i (by rcases hi with hi | ⟨_, _, hi⟩; omega; exact hi rfl) h6) q5 rfl (fun _ => ⟨n, q1, Or.inr ⟨hn2, hn8, hG4, q2, q3⟩⟩)⟩, q2, q3, fun i h1 h2 => q4 i (by omega) (by omega), rfl⟩
/-! a new one -/
def prG (g : pGG) (q k a : Nat) : pGG := (g.1, g.2.1, up2 g.2.2 q k (some a))
def snG (g : pGG) (q : Nat) : pGG := prG (prG (prG (newG (prG (newG (prG (newG g (20, 2048)) q 2 g.1) (20, 2048)) q 3 (g.1 + 1)) (20, 8)) q 4 (g.1 + 1 + 1)) q 0 3) q 1 67
set_option maxRecDepth 100000 in
theorem c_Sinit (Γ : pTG) (g : pGG) (mi : pMI) (ml : pML) (q : Nat) (hk : g.2.1 q = (9, 0)) (hq : q < g.1) (h9 : g.1 + 2 < 900) : CT Γ 1 3 4104 mX9_init [.ref q, .ref 3, .ref 67] g mi ml (fun o g' m' l' => o = .inl none ∧ g' = snG g q ∧ m' = newR (newR (newR mi g.1 0) (g.1 + 1) 0) (g.1 + 1 + 1) 0 ∧ l' = newR (newR (newR ml g.1 0) (g.1 + 1) 0) (g.1 + 1 + 1) 0) := by
  have k1 : (if q = g.1 then ((20, 2048) : Nat × Nat) else g.2.1 q) = (9, 0) := by rw [if_neg (by omega)]; exact hk
  have k2 : (if q = g.1 + 1 then ((20, 2048) : Nat × Nat) else if q = g.1 then (20, 2048) else g.2.1 q) = (9, 0) := by rw [if_neg (by omega)]; exact k1
  have k3 : (if q = g.1 + 1 + 1 then ((20, 8) : Nat × Nat) else if q = g.1 + 1 then (20, 2048) else if q = g.1 then (20, 2048) else g.2.1 q) = (9, 0) := by rw [if_neg (by omega)]; exact k2
  refine CT_of (by decide +kernel) (Nat.le_of_ble_eq_true rfl) ?_
  refine X_aload_n dX9_init_0 rfl ?_
  refine X_objInit dX9_init_1 oiX9 (by decide) (Nat.le_of_ble_eq_true rfl) ?_
  refine X_aload_n dX9_init_4 rfl ?_
  refine X_sipush (v := nI 2048) dX9_init_5 (by decide) ?_
  refine X_newI (len := 2048) dX9_init_8 acI rfl (by decide) (by omega) (by decide) (by decide) ?_
  refine X_putrF (z := 0) dX9_init_10 fkX9_11 rfl rfl rfl rfl k1 (by omega) ?_
  refine X_aload_n dX9_init_13 rfl ?_
  refine X_sipush (v := nI 2048) dX9_init_14 (by decide) ?_
  refine X_newI (len := 2048) dX9_init_17 acI rfl (by decide) (by show g.1 + 1 < 900; omega) (by decide) (by decide) ?_
  refine X_putrF (z := 0) dX9_init_19 fkX9_15 rfl rfl rfl rfl k2 (by show g.1 + 1 < 999; omega) ?_
  refine X_aload_n dX9_init_22 rfl ?_
  refine X_bipush (v := nI 8) dX9_init_23 (by decide) ?_
  refine X_newI (len := 8) dX9_init_25 acI rfl (by decide) (by show g.1 + 1 + 1 < 900; omega) (by decide) (by decide) ?_
  refine X_putrF (z := 0) dX9_init_27 fkX9_18 rfl rfl rfl rfl k3 (by show g.1 + 1 + 1 < 999; omega) ?_
  refine X_aload_n dX9_init_30 rfl ?_
  refine X_aload_n dX9_init_31 rfl ?_
  refine X_putrF (z := 0) dX9_init_32 fkX9_21 rfl rfl rfl rfl k3 (by omega) ?_
  refine X_aload_n dX9_init_35 rfl ?_
  refine X_aload_n dX9_init_36 rfl ?_
  refine X_putrF (z := 0) dX9_init_37 fkX9_25 rfl rfl rfl rfl k3 (by omega) ?_
  exact X_vret dX9_init_40 rfl ⟨rfl, rfl, rfl, rfl⟩
def NWS (g g' : pGG) : Prop := g'.1 = g.1 + 4 ∧ (∀ i, i < g.1 → g'.2.1 i = g.2.1 i) ∧ ShS g' g.1 ∧ (∀ i j, i < g.1 → ¬ (i = 0 ∧ j = 16) → g'.2.2 i j = g.2.2 i j) ∧ g'.2.2 0 16 = some g.1
theorem NWS_mk {g : pGG} (h : 451 ≤ g.1) : NWS g (prG (snG (newG g (9, 0)) g.1) 0 16 g.1) := by
  have h1 : ∀ i, (prG (snG (newG g (9, 0)) g.1) 0 16 g.1).2.1 i = if i = g.1 + 1 + 1 + 1 then (20, 8) else if i = g.1 + 1 + 1 then (20, 2048) else if i = g.1 + 1 then (20, 2048) else if i = g.1 then (9, 0) else g.2.1 i := fun i => rfl
  have h2 : ∀ i j, (prG (snG (newG g (9, 0)) g.1) 0 16 g.1).2.2 i j = up2 (up2 (up2 (up2 (fun i j => if i = g.1 + 1 + 1 + 1 then none else up2 (fun i j => if i = g.1 + 1 + 1 then none else up2 (fun i j => if i = g.1 + 1 then none else if i = g.1 then none else g.2.2 i j) g.1 2 (some (g.1 + 1)) i j) g.1 3 (some (g.1 + 1 + 1)) i j) g.1 4 (some (g.1 + 1 + 1 + 1))) g.1 0 (some 3)) g.1 1 (some 67)) 0 16 (some g.1) i j := fun i j => rfl
  refine ⟨rfl, fun i hi => by rw [h1, if_neg (by omega), if_neg (by omega), if_neg (by omega), if_neg (by omega)], ⟨by rw [h1, if_neg (by omega), if_neg (by omega), if_neg (by omega), if_pos rfl], by rw [h1, if_neg (by omega), if_neg (by omega), if_pos rfl], by rw [h1, if_neg (by omega), if_pos (by omega)], by rw [h1, if_pos (by omega)], ?_, ?_, ?_, ?_, ?_⟩, fun i j hi hn => ?_, ?_⟩
  · rw [h2, up2_row (by omega), up2_n (by omega), up2_s]
  · rw [h2, up2_row (by omega), up2_s]
  · rw [h2, up2_row (by omega), up2_n (by omega), up2_n (by omega), up2_n (by omega)]
    show (if g.1 = g.1 + 1 + 1 + 1 then none else _) = _
    rw [if_neg (by omega), up2_n (by omega)]
    show (if g.1 = g.1 + 1 + 1 then none else _) = _
    rw [if_neg (by omega), up2_s]
  · rw [h2, up2_row (by omega), up2_n (by omega), up2_n (by omega), up2_n (by omega)]
    show (if g.1 = g.1 + 1 + 1 + 1 then none else _) = _
    rw [if_neg (by omega), up2_s]
  · rw [h2, up2_row (by omega), up2_n (by omega), up2_n (by omega), up2_s]
  · rw [h2, up2_nn (by omega), up2_row (by omega), up2_row (by omega), up2_row (by omega)]
    show (if i = g.1 + 1 + 1 + 1 then none else _) = _
    rw [if_neg (by omega), up2_row (by omega)]
    show (if i = g.1 + 1 + 1 then none else _) = _
    rw [if_neg (by omega), up2_row (by omega)]
    show (if i = g.1 + 1 then none else if i = g.1 then none else g.2.2 i j) = _
    rw [if_neg (by omega), if_neg (by omega)]
  · rw [h2, up2_s]
theorem NWS_Sh {g g' : pGG} (h : NWS g g') (hs : Sh g) (h4 : 451 ≤ g.1) : Sh g' := Sh_ext hs (fun i hi => h.2.1 i (by omega)) (fun i j hi _ h0 => h.2.2.2.1 i j (by omega) h0)
theorem NWS_D {im si : Nat} {g g' : pGG} {qi : Nat → Nat} (h : NWS g g') (hd : DYN g im 0 qi si) : DYN g' im 1 qi g.1 := by
  obtain ⟨n1, n2, n3, n4, n5⟩ := h
  obtain ⟨d1, d2, d3, d4, d5, d6, d7, d8, d9⟩ := hd
  refine ⟨d1, by omega, by omega, by omega, fun k hk h1 => ?_, fun k hk => ?_, d7, fun h => absurd h (by omega), fun _ => ⟨n5, n3, d3, by omega, fun k hk => Or.inl (d6 k hk).2.2.2⟩⟩
  · rw [n4 83 k (by omega) (by omega)]; exact d5 k hk h1
  · obtain ⟨a1, ⟨b1, b2, b3, b4, b5⟩, a3, a4⟩ := d6 k hk
    refine ⟨by rw [n4 83 k (by omega) (by omega)]; exact a1, ⟨?_, ?_, ?_, ?_, ?_⟩, a3, by omega⟩
    · rw [n2 _ (by omega)]; exact b1
    · rw [n2 _ (by omega)]; exact b2
    · rw [n2 _ (by omega)]; exact b3
    · rw [n4 _ _ (by omega) (by omega)]; exact b4
    · rw [n4 _ _ (by omega) (by omega)]; exact b5
set_option maxRecDepth 100000 in
set_option maxHeartbeats 4000000 in
theorem kt_still (Γ : pTG) (g : pGG) (mi : pMI) (ml : pML) (A : AS) (hA : okAS A) (r im : Nat) (qi : Nat → Nat) (si : Nat) (h : CIx A g mi ml r im 1 qi si) (e : Nat) (hea : 2 ≤ e) (he : e ≤ 8) (k : Nat) (hk : k ≤ 1) (h4 : aG A ≤ 4) {kk nn : Nat} (m0 : pMI) (l0 : pML) (hK : frK m0 mi) (hl : ml 450 = l0 450) : XW Γ 60 kk nn mX11_still 45 [(0, .ref 0), (1, .int (nI e)), (2, .int (nI k))] [] g mi ml (CQ A (.inl (if k = 0 then stM (aP A) e else stF (aP A) e)) m0 l0) := by
  have hSh := h.1
  have hd := h.2.2.2.2.2.2.2.2.2.2.2.1
  obtain ⟨hd1, hd2, hd3, hd4, hd5⟩ := hd.2.2.2.2.2.2.2.2 rfl
  refine X_aload_n dX11_still_45 rfl ?_
  refine X_getr (a := si) dX11_still_46 fkX11_278 rfl (k_0 hSh) hd1 ?_
  refine X_iload_n dX11_still_49 rfl ?_
  refine X_callVrV dX11_still_50 mkX11_287 hd2.1 (c_findK Γ g mi ml A hA r im qi si h e hea he h4) rfl rfl (by decide) (Nat.le_of_ble_eq_true rfl) (fun m1 l1 hm1 => ?_)
  obtain ⟨hC1, h16, h17, hK1, hl1⟩ := hm1
  rw [hl1] at hC1 ⊢
  refine X_iload_n dX11_still_53 rfl ?_
  refine X_if_neN (a := k) 67 dX11_still_54 (by decide) (by omega) (fun h_1 => ?_) (fun h_1 => ?_)
  · refine X_aload_n dX11_still_67 rfl ?_
    refine X_getr (a := si) dX11_still_68 fkX11_278 rfl (k_0 hSh) hd1 ?_
    refine X_geti dX11_still_71 fkX11_293 rfl hd2.1 ?_
    rw [h17]
    exact X_iret dX11_still_74 rfl ⟨by first | rw [if_pos (by omega)]; rfl | rw [if_neg (by omega)]; rfl, hC1, frK_t hK hK1, hl⟩
  · refine X_aload_n dX11_still_57 rfl ?_
    refine X_getr (a := si) dX11_still_58 fkX11_278 rfl (k_0 hSh) hd1 ?_
    refine X_geti dX11_still_61 fkX11_290 rfl hd2.1 ?_
    rw [h16]
    refine X_goto 74 dX11_still_64 (by decide) ?_
    exact X_iret dX11_still_74 rfl ⟨by first | rw [if_pos (by omega)]; rfl | rw [if_neg (by omega)]; rfl, hC1, frK_t hK hK1, hl⟩
set_option maxRecDepth 100000 in
set_option maxHeartbeats 4000000 in
theorem k_still_1 (Γ : pTG) (g : pGG) (mi : pMI) (ml : pML) (A : AS) (hA : okAS A) (hC : CI A g mi ml) (e : Nat) (hea : 2 ≤ e) (he : e ≤ 8) (k : Nat) (hka : 0 ≤ k) (hk : k ≤ 1) (h4 : aG A ≤ 4) (r im : Nat) (qi : Nat → Nat) (si : Nat) (hx : CIx A g mi ml r im 1 qi si) : CT Γ 60 20 5000 mX11_still [.ref 0, .int (nI e), .int (nI k)] g mi ml (CQ A (.inl (if k = 0 then stM (aP A) e else stF (aP A) e)) mi ml) := by
  refine CT_of (by decide +kernel) (Nat.le_of_ble_eq_true rfl) ?_
  have hSh := CI_Sh hC
  have hcl := CI_cl hC
  have hP := hA.1
  have hG8 : aG A ≤ 8 := hP.2.1
  have hC8 : (aP A).1 ≤ 8 := hP.1
  have hd := hx.2.2.2.2.2.2.2.2.2.2.2.1
  have hd4 := hd.2.2.2.1
  have hd1 := hd.1
  have hd3 := hd.2.2.1
  refine X_aload_n dX11_still_0 rfl ?_
  refine X_iload_n dX11_still_1 rfl ?_
  refine X_iconst (v := nI 2) dX11_still_2 (by decide) ?_
  refine X_bipush (v := nI 8) dX11_still_3 (by decide) ?_
  refine X_need dX11_still_5 mkX11_116 (k_0 hSh) (c_needWithin Γ g mi ml hSh (nI e) (nI 2) (nI 8)) rfl rfl (by decide) (by decide) (by decide) (by decide) (fun h => absurd (⟨nI_le (by omega) (by omega), nI_le (by omega) (by omega)⟩) h) (fun _ => ?_)
  refine X_aload_n dX11_still_8 rfl ?_
  refine X_iload_n dX11_still_9 rfl ?_
  refine X_iconst (v := nI 0) dX11_still_10 (by decide) ?_
  refine X_iconst (v := nI 1) dX11_still_11 (by decide) ?_
  refine X_need dX11_still_12 mkX11_116 (k_0 hSh) (c_needWithin Γ g mi ml hSh (nI k) (nI 0) (nI 1)) rfl rfl (by decide) (by decide) (by decide) (by decide) (fun h => absurd (⟨nI_le (by omega) (by omega), nI_le (by omega) (by omega)⟩) h) (fun _ => ?_)
  refine X_aload_n dX11_still_15 rfl ?_
  refine X_need dX11_still_16 mkX11_275 (k_0 hSh) (c_needFewGuests Γ g mi ml hSh ) rfl rfl (by decide) (by decide) (by decide) (by decide) (fun h => absurd (by rw [hcl.2.1]; exact nI_nlt h4 (by omega)) h) (fun _ => ?_)
  refine X_aload_n dX11_still_19 rfl ?_
  refine X_getr (a := si) dX11_still_20 fkX11_278 rfl (k_0 hSh) (hd.2.2.2.2.2.2.2.2 rfl).1 ?_
  refine X_ifnonnull (r := some si) 45 dX11_still_23 (by decide) (fun _ _ => ?_) (fun h => by cases h)
  refine X_L [(0, .ref 0), (1, .int (nI e)), (2, .int (nI k))] ⟨rfl, rfl, rfl, trivial⟩ ?_
  exact kt_still Γ g mi ml A hA r im qi si hx e hea he k hk h4 mi ml frK_r rfl
set_option maxRecDepth 100000 in
set_option maxHeartbeats 4000000 in
theorem k_still_0 (Γ : pTG) (g : pGG) (mi : pMI) (ml : pML) (A : AS) (hA : okAS A) (hC : CI A g mi ml) (e : Nat) (hea : 2 ≤ e) (he : e ≤ 8) (k : Nat) (hka : 0 ≤ k) (hk : k ≤ 1) (h4 : aG A ≤ 4) (r im : Nat) (qi : Nat → Nat) (si : Nat) (hx : CIx A g mi ml r im 0 qi si) : CT Γ 60 20 5000 mX11_still [.ref 0, .int (nI e), .int (nI k)] g mi ml (CQ A (.inl (if k = 0 then stM (aP A) e else stF (aP A) e)) mi ml) := by
  refine CT_of (by decide +kernel) (Nat.le_of_ble_eq_true rfl) ?_
  have hSh := CI_Sh hC
  have hcl := CI_cl hC
  have hP := hA.1
  have hG8 : aG A ≤ 8 := hP.2.1
  have hC8 : (aP A).1 ≤ 8 := hP.1
  have hd := hx.2.2.2.2.2.2.2.2.2.2.2.1
  have hd4 := hd.2.2.2.1
  have hd1 := hd.1
  have hd3 := hd.2.2.1
  refine X_aload_n dX11_still_0 rfl ?_
  refine X_iload_n dX11_still_1 rfl ?_
  refine X_iconst (v := nI 2) dX11_still_2 (by decide) ?_
  refine X_bipush (v := nI 8) dX11_still_3 (by decide) ?_
  refine X_need dX11_still_5 mkX11_116 (k_0 hSh) (c_needWithin Γ g mi ml hSh (nI e) (nI 2) (nI 8)) rfl rfl (by decide) (by decide) (by decide) (by decide) (fun h => absurd (⟨nI_le (by omega) (by omega), nI_le (by omega) (by omega)⟩) h) (fun _ => ?_)
  refine X_aload_n dX11_still_8 rfl ?_
  refine X_iload_n dX11_still_9 rfl ?_
  refine X_iconst (v := nI 0) dX11_still_10 (by decide) ?_
  refine X_iconst (v := nI 1) dX11_still_11 (by decide) ?_
  refine X_need dX11_still_12 mkX11_116 (k_0 hSh) (c_needWithin Γ g mi ml hSh (nI k) (nI 0) (nI 1)) rfl rfl (by decide) (by decide) (by decide) (by decide) (fun h => absurd (⟨nI_le (by omega) (by omega), nI_le (by omega) (by omega)⟩) h) (fun _ => ?_)
  refine X_aload_n dX11_still_15 rfl ?_
  refine X_need dX11_still_16 mkX11_275 (k_0 hSh) (c_needFewGuests Γ g mi ml hSh ) rfl rfl (by decide) (by decide) (by decide) (by decide) (fun h => absurd (by rw [hcl.2.1]; exact nI_nlt h4 (by omega)) h) (fun _ => ?_)
  refine X_aload_n dX11_still_19 rfl ?_
  refine X_getq dX11_still_20 fkX11_278 rfl (k_0 hSh) ?_
  refine X_ifnonnull 45 dX11_still_23 (by decide) (fun a h => absurd h (by rw [hd.2.2.2.2.2.2.2.1 rfl]; exact fun q => by cases q)) (fun _ => ?_)
  refine X_aload_n dX11_still_26 rfl ?_
  refine X_new dX11_still_27 nwX11_282 (by omega) (by decide) (by decide) ?_
  refine X_dup dX11_still_30 rfl ?_
  have hS1 : Sh (newG g (9, 0)) := Sh_ext hSh (fun i hi => if_neg (by omega)) (fun i j hi _ _ => if_neg (by omega))
  refine X_aload_n dX11_still_31 rfl ?_
  refine X_getr (a := 3) dX11_still_32 fkX11_25 rfl (k_0 hS1) (r_0_2 hS1) ?_
  refine X_aload_n dX11_still_35 rfl ?_
  refine X_getr (a := 67) dX11_still_36 fkX11_76 rfl (k_0 hS1) (r_0_10 hS1) ?_
  refine X_callI (As := [.ref 3, .ref 67]) dX11_still_39 miX11_284 (c_Sinit Γ (newG g (9, 0)) (newR mi g.1 0) (newR ml g.1 0) g.1 (if_pos rfl) (by show g.1 < g.1 + 1; omega) (by show g.1 + 1 + 2 < 900; omega)) (fun E _ _ _ h => by cases h.1) rfl rfl (by decide) (by decide) (by decide) (Nat.le_of_ble_eq_true rfl) (fun v g2 m2 l2 h => ?_)
  obtain ⟨hv, hg2, hm2, hl2⟩ := h
  cases hv
  rw [hg2, hm2, hl2]
  refine X_putr (z := 0) dX11_still_42 fkX11_278 rfl rfl ?_ (by omega) ?_
  · show (if 0 = g.1 + 1 + 1 + 1 then (20, 8) else if 0 = g.1 + 1 + 1 then (20, 2048) else if 0 = g.1 + 1 then (20, 2048) else if 0 = g.1 then (9, 0) else g.2.1 0) = _
    rw [if_neg (by omega), if_neg (by omega), if_neg (by omega), if_neg (by omega)]; exact k_0 hSh
  have hN := NWS_mk (g := g) hd.2.2.1
  have hR : ∀ i, i < g.1 → newR (newR (newR (newR mi g.1 0) (g.1 + 1) 0) (g.1 + 1 + 1) 0) (g.1 + 1 + 1 + 1) 0 i = mi i := fun i hi => by unfold newR; funext j; rw [if_neg (by omega), if_neg (by omega), if_neg (by omega), if_neg (by omega)]
  have hRl : ∀ i, i < g.1 → newR (newR (newR (newR ml g.1 0) (g.1 + 1) 0) (g.1 + 1 + 1) 0) (g.1 + 1 + 1 + 1) 0 i = ml i := fun i hi => by unfold newR; funext j; rw [if_neg (by omega), if_neg (by omega), if_neg (by omega), if_neg (by omega)]
  have h05 : newR (newR (newR (newR mi g.1 0) (g.1 + 1) 0) (g.1 + 1 + 1) 0) (g.1 + 1 + 1 + 1) 0 g.1 5 = nI 0 := by unfold newR; rw [if_neg (by omega), if_neg (by omega), if_neg (by omega), if_pos rfl]; rfl
  have hx2 := CIx_mov hx (NWS_Sh hN hSh hd.2.2.1) (NWS_D hN hd) (fun i hi _ => hR i (by omega)) (congrFun (hR 67 (by omega)) 10) (hRl 30 (by omega)) (fun _ => ⟨0, h05, Or.inl rfl⟩)
  exact kt_still Γ _ _ _ A hA r im qi g.1 hx2 e hea he k hk h4 mi ml (fun i h1 h2 => hR i (by omega)) (hRl 450 (by omega))

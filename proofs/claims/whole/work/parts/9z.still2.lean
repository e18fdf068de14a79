/-! ===== mornings that are still: the class ===== -/
set_option maxRecDepth 100000 in
set_option maxHeartbeats 4000000 in
theorem c_setH (Γ : pTG) (g : pGG) (mi : pMI) (ml : pML) (hSh : Sh g) (s : Nat) (hs : ShS g s) (h451 : 451 ≤ s) (nG : Nat) (hG : mi 3 10 = nI nG) (h8 : nG ≤ 8) (n : Nat) (hn0 : 0 < n) (hn8 : n ≤ 8) (k : Nat) (hk : k < 2147483648) : rV Γ 1 mX9_setHalves [.ref s, .int (nI k), .int (nI n)] g mi ml (fun m l => DGN (s + 3) k n nG nG mi m ∧ l = ml) := by
  refine rV_of (by decide +kernel) (Nat.le_of_ble_eq_true rfl) ?_
  refine X_iload_n dX9_setHalves_0 rfl ?_
  refine X_istore_n dX9_setHalves_1 (by decide) ?_
  refine X_aload_n dX9_setHalves_2 rfl ?_
  refine X_getr (a := 3) dX9_setHalves_3 fkX9_21 rfl hs.1 hs.2.2.2.2.1 ?_
  refine X_geti dX9_setHalves_6 fkX9_33 rfl (k_3 hSh) ?_
  rw [hG]
  refine X_iconst (v := nI 1) dX9_setHalves_9 (by decide) ?_
  refine X_isub dX9_setHalves_10 ?_
  refine X_istore dX9_setHalves_11 (by decide) ?_
  refine X_L [(4, .int ((nI nG) - (nI 1))), (3, .int (nI k)), (0, .ref s), (1, .int (nI k)), (2, .int (nI n))] ⟨rfl, rfl, rfl, rfl, rfl, trivial⟩ ?_
  refine X_L [(4, .int (dnI nG 0)), (3, .int (nI (k / n ^ 0))), (0, .ref s), (1, .int (nI k)), (2, .int (nI n))] ⟨by rw [← dn_0]; rfl, by rw [Nat.pow_zero, Nat.div_one]; rfl, rfl, rfl, rfl, trivial⟩ ?_
  refine X_forR (σ := pMI) 13 (fun i y => [(4, .int (dnI nG i)), (3, .int (nI (k / n ^ i))), (0, .ref s), (1, .int (nI k)), (2, .int (nI n))]) (fun y => y) (fun y => ml) (fun i y => DGN (s + 3) k n nG i mi y) nG ?_ ?_ nG 0 mi (by omega) DGN_0
  · intro i y hi hI hn
    have hq0 : k / n ^ i ≤ k := Nat.div_le_self _ _
    refine X_L [(4, .int (nI (nG - 1 - i))), (3, .int (nI (k / n ^ i))), (0, .ref s), (1, .int (nI k)), (2, .int (nI n))] ⟨by rw [dn_i hi]; rfl, rfl, rfl, rfl, rfl, trivial⟩ ?_
    refine X_iload dX9_setHalves_13 rfl ?_
    refine X_if_ltN (a := nG - 1 - i) 38 dX9_setHalves_15 (by decide) (by omega) (fun h_1 => ?_) (fun h_1 => ?_)
    · exact h_1.elim
    · refine X_aload_n dX9_setHalves_18 rfl ?_
      refine X_getr (a := s + 3) dX9_setHalves_19 fkX9_18 rfl hs.1 hs.2.2.2.2.2.2.2.2 ?_
      refine X_iload dX9_setHalves_22 rfl ?_
      refine X_iload_n dX9_setHalves_24 rfl ?_
      refine X_iload_n dX9_setHalves_25 rfl ?_
      refine X_irem dX9_setHalves_26 (nI_ne0 (by omega) (by omega)) ?_
      refine X_topi (pk_rem (a := k / n ^ i) (d := n) (by omega) (by omega) (by omega)) ?_
      refine X_iast (nG - 1 - i) dX9_setHalves_27 hs.2.2.2.1 rfl (by omega) ?_
      refine X_iload_n dX9_setHalves_28 rfl ?_
      refine X_iload_n dX9_setHalves_29 rfl ?_
      refine X_idiv dX9_setHalves_30 (nI_ne0 (by omega) (by omega)) ?_
      refine X_topi (pk_div (a := k / n ^ i) (d := n) (by omega) (by omega) (by omega)) ?_
      refine X_istore_n dX9_setHalves_31 (by decide) ?_
      refine X_iinc dX9_setHalves_32 rfl rfl (by decide) ?_
      refine X_goto 13 dX9_setHalves_35 (by decide) ?_
      refine X_L [(4, .int ((nI (nG - 1 - i)) + Int32.ofInt (-1))), (3, .int (nI ((k / n ^ i) / n))), (0, .ref s), (1, .int (nI k)), (2, .int (nI n))] ⟨rfl, rfl, rfl, rfl, rfl, trivial⟩ ?_
      refine X_L [(4, .int (dnI nG (i + 1))), (3, .int (nI (k / n ^ (i + 1)))), (0, .ref s), (1, .int (nI k)), (2, .int (nI n))] ⟨by rw [← dn_s hi]; rfl, by rw [dv_n]; rfl, rfl, rfl, rfl, trivial⟩ ?_
      exact hn _ (DGN_s hi hI)
  · intro y hI
    have hq1 : k / n ^ nG ≤ k := Nat.div_le_self _ _
    refine X_L [(4, .int (-1)), (3, .int (nI (k / n ^ nG))), (0, .ref s), (1, .int (nI k)), (2, .int (nI n))] ⟨by rw [show dnI nG nG = -1 from if_neg (by omega)]; rfl, rfl, rfl, rfl, rfl, trivial⟩ ?_
    refine X_iload dX9_setHalves_13 rfl ?_
    refine X_if_lt 38 dX9_setHalves_15 (by decide) (fun h_2 => ?_) (fun h_2 => ?_)
    · exact X_vret dX9_setHalves_38 rfl ⟨rfl, rfl, hI, rfl⟩
    · exact absurd (by decide) h_2
set_option maxRecDepth 100000 in
set_option maxHeartbeats 4000000 in
theorem c_place (Γ : pTG) (g : pGG) (mi : pMI) (ml : pML) (b q e n : Nat) (hq : q < 2147483648) (he : 0 < e) (he2 : e < 2147483648) (hen : 0 < e * n) (hen2 : e * n < 2147483648) : cI Γ 1 mX9_place [.int (nI b), .int (nI q), .int (nI e), .int (nI n)] g mi ml (nI (b * 512 + oth e n q)) mi := by
  refine cI_of (by decide +kernel) (Nat.le_of_ble_eq_true rfl) ?_
  refine X_iload_n dX9_place_0 rfl ?_
  refine X_sipush (v := nI 512) dX9_place_1 (by decide) ?_
  refine X_imul dX9_place_4 ?_
  refine X_topi (pk_mul b 512) ?_
  refine X_iload_n dX9_place_5 rfl ?_
  refine X_iload_n dX9_place_6 rfl ?_
  refine X_iload_n dX9_place_7 rfl ?_
  refine X_imul dX9_place_8 ?_
  refine X_topi (pk_mul e n) ?_
  refine X_idiv dX9_place_9 (nI_ne0 (by omega) (by omega)) ?_
  refine X_topi (pk_div (a := q) (d := e * n) (by omega) (by omega) (by omega)) ?_
  refine X_iload_n dX9_place_10 rfl ?_
  refine X_imul dX9_place_11 ?_
  refine X_topi (pk_mul (q / (e * n)) e) ?_
  refine X_iadd dX9_place_12 ?_
  refine X_topi (nI_add (b * 512) ((q / (e * n)) * e)) ?_
  refine X_iload_n dX9_place_13 rfl ?_
  refine X_iload_n dX9_place_14 rfl ?_
  refine X_irem dX9_place_15 (nI_ne0 (by omega) (by omega)) ?_
  refine X_topi (pk_rem (a := q) (d := e) (by omega) (by omega) (by omega)) ?_
  refine X_iadd dX9_place_16 ?_
  refine X_topi (nI_add ((b * 512) + ((q / (e * n)) * e)) (q % e)) ?_
  exact X_iret dX9_place_17 rfl ⟨by unfold oth; rw [← Nat.add_assoc], rfl, rfl, rfl⟩
set_option maxRecDepth 100000 in
set_option maxHeartbeats 4000000 in
theorem c_digits (Γ : pTG) (g : pGG) (mi : pMI) (ml : pML) (hSh : Sh g) (s : Nat) (hs : ShS g s) (h451 : 451 ≤ s) (nG : Nat) (hG : mi 3 10 = nI nG) (h8 : nG ≤ 8) (n q : Nat) (hH : ∀ b, b < nG → mi (s + 3) b = nI (cmQ nG n q b)) : cI Γ 1 mX9_digits [.ref s] g mi ml (nI (dgQ nG n q nG)) mi := by
  refine cI_of (by decide +kernel) (Nat.le_of_ble_eq_true rfl) ?_
  refine X_iconst (v := nI 0) dX9_digits_0 (by decide) ?_
  refine X_istore_n dX9_digits_1 (by decide) ?_
  refine X_iconst (v := nI 0) dX9_digits_2 (by decide) ?_
  refine X_istore_n dX9_digits_3 (by decide) ?_
  refine X_L [(2, .int (nI 0)), (1, .int (nI 0)), (0, .ref s)] ⟨rfl, rfl, rfl, trivial⟩ ?_
  refine X_forR (σ := Unit) 4 (fun i u => [(2, .int (nI i)), (1, .int (nI (dgQ nG n q i))), (0, .ref s)]) (fun u => mi) (fun u => ml) (fun i u => True) nG ?_ ?_ nG 0 (()) (by omega) trivial
  · intro i u hi hI hn
    refine X_iload_n dX9_digits_4 rfl ?_
    refine X_aload_n dX9_digits_5 rfl ?_
    refine X_getr (a := 3) dX9_digits_6 fkX9_21 rfl hs.1 hs.2.2.2.2.1 ?_
    refine X_geti dX9_digits_9 fkX9_33 rfl (k_3 hSh) ?_
    rw [hG]
    refine X_icmp_geN (a := i) (b := nG) 33 dX9_digits_12 (by decide) (by omega) (by omega) (fun h_1 => ?_) (fun h_1 => ?_)
    · exact absurd hi (by omega)
    · refine X_iload_n dX9_digits_15 rfl ?_
      refine X_bipush (v := nI 10) dX9_digits_16 (by decide) ?_
      refine X_imul dX9_digits_18 ?_
      refine X_topi (pk_mul (dgQ nG n q i) 10) ?_
      refine X_aload_n dX9_digits_19 rfl ?_
      refine X_getr (a := s + 3) dX9_digits_20 fkX9_18 rfl hs.1 hs.2.2.2.2.2.2.2.2 ?_
      refine X_iload_n dX9_digits_23 rfl ?_
      refine X_iald i dX9_digits_24 hs.2.2.2.1 rfl (by omega) ?_
      rw [(hH i hi)]
      refine X_iadd dX9_digits_25 ?_
      refine X_topi (nI_add ((dgQ nG n q i) * 10) (cmQ nG n q i)) ?_
      refine X_topi (show _ = nI (dgQ nG n q (i + 1)) from congrArg nI (by show dgQ nG n q i * 10 + cmQ nG n q i = 10 * dgQ nG n q i + cmQ nG n q i; omega)) ?_
      refine X_istore_n dX9_digits_26 (by decide) ?_
      refine X_iinc (v := nI (i + 1)) dX9_digits_27 rfl (nI_1 _) (by decide) ?_
      refine X_goto 4 dX9_digits_30 (by decide) ?_
      refine X_L [(2, .int (nI (i + 1))), (1, .int (nI (dgQ nG n q (i + 1)))), (0, .ref s)] ⟨rfl, rfl, rfl, trivial⟩ ?_
      exact hn () trivial
  · intro u hI
    refine X_iload_n dX9_digits_4 rfl ?_
    refine X_aload_n dX9_digits_5 rfl ?_
    refine X_getr (a := 3) dX9_digits_6 fkX9_21 rfl hs.1 hs.2.2.2.2.1 ?_
    refine X_geti dX9_digits_9 fkX9_33 rfl (k_3 hSh) ?_
    rw [hG]
    refine X_icmp_geN (a := nG) (b := nG) 33 dX9_digits_12 (by decide) (by omega) (by omega) (fun h_2 => ?_) (fun h_2 => ?_)
    · refine X_iload_n dX9_digits_33 rfl ?_
      exact X_iret dX9_digits_34 rfl ⟨by rfl, rfl, rfl, rfl⟩
    · exact absurd h_2 (by omega)
/-- what is kept of the mornings before q -/
def WB (P : PD) (n s q : Nat) (m : pMI) : Prop := ∀ b, b < P.2.1 → ∀ o, o < 512 → CEL (stp P.2.1 n b) n (fun p => nqP P n p b) o q (m (s + 1) (b * 512 + o)) (m (s + 2) (b * 512 + o))
def WF (s : Nat) (m x : pMI) : Prop := (∀ i, i ≠ s + 1 → i ≠ s + 2 → i ≠ s + 3 → (i < 67 ∨ 76 < i ∨ i = 73) → x i = m i) ∧ x 67 10 = m 67 10
theorem WF_r {s : Nat} {m : pMI} : WF s m m := ⟨fun _ _ _ _ _ => rfl, rfl⟩
theorem WF_t {s : Nat} {m x y : pMI} (h : WF s m x) (h2 : WF s x y) : WF s m y := ⟨fun i h3 h4 h5 h6 => (h2.1 i h3 h4 h5 h6).trans (h.1 i h3 h4 h5 h6), h2.2.trans h.2⟩
theorem c_tryS (Γ : pTG) (g : pGG) (mi : pMI) (ml : pML) (hSh : Sh g) (v : Nat) (hkv : g.2.1 v = (20, 8)) (hv : 76 < v) (P : PD) (hP : okPD P) (hc : clP mi P) (un : Nat) (cm : Nat → Nat) (hcm : ∀ b, b < P.2.1 → mi v b = nI (cm b) ∧ cm b < 24) (hpa : mi 67 10 = nI 0) (hod : ∀ i, i < 8 → mi 73 i = nI i) (hu : 1 ≤ un ∧ un < 24) : rV Γ 5 mX2_run [.ref 67, .ref v, .int (nI un)] g mi ml (fun m l => CDY m 67 P cm (DY P cm id id un) ∧ frT 67 mi m ∧ l = ml) := by
  obtain ⟨h1, h2, h3⟩ := c_runP Γ g mi ml hSh 67 (shC_67 hSh) (by omega) P hP hc v 0 0 un cm id id (okO_id hP.2.1) rfl hkv (by omega) hcm hpa (fun i hi => hod i (by have h8 := hP.2.1; omega)) hu
  exact rV_w (rV_c h1) (fun m l hm => by obtain ⟨rfl, rfl⟩ := hm; exact ⟨cdy_of h2, frT_of h3, rfl⟩)
/-- so far as the last i guests -/
def WBI (P : PD) (n s q i : Nat) (m y : pMI) : Prop := (∀ b, b < P.2.1 → ∀ o, o < 512 → CEL (stp P.2.1 n b) n (fun p => nqP P n p b) o (if P.2.1 ≤ b + i then q + 1 else q) (y (s + 1) (b * 512 + o)) (y (s + 2) (b * 512 + o))) ∧ ∀ a, a ≠ s + 1 → a ≠ s + 2 → y a = m a
theorem WBI_s {P : PD} {n s q i b : Nat} {m y z : pMI} (hb : b + 1 + i = P.2.1) (ho : oth (stp P.2.1 n b) n q < 512) (hI : WBI P n s q i m y) (hc : CEL (stp P.2.1 n b) n (fun p => nqP P n p b) (oth (stp P.2.1 n b) n q) (q + 1) (z (s + 1) (b * 512 + oth (stp P.2.1 n b) n q)) (z (s + 2) (b * 512 + oth (stp P.2.1 n b) n q))) (hz : ∀ r, r = s + 1 ∨ r = s + 2 → ∀ j, j ≠ (b * 512 + oth (stp P.2.1 n b) n q) → z r j = y r j) (hf : ∀ a, a ≠ s + 1 → a ≠ s + 2 → z a = y a) : WBI P n s q (i + 1) m z := by
  refine ⟨fun b' hb' o' ho' => ?_, fun a h1 h2 => (hf a h1 h2).trans (hI.2 a h1 h2)⟩
  by_cases e : b' = b
  · subst e
    rw [if_pos (by omega)]
    by_cases e2 : o' = oth (stp P.2.1 n b') n q
    · rw [e2]; exact hc
    · rw [hz _ (Or.inl rfl) _ (by omega), hz _ (Or.inr rfl) _ (by omega)]
      have := hI.1 b' hb' o' ho'
      rw [if_neg (by omega)] at this
      exact CEL_skip (fun q => e2 q.symm) this
  · rw [hz _ (Or.inl rfl) _ (by omega), hz _ (Or.inr rfl) _ (by omega)]
    have := hI.1 b' hb' o' ho'
    by_cases c : P.2.1 ≤ b' + i
    · rw [if_pos c] at this; rw [if_pos (by omega)]; exact this
    · rw [if_neg c] at this; rw [if_neg (by omega)]; exact this
theorem WBI_c {P : PD} {n s q i b : Nat} {m y : pMI} (hb : b + 1 + i = P.2.1) (ho : oth (stp P.2.1 n b) n q < 512) (hI : WBI P n s q i m y) : CEL (stp P.2.1 n b) n (fun p => nqP P n p b) (oth (stp P.2.1 n b) n q) q (y (s + 1) (b * 512 + oth (stp P.2.1 n b) n q)) (y (s + 2) (b * 512 + oth (stp P.2.1 n b) n q)) := by
  have := hI.1 b (by omega) _ ho
  rw [if_neg (by omega)] at this
  exact this
theorem WBI_new {P : PD} {n s q i b : Nat} {m y : pMI} (hn : 0 < n ∧ n ≤ 8) (hb : b + 1 + i = P.2.1) (ho : oth (stp P.2.1 n b) n q < 512) (hI : WBI P n s q i m y) (hc : y (s + 2) (b * 512 + oth (stp P.2.1 n b) n q) = 0 ∨ y (s + 1) (b * 512 + oth (stp P.2.1 n b) n q) < nqP P n q b) : WBI P n s q (i + 1) m (up2 (up2 y (s + 1) (b * 512 + oth (stp P.2.1 n b) n q) (nqP P n q b)) (s + 2) (b * 512 + oth (stp P.2.1 n b) n q) (nI 1 <<< (nI (cmQ P.2.1 n q b) &&& 31))) := by
  refine WBI_s hb ho hI ?_ (fun r hr j hj => ?_) (fun a h1 h2 => by rw [up2_row h2, up2_row h1])
  · rw [up2_row (by omega), up2_s, up2_s]
    exact CEL_new (f := fun p => nqP P n p b) hn (WBI_c hb ho hI) hc
  · rcases hr with rfl | rfl
    · rw [up2_row (by omega), up2_n hj]
    · rw [up2_n hj, up2_row (by omega)]
theorem WBI_or {P : PD} {n s q i b : Nat} {m y : pMI} (hn : 0 < n ∧ n ≤ 8) (hb : b + 1 + i = P.2.1) (ho : oth (stp P.2.1 n b) n q < 512) (hI : WBI P n s q i m y) (hw : ¬ y (s + 2) (b * 512 + oth (stp P.2.1 n b) n q) = 0) (hc : nqP P n q b = y (s + 1) (b * 512 + oth (stp P.2.1 n b) n q)) : WBI P n s q (i + 1) m (up2 y (s + 2) (b * 512 + oth (stp P.2.1 n b) n q) (y (s + 2) (b * 512 + oth (stp P.2.1 n b) n q) ||| (nI 1 <<< (nI (cmQ P.2.1 n q b) &&& 31)))) := by
  refine WBI_s hb ho hI ?_ (fun r hr j hj => ?_) (fun a h1 h2 => by rw [up2_row h2])
  · rw [up2_row (by omega), up2_s]
    exact CEL_or (f := fun p => nqP P n p b) hn (WBI_c hb ho hI) hw hc
  · rcases hr with rfl | rfl
    · rw [up2_row (by omega)]
    · rw [up2_n hj]
theorem WBI_no {P : PD} {n s q i b : Nat} {m y : pMI} (hb : b + 1 + i = P.2.1) (ho : oth (stp P.2.1 n b) n q < 512) (hI : WBI P n s q i m y) (hw : ¬ y (s + 2) (b * 512 + oth (stp P.2.1 n b) n q) = 0) (h1 : nqP P n q b ≤ y (s + 1) (b * 512 + oth (stp P.2.1 n b) n q)) (h2 : ¬ nqP P n q b = y (s + 1) (b * 512 + oth (stp P.2.1 n b) n q)) : WBI P n s q (i + 1) m y :=
  WBI_s hb ho hI (CEL_le (f := fun p => nqP P n p b) (WBI_c hb ho hI) hw (fun q => Int32.not_le.mpr q h1) h2) (fun _ _ _ _ => rfl) (fun _ _ _ => rfl)
set_option maxRecDepth 100000 in
set_option maxHeartbeats 4000000 in
theorem c_weigh (Γ : pTG) (g : pGG) (mi : pMI) (ml : pML) (hSh : Sh g) (s : Nat) (hs : ShS g s) (h451 : 451 ≤ s) (P : PD) (hP : okPD P) (hcl : clP mi P) (h6710 : mi 67 10 = nI 0) (h73 : ∀ i, i < 8 → mi 73 i = nI i) (n : Nat) (hn0 : 0 < n) (hn8 : n ≤ 8) (hG4 : P.2.1 ≤ 4) (q : Nat) (hq : q < n ^ P.2.1) (hB : WB P n s q mi) : rV Γ 6 mX9_weigh [.ref s, .int (nI q), .int (nI n)] g mi ml (fun m l => (WB P n s (q + 1) m ∧ WF s mi m) ∧ l = ml) := by
  refine rV_of (by decide +kernel) (Nat.le_of_ble_eq_true rfl) ?_
  have hn : 0 < n ∧ n ≤ 8 := ⟨hn0, hn8⟩
  have hN4 : n ^ P.2.1 ≤ 4096 := pw_lt hn hG4
  refine X_aload_n dX9_weigh_0 rfl ?_
  refine X_iload_n dX9_weigh_1 rfl ?_
  refine X_iload_n dX9_weigh_2 rfl ?_
  refine X_callVrV dX9_weigh_3 mkX9_61 hs.1 (c_setH Γ g mi ml hSh s hs h451 P.2.1 hcl.2.1 (by omega) n hn0 hn8 q (by omega)) rfl rfl (by decide) (Nat.le_of_ble_eq_true rfl) (fun m1 l1 hm1 => ?_)
  obtain ⟨hD1, hl1⟩ := hm1
  rw [hl1]
  have hcl1 : clP m1 P := clP_row (fun i h1 h2 => hD1.2 i (by omega)) hcl
  refine X_aload_n dX9_weigh_6 rfl ?_
  refine X_getr (a := 67) dX9_weigh_7 fkX9_25 rfl hs.1 hs.2.2.2.2.2.1 ?_
  refine X_aload_n dX9_weigh_10 rfl ?_
  refine X_getr (a := s + 3) dX9_weigh_11 fkX9_18 rfl hs.1 hs.2.2.2.2.2.2.2.2 ?_
  refine X_aload_n dX9_weigh_14 rfl ?_
  refine X_getr (a := 3) dX9_weigh_15 fkX9_21 rfl hs.1 hs.2.2.2.2.1 ?_
  refine X_geti dX9_weigh_18 fkX9_64 rfl (k_3 hSh) ?_
  rw [hcl1.2.2.2.1]
  refine X_callVrV dX9_weigh_21 mkX9_67 (k_67 hSh) (c_tryS Γ g m1 ml hSh (s + 3) hs.2.2.2.1 (by omega) P hP hcl1 P.2.2.2.1 (cmQ P.2.1 n q) (fun b hb => ⟨hD1.1 b hb (by omega), Nat.lt_of_lt_of_le (cmq_lt hn0) (by omega)⟩) (by rw [hD1.2 67 (by omega)]; exact h6710) (fun i hi => by rw [hD1.2 73 (by omega)]; exact h73 i hi) ⟨hP.2.2.2.1, hP.2.2.2.2.1⟩) rfl rfl (by decide) (Nat.le_of_ble_eq_true rfl) (fun m2 l2 hm2 => ?_)
  obtain ⟨hcd, hT2, hl2⟩ := hm2
  rw [hl2]
  have hcl2 : clP m2 P := clP_row (fun i h1 h2 => hT2.1 i (by omega)) hcl1
  have e12 : ∀ i, 76 < i → i ≠ s + 3 → m2 i = mi i := fun i h1 h2 => by rw [hT2.1 i (by omega), hD1.2 i h2]
  refine X_iconst (v := nI 1) dX9_weigh_24 (by decide) ?_
  refine X_istore_n dX9_weigh_25 (by decide) ?_
  refine X_aload_n dX9_weigh_26 rfl ?_
  refine X_getr (a := 3) dX9_weigh_27 fkX9_21 rfl hs.1 hs.2.2.2.2.1 ?_
  refine X_geti dX9_weigh_30 fkX9_33 rfl (k_3 hSh) ?_
  rw [hcl2.2.1]
  refine X_iconst (v := nI 1) dX9_weigh_33 (by decide) ?_
  refine X_isub dX9_weigh_34 ?_
  refine X_istore dX9_weigh_35 (by decide) ?_
  refine X_L [(4, .int ((nI P.2.1) - (nI 1))), (3, .int (nI 1)), (0, .ref s), (1, .int (nI q)), (2, .int (nI n))] ⟨rfl, rfl, rfl, rfl, rfl, trivial⟩ ?_
  refine X_L [(4, .int (dnI P.2.1 0)), (3, .int (nI (n ^ 0))), (0, .ref s), (1, .int (nI q)), (2, .int (nI n))] ⟨by rw [← dn_0]; rfl, by rw [Nat.pow_zero]; rfl, rfl, rfl, rfl, trivial⟩ ?_
  refine X_forR (σ := pMI) 37 (fun i y => [(4, .int (dnI P.2.1 i)), (3, .int (nI (n ^ i))), (0, .ref s), (1, .int (nI q)), (2, .int (nI n))]) (fun y => y) (fun y => ml) (fun i y => WBI P n s q i m2 y) P.2.1 ?_ ?_ P.2.1 0 m2 (by omega) ⟨fun b hb o ho => by rw [if_neg (by omega), e12 (s + 1) (by omega) (by omega), e12 (s + 2) (by omega) (by omega)]; exact hB b hb o ho, fun _ _ _ => rfl⟩
  · intro i y hi hI hi9
    obtain ⟨b, hbe⟩ : ∃ b, b + 1 + i = P.2.1 := ⟨P.2.1 - 1 - i, by omega⟩
    have hbe2 : P.2.1 - 1 - i = b := by omega
    have hst : n ^ i = stp P.2.1 n b := by rw [← stp_at hi, hbe2]
    have hs0 : 0 < stp P.2.1 n b := stp_pos hn0
    have hs1 : stp P.2.1 n b * n ≤ 4096 := by rw [← hst, ← Nat.pow_succ]; exact pw_lt hn (by omega)
    have hs2 : stp P.2.1 n b ≤ stp P.2.1 n b * n := Nat.le_mul_of_pos_right _ hn0
    have ho9 := oth_lt (nG := P.2.1) (n := n) (b := b) (q := q) hn (by omega) (by omega) hq
    have hnet : y 68 (b * 8 + 4) = nqP P n q b := by rw [hI.2 68 (by omega) (by omega)]; exact (hcd.1 b (by omega)).2.2.2.2.1
    have hhv : y (s + 3) b = nI (cmQ P.2.1 n q b) := by rw [hI.2 (s + 3) (by omega) (by omega), hT2.1 (s + 3) (by omega)]; exact hD1.1 b (by omega) (by omega)
    refine X_L [(4, .int (nI b)), (3, .int (nI (stp P.2.1 n b))), (0, .ref s), (1, .int (nI q)), (2, .int (nI n))] ⟨by rw [dn_i hi, hbe2]; rfl, by rw [hst]; rfl, rfl, rfl, rfl, trivial⟩ ?_
    skip
    refine X_iload dX9_weigh_37 rfl ?_
    refine X_if_ltN (a := b) 160 dX9_weigh_39 (by decide) (by omega) (fun h_1 => ?_) (fun h_1 => ?_)
    · exact h_1.elim
    · refine X_iload dX9_weigh_42 rfl ?_
      refine X_iload_n dX9_weigh_44 rfl ?_
      refine X_iload_n dX9_weigh_45 rfl ?_
      refine X_iload_n dX9_weigh_46 rfl ?_
      refine X_callSI dX9_weigh_47 mkX9_71 (c_place Γ g y ml b q (stp P.2.1 n b) n (by omega) hs0 (by omega) (by omega) (by omega)) rfl rfl (by decide) (Nat.le_of_ble_eq_true rfl) ?_
      refine X_istore dX9_weigh_50 (by decide) ?_
      refine X_aload_n dX9_weigh_52 rfl ?_
      refine X_getr (a := 67) dX9_weigh_53 fkX9_25 rfl hs.1 hs.2.2.2.2.2.1 ?_
      refine X_getr (a := 68) dX9_weigh_56 fkX9_75 rfl (k_67 hSh) (r_67_1 hSh) ?_
      refine X_iload dX9_weigh_59 rfl ?_
      refine X_bipush (v := nI 8) dX9_weigh_61 (by decide) ?_
      refine X_imul dX9_weigh_63 ?_
      refine X_topi (pk_mul b 8) ?_
      refine X_iconst (v := nI 4) dX9_weigh_64 (by decide) ?_
      refine X_iadd dX9_weigh_65 ?_
      refine X_topi (nI_add (b * 8) 4) ?_
      refine X_iald ((b * 8) + 4) dX9_weigh_66 (k_68 hSh) rfl (by omega) ?_
      rw [hnet]
      refine X_istore dX9_weigh_67 (by decide) ?_
      refine X_aload_n dX9_weigh_69 rfl ?_
      refine X_getr (a := s + 2) dX9_weigh_70 fkX9_15 rfl hs.1 hs.2.2.2.2.2.2.2.1 ?_
      refine X_iload dX9_weigh_73 rfl ?_
      refine X_iald (b * 512 + oth (stp P.2.1 n b) n q) dX9_weigh_75 hs.2.2.1 rfl (by omega) ?_
      refine X_if_eq 91 dX9_weigh_76 (by decide) (fun h_2 => ?_) (fun h_2 => ?_)
      · refine X_aload_n dX9_weigh_91 rfl ?_
        refine X_getr (a := s + 1) dX9_weigh_92 fkX9_11 rfl hs.1 hs.2.2.2.2.2.2.1 ?_
        refine X_iload dX9_weigh_95 rfl ?_
        refine X_iload dX9_weigh_97 rfl ?_
        refine X_iast (b * 512 + oth (stp P.2.1 n b) n q) dX9_weigh_99 hs.2.1 rfl (by omega) ?_
        refine X_aload_n dX9_weigh_100 rfl ?_
        refine X_getr (a := s + 2) dX9_weigh_101 fkX9_15 rfl hs.1 hs.2.2.2.2.2.2.2.1 ?_
        refine X_iload dX9_weigh_104 rfl ?_
        refine X_iconst (v := nI 1) dX9_weigh_106 (by decide) ?_
        refine X_aload_n dX9_weigh_107 rfl ?_
        refine X_getr (a := s + 3) dX9_weigh_108 fkX9_18 rfl hs.1 hs.2.2.2.2.2.2.2.2 ?_
        refine X_iload dX9_weigh_111 rfl ?_
        refine X_iald b dX9_weigh_113 hs.2.2.2.1 rfl (by omega) ?_
        refine X_topi (show (up2 y (s + 1) (b * 512 + oth (stp P.2.1 n b) n q) (nqP P n q b)) (s + 3) b = nI (cmQ P.2.1 n q b) by rw [up2_row (by omega)]; exact hhv) ?_
        refine X_ishl dX9_weigh_114 ?_
        refine X_iast (b * 512 + oth (stp P.2.1 n b) n q) dX9_weigh_115 hs.2.2.1 rfl (by omega) ?_
        refine X_goto 150 dX9_weigh_116 (by decide) ?_
        refine X_iload_n dX9_weigh_150 rfl ?_
        refine X_iload_n dX9_weigh_151 rfl ?_
        refine X_imul dX9_weigh_152 ?_
        refine X_topi (pk_mul (stp P.2.1 n b) n) ?_
        refine X_istore_n dX9_weigh_153 (by decide) ?_
        refine X_iinc dX9_weigh_154 rfl rfl (by decide) ?_
        refine X_goto 37 dX9_weigh_157 (by decide) ?_
        refine X_L [(4, .int ((nI b) + Int32.ofInt (-1))), (3, .int (nI ((stp P.2.1 n b) * n))), (0, .ref s), (1, .int (nI q)), (2, .int (nI n))] ⟨rfl, rfl, rfl, rfl, rfl, trivial⟩ ?_
        refine X_L [(4, .int (dnI P.2.1 (i + 1))), (3, .int (nI (n ^ (i + 1)))), (0, .ref s), (1, .int (nI q)), (2, .int (nI n))] ⟨by rw [← dn_s hi, hbe2]; rfl, by rw [Nat.pow_succ, hst]; rfl, rfl, rfl, rfl, trivial⟩ ?_
        exact hi9 _ (WBI_new hn hbe ho9 hI (by first | exact Or.inl (by assumption) | exact Or.inr (Int32.not_le.mp (by assumption)) | exact Or.inr (by assumption)))
      · refine X_iload dX9_weigh_79 rfl ?_
        refine X_aload_n dX9_weigh_81 rfl ?_
        refine X_getr (a := s + 1) dX9_weigh_82 fkX9_11 rfl hs.1 hs.2.2.2.2.2.2.1 ?_
        refine X_iload dX9_weigh_85 rfl ?_
        refine X_iald (b * 512 + oth (stp P.2.1 n b) n q) dX9_weigh_87 hs.2.1 rfl (by omega) ?_
        refine X_icmp_le 119 dX9_weigh_88 (by decide) (fun h_3 => ?_) (fun h_3 => ?_)
        · refine X_iload dX9_weigh_119 rfl ?_
          refine X_aload_n dX9_weigh_121 rfl ?_
          refine X_getr (a := s + 1) dX9_weigh_122 fkX9_11 rfl hs.1 hs.2.2.2.2.2.2.1 ?_
          refine X_iload dX9_weigh_125 rfl ?_
          refine X_iald (b * 512 + oth (stp P.2.1 n b) n q) dX9_weigh_127 hs.2.1 rfl (by omega) ?_
          refine X_icmp_ne 150 dX9_weigh_128 (by decide) (fun h_4 => ?_) (fun h_4 => ?_)
          · refine X_iload_n dX9_weigh_150 rfl ?_
            refine X_iload_n dX9_weigh_151 rfl ?_
            refine X_imul dX9_weigh_152 ?_
            refine X_topi (pk_mul (stp P.2.1 n b) n) ?_
            refine X_istore_n dX9_weigh_153 (by decide) ?_
            refine X_iinc dX9_weigh_154 rfl rfl (by decide) ?_
            refine X_goto 37 dX9_weigh_157 (by decide) ?_
            refine X_L [(4, .int ((nI b) + Int32.ofInt (-1))), (3, .int (nI ((stp P.2.1 n b) * n))), (0, .ref s), (1, .int (nI q)), (2, .int (nI n))] ⟨rfl, rfl, rfl, rfl, rfl, trivial⟩ ?_
            refine X_L [(4, .int (dnI P.2.1 (i + 1))), (3, .int (nI (n ^ (i + 1)))), (0, .ref s), (1, .int (nI q)), (2, .int (nI n))] ⟨by rw [← dn_s hi, hbe2]; rfl, by rw [Nat.pow_succ, hst]; rfl, rfl, rfl, rfl, trivial⟩ ?_
            exact hi9 _ (WBI_no hbe ho9 hI (by assumption) (by assumption) (by assumption))
          · refine X_aload_n dX9_weigh_131 rfl ?_
            refine X_getr (a := s + 2) dX9_weigh_132 fkX9_15 rfl hs.1 hs.2.2.2.2.2.2.2.1 ?_
            refine X_iload dX9_weigh_135 rfl ?_
            refine X_dup2 dX9_weigh_137 rfl rfl ?_
            refine X_iald (b * 512 + oth (stp P.2.1 n b) n q) dX9_weigh_138 hs.2.2.1 rfl (by omega) ?_
            refine X_iconst (v := nI 1) dX9_weigh_139 (by decide) ?_
            refine X_aload_n dX9_weigh_140 rfl ?_
            refine X_getr (a := s + 3) dX9_weigh_141 fkX9_18 rfl hs.1 hs.2.2.2.2.2.2.2.2 ?_
            refine X_iload dX9_weigh_144 rfl ?_
            refine X_iald b dX9_weigh_146 hs.2.2.2.1 rfl (by omega) ?_
            rw [hhv]
            refine X_ishl dX9_weigh_147 ?_
            refine X_ior dX9_weigh_148 ?_
            refine X_iast (b * 512 + oth (stp P.2.1 n b) n q) dX9_weigh_149 hs.2.2.1 rfl (by omega) ?_
            refine X_iload_n dX9_weigh_150 rfl ?_
            refine X_iload_n dX9_weigh_151 rfl ?_
            refine X_imul dX9_weigh_152 ?_
            refine X_topi (pk_mul (stp P.2.1 n b) n) ?_
            refine X_istore_n dX9_weigh_153 (by decide) ?_
            refine X_iinc dX9_weigh_154 rfl rfl (by decide) ?_
            refine X_goto 37 dX9_weigh_157 (by decide) ?_
            refine X_L [(4, .int ((nI b) + Int32.ofInt (-1))), (3, .int (nI ((stp P.2.1 n b) * n))), (0, .ref s), (1, .int (nI q)), (2, .int (nI n))] ⟨rfl, rfl, rfl, rfl, rfl, trivial⟩ ?_
            refine X_L [(4, .int (dnI P.2.1 (i + 1))), (3, .int (nI (n ^ (i + 1)))), (0, .ref s), (1, .int (nI q)), (2, .int (nI n))] ⟨by rw [← dn_s hi, hbe2]; rfl, by rw [Nat.pow_succ, hst]; rfl, rfl, rfl, rfl, trivial⟩ ?_
            exact hi9 _ (WBI_or hn hbe ho9 hI (by assumption) (by assumption))
        · refine X_aload_n dX9_weigh_91 rfl ?_
          refine X_getr (a := s + 1) dX9_weigh_92 fkX9_11 rfl hs.1 hs.2.2.2.2.2.2.1 ?_
          refine X_iload dX9_weigh_95 rfl ?_
          refine X_iload dX9_weigh_97 rfl ?_
          refine X_iast (b * 512 + oth (stp P.2.1 n b) n q) dX9_weigh_99 hs.2.1 rfl (by omega) ?_
          refine X_aload_n dX9_weigh_100 rfl ?_
          refine X_getr (a := s + 2) dX9_weigh_101 fkX9_15 rfl hs.1 hs.2.2.2.2.2.2.2.1 ?_
          refine X_iload dX9_weigh_104 rfl ?_
          refine X_iconst (v := nI 1) dX9_weigh_106 (by decide) ?_
          refine X_aload_n dX9_weigh_107 rfl ?_
          refine X_getr (a := s + 3) dX9_weigh_108 fkX9_18 rfl hs.1 hs.2.2.2.2.2.2.2.2 ?_
          refine X_iload dX9_weigh_111 rfl ?_
          refine X_iald b dX9_weigh_113 hs.2.2.2.1 rfl (by omega) ?_
          refine X_topi (show (up2 y (s + 1) (b * 512 + oth (stp P.2.1 n b) n q) (nqP P n q b)) (s + 3) b = nI (cmQ P.2.1 n q b) by rw [up2_row (by omega)]; exact hhv) ?_
          refine X_ishl dX9_weigh_114 ?_
          refine X_iast (b * 512 + oth (stp P.2.1 n b) n q) dX9_weigh_115 hs.2.2.1 rfl (by omega) ?_
          refine X_goto 150 dX9_weigh_116 (by decide) ?_
          refine X_iload_n dX9_weigh_150 rfl ?_
          refine X_iload_n dX9_weigh_151 rfl ?_
          refine X_imul dX9_weigh_152 ?_
          refine X_topi (pk_mul (stp P.2.1 n b) n) ?_
          refine X_istore_n dX9_weigh_153 (by decide) ?_
          refine X_iinc dX9_weigh_154 rfl rfl (by decide) ?_
          refine X_goto 37 dX9_weigh_157 (by decide) ?_
          refine X_L [(4, .int ((nI b) + Int32.ofInt (-1))), (3, .int (nI ((stp P.2.1 n b) * n))), (0, .ref s), (1, .int (nI q)), (2, .int (nI n))] ⟨rfl, rfl, rfl, rfl, rfl, trivial⟩ ?_
          refine X_L [(4, .int (dnI P.2.1 (i + 1))), (3, .int (nI (n ^ (i + 1)))), (0, .ref s), (1, .int (nI q)), (2, .int (nI n))] ⟨by rw [← dn_s hi, hbe2]; rfl, by rw [Nat.pow_succ, hst]; rfl, rfl, rfl, rfl, trivial⟩ ?_
          exact hi9 _ (WBI_new hn hbe ho9 hI (by first | exact Or.inl (by assumption) | exact Or.inr (Int32.not_le.mp (by assumption)) | exact Or.inr (by assumption)))
  · intro y hI
    refine X_L [(4, .int (-1)), (3, .int (nI (n ^ P.2.1))), (0, .ref s), (1, .int (nI q)), (2, .int (nI n))] ⟨by rw [show dnI P.2.1 P.2.1 = -1 from if_neg (by omega)]; rfl, rfl, rfl, rfl, rfl, trivial⟩ ?_
    refine X_iload dX9_weigh_37 rfl ?_
    refine X_if_lt 160 dX9_weigh_39 (by decide) (fun h_5 => ?_) (fun h_5 => ?_)
    · exact X_vret dX9_weigh_160 rfl ⟨rfl, rfl, ⟨fun b hb o ho => by have h9 := hI.1 b hb o ho; rw [if_pos (by omega)] at h9; exact h9, fun i h1 h2 h3 h4 => by rw [hI.2 i h1 h2, hT2.1 i (by omega), hD1.2 i h3], by rw [hI.2 67 (by omega) (by omega), hT2.2 10 (by omega), hD1.2 67 (by omega)]⟩, rfl⟩
    · exact absurd (by decide) h_5
set_option maxRecDepth 100000 in
set_option maxHeartbeats 4000000 in
theorem c_isStill (Γ : pTG) (g : pGG) (mi : pMI) (ml : pML) (hSh : Sh g) (s : Nat) (hs : ShS g s) (h451 : 451 ≤ s) (P : PD) (hP : okPD P) (hG : mi 3 10 = nI P.2.1) (n : Nat) (hn0 : 0 < n) (hn8 : n ≤ 8) (hG4 : P.2.1 ≤ 4) (q : Nat) (hq : q < n ^ P.2.1) (hB : WB P n s (n ^ P.2.1) mi) : rI Γ 2 mX9_isStill [.ref s, .int (nI q), .int (nI n)] g mi ml (fun v m l => v = bI (stB P n q) ∧ DGN (s + 3) q n P.2.1 P.2.1 mi m ∧ l = ml) := by
  refine rI_of (by decide +kernel) (Nat.le_of_ble_eq_true rfl) ?_
  have hn : 0 < n ∧ n ≤ 8 := ⟨hn0, hn8⟩
  have hN4 : n ^ P.2.1 ≤ 4096 := pw_lt hn hG4
  refine X_aload_n dX9_isStill_0 rfl ?_
  refine X_iload_n dX9_isStill_1 rfl ?_
  refine X_iload_n dX9_isStill_2 rfl ?_
  refine X_callVrV dX9_isStill_3 mkX9_61 hs.1 (c_setH Γ g mi ml hSh s hs h451 P.2.1 hG (by omega) n hn0 hn8 q (by omega)) rfl rfl (by decide) (Nat.le_of_ble_eq_true rfl) (fun m1 l1 hm1 => ?_)
  obtain ⟨hD1, hl1⟩ := hm1
  rw [hl1]
  have hG1 : m1 3 10 = nI P.2.1 := by rw [hD1.2 3 (by omega)]; exact hG
  refine X_iconst (v := nI 1) dX9_isStill_6 (by decide) ?_
  refine X_istore_n dX9_isStill_7 (by decide) ?_
  refine X_aload_n dX9_isStill_8 rfl ?_
  refine X_getr (a := 3) dX9_isStill_9 fkX9_21 rfl hs.1 hs.2.2.2.2.1 ?_
  refine X_geti dX9_isStill_12 fkX9_33 rfl (k_3 hSh) ?_
  rw [hG1]
  refine X_iconst (v := nI 1) dX9_isStill_15 (by decide) ?_
  refine X_isub dX9_isStill_16 ?_
  refine X_istore dX9_isStill_17 (by decide) ?_
  refine X_L [(4, .int ((nI P.2.1) - (nI 1))), (3, .int (nI 1)), (0, .ref s), (1, .int (nI q)), (2, .int (nI n))] ⟨rfl, rfl, rfl, rfl, rfl, trivial⟩ ?_
  refine X_L [(4, .int (dnI P.2.1 0)), (3, .int (nI (n ^ 0))), (0, .ref s), (1, .int (nI q)), (2, .int (nI n))] ⟨by rw [← dn_0]; rfl, by rw [Nat.pow_zero]; rfl, rfl, rfl, rfl, trivial⟩ ?_
  refine X_forR (σ := Unit) 19 (fun i y => [(4, .int (dnI P.2.1 i)), (3, .int (nI (n ^ i))), (0, .ref s), (1, .int (nI q)), (2, .int (nI n))]) (fun y => m1) (fun y => ml) (fun i y => ∀ b, b < P.2.1 → P.2.1 ≤ b + i → anB (fun h => !decide (nqP P n (q - cmQ P.2.1 n q b * stp P.2.1 n b + h * stp P.2.1 n b) b ≤ nqP P n q b)) n = false) P.2.1 ?_ ?_ P.2.1 0 () (by omega) (fun b h1 h2 => absurd h1 (by omega))
  · intro i y hi hI hi9
    obtain ⟨b, hbe⟩ : ∃ b, b + 1 + i = P.2.1 := ⟨P.2.1 - 1 - i, by omega⟩
    have hbe2 : P.2.1 - 1 - i = b := by omega
    have hst : n ^ i = stp P.2.1 n b := by rw [← stp_at hi, hbe2]
    have hs0 : 0 < stp P.2.1 n b := stp_pos hn0
    have hs1 : stp P.2.1 n b * n ≤ 4096 := by rw [← hst, ← Nat.pow_succ]; exact pw_lt hn (by omega)
    have hs2 : stp P.2.1 n b ≤ stp P.2.1 n b * n := Nat.le_mul_of_pos_right _ hn0
    have ho9 := oth_lt (nG := P.2.1) (n := n) (b := b) (q := q) hn (by omega) (by omega) hq
    have hhv : m1 (s + 3) b = nI (cmQ P.2.1 n q b) := hD1.1 b (by omega) (by omega)
    have hcm8 : cmQ P.2.1 n q b < n := cmq_lt hn0
    have hask : bt (m1 (s + 2) (b * 512 + oth (stp P.2.1 n b) n q)) (cmQ P.2.1 n q b) = !anB (fun h => !decide (nqP P n (q - cmQ P.2.1 n q b * stp P.2.1 n b + h * stp P.2.1 n b) b ≤ nqP P n q b)) n := CEL_ask (f := fun p => nqP P n p b) (T := n ^ b) (v := m1 (s + 1) (b * 512 + oth (stp P.2.1 n b) n q)) hs0 hn (by rw [← stp_N (by omega)]; exact hq) (by rw [← stp_N (by omega), hD1.2 (s + 1) (by omega), hD1.2 (s + 2) (by omega)]; exact hB b (by omega) _ ho9)
    refine X_L [(4, .int (nI b)), (3, .int (nI (stp P.2.1 n b))), (0, .ref s), (1, .int (nI q)), (2, .int (nI n))] ⟨by rw [dn_i hi, hbe2]; rfl, by rw [hst]; rfl, rfl, rfl, rfl, trivial⟩ ?_
    refine X_iload dX9_isStill_19 rfl ?_
    refine X_if_ltN (a := b) 62 dX9_isStill_21 (by decide) (by omega) (fun h_1 => ?_) (fun h_1 => ?_)
    · exact h_1.elim
    · refine X_aload_n dX9_isStill_24 rfl ?_
      refine X_getr (a := s + 2) dX9_isStill_25 fkX9_15 rfl hs.1 hs.2.2.2.2.2.2.2.1 ?_
      refine X_iload dX9_isStill_28 rfl ?_
      refine X_iload_n dX9_isStill_30 rfl ?_
      refine X_iload_n dX9_isStill_31 rfl ?_
      refine X_iload_n dX9_isStill_32 rfl ?_
      refine X_callSI dX9_isStill_33 mkX9_71 (c_place Γ g m1 ml b q (stp P.2.1 n b) n (by omega) hs0 (by omega) (by omega) (by omega)) rfl rfl (by decide) (Nat.le_of_ble_eq_true rfl) ?_
      refine X_iald (b * 512 + oth (stp P.2.1 n b) n q) dX9_isStill_36 hs.2.2.1 rfl (by omega) ?_
      refine X_aload_n dX9_isStill_37 rfl ?_
      refine X_getr (a := s + 3) dX9_isStill_38 fkX9_18 rfl hs.1 hs.2.2.2.2.2.2.2.2 ?_
      refine X_iload dX9_isStill_41 rfl ?_
      refine X_iald b dX9_isStill_43 hs.2.2.2.1 rfl (by omega) ?_
      rw [hhv]
      refine X_ishr dX9_isStill_44 ?_
      refine X_iconst (v := nI 1) dX9_isStill_45 (by decide) ?_
      refine X_iand dX9_isStill_46 ?_
      cases hA : anB (fun h => !decide (nqP P n (q - cmQ P.2.1 n q b * stp P.2.1 n b + h * stp P.2.1 n b) b ≤ nqP P n q b)) n with
      | true =>
        refine X_topi (show _ = nI 0 from (bit_ask (by omega)).trans (by rw [hask, hA]; rfl)) ?_
        refine X_if_neN (a := 0) 52 dX9_isStill_47 (by decide) (by omega) (fun h_2 => ?_) (fun h_2 => ?_)
        · exact absurd h_2 (by omega)
        · refine X_iconst (v := nI 0) dX9_isStill_50 (by decide) ?_
          exact X_zret (ty := .boolean) dX9_isStill_51 rfl (by decide) ⟨rfl, _, rfl, (show nI 0 = bI (stB P n q) by unfold stB; rw [anB_t (p := fun b => anB (fun h => !decide (nqP P n (q - cmQ P.2.1 n q b * stp P.2.1 n b + h * stp P.2.1 n b) b ≤ nqP P n q b)) n) hA (by omega : b < P.2.1)]; rfl), hD1, rfl⟩
      | false =>
        refine X_topi (show _ = nI 1 from (bit_ask (by omega)).trans (by rw [hask, hA]; rfl)) ?_
        refine X_if_neN (a := 1) 52 dX9_isStill_47 (by decide) (by omega) (fun h_3 => ?_) (fun h_3 => ?_)
        · refine X_iload_n dX9_isStill_52 rfl ?_
          refine X_iload_n dX9_isStill_53 rfl ?_
          refine X_imul dX9_isStill_54 ?_
          refine X_topi (pk_mul (stp P.2.1 n b) n) ?_
          refine X_istore_n dX9_isStill_55 (by decide) ?_
          refine X_iinc dX9_isStill_56 rfl rfl (by decide) ?_
          refine X_goto 19 dX9_isStill_59 (by decide) ?_
          refine X_L [(4, .int ((nI b) + Int32.ofInt (-1))), (3, .int (nI ((stp P.2.1 n b) * n))), (0, .ref s), (1, .int (nI q)), (2, .int (nI n))] ⟨rfl, rfl, rfl, rfl, rfl, trivial⟩ ?_
          refine X_L [(4, .int (dnI P.2.1 (i + 1))), (3, .int (nI (n ^ (i + 1)))), (0, .ref s), (1, .int (nI q)), (2, .int (nI n))] ⟨by rw [← dn_s hi, hbe2]; rfl, by rw [Nat.pow_succ, hst]; rfl, rfl, rfl, rfl, trivial⟩ ?_
          refine hi9 () (fun b' h1 h2 => ?_)
          by_cases e : b' = b
          · rw [e]; exact hA
          · exact hI b' h1 (by omega)
        · exact absurd h_3 (by omega)
  · intro y hI
    refine X_L [(4, .int (-1)), (3, .int (nI (n ^ P.2.1))), (0, .ref s), (1, .int (nI q)), (2, .int (nI n))] ⟨by rw [show dnI P.2.1 P.2.1 = -1 from if_neg (by omega)]; rfl, rfl, rfl, rfl, rfl, trivial⟩ ?_
    refine X_iload dX9_isStill_19 rfl ?_
    refine X_if_lt 62 dX9_isStill_21 (by decide) (fun h_4 => ?_) (fun h_4 => ?_)
    · refine X_iconst (v := nI 1) dX9_isStill_62 (by decide) ?_
      exact X_zret (ty := .boolean) dX9_isStill_63 rfl (by decide) ⟨rfl, _, rfl, (show nI 1 = bI (stB P n q) by unfold stB; rw [anB_f.mpr (fun b hb => hI b hb (by omega))]; rfl), hD1, rfl⟩
    · exact absurd (by decide) h_4

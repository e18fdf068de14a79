/-! ===== still: the reference ===== -/
set_option maxRecDepth 100000 in
set_option maxHeartbeats 4000000 in
theorem c_powN (Γ : pTG) (g : pGG) (mi : pMI) (ml : pML) (e k : Nat) (hk : k ≤ 8) : cI Γ 1 mX12_power [.int (nI e), .int (nI k)] g mi ml (nI (e ^ k)) mi := by
  refine cI_of (by decide +kernel) (Nat.le_of_ble_eq_true rfl) ?_
  refine X_iconst (v := nI 1) dX12_power_0 (by decide) ?_
  refine X_istore_n dX12_power_1 (by decide) ?_
  refine X_iconst (v := nI 0) dX12_power_2 (by decide) ?_
  refine X_istore_n dX12_power_3 (by decide) ?_
  refine X_L [(3, .int (nI 0)), (2, .int (nI 1)), (0, .int (nI e)), (1, .int (nI k))] ⟨rfl, rfl, rfl, rfl, trivial⟩ ?_
  refine X_forR (σ := Unit) 4 (fun i u => [(3, .int (nI i)), (2, .int (nI (e ^ i))), (0, .int (nI e)), (1, .int (nI k))]) (fun u => mi) (fun u => ml) (fun i u => True) k ?_ ?_ k 0 (()) (by omega) trivial
  · intro i u hi hI hn
    refine X_iload_n dX12_power_4 rfl ?_
    refine X_iload_n dX12_power_5 rfl ?_
    refine X_icmp_geN (a := i) (b := k) 19 dX12_power_6 (by decide) (by omega) (by omega) (fun h_1 => ?_) (fun h_1 => ?_)
    · exact absurd hi (by omega)
    · refine X_iload_n dX12_power_9 rfl ?_
      refine X_iload_n dX12_power_10 rfl ?_
      refine X_imul dX12_power_11 ?_
      refine X_topi (pk_mul (e ^ i) e) ?_
      refine X_istore_n dX12_power_12 (by decide) ?_
      refine X_iinc (v := nI (i + 1)) dX12_power_13 rfl (nI_1 _) (by decide) ?_
      refine X_goto 4 dX12_power_16 (by decide) ?_
      refine X_L [(3, .int (nI (i + 1))), (2, .int (nI ((e ^ i) * e))), (0, .int (nI e)), (1, .int (nI k))] ⟨rfl, rfl, rfl, rfl, trivial⟩ ?_
      exact hn () trivial
  · intro u hI
    refine X_iload_n dX12_power_4 rfl ?_
    refine X_iload_n dX12_power_5 rfl ?_
    refine X_icmp_geN (a := k) (b := k) 19 dX12_power_6 (by decide) (by omega) (by omega) (fun h_2 => ?_) (fun h_2 => ?_)
    · refine X_iload_n dX12_power_19 rfl ?_
      exact X_iret dX12_power_20 rfl ⟨by rfl, rfl, rfl, rfl⟩
    · exact absurd h_2 (by omega)
set_option maxRecDepth 100000 in
set_option maxHeartbeats 4000000 in
theorem c_comeN (Γ : pTG) (g : pGG) (mi : pMI) (ml : pML) (hSh : Sh g) (nG : Nat) (hG : mi 91 1 = nI nG) (h8 : nG ≤ 8) (n : Nat) (hn0 : 0 < n) (hn8 : n ≤ 8) (k : Nat) (hk : k < 2147483648) : rV Γ 1 mX12_comeBy [.ref 87, .int (nI k), .int (nI n)] g mi ml (fun m l => DGN 194 k n nG nG mi m ∧ l = ml) := by
  refine rV_of (by decide +kernel) (Nat.le_of_ble_eq_true rfl) ?_
  refine X_iload_n dX12_comeBy_0 rfl ?_
  refine X_istore_n dX12_comeBy_1 (by decide) ?_
  refine X_aload_n dX12_comeBy_2 rfl ?_
  refine X_getr (a := 91) dX12_comeBy_3 fkX12_23 rfl (k_87 hSh) (r_87_12 hSh) ?_
  refine X_iconst (v := nI 1) dX12_comeBy_6 (by decide) ?_
  refine X_iald 1 dX12_comeBy_7 (k_91 hSh) rfl (by omega) ?_
  rw [hG]
  refine X_iconst (v := nI 1) dX12_comeBy_8 (by decide) ?_
  refine X_isub dX12_comeBy_9 ?_
  refine X_istore dX12_comeBy_10 (by decide) ?_
  refine X_L [(4, .int ((nI nG) - (nI 1))), (3, .int (nI k)), (0, .ref 87), (1, .int (nI k)), (2, .int (nI n))] ⟨rfl, rfl, rfl, rfl, rfl, trivial⟩ ?_
  refine X_L [(4, .int (dnI nG 0)), (3, .int (nI (k / n ^ 0))), (0, .ref 87), (1, .int (nI k)), (2, .int (nI n))] ⟨by rw [← dn_0]; rfl, by rw [Nat.pow_zero, Nat.div_one]; rfl, rfl, rfl, rfl, trivial⟩ ?_
  refine X_forR (σ := pMI) 12 (fun i y => [(4, .int (dnI nG i)), (3, .int (nI (k / n ^ i))), (0, .ref 87), (1, .int (nI k)), (2, .int (nI n))]) (fun y => y) (fun y => ml) (fun i y => DGN 194 k n nG i mi y) nG ?_ ?_ nG 0 mi (by omega) DGN_0
  · intro i y hi hI hn
    have hq0 : k / n ^ i ≤ k := Nat.div_le_self _ _
    refine X_L [(4, .int (nI (nG - 1 - i))), (3, .int (nI (k / n ^ i))), (0, .ref 87), (1, .int (nI k)), (2, .int (nI n))] ⟨by rw [dn_i hi]; rfl, rfl, rfl, rfl, rfl, trivial⟩ ?_
    refine X_iload dX12_comeBy_12 rfl ?_
    refine X_if_ltN (a := nG - 1 - i) 37 dX12_comeBy_14 (by decide) (by omega) (fun h_1 => ?_) (fun h_1 => ?_)
    · exact h_1.elim
    · refine X_aload_n dX12_comeBy_17 rfl ?_
      refine X_getr (a := 194) dX12_comeBy_18 fkX12_71 rfl (k_87 hSh) (r_87_34 hSh) ?_
      refine X_iload dX12_comeBy_21 rfl ?_
      refine X_iload_n dX12_comeBy_23 rfl ?_
      refine X_iload_n dX12_comeBy_24 rfl ?_
      refine X_irem dX12_comeBy_25 (nI_ne0 (by omega) (by omega)) ?_
      refine X_topi (pk_rem (a := k / n ^ i) (d := n) (by omega) (by omega) (by omega)) ?_
      refine X_iast (nG - 1 - i) dX12_comeBy_26 (k_194 hSh) rfl (by omega) ?_
      refine X_iload_n dX12_comeBy_27 rfl ?_
      refine X_iload_n dX12_comeBy_28 rfl ?_
      refine X_idiv dX12_comeBy_29 (nI_ne0 (by omega) (by omega)) ?_
      refine X_topi (pk_div (a := k / n ^ i) (d := n) (by omega) (by omega) (by omega)) ?_
      refine X_istore_n dX12_comeBy_30 (by decide) ?_
      refine X_iinc dX12_comeBy_31 rfl rfl (by decide) ?_
      refine X_goto 12 dX12_comeBy_34 (by decide) ?_
      refine X_L [(4, .int ((nI (nG - 1 - i)) + Int32.ofInt (-1))), (3, .int (nI ((k / n ^ i) / n))), (0, .ref 87), (1, .int (nI k)), (2, .int (nI n))] ⟨rfl, rfl, rfl, rfl, rfl, trivial⟩ ?_
      refine X_L [(4, .int (dnI nG (i + 1))), (3, .int (nI (k / n ^ (i + 1)))), (0, .ref 87), (1, .int (nI k)), (2, .int (nI n))] ⟨by rw [← dn_s hi]; rfl, by rw [dv_n]; rfl, rfl, rfl, rfl, trivial⟩ ?_
      exact hn _ (DGN_s hi hI)
  · intro y hI
    have hq1 : k / n ^ nG ≤ k := Nat.div_le_self _ _
    refine X_L [(4, .int (-1)), (3, .int (nI (k / n ^ nG))), (0, .ref 87), (1, .int (nI k)), (2, .int (nI n))] ⟨by rw [show dnI nG nG = -1 from if_neg (by omega)]; rfl, rfl, rfl, rfl, rfl, trivial⟩ ?_
    refine X_iload dX12_comeBy_12 rfl ?_
    refine X_if_lt 37 dX12_comeBy_14 (by decide) (fun h_2 => ?_) (fun h_2 => ?_)
    · exact X_vret dX12_comeBy_37 rfl ⟨rfl, rfl, hI, rfl⟩
    · exact absurd (by decide) h_2
theorem c_powS (Γ : pTG) (g : pGG) (mi : pMI) (ml : pML) (e nG b : Nat) (hk : nG ≤ 8) : cI Γ 1 mX12_power [.int (nI e), .int (nI (nG - 1 - b))] g mi ml (nI (stp nG e b)) mi := c_powN Γ g mi ml e (nG - 1 - b) (by omega)
theorem net_row {m x : pMI} {b : Nat} (hb : b < 8) (h : ∀ a, ¬ (433 ≤ a ∧ a ≤ 436) → x a = m a) : netM x b = netM m b := by
  unfold netM lostM
  rw [h 200 (by omega), h 201 (by omega), h 91 (by omega), h (121 + b) (by omega), h 194 (by omega)]
theorem idx_q {q o s h : Nat} (ho : o * s ≤ q) : nI q + (nI h - nI o) * nI s = nI (q - o * s + h * s) := by
  have e : nI q = nI (q - o * s) + nI (o * s) := by rw [nI_add, show q - o * s + o * s = q by omega]
  rw [e, ← nI_add (q - o * s) (h * s), ← pk_mul o s, ← pk_mul h s]
  grind
theorem own_le {nG n q b : Nat} : cmQ nG n q b * stp nG n b ≤ q := by
  have := q_dec (s := stp nG n b) (n := n) (q := q)
  rw [cm_own]
  omega
theorem shf_lt {nG n q b h : Nat} (hn0 : 0 < n) (hb : b < nG) (hq : q < n ^ nG) (hh : h < n) : q - cmQ nG n q b * stp nG n b + h * stp nG n b < n ^ nG := by
  rw [stp_N hb] at hq ⊢
  rw [cm_own, shf_eq]
  exact mk_lt hh (Nat.mod_lt _ (stp_pos hn0)) (qD_lt hq)
theorem is_0 {K : Bool} {p : Nat → Bool} {h : Nat} (h0 : bI (K && !anB p h) = 0) : nI 0 = bI (K && !anB p (h + 1)) := by
  have h1 : (K && !anB p h) = false := bI_0.mp h0
  show nI 0 = bI (K && !(anB p h || p h))
  rw [Bool.not_or, ← Bool.and_assoc, h1]
  rfl
theorem is_f {K : Bool} {h : Nat} {f : Nat → Int32} {v : Int32} (hx : ¬ f h ≤ v) : nI 0 = bI (K && !anB (fun h => !decide (f h ≤ v)) (h + 1)) := by
  show nI 0 = bI (K && !(anB (fun h => !decide (f h ≤ v)) h || !decide (f h ≤ v)))
  rw [decide_eq_false hx, Bool.not_false, Bool.or_true, Bool.not_true, Bool.and_false]
  rfl
theorem is_t {K : Bool} {h : Nat} {f : Nat → Int32} {v : Int32} (h0 : ¬ bI (K && !anB (fun h => !decide (f h ≤ v)) h) = 0) (hx : f h ≤ v) : nI 1 = bI (K && !anB (fun h => !decide (f h ≤ v)) (h + 1)) := by
  have h1 : (K && !anB (fun h => !decide (f h ≤ v)) h) = true := by
    cases hb : (K && !anB (fun h => !decide (f h ≤ v)) h) with
    | true => rfl
    | false => rw [hb] at h0; exact absurd rfl h0
  show nI 1 = bI (K && !(anB (fun h => !decide (f h ≤ v)) h || !decide (f h ≤ v)))
  rw [decide_eq_true hx, Bool.not_true, Bool.or_false, h1]
  rfl
theorem is_g {p : Nat → Bool} {b : Nat} : bI (!anB p b && !p b) = bI (!anB p (b + 1)) := by
  show _ = bI (!(anB p b || p b))
  rw [Bool.not_or]
set_option maxRecDepth 100000 in
set_option maxHeartbeats 4000000 in
theorem k_still_f0 (Γ : pTG) (g : pGG) (mi : pMI) (ml : pML) (A : AS) (hA : okAS A) (hC : CI A g mi ml) (v : Int32) (hf : ¬ (nI 2 ≤ v ∧ v ≤ nI 8)) (w : Int32) : CT Γ 60 20 5000 mX11_still [.ref 0, .int v, .int w] g mi ml (CQ (rfA A 1) (.inr 1) mi ml) := by
  refine CT_of (by decide +kernel) (Nat.le_of_ble_eq_true rfl) ?_
  have hSh := CI_Sh hC
  have hcl := CI_cl hC
  have hP := hA.1
  have hG8 : aG A ≤ 8 := hP.2.1
  have hC8 : (aP A).1 ≤ 8 := hP.1
  refine X_aload_n dX11_still_0 rfl ?_
  refine X_iload_n dX11_still_1 rfl ?_
  refine X_iconst (v := nI 2) dX11_still_2 (by decide) ?_
  refine X_bipush (v := nI 8) dX11_still_3 (by decide) ?_
  exact X_need dX11_still_5 mkX11_116 (k_0 hSh) (c_needWithin Γ g mi ml hSh v (nI 2) (nI 8)) rfl rfl (by decide) (by decide) (by decide) (by decide) (fun _ => ⟨rfl, CI_rf (by decide) hC, frK_86, rfl⟩) (fun h => absurd h hf)
set_option maxRecDepth 100000 in
set_option maxHeartbeats 4000000 in
theorem r_still_f0 (Γ : pTG) (g : pGG) (mi : pMI) (ml : pML) (A : AS) (hA : okAS A) (hSh : Sh g) (hR : RI A mi) (v : Int32) (hf : ¬ (nI 2 ≤ v ∧ v ≤ nI 8)) (w : Int32) : CT Γ 60 0 0 mX12_still [.ref 87, .int v, .int w] g mi ml (RQ (rfA A 1) (.inr 1) cd3 g mi ml) := by
  refine CT_of (by decide +kernel) (Nat.le_of_ble_eq_true rfl) ?_
  have hP := hA.1
  have hG8 : aG A ≤ 8 := hP.2.1
  have hC8 : (aP A).1 ≤ 8 := hP.1
  refine X_aload_n dX12_still_0 rfl ?_
  refine X_iconst (v := nI 0) dX12_still_1 (by decide) ?_
  refine X_puti dX12_still_2 fkX12_158 rfl rfl (k_87 hSh) ?_
  refine X_aload_n dX12_still_5 rfl ?_
  refine X_iload_n dX12_still_6 rfl ?_
  refine X_iconst (v := nI 2) dX12_still_7 (by decide) ?_
  refine X_bipush (v := nI 8) dX12_still_8 (by decide) ?_
  refine X_callSI dX12_still_10 mkX12_192 (c_in Γ g (up2 mi 87 0 (nI 0)) ml v (nI 2) (nI 8)) rfl rfl (by decide) (Nat.le_of_ble_eq_true rfl) ?_
  refine X_topi (show bI (decide (nI 2 ≤ v) && decide (v ≤ nI 8)) = nI 0 from congrArg bI (show (decide (nI 2 ≤ v) && decide (v ≤ nI 8)) = false from Bool.eq_false_iff.mpr (fun q => hf (by rw [Bool.and_eq_true, decide_eq_true_eq, decide_eq_true_eq] at q; exact q)))) ?_
  refine X_if_eqN (a := 0) 25 dX12_still_13 (by decide) (by omega) (fun h_1 => ?_) (fun h_1 => ?_)
  · refine X_iconst (v := nI 1) dX12_still_25 (by decide) ?_
    refine X_goto 30 dX12_still_26 (by decide) ?_
    refine X_iconst (v := nI 1) dX12_still_30 (by decide) ?_
    refine X_iconst (v := nI 1) dX12_still_31 (by decide) ?_
    refine X_callVI dX12_still_32 mkX12_228 (k_87 hSh) (c_bad1 Γ g (up2 mi 87 0 (nI 0)) ml hSh 1 1 (by decide) (by decide) (by decide) up2_s) rfl rfl (by decide) (Nat.le_of_ble_eq_true rfl) ?_
    refine X_mi (show _ = mB mi 1 1 from rfl) ?_
    refine X_if_neN (a := 1) 62 dX12_still_35 (by decide) (by omega) (fun h_2 => ?_) (fun h_2 => ?_)
    · refine X_iconst (v := nI 0) dX12_still_62 (by decide) ?_
      exact X_iret dX12_still_63 rfl ⟨rfl, rfl, RI_rf hA (by decide) hR, fr2_B, _, rfl, mB_0⟩
    · exact absurd h_2 (by omega)
  · exact absurd h_1 (by omega)
set_option maxRecDepth 100000 in
set_option maxHeartbeats 4000000 in
theorem k_still_f1 (Γ : pTG) (g : pGG) (mi : pMI) (ml : pML) (A : AS) (hA : okAS A) (hC : CI A g mi ml) (e : Nat) (hea : 2 ≤ e) (he : e ≤ 8) (w : Int32) (hf : ¬ (nI 0 ≤ w ∧ w ≤ nI 1)) : CT Γ 60 20 5000 mX11_still [.ref 0, .int (nI e), .int w] g mi ml (CQ (rfA A 1) (.inr 1) mi ml) := by
  refine CT_of (by decide +kernel) (Nat.le_of_ble_eq_true rfl) ?_
  have hSh := CI_Sh hC
  have hcl := CI_cl hC
  have hP := hA.1
  have hG8 : aG A ≤ 8 := hP.2.1
  have hC8 : (aP A).1 ≤ 8 := hP.1
  refine X_aload_n dX11_still_0 rfl ?_
  refine X_iload_n dX11_still_1 rfl ?_
  refine X_iconst (v := nI 2) dX11_still_2 (by decide) ?_
  refine X_bipush (v := nI 8) dX11_still_3 (by decide) ?_
  refine X_need dX11_still_5 mkX11_116 (k_0 hSh) (c_needWithin Γ g mi ml hSh (nI e) (nI 2) (nI 8)) rfl rfl (by decide) (by decide) (by decide) (by decide) (fun h => absurd (⟨nI_le (by omega) (by omega), nI_le (by omega) (by omega)⟩) h) (fun _ => ?_)
  refine X_aload_n dX11_still_8 rfl ?_
  refine X_iload_n dX11_still_9 rfl ?_
  refine X_iconst (v := nI 0) dX11_still_10 (by decide) ?_
  refine X_iconst (v := nI 1) dX11_still_11 (by decide) ?_
  exact X_need dX11_still_12 mkX11_116 (k_0 hSh) (c_needWithin Γ g mi ml hSh w (nI 0) (nI 1)) rfl rfl (by decide) (by decide) (by decide) (by decide) (fun _ => ⟨rfl, CI_rf (by decide) hC, frK_86, rfl⟩) (fun h => absurd h hf)
set_option maxRecDepth 100000 in
set_option maxHeartbeats 4000000 in
theorem r_still_f1 (Γ : pTG) (g : pGG) (mi : pMI) (ml : pML) (A : AS) (hA : okAS A) (hSh : Sh g) (hR : RI A mi) (e : Nat) (hea : 2 ≤ e) (he : e ≤ 8) (w : Int32) (hf : ¬ (nI 0 ≤ w ∧ w ≤ nI 1)) : CT Γ 60 0 0 mX12_still [.ref 87, .int (nI e), .int w] g mi ml (RQ (rfA A 1) (.inr 1) cd3 g mi ml) := by
  refine CT_of (by decide +kernel) (Nat.le_of_ble_eq_true rfl) ?_
  have hP := hA.1
  have hG8 : aG A ≤ 8 := hP.2.1
  have hC8 : (aP A).1 ≤ 8 := hP.1
  refine X_aload_n dX12_still_0 rfl ?_
  refine X_iconst (v := nI 0) dX12_still_1 (by decide) ?_
  refine X_puti dX12_still_2 fkX12_158 rfl rfl (k_87 hSh) ?_
  refine X_aload_n dX12_still_5 rfl ?_
  refine X_iload_n dX12_still_6 rfl ?_
  refine X_iconst (v := nI 2) dX12_still_7 (by decide) ?_
  refine X_bipush (v := nI 8) dX12_still_8 (by decide) ?_
  refine X_callSI dX12_still_10 mkX12_192 (c_in Γ g (up2 mi 87 0 (nI 0)) ml (nI e) (nI 2) (nI 8)) rfl rfl (by decide) (Nat.le_of_ble_eq_true rfl) ?_
  refine X_topi (show bI (decide (nI 2 ≤ nI e) && decide (nI e ≤ nI 8)) = nI 1 from congrArg bI (show (decide (nI 2 ≤ nI e) && decide (nI e ≤ nI 8)) = true from by rw [decide_eq_true (nI_le (by omega) (by omega)), decide_eq_true (nI_le (by omega) (by omega))]; rfl)) ?_
  refine X_if_eqN (a := 1) 25 dX12_still_13 (by decide) (by omega) (fun h_1 => ?_) (fun h_1 => ?_)
  · exact absurd h_1 (by omega)
  · refine X_iload_n dX12_still_16 rfl ?_
    refine X_iconst (v := nI 0) dX12_still_17 (by decide) ?_
    refine X_iconst (v := nI 1) dX12_still_18 (by decide) ?_
    refine X_callSI dX12_still_19 mkX12_192 (c_in Γ g (up2 mi 87 0 (nI 0)) ml w (nI 0) (nI 1)) rfl rfl (by decide) (Nat.le_of_ble_eq_true rfl) ?_
    refine X_topi (show bI (decide (nI 0 ≤ w) && decide (w ≤ nI 1)) = nI 0 from congrArg bI (show (decide (nI 0 ≤ w) && decide (w ≤ nI 1)) = false from Bool.eq_false_iff.mpr (fun q => hf (by rw [Bool.and_eq_true, decide_eq_true_eq, decide_eq_true_eq] at q; exact q)))) ?_
    refine X_if_neN (a := 0) 29 dX12_still_22 (by decide) (by omega) (fun h_2 => ?_) (fun h_2 => ?_)
    · exact absurd h_2 (by omega)
    · refine X_iconst (v := nI 1) dX12_still_25 (by decide) ?_
      refine X_goto 30 dX12_still_26 (by decide) ?_
      refine X_iconst (v := nI 1) dX12_still_30 (by decide) ?_
      refine X_iconst (v := nI 1) dX12_still_31 (by decide) ?_
      refine X_callVI dX12_still_32 mkX12_228 (k_87 hSh) (c_bad1 Γ g (up2 mi 87 0 (nI 0)) ml hSh 1 1 (by decide) (by decide) (by decide) up2_s) rfl rfl (by decide) (Nat.le_of_ble_eq_true rfl) ?_
      refine X_mi (show _ = mB mi 1 1 from rfl) ?_
      refine X_if_neN (a := 1) 62 dX12_still_35 (by decide) (by omega) (fun h_3 => ?_) (fun h_3 => ?_)
      · refine X_iconst (v := nI 0) dX12_still_62 (by decide) ?_
        exact X_iret dX12_still_63 rfl ⟨rfl, rfl, RI_rf hA (by decide) hR, fr2_B, _, rfl, mB_0⟩
      · exact absurd h_3 (by omega)
set_option maxRecDepth 100000 in
set_option maxHeartbeats 4000000 in
theorem k_still_f2 (Γ : pTG) (g : pGG) (mi : pMI) (ml : pML) (A : AS) (hA : okAS A) (hC : CI A g mi ml) (e : Nat) (hea : 2 ≤ e) (he : e ≤ 8) (k : Nat) (hka : 0 ≤ k) (hk : k ≤ 1) (hf : ¬ aG A ≤ 4) : CT Γ 60 20 5000 mX11_still [.ref 0, .int (nI e), .int (nI k)] g mi ml (CQ (rfA A 2) (.inr 2) mi ml) := by
  refine CT_of (by decide +kernel) (Nat.le_of_ble_eq_true rfl) ?_
  have hSh := CI_Sh hC
  have hcl := CI_cl hC
  have hP := hA.1
  have hG8 : aG A ≤ 8 := hP.2.1
  have hC8 : (aP A).1 ≤ 8 := hP.1
  refine X_aload_n dX11_still_0 rfl ?_
  refine X_iload_n dX11_still_1 rfl ?_
  refine X_iconst (v := nI 2) dX11_still_2 (by decide) ?_
  refine X_bipush (v := nI 8) dX11_still_3 (by decide) ?_
  refine X_need dX11_still_5 mkX11_116 (k_0 hSh) (c_needWithin Γ g mi ml hSh (nI e) (nI 2) (nI 8)) rfl rfl (by decide) (by decide) (by decide) (by decide) (fun h => absurd (⟨nI_le (by omega) (by omega), nI_le (by omega) (by omega)⟩) h) (fun _ => ?_)
  refine X_aload_n dX11_still_8 rfl ?_
  refine X_iload_n dX11_still_9 rfl ?_
  refine X_iconst (v := nI 0) dX11_still_10 (by decide) ?_
  refine X_iconst (v := nI 1) dX11_still_11 (by decide) ?_
  refine X_need dX11_still_12 mkX11_116 (k_0 hSh) (c_needWithin Γ g mi ml hSh (nI k) (nI 0) (nI 1)) rfl rfl (by decide) (by decide) (by decide) (by decide) (fun h => absurd (⟨nI_le (by omega) (by omega), nI_le (by omega) (by omega)⟩) h) (fun _ => ?_)
  refine X_aload_n dX11_still_15 rfl ?_
  exact X_need dX11_still_16 mkX11_275 (k_0 hSh) (c_needFewGuests Γ g mi ml hSh ) rfl rfl (by decide) (by decide) (by decide) (by decide) (fun _ => ⟨rfl, CI_rf (by decide) hC, frK_86, rfl⟩) (fun h => absurd h (fun q => hf (by rw [hcl.2.1] at q; have := fun z => q ((nI_ltI (a := 4) (b := aG A) (by omega) (by omega)).mpr z); exact Nat.le_of_not_lt this)))
set_option maxRecDepth 100000 in
set_option maxHeartbeats 4000000 in
theorem r_still_f2 (Γ : pTG) (g : pGG) (mi : pMI) (ml : pML) (A : AS) (hA : okAS A) (hSh : Sh g) (hR : RI A mi) (e : Nat) (hea : 2 ≤ e) (he : e ≤ 8) (k : Nat) (hka : 0 ≤ k) (hk : k ≤ 1) (hf : ¬ aG A ≤ 4) : CT Γ 60 0 0 mX12_still [.ref 87, .int (nI e), .int (nI k)] g mi ml (RQ (rfA A 2) (.inr 2) cd3 g mi ml) := by
  refine CT_of (by decide +kernel) (Nat.le_of_ble_eq_true rfl) ?_
  have hP := hA.1
  have hG8 : aG A ≤ 8 := hP.2.1
  have hC8 : (aP A).1 ≤ 8 := hP.1
  refine X_aload_n dX12_still_0 rfl ?_
  refine X_iconst (v := nI 0) dX12_still_1 (by decide) ?_
  refine X_puti dX12_still_2 fkX12_158 rfl rfl (k_87 hSh) ?_
  refine X_aload_n dX12_still_5 rfl ?_
  refine X_iload_n dX12_still_6 rfl ?_
  refine X_iconst (v := nI 2) dX12_still_7 (by decide) ?_
  refine X_bipush (v := nI 8) dX12_still_8 (by decide) ?_
  refine X_callSI dX12_still_10 mkX12_192 (c_in Γ g (up2 mi 87 0 (nI 0)) ml (nI e) (nI 2) (nI 8)) rfl rfl (by decide) (Nat.le_of_ble_eq_true rfl) ?_
  refine X_topi (show bI (decide (nI 2 ≤ nI e) && decide (nI e ≤ nI 8)) = nI 1 from congrArg bI (show (decide (nI 2 ≤ nI e) && decide (nI e ≤ nI 8)) = true from by rw [decide_eq_true (nI_le (by omega) (by omega)), decide_eq_true (nI_le (by omega) (by omega))]; rfl)) ?_
  refine X_if_eqN (a := 1) 25 dX12_still_13 (by decide) (by omega) (fun h_1 => ?_) (fun h_1 => ?_)
  · exact absurd h_1 (by omega)
  · refine X_iload_n dX12_still_16 rfl ?_
    refine X_iconst (v := nI 0) dX12_still_17 (by decide) ?_
    refine X_iconst (v := nI 1) dX12_still_18 (by decide) ?_
    refine X_callSI dX12_still_19 mkX12_192 (c_in Γ g (up2 mi 87 0 (nI 0)) ml (nI k) (nI 0) (nI 1)) rfl rfl (by decide) (Nat.le_of_ble_eq_true rfl) ?_
    refine X_topi (show bI (decide (nI 0 ≤ nI k) && decide (nI k ≤ nI 1)) = nI 1 from congrArg bI (show (decide (nI 0 ≤ nI k) && decide (nI k ≤ nI 1)) = true from by rw [decide_eq_true (nI_le (by omega) (by omega)), decide_eq_true (nI_le (by omega) (by omega))]; rfl)) ?_
    refine X_if_neN (a := 1) 29 dX12_still_22 (by decide) (by omega) (fun h_2 => ?_) (fun h_2 => ?_)
    · refine X_iconst (v := nI 0) dX12_still_29 (by decide) ?_
      refine X_iconst (v := nI 1) dX12_still_30 (by decide) ?_
      refine X_iconst (v := nI 1) dX12_still_31 (by decide) ?_
      refine X_callVI dX12_still_32 mkX12_228 (k_87 hSh) (c_bad0 Γ g (up2 mi 87 0 (nI 0)) ml hSh 1 1 up2_s) rfl rfl (by decide) (Nat.le_of_ble_eq_true rfl) ?_
      refine X_if_neN (a := 0) 62 dX12_still_35 (by decide) (by omega) (fun h_3 => ?_) (fun h_3 => ?_)
      · exact absurd h_3 (by omega)
      · refine X_aload_n dX12_still_38 rfl ?_
        refine X_aload_n dX12_still_39 rfl ?_
        refine X_getr (a := 91) dX12_still_40 fkX12_23 rfl (k_87 hSh) (r_87_12 hSh) ?_
        refine X_iconst (v := nI 1) dX12_still_43 (by decide) ?_
        refine X_iald 1 dX12_still_44 (k_91 hSh) rfl (by omega) ?_
        rw [((congrFun (up2_row (by omega)) _).trans hR.1.2.1)]
        refine X_iconst (v := nI 4) dX12_still_45 (by decide) ?_
        refine X_icmp_leN (a := aG A) (b := 4) 53 dX12_still_46 (by decide) (by omega) (by omega) (fun h_4 => ?_) (fun h_4 => ?_)
        · exact absurd h_4 hf
        · refine X_iconst (v := nI 1) dX12_still_49 (by decide) ?_
          refine X_goto 54 dX12_still_50 (by decide) ?_
          refine X_iconst (v := nI 2) dX12_still_54 (by decide) ?_
          refine X_iconst (v := nI 2) dX12_still_55 (by decide) ?_
          refine X_callVI dX12_still_56 mkX12_228 (k_87 hSh) (c_bad1 Γ g (up2 mi 87 0 (nI 0)) ml hSh 2 2 (by decide) (by decide) (by decide) up2_s) rfl rfl (by decide) (Nat.le_of_ble_eq_true rfl) ?_
          refine X_mi (show _ = mB mi 2 2 from rfl) ?_
          refine X_if_eqN (a := 1) 64 dX12_still_59 (by decide) (by omega) (fun h_5 => ?_) (fun h_5 => ?_)
          · exact absurd h_5 (by omega)
          · refine X_iconst (v := nI 0) dX12_still_62 (by decide) ?_
            exact X_iret dX12_still_63 rfl ⟨rfl, rfl, RI_rf hA (by decide) hR, fr2_B, _, rfl, mB_0⟩
    · exact absurd h_2 (by omega)
theorem cD_le (p : Nat → Bool) (N : Nat) : ∀ i, cD p N i ≤ i
  | 0 => Nat.le_refl _
  | i + 1 => by
    have h1 := cD_le p N i
    have h2 : (p (N - 1 - i)).toNat ≤ 1 := by cases p (N - 1 - i) <;> decide
    show cD p N i + (p (N - 1 - i)).toNat ≤ i + 1
    omega
set_option maxRecDepth 100000 in
set_option maxHeartbeats 4000000 in
theorem r_still (Γ : pTG) (g : pGG) (mi : pMI) (ml : pML) (A : AS) (hA : okAS A) (hSh : Sh g) (hR : RI A mi) (e : Nat) (hea : 2 ≤ e) (he : e ≤ 8) (k : Nat) (hka : 0 ≤ k) (hk : k ≤ 1) (h4 : aG A ≤ 4) : CT Γ 60 0 0 mX12_still [.ref 87, .int (nI e), .int (nI k)] g mi ml (RQ A (.inl (if k = 0 then stM (aP A) e else stF (aP A) e)) cd3 g mi ml) := by
  refine CT_of (by decide +kernel) (Nat.le_of_ble_eq_true rfl) ?_
  have hP := hA.1
  have hG8 : aG A ≤ 8 := hP.2.1
  have hC8 : (aP A).1 ≤ 8 := hP.1
  have hN4 : (e ^ aG A) ≤ 4096 := pw_lt ⟨by omega, he⟩ h4
  have hN0 : 0 < (e ^ aG A) := Nat.pow_pos (by omega)
  refine X_aload_n dX12_still_0 rfl ?_
  refine X_iconst (v := nI 0) dX12_still_1 (by decide) ?_
  refine X_puti dX12_still_2 fkX12_158 rfl rfl (k_87 hSh) ?_
  refine X_aload_n dX12_still_5 rfl ?_
  refine X_iload_n dX12_still_6 rfl ?_
  refine X_iconst (v := nI 2) dX12_still_7 (by decide) ?_
  refine X_bipush (v := nI 8) dX12_still_8 (by decide) ?_
  refine X_callSI dX12_still_10 mkX12_192 (c_in Γ g (up2 mi 87 0 (nI 0)) ml (nI e) (nI 2) (nI 8)) rfl rfl (by decide) (Nat.le_of_ble_eq_true rfl) ?_
  refine X_topi (show bI (decide (nI 2 ≤ nI e) && decide (nI e ≤ nI 8)) = nI 1 from congrArg bI (show (decide (nI 2 ≤ nI e) && decide (nI e ≤ nI 8)) = true from by rw [decide_eq_true (nI_le (by omega) (by omega)), decide_eq_true (nI_le (by omega) (by omega))]; rfl)) ?_
  refine X_if_eqN (a := 1) 25 dX12_still_13 (by decide) (by omega) (fun h_1 => ?_) (fun h_1 => ?_)
  · exact absurd h_1 (by omega)
  · refine X_iload_n dX12_still_16 rfl ?_
    refine X_iconst (v := nI 0) dX12_still_17 (by decide) ?_
    refine X_iconst (v := nI 1) dX12_still_18 (by decide) ?_
    refine X_callSI dX12_still_19 mkX12_192 (c_in Γ g (up2 mi 87 0 (nI 0)) ml (nI k) (nI 0) (nI 1)) rfl rfl (by decide) (Nat.le_of_ble_eq_true rfl) ?_
    refine X_topi (show bI (decide (nI 0 ≤ nI k) && decide (nI k ≤ nI 1)) = nI 1 from congrArg bI (show (decide (nI 0 ≤ nI k) && decide (nI k ≤ nI 1)) = true from by rw [decide_eq_true (nI_le (by omega) (by omega)), decide_eq_true (nI_le (by omega) (by omega))]; rfl)) ?_
    refine X_if_neN (a := 1) 29 dX12_still_22 (by decide) (by omega) (fun h_2 => ?_) (fun h_2 => ?_)
    · refine X_iconst (v := nI 0) dX12_still_29 (by decide) ?_
      refine X_iconst (v := nI 1) dX12_still_30 (by decide) ?_
      refine X_iconst (v := nI 1) dX12_still_31 (by decide) ?_
      refine X_callVI dX12_still_32 mkX12_228 (k_87 hSh) (c_bad0 Γ g (up2 mi 87 0 (nI 0)) ml hSh 1 1 up2_s) rfl rfl (by decide) (Nat.le_of_ble_eq_true rfl) ?_
      refine X_if_neN (a := 0) 62 dX12_still_35 (by decide) (by omega) (fun h_3 => ?_) (fun h_3 => ?_)
      · exact absurd h_3 (by omega)
      · refine X_aload_n dX12_still_38 rfl ?_
        refine X_aload_n dX12_still_39 rfl ?_
        refine X_getr (a := 91) dX12_still_40 fkX12_23 rfl (k_87 hSh) (r_87_12 hSh) ?_
        refine X_iconst (v := nI 1) dX12_still_43 (by decide) ?_
        refine X_iald 1 dX12_still_44 (k_91 hSh) rfl (by omega) ?_
        rw [((congrFun (up2_row (by omega)) _).trans hR.1.2.1)]
        refine X_iconst (v := nI 4) dX12_still_45 (by decide) ?_
        refine X_icmp_leN (a := aG A) (b := 4) 53 dX12_still_46 (by decide) (by omega) (by omega) (fun h_4 => ?_) (fun h_4 => ?_)
        · refine X_iconst (v := nI 0) dX12_still_53 (by decide) ?_
          refine X_iconst (v := nI 2) dX12_still_54 (by decide) ?_
          refine X_iconst (v := nI 2) dX12_still_55 (by decide) ?_
          refine X_callVI dX12_still_56 mkX12_228 (k_87 hSh) (c_bad0 Γ g (up2 mi 87 0 (nI 0)) ml hSh 2 2 up2_s) rfl rfl (by decide) (Nat.le_of_ble_eq_true rfl) ?_
          refine X_if_eqN (a := 0) 64 dX12_still_59 (by decide) (by omega) (fun h_5 => ?_) (fun h_5 => ?_)
          · refine X_iload_n dX12_still_64 rfl ?_
            refine X_aload_n dX12_still_65 rfl ?_
            refine X_getr (a := 91) dX12_still_66 fkX12_23 rfl (k_87 hSh) (r_87_12 hSh) ?_
            refine X_iconst (v := nI 1) dX12_still_69 (by decide) ?_
            refine X_iald 1 dX12_still_70 (k_91 hSh) rfl (by omega) ?_
            rw [((congrFun (up2_row (by omega)) _).trans hR.1.2.1)]
            refine X_callSI dX12_still_71 mkX12_372 (c_powN Γ g (up2 mi 87 0 (nI 0)) ml e (aG A) hG8) rfl rfl (by decide) (Nat.le_of_ble_eq_true rfl) ?_
            refine X_istore_n dX12_still_74 (by decide) ?_
            refine X_iconst (v := nI 0) dX12_still_75 (by decide) ?_
            refine X_istore dX12_still_76 (by decide) ?_
            refine X_iconst (v := -1) dX12_still_78 (by decide) ?_
            refine X_istore dX12_still_79 (by decide) ?_
            refine X_aload_n dX12_still_81 rfl ?_
            refine X_callVrV dX12_still_82 mkX12_347 (k_87 hSh) (r_beg Γ g (up2 mi 87 0 (nI 0)) ml A hA hSh mi hR RW_0) rfl rfl (by decide) (Nat.le_of_ble_eq_true rfl) (fun b1 bl hb1 => ?_)
            obtain ⟨hbS, hbc, hbW, hbB, hbl⟩ := hb1
            rw [hbl]
            refine X_iconst (v := nI 0) dX12_still_85 (by decide) ?_
            refine X_istore dX12_still_86 (by decide) ?_
            refine X_L [(6, .int (nI 0)), (5, .int (-1)), (4, .int (nI 0)), (3, .int (nI (e ^ aG A))), (2, .int (nI k)), (1, .int (nI e)), (0, .ref 87)] ⟨rfl, rfl, rfl, rfl, rfl, rfl, rfl, trivial⟩ ?_
            refine X_forR (σ := pMI) 88 (fun i y => [(6, .int (nI i)), (5, .int (-1)), (4, .int (nI 0)), (3, .int (nI (e ^ aG A))), (2, .int (nI k)), (1, .int (nI e)), (0, .ref 87)]) (fun y => y) (fun y => ml) (fun i y => RW mi y ∧ rS y (aP A) (aH A) id id (aP A).2.2.2.1 ∧ ∀ b, b < aG A → ∀ p, p < i → y (433 + b) p = nqP (aP A) e p b) (e ^ aG A) ?_ ?_ (e ^ aG A) 0 b1 (by omega) ⟨hbW, hbS, fun b hb p hp => absurd hp (by omega)⟩
            · intro i y hi hI hnx
              refine X_iload dX12_still_88 rfl ?_
              refine X_iload_n dX12_still_90 rfl ?_
              refine X_icmp_geN (a := i) (b := e ^ aG A) 147 dX12_still_91 (by decide) (by omega) (by omega) (fun h_6 => ?_) (fun h_6 => ?_)
              · exact absurd hi (by omega)
              · refine X_aload_n dX12_still_94 rfl ?_
                refine X_iload dX12_still_95 rfl ?_
                refine X_iload_n dX12_still_97 rfl ?_
                refine X_callVrV dX12_still_98 mkX12_375 (k_87 hSh) (c_comeN Γ g y ml hSh (aG A) (RW_I hA hR hI.1).1.2.1 hG8 e (by omega) he i (by omega)) rfl rfl (by decide) (Nat.le_of_ble_eq_true rfl) (fun d1 dl hd1 => ?_)
                obtain ⟨hdD, hdl⟩ := hd1
                rw [hdl]
                have hdR : frR y d1 := fun i h1 h2 h3 h4 h5 => hdD.2 i h3
                refine X_aload_n dX12_still_101 rfl ?_
                refine X_callVrV dX12_still_102 mkX12_341 (k_87 hSh) (r_run Γ g d1 ml A hA hSh mi (RW_R hI.1 hdR) id id id (cmQ (aG A) e i) (aP A).2.2.2.1 ⟨hA.1.2.2.2.1, hA.1.2.2.2.2.1⟩ (rS_row hA.1 hdR hI.2.1) (okO_id hG8) (fun b hb => ⟨hdD.1 b hb (by omega), Nat.lt_of_lt_of_le (cmq_lt (by omega)) (by omega)⟩)) rfl rfl (by decide) (Nat.le_of_ble_eq_true rfl) (fun x1 xl hx1 => ?_)
                obtain ⟨hxR, hxS, hxW, hxF, hxl⟩ := hx1
                rw [hxl]
                refine X_iconst (v := nI 0) dX12_still_105 (by decide) ?_
                refine X_istore dX12_still_106 (by decide) ?_
                refine X_L [(7, .int (nI 0)), (6, .int (nI i)), (5, .int (-1)), (4, .int (nI 0)), (3, .int (nI (e ^ aG A))), (2, .int (nI k)), (1, .int (nI e)), (0, .ref 87)] ⟨rfl, rfl, rfl, rfl, rfl, rfl, rfl, rfl, trivial⟩ ?_
                refine X_forR (σ := pMI) 108 (fun j z => [(7, .int (nI j)), (6, .int (nI i)), (5, .int (-1)), (4, .int (nI 0)), (3, .int (nI (e ^ aG A))), (2, .int (nI k)), (1, .int (nI e)), (0, .ref 87)]) (fun z => z) (fun z => ml) (fun j z => (∀ b, b < j → z (433 + b) i = nqP (aP A) e i b) ∧ (∀ b, b < aG A → ∀ p, p < i → z (433 + b) p = nqP (aP A) e p b) ∧ ∀ a, ¬ (433 ≤ a ∧ a ≤ 436) → z a = x1 a) (aG A) ?_ ?_ (aG A) 0 x1 (by omega) ⟨fun b hb => absurd hb (by omega), fun b hb p hp => by rw [hxF (433 + b) (by omega) (by omega) (by omega) (by omega) (by omega), hdD.2 (433 + b) (by omega)]; exact hI.2.2 b hb p hp, fun _ _ => rfl⟩
                · intro j z hj hJ hny
                  have hz91 : z 91 1 = nI (aG A) := by rw [hJ.2.2 91 (by omega)]; exact (RW_I hA hR hxW).1.2.1
                  refine X_iload dX12_still_108 rfl ?_
                  refine X_aload_n dX12_still_110 rfl ?_
                  refine X_getr (a := 91) dX12_still_111 fkX12_23 rfl (k_87 hSh) (r_87_12 hSh) ?_
                  refine X_iconst (v := nI 1) dX12_still_114 (by decide) ?_
                  refine X_iald 1 dX12_still_115 (k_91 hSh) rfl (by omega) ?_
                  rw [hz91]
                  refine X_icmp_geN (a := j) (b := aG A) 141 dX12_still_116 (by decide) (by omega) (by omega) (fun h_7 => ?_) (fun h_7 => ?_)
                  · exact absurd hj (by omega)
                  · refine X_aload_n dX12_still_119 rfl ?_
                    refine X_getr (a := 432) dX12_still_120 fkX12_137 rfl (k_87 hSh) (r_87_57 hSh) ?_
                    refine X_iload dX12_still_123 rfl ?_
                    refine X_aaldr (b := 433 + j) j dX12_still_125 (k_432 hSh) rfl (by omega) (o_432 hSh j (by omega)) ?_
                    refine X_iload dX12_still_126 rfl ?_
                    refine X_aload_n dX12_still_128 rfl ?_
                    refine X_iload dX12_still_129 rfl ?_
                    refine X_callVI dX12_still_131 mkX12_356 (k_87 hSh) (c_netOf Γ g z ml hSh j (by omega)) rfl rfl (by decide) (Nat.le_of_ble_eq_true rfl) ?_
                    refine X_topi (show netM z j = nqP (aP A) e i j from (net_row (by omega) hJ.2.2).trans (hxR.1 j hj).2.2.2.2.2.1) ?_
                    refine X_iast i dX12_still_134 (kr_432 hSh j (by omega)) rfl (by omega) ?_
                    refine X_iinc (v := nI (j + 1)) dX12_still_135 rfl (nI_1 _) (by decide) ?_
                    refine X_goto 108 dX12_still_138 (by decide) ?_
                    refine X_L [(7, .int (nI (j + 1))), (6, .int (nI i)), (5, .int (-1)), (4, .int (nI 0)), (3, .int (nI (e ^ aG A))), (2, .int (nI k)), (1, .int (nI e)), (0, .ref 87)] ⟨rfl, rfl, rfl, rfl, rfl, rfl, rfl, rfl, trivial⟩ ?_
                    refine hny _ ⟨fun b hb => ?_, fun b hb p hp => ?_, fun a ha => by rw [up2_row (by omega)]; exact hJ.2.2 a ha⟩
                    · by_cases q : b = j
                      · rw [q, up2_s]
                      · rw [up2_row (by omega)]; exact hJ.1 b (by omega)
                    · by_cases q : b = j
                      · rw [q, up2_n (by omega)]; exact hJ.2.1 j (by omega) p hp
                      · rw [up2_row (by omega)]; exact hJ.2.1 b hb p hp
                · intro z hJ
                  have hz91 : z 91 1 = nI (aG A) := by rw [hJ.2.2 91 (by omega)]; exact (RW_I hA hR hxW).1.2.1
                  refine X_iload dX12_still_108 rfl ?_
                  refine X_aload_n dX12_still_110 rfl ?_
                  refine X_getr (a := 91) dX12_still_111 fkX12_23 rfl (k_87 hSh) (r_87_12 hSh) ?_
                  refine X_iconst (v := nI 1) dX12_still_114 (by decide) ?_
                  refine X_iald 1 dX12_still_115 (k_91 hSh) rfl (by omega) ?_
                  rw [hz91]
                  refine X_icmp_geN (a := (aG A)) (b := aG A) 141 dX12_still_116 (by decide) (by omega) (by omega) (fun h_8 => ?_) (fun h_8 => ?_)
                  · refine X_iinc (v := nI (i + 1)) dX12_still_141 rfl (nI_1 _) (by decide) ?_
                    refine X_goto 88 dX12_still_144 (by decide) ?_
                    refine X_L [(6, .int (nI (i + 1))), (5, .int (-1)), (4, .int (nI 0)), (3, .int (nI (e ^ aG A))), (2, .int (nI k)), (1, .int (nI e)), (0, .ref 87)] ⟨rfl, rfl, rfl, rfl, rfl, rfl, rfl, trivial⟩ ?_
                    have hzR : RW mi z := ⟨frW_t hxW.1 ⟨fun i h1 h2 h3 => hJ.2.2 i (fun q => h3 (by unfold rsR; omega)), fun j hj => by rw [hJ.2.2 87 (by omega)]⟩, frM2_t hxW.2.1 (fun i hi => hJ.2.2 i (by omega)), by rw [hJ.2.2 87 (by omega)]; exact hxW.2.2⟩
                    refine hnx z ⟨hzR, ⟨rfP_w hA.1 hxS.1 (fun i hi => hJ.2.2 i (by omega)), rfHb_w hxS.2.1 (fun i hi => hJ.2.2 i (by omega)), fun b hb => by rw [hJ.2.2 229 (by omega)]; exact hxS.2.2.1 b hb, fun b hb => by rw [hJ.2.2 197 (by omega)]; exact hxS.2.2.2.1 b hb, by rw [hJ.2.2 87 (by omega)]; exact hxS.2.2.2.2⟩, fun b hb p hp => ?_⟩
                    by_cases q : p = i
                    · rw [q]; exact hJ.1 b hb
                    · exact hJ.2.1 b hb p (by omega)
                  · exact absurd h_8 (by omega)
            · intro y hI
              have hy91 : y 91 1 = nI (aG A) := (RW_I hA hR hI.1).1.2.1
              refine X_iload dX12_still_88 rfl ?_
              refine X_iload_n dX12_still_90 rfl ?_
              refine X_icmp_geN (a := (e ^ aG A)) (b := e ^ aG A) 147 dX12_still_91 (by decide) (by omega) (by omega) (fun h_9 => ?_) (fun h_9 => ?_)
              · refine X_iload_n dX12_still_147 rfl ?_
                refine X_iconst (v := nI 1) dX12_still_148 (by decide) ?_
                refine X_isub dX12_still_149 ?_
                refine X_istore dX12_still_150 (by decide) ?_
                refine X_L [(6, .int ((nI (e ^ aG A)) - (nI 1))), (5, .int (-1)), (4, .int (nI 0)), (3, .int (nI (e ^ aG A))), (2, .int (nI k)), (1, .int (nI e)), (0, .ref 87)] ⟨rfl, rfl, rfl, rfl, rfl, rfl, rfl, trivial⟩ ?_
                refine X_L [(6, .int (dnI (e ^ aG A) 0)), (5, .int (oI ((fD (stB (aP A) e) (e ^ aG A) 0).map (fun q => dgQ (aG A) e q (aG A))))), (4, .int (nI (cD (stB (aP A) e) (e ^ aG A) 0))), (3, .int (nI (e ^ aG A))), (2, .int (nI k)), (1, .int (nI e)), (0, .ref 87)] ⟨by rw [← dn_0]; rfl, rfl, rfl, rfl, rfl, rfl, rfl, trivial⟩ ?_
                refine X_forR (σ := Unit) 152 (fun i u => [(6, .int (dnI (e ^ aG A) i)), (5, .int (oI ((fD (stB (aP A) e) (e ^ aG A) i).map (fun q => dgQ (aG A) e q (aG A))))), (4, .int (nI (cD (stB (aP A) e) (e ^ aG A) i))), (3, .int (nI (e ^ aG A))), (2, .int (nI k)), (1, .int (nI e)), (0, .ref 87)]) (fun u => y) (fun u => ml) (fun i u => True) (e ^ aG A) ?_ ?_ (e ^ aG A) 0 () (by omega) trivial
                · intro i u hi hU hnw
                  obtain ⟨q, hqe⟩ : ∃ q, q = (e ^ aG A) - 1 - i := ⟨_, rfl⟩
                  have hq : q < (e ^ aG A) := by omega
                  have hcd := cD_le (stB (aP A) e) (e ^ aG A) i
                  refine X_L [(6, .int (nI q)), (5, .int (oI ((fD (stB (aP A) e) (e ^ aG A) i).map (fun q => dgQ (aG A) e q (aG A))))), (4, .int (nI (cD (stB (aP A) e) (e ^ aG A) i))), (3, .int (nI (e ^ aG A))), (2, .int (nI k)), (1, .int (nI e)), (0, .ref 87)] ⟨by rw [dn_i hi, ← hqe]; rfl, rfl, rfl, rfl, rfl, rfl, rfl, trivial⟩ ?_
                  refine X_iload dX12_still_152 rfl ?_
                  refine X_if_ltN (a := q) 299 dX12_still_154 (by decide) (by omega) (fun h_10 => ?_) (fun h_10 => ?_)
                  · exact h_10.elim
                  · refine X_iconst (v := nI 1) dX12_still_157 (by decide) ?_
                    refine X_istore dX12_still_158 (by decide) ?_
                    refine X_iconst (v := nI 0) dX12_still_160 (by decide) ?_
                    refine X_istore dX12_still_161 (by decide) ?_
                    refine X_L [(8, .int (nI 0)), (7, .int (nI 1)), (6, .int (nI q)), (5, .int (oI ((fD (stB (aP A) e) (e ^ aG A) i).map (fun q => dgQ (aG A) e q (aG A))))), (4, .int (nI (cD (stB (aP A) e) (e ^ aG A) i))), (3, .int (nI (e ^ aG A))), (2, .int (nI k)), (1, .int (nI e)), (0, .ref 87)] ⟨rfl, rfl, rfl, rfl, rfl, rfl, rfl, rfl, rfl, trivial⟩ ?_
                    refine X_L [(8, .int (nI (dgQ (aG A) e q 0))), (7, .int (bI (!anB (fun z8 => anB (fun z9 => !decide (nqP (aP A) e (q - cmQ (aG A) e q z8 * stp (aG A) e z8 + z9 * stp (aG A) e z8) z8 ≤ nqP (aP A) e q z8)) e) 0))), (6, .int (nI q)), (5, .int (oI ((fD (stB (aP A) e) (e ^ aG A) i).map (fun q => dgQ (aG A) e q (aG A))))), (4, .int (nI (cD (stB (aP A) e) (e ^ aG A) i))), (3, .int (nI (e ^ aG A))), (2, .int (nI k)), (1, .int (nI e)), (0, .ref 87)] ⟨rfl, rfl, rfl, rfl, rfl, rfl, rfl, rfl, rfl, trivial⟩ ?_
                    refine X_iconst (v := nI 0) dX12_still_163 (by decide) ?_
                    refine X_istore dX12_still_164 (by decide) ?_
                    refine X_L [(9, .int (nI 0)), (8, .int (nI (dgQ (aG A) e q 0))), (7, .int (bI (!anB (fun z8 => anB (fun z9 => !decide (nqP (aP A) e (q - cmQ (aG A) e q z8 * stp (aG A) e z8 + z9 * stp (aG A) e z8) z8 ≤ nqP (aP A) e q z8)) e) 0))), (6, .int (nI q)), (5, .int (oI ((fD (stB (aP A) e) (e ^ aG A) i).map (fun q => dgQ (aG A) e q (aG A))))), (4, .int (nI (cD (stB (aP A) e) (e ^ aG A) i))), (3, .int (nI (e ^ aG A))), (2, .int (nI k)), (1, .int (nI e)), (0, .ref 87)] ⟨rfl, rfl, rfl, rfl, rfl, rfl, rfl, rfl, rfl, rfl, trivial⟩ ?_
                    refine X_forR (σ := Unit) 166 (fun b u2 => [(9, .int (nI b)), (8, .int (nI (dgQ (aG A) e q b))), (7, .int (bI (!anB (fun z8 => anB (fun z9 => !decide (nqP (aP A) e (q - cmQ (aG A) e q z8 * stp (aG A) e z8 + z9 * stp (aG A) e z8) z8 ≤ nqP (aP A) e q z8)) e) b))), (6, .int (nI q)), (5, .int (oI ((fD (stB (aP A) e) (e ^ aG A) i).map (fun q => dgQ (aG A) e q (aG A))))), (4, .int (nI (cD (stB (aP A) e) (e ^ aG A) i))), (3, .int (nI (e ^ aG A))), (2, .int (nI k)), (1, .int (nI e)), (0, .ref 87)]) (fun u2 => y) (fun u2 => ml) (fun b u2 => True) (aG A) ?_ ?_ (aG A) 0 (()) (by omega) trivial
                    · intro b u2 hb hU2 hnb
                      have hqd : q / stp (aG A) e b ≤ q := Nat.div_le_self _ _
                      have hs0 : 0 < stp (aG A) e b := stp_pos (by omega)
                      have hs1 : stp (aG A) e b ≤ 4096 := pw_lt ⟨by omega, he⟩ (by omega)
                      refine X_iload dX12_still_166 rfl ?_
                      refine X_aload_n dX12_still_168 rfl ?_
                      refine X_getr (a := 91) dX12_still_169 fkX12_23 rfl (k_87 hSh) (r_87_12 hSh) ?_
                      refine X_iconst (v := nI 1) dX12_still_172 (by decide) ?_
                      refine X_iald 1 dX12_still_173 (k_91 hSh) rfl (by omega) ?_
                      rw [hy91]
                      refine X_icmp_geN (a := b) (b := aG A) 278 dX12_still_174 (by decide) (by omega) (by omega) (fun h_11 => ?_) (fun h_11 => ?_)
                      · exact absurd hb (by omega)
                      · refine X_iload_n dX12_still_177 rfl ?_
                        refine X_aload_n dX12_still_178 rfl ?_
                        refine X_getr (a := 91) dX12_still_179 fkX12_23 rfl (k_87 hSh) (r_87_12 hSh) ?_
                        refine X_iconst (v := nI 1) dX12_still_182 (by decide) ?_
                        refine X_iald 1 dX12_still_183 (k_91 hSh) rfl (by omega) ?_
                        rw [hy91]
                        refine X_iconst (v := nI 1) dX12_still_184 (by decide) ?_
                        refine X_isub dX12_still_185 ?_
                        refine X_topi (pk_sub (a := aG A) (b := 1) (by omega)) ?_
                        refine X_iload dX12_still_186 rfl ?_
                        refine X_isub dX12_still_188 ?_
                        refine X_topi (pk_sub (a := (aG A) - 1) (b := b) (by omega)) ?_
                        refine X_callSI dX12_still_189 mkX12_372 (c_powS Γ g y ml e (aG A) b hG8) rfl rfl (by decide) (Nat.le_of_ble_eq_true rfl) ?_
                        refine X_istore dX12_still_192 (by decide) ?_
                        refine X_iload dX12_still_194 rfl ?_
                        refine X_iload dX12_still_196 rfl ?_
                        refine X_idiv dX12_still_198 (nI_ne0 (by omega) (by omega)) ?_
                        refine X_topi (pk_div (a := q) (d := stp (aG A) e b) (by omega) (by omega) (by omega)) ?_
                        refine X_iload_n dX12_still_199 rfl ?_
                        refine X_irem dX12_still_200 (nI_ne0 (by omega) (by omega)) ?_
                        refine X_topi (pk_rem (a := q / (stp (aG A) e b)) (d := e) (by omega) (by omega) (by omega)) ?_
                        refine X_topi (show _ = nI (cmQ (aG A) e q b) from rfl) ?_
                        refine X_istore dX12_still_201 (by decide) ?_
                        refine X_bipush (v := nI 10) dX12_still_203 (by decide) ?_
                        refine X_iload dX12_still_205 rfl ?_
                        refine X_imul dX12_still_207 ?_
                        refine X_topi (pk_mul 10 (dgQ (aG A) e q b)) ?_
                        refine X_iload dX12_still_208 rfl ?_
                        refine X_iadd dX12_still_210 ?_
                        refine X_topi (nI_add (10 * (dgQ (aG A) e q b)) (cmQ (aG A) e q b)) ?_
                        refine X_topi (show _ = nI (dgQ (aG A) e q (b + 1)) from rfl) ?_
                        refine X_istore dX12_still_211 (by decide) ?_
                        refine X_L [(11, .int (nI (cmQ (aG A) e q b))), (10, .int (nI (stp (aG A) e b))), (9, .int (nI b)), (8, .int (nI (dgQ (aG A) e q (b + 1)))), (7, .int (bI (!anB (fun z8 => anB (fun z9 => !decide (nqP (aP A) e (q - cmQ (aG A) e q z8 * stp (aG A) e z8 + z9 * stp (aG A) e z8) z8 ≤ nqP (aP A) e q z8)) e) b))), (6, .int (nI q)), (5, .int (oI ((fD (stB (aP A) e) (e ^ aG A) i).map (fun q => dgQ (aG A) e q (aG A))))), (4, .int (nI (cD (stB (aP A) e) (e ^ aG A) i))), (3, .int (nI (e ^ aG A))), (2, .int (nI k)), (1, .int (nI e)), (0, .ref 87)] ⟨rfl, rfl, rfl, rfl, rfl, rfl, rfl, rfl, rfl, rfl, rfl, rfl, trivial⟩ ?_
                        refine X_L [(11, .int (nI (cmQ (aG A) e q b))), (10, .int (nI (stp (aG A) e b))), (9, .int (nI b)), (8, .int (nI (dgQ (aG A) e q (b + 1)))), (7, .int (bI (!anB (fun z8 => anB (fun z9 => !decide (nqP (aP A) e (q - cmQ (aG A) e q z8 * stp (aG A) e z8 + z9 * stp (aG A) e z8) z8 ≤ nqP (aP A) e q z8)) e) b && !anB (fun z9 => !decide (nqP (aP A) e (q - cmQ (aG A) e q b * stp (aG A) e b + z9 * stp (aG A) e b) b ≤ nqP (aP A) e q b)) 0))), (6, .int (nI q)), (5, .int (oI ((fD (stB (aP A) e) (e ^ aG A) i).map (fun q => dgQ (aG A) e q (aG A))))), (4, .int (nI (cD (stB (aP A) e) (e ^ aG A) i))), (3, .int (nI (e ^ aG A))), (2, .int (nI k)), (1, .int (nI e)), (0, .ref 87)] ⟨rfl, rfl, rfl, rfl, (by show _ = some (Value.int (bI (!anB (fun z8 => anB (fun z9 => !decide (nqP (aP A) e (q - cmQ (aG A) e q z8 * stp (aG A) e z8 + z9 * stp (aG A) e z8) z8 ≤ nqP (aP A) e q z8)) e) b && true))); rw [Bool.and_true]; rfl), rfl, rfl, rfl, rfl, rfl, rfl, rfl, trivial⟩ ?_
                        refine X_iconst (v := nI 0) dX12_still_213 (by decide) ?_
                        refine X_istore dX12_still_214 (by decide) ?_
                        refine X_L [(12, .int (nI 0)), (11, .int (nI (cmQ (aG A) e q b))), (10, .int (nI (stp (aG A) e b))), (9, .int (nI b)), (8, .int (nI (dgQ (aG A) e q (b + 1)))), (7, .int (bI (!anB (fun z8 => anB (fun z9 => !decide (nqP (aP A) e (q - cmQ (aG A) e q z8 * stp (aG A) e z8 + z9 * stp (aG A) e z8) z8 ≤ nqP (aP A) e q z8)) e) b && !anB (fun z9 => !decide (nqP (aP A) e (q - cmQ (aG A) e q b * stp (aG A) e b + z9 * stp (aG A) e b) b ≤ nqP (aP A) e q b)) 0))), (6, .int (nI q)), (5, .int (oI ((fD (stB (aP A) e) (e ^ aG A) i).map (fun q => dgQ (aG A) e q (aG A))))), (4, .int (nI (cD (stB (aP A) e) (e ^ aG A) i))), (3, .int (nI (e ^ aG A))), (2, .int (nI k)), (1, .int (nI e)), (0, .ref 87)] ⟨rfl, rfl, rfl, rfl, rfl, rfl, rfl, rfl, rfl, rfl, rfl, rfl, rfl, trivial⟩ ?_
                        refine X_forR (σ := Unit) 216 (fun h u3 => [(12, .int (nI h)), (11, .int (nI (cmQ (aG A) e q b))), (10, .int (nI (stp (aG A) e b))), (9, .int (nI b)), (8, .int (nI (dgQ (aG A) e q (b + 1)))), (7, .int (bI (!anB (fun z8 => anB (fun z9 => !decide (nqP (aP A) e (q - cmQ (aG A) e q z8 * stp (aG A) e z8 + z9 * stp (aG A) e z8) z8 ≤ nqP (aP A) e q z8)) e) b && !anB (fun z9 => !decide (nqP (aP A) e (q - cmQ (aG A) e q b * stp (aG A) e b + z9 * stp (aG A) e b) b ≤ nqP (aP A) e q b)) h))), (6, .int (nI q)), (5, .int (oI ((fD (stB (aP A) e) (e ^ aG A) i).map (fun q => dgQ (aG A) e q (aG A))))), (4, .int (nI (cD (stB (aP A) e) (e ^ aG A) i))), (3, .int (nI (e ^ aG A))), (2, .int (nI k)), (1, .int (nI e)), (0, .ref 87)]) (fun u3 => y) (fun u3 => ml) (fun h u3 => True) e ?_ ?_ e 0 (()) (by omega) trivial
                        · intro h u3 hh hU3 hnh
                          have hsl := shf_lt (nG := aG A) (n := e) (q := q) (b := b) (h := h) (by omega) hb hq hh
                          refine X_iload dX12_still_216 rfl ?_
                          refine X_iload_n dX12_still_218 rfl ?_
                          refine X_icmp_geN (a := h) (b := e) 272 dX12_still_219 (by decide) (by omega) (by omega) (fun h_12 => ?_) (fun h_12 => ?_)
                          · exact absurd hh (by omega)
                          · refine X_iload dX12_still_222 rfl ?_
                            refine X_if_eq 263 dX12_still_224 (by decide) (fun h_13 => ?_) (fun h_13 => ?_)
                            · refine X_iconst (v := nI 0) dX12_still_263 (by decide) ?_
                              refine X_istore dX12_still_264 (by decide) ?_
                              refine X_iinc (v := nI (h + 1)) dX12_still_266 rfl (nI_1 _) (by decide) ?_
                              refine X_goto 216 dX12_still_269 (by decide) ?_
                              refine X_L [(12, .int (nI (h + 1))), (11, .int (nI (cmQ (aG A) e q b))), (10, .int (nI (stp (aG A) e b))), (9, .int (nI b)), (8, .int (nI (dgQ (aG A) e q (b + 1)))), (7, .int (nI 0)), (6, .int (nI q)), (5, .int (oI ((fD (stB (aP A) e) (e ^ aG A) i).map (fun q => dgQ (aG A) e q (aG A))))), (4, .int (nI (cD (stB (aP A) e) (e ^ aG A) i))), (3, .int (nI (e ^ aG A))), (2, .int (nI k)), (1, .int (nI e)), (0, .ref 87)] ⟨rfl, rfl, rfl, rfl, rfl, rfl, rfl, rfl, rfl, rfl, rfl, rfl, rfl, trivial⟩ ?_
                              refine X_L [(12, .int (nI (h + 1))), (11, .int (nI (cmQ (aG A) e q b))), (10, .int (nI (stp (aG A) e b))), (9, .int (nI b)), (8, .int (nI (dgQ (aG A) e q (b + 1)))), (7, .int (bI (!anB (fun z8 => anB (fun z9 => !decide (nqP (aP A) e (q - cmQ (aG A) e q z8 * stp (aG A) e z8 + z9 * stp (aG A) e z8) z8 ≤ nqP (aP A) e q z8)) e) b && !anB (fun z9 => !decide (nqP (aP A) e (q - cmQ (aG A) e q b * stp (aG A) e b + z9 * stp (aG A) e b) b ≤ nqP (aP A) e q b)) (h + 1)))), (6, .int (nI q)), (5, .int (oI ((fD (stB (aP A) e) (e ^ aG A) i).map (fun q => dgQ (aG A) e q (aG A))))), (4, .int (nI (cD (stB (aP A) e) (e ^ aG A) i))), (3, .int (nI (e ^ aG A))), (2, .int (nI k)), (1, .int (nI e)), (0, .ref 87)] ⟨rfl, rfl, rfl, rfl, rfl, (congrArg (fun x => some (Value.int x)) (is_0 (K := !anB (fun z8 => anB (fun z9 => !decide (nqP (aP A) e (q - cmQ (aG A) e q z8 * stp (aG A) e z8 + z9 * stp (aG A) e z8) z8 ≤ nqP (aP A) e q z8)) e) b) (p := (fun z9 => !decide (nqP (aP A) e (q - cmQ (aG A) e q b * stp (aG A) e b + z9 * stp (aG A) e b) b ≤ nqP (aP A) e q b))) (h := h) h_13)), rfl, rfl, rfl, rfl, rfl, rfl, rfl, trivial⟩ ?_
                              exact hnh () trivial
                            · refine X_aload_n dX12_still_227 rfl ?_
                              refine X_getr (a := 432) dX12_still_228 fkX12_137 rfl (k_87 hSh) (r_87_57 hSh) ?_
                              refine X_iload dX12_still_231 rfl ?_
                              refine X_aaldr (b := 433 + b) b dX12_still_233 (k_432 hSh) rfl (by omega) (o_432 hSh b (by omega)) ?_
                              refine X_iload dX12_still_234 rfl ?_
                              refine X_iload dX12_still_236 rfl ?_
                              refine X_iload dX12_still_238 rfl ?_
                              refine X_isub dX12_still_240 ?_
                              refine X_iload dX12_still_241 rfl ?_
                              refine X_imul dX12_still_243 ?_
                              refine X_iadd dX12_still_244 ?_
                              refine X_topi (show _ = nI (q - cmQ (aG A) e q b * stp (aG A) e b + h * stp (aG A) e b) from idx_q own_le) ?_
                              refine X_iald (q - cmQ (aG A) e q b * stp (aG A) e b + h * stp (aG A) e b) dX12_still_245 (kr_432 hSh b (by omega)) rfl (by omega) ?_
                              rw [(hI.2.2 b hb _ hsl)]
                              refine X_aload_n dX12_still_246 rfl ?_
                              refine X_getr (a := 432) dX12_still_247 fkX12_137 rfl (k_87 hSh) (r_87_57 hSh) ?_
                              refine X_iload dX12_still_250 rfl ?_
                              refine X_aaldr (b := 433 + b) b dX12_still_252 (k_432 hSh) rfl (by omega) (o_432 hSh b (by omega)) ?_
                              refine X_iload dX12_still_253 rfl ?_
                              refine X_iald q dX12_still_255 (kr_432 hSh b (by omega)) rfl (by omega) ?_
                              rw [(hI.2.2 b hb q hq)]
                              refine X_icmp_gt 263 dX12_still_256 (by decide) (fun h_14 => ?_) (fun h_14 => ?_)
                              · refine X_iconst (v := nI 0) dX12_still_263 (by decide) ?_
                                refine X_istore dX12_still_264 (by decide) ?_
                                refine X_iinc (v := nI (h + 1)) dX12_still_266 rfl (nI_1 _) (by decide) ?_
                                refine X_goto 216 dX12_still_269 (by decide) ?_
                                refine X_L [(12, .int (nI (h + 1))), (11, .int (nI (cmQ (aG A) e q b))), (10, .int (nI (stp (aG A) e b))), (9, .int (nI b)), (8, .int (nI (dgQ (aG A) e q (b + 1)))), (7, .int (nI 0)), (6, .int (nI q)), (5, .int (oI ((fD (stB (aP A) e) (e ^ aG A) i).map (fun q => dgQ (aG A) e q (aG A))))), (4, .int (nI (cD (stB (aP A) e) (e ^ aG A) i))), (3, .int (nI (e ^ aG A))), (2, .int (nI k)), (1, .int (nI e)), (0, .ref 87)] ⟨rfl, rfl, rfl, rfl, rfl, rfl, rfl, rfl, rfl, rfl, rfl, rfl, rfl, trivial⟩ ?_
                                refine X_L [(12, .int (nI (h + 1))), (11, .int (nI (cmQ (aG A) e q b))), (10, .int (nI (stp (aG A) e b))), (9, .int (nI b)), (8, .int (nI (dgQ (aG A) e q (b + 1)))), (7, .int (bI (!anB (fun z8 => anB (fun z9 => !decide (nqP (aP A) e (q - cmQ (aG A) e q z8 * stp (aG A) e z8 + z9 * stp (aG A) e z8) z8 ≤ nqP (aP A) e q z8)) e) b && !anB (fun z9 => !decide (nqP (aP A) e (q - cmQ (aG A) e q b * stp (aG A) e b + z9 * stp (aG A) e b) b ≤ nqP (aP A) e q b)) (h + 1)))), (6, .int (nI q)), (5, .int (oI ((fD (stB (aP A) e) (e ^ aG A) i).map (fun q => dgQ (aG A) e q (aG A))))), (4, .int (nI (cD (stB (aP A) e) (e ^ aG A) i))), (3, .int (nI (e ^ aG A))), (2, .int (nI k)), (1, .int (nI e)), (0, .ref 87)] ⟨rfl, rfl, rfl, rfl, rfl, (congrArg (fun x => some (Value.int x)) (is_f (K := !anB (fun z8 => anB (fun z9 => !decide (nqP (aP A) e (q - cmQ (aG A) e q z8 * stp (aG A) e z8 + z9 * stp (aG A) e z8) z8 ≤ nqP (aP A) e q z8)) e) b) (h := h) (f := fun z9 => nqP (aP A) e (q - cmQ (aG A) e q b * stp (aG A) e b + z9 * stp (aG A) e b) b) (v := nqP (aP A) e q b) (Int32.not_le.mpr h_14))), rfl, rfl, rfl, rfl, rfl, rfl, rfl, trivial⟩ ?_
                                exact hnh () trivial
                              · refine X_iconst (v := nI 1) dX12_still_259 (by decide) ?_
                                refine X_goto 264 dX12_still_260 (by decide) ?_
                                refine X_istore dX12_still_264 (by decide) ?_
                                refine X_iinc (v := nI (h + 1)) dX12_still_266 rfl (nI_1 _) (by decide) ?_
                                refine X_goto 216 dX12_still_269 (by decide) ?_
                                refine X_L [(12, .int (nI (h + 1))), (11, .int (nI (cmQ (aG A) e q b))), (10, .int (nI (stp (aG A) e b))), (9, .int (nI b)), (8, .int (nI (dgQ (aG A) e q (b + 1)))), (7, .int (nI 1)), (6, .int (nI q)), (5, .int (oI ((fD (stB (aP A) e) (e ^ aG A) i).map (fun q => dgQ (aG A) e q (aG A))))), (4, .int (nI (cD (stB (aP A) e) (e ^ aG A) i))), (3, .int (nI (e ^ aG A))), (2, .int (nI k)), (1, .int (nI e)), (0, .ref 87)] ⟨rfl, rfl, rfl, rfl, rfl, rfl, rfl, rfl, rfl, rfl, rfl, rfl, rfl, trivial⟩ ?_
                                refine X_L [(12, .int (nI (h + 1))), (11, .int (nI (cmQ (aG A) e q b))), (10, .int (nI (stp (aG A) e b))), (9, .int (nI b)), (8, .int (nI (dgQ (aG A) e q (b + 1)))), (7, .int (bI (!anB (fun z8 => anB (fun z9 => !decide (nqP (aP A) e (q - cmQ (aG A) e q z8 * stp (aG A) e z8 + z9 * stp (aG A) e z8) z8 ≤ nqP (aP A) e q z8)) e) b && !anB (fun z9 => !decide (nqP (aP A) e (q - cmQ (aG A) e q b * stp (aG A) e b + z9 * stp (aG A) e b) b ≤ nqP (aP A) e q b)) (h + 1)))), (6, .int (nI q)), (5, .int (oI ((fD (stB (aP A) e) (e ^ aG A) i).map (fun q => dgQ (aG A) e q (aG A))))), (4, .int (nI (cD (stB (aP A) e) (e ^ aG A) i))), (3, .int (nI (e ^ aG A))), (2, .int (nI k)), (1, .int (nI e)), (0, .ref 87)] ⟨rfl, rfl, rfl, rfl, rfl, (congrArg (fun x => some (Value.int x)) (is_t (K := !anB (fun z8 => anB (fun z9 => !decide (nqP (aP A) e (q - cmQ (aG A) e q z8 * stp (aG A) e z8 + z9 * stp (aG A) e z8) z8 ≤ nqP (aP A) e q z8)) e) b) (h := h) (f := fun z9 => nqP (aP A) e (q - cmQ (aG A) e q b * stp (aG A) e b + z9 * stp (aG A) e b) b) (v := nqP (aP A) e q b) h_13 (Int32.not_lt.mp h_14))), rfl, rfl, rfl, rfl, rfl, rfl, rfl, trivial⟩ ?_
                                exact hnh () trivial
                        · intro u3 hU3
                          refine X_iload dX12_still_216 rfl ?_
                          refine X_iload_n dX12_still_218 rfl ?_
                          refine X_icmp_geN (a := e) (b := e) 272 dX12_still_219 (by decide) (by omega) (by omega) (fun h_15 => ?_) (fun h_15 => ?_)
                          · refine X_iinc (v := nI (b + 1)) dX12_still_272 rfl (nI_1 _) (by decide) ?_
                            refine X_goto 166 dX12_still_275 (by decide) ?_
                            refine X_L [(9, .int (nI (b + 1))), (8, .int (nI (dgQ (aG A) e q (b + 1)))), (7, .int (bI (!anB (fun z8 => anB (fun z9 => !decide (nqP (aP A) e (q - cmQ (aG A) e q z8 * stp (aG A) e z8 + z9 * stp (aG A) e z8) z8 ≤ nqP (aP A) e q z8)) e) b && !anB (fun z9 => !decide (nqP (aP A) e (q - cmQ (aG A) e q b * stp (aG A) e b + z9 * stp (aG A) e b) b ≤ nqP (aP A) e q b)) e))), (6, .int (nI q)), (5, .int (oI ((fD (stB (aP A) e) (e ^ aG A) i).map (fun q => dgQ (aG A) e q (aG A))))), (4, .int (nI (cD (stB (aP A) e) (e ^ aG A) i))), (3, .int (nI (e ^ aG A))), (2, .int (nI k)), (1, .int (nI e)), (0, .ref 87)] ⟨rfl, rfl, rfl, rfl, rfl, rfl, rfl, rfl, rfl, rfl, trivial⟩ ?_
                            refine X_L [(9, .int (nI (b + 1))), (8, .int (nI (dgQ (aG A) e q (b + 1)))), (7, .int (bI (!anB (fun z8 => anB (fun z9 => !decide (nqP (aP A) e (q - cmQ (aG A) e q z8 * stp (aG A) e z8 + z9 * stp (aG A) e z8) z8 ≤ nqP (aP A) e q z8)) e) (b + 1)))), (6, .int (nI q)), (5, .int (oI ((fD (stB (aP A) e) (e ^ aG A) i).map (fun q => dgQ (aG A) e q (aG A))))), (4, .int (nI (cD (stB (aP A) e) (e ^ aG A) i))), (3, .int (nI (e ^ aG A))), (2, .int (nI k)), (1, .int (nI e)), (0, .ref 87)] ⟨rfl, rfl, (congrArg (fun x => some (Value.int x)) (is_g (p := (fun z8 => anB (fun z9 => !decide (nqP (aP A) e (q - cmQ (aG A) e q z8 * stp (aG A) e z8 + z9 * stp (aG A) e z8) z8 ≤ nqP (aP A) e q z8)) e)) (b := b))), rfl, rfl, rfl, rfl, rfl, rfl, rfl, trivial⟩ ?_
                            exact hnb () trivial
                          · exact absurd h_15 (by omega)
                    · intro u2 hU2
                      refine X_iload dX12_still_166 rfl ?_
                      refine X_aload_n dX12_still_168 rfl ?_
                      refine X_getr (a := 91) dX12_still_169 fkX12_23 rfl (k_87 hSh) (r_87_12 hSh) ?_
                      refine X_iconst (v := nI 1) dX12_still_172 (by decide) ?_
                      refine X_iald 1 dX12_still_173 (k_91 hSh) rfl (by omega) ?_
                      rw [hy91]
                      refine X_icmp_geN (a := (aG A)) (b := aG A) 278 dX12_still_174 (by decide) (by omega) (by omega) (fun h_16 => ?_) (fun h_16 => ?_)
                      · refine X_iload dX12_still_278 rfl ?_
                        cases hB : stB (aP A) e q with
                        | true =>
                          refine X_topi (show bI (!anB (fun z8 => anB (fun z9 => !decide (nqP (aP A) e (q - cmQ (aG A) e q z8 * stp (aG A) e z8 + z9 * stp (aG A) e z8) z8 ≤ nqP (aP A) e q z8)) e) (aG A)) = nI 1 from congrArg bI hB) ?_
                          refine X_if_neN (a := 1) 286 dX12_still_280 (by decide) (by omega) (fun h_17 => ?_) (fun h_17 => ?_)
                          · refine X_iinc (v := nI (cD (stB (aP A) e) (e ^ aG A) i + 1)) dX12_still_286 rfl (nI_1 _) (by decide) ?_
                            refine X_iload dX12_still_289 rfl ?_
                            refine X_istore dX12_still_291 (by decide) ?_
                            refine X_iinc dX12_still_293 rfl rfl (by decide) ?_
                            refine X_goto 152 dX12_still_296 (by decide) ?_
                            refine X_L [(6, .int ((nI q) + Int32.ofInt (-1))), (5, .int (nI (dgQ (aG A) e q (aG A)))), (4, .int (nI (cD (stB (aP A) e) (e ^ aG A) i + 1))), (3, .int (nI (e ^ aG A))), (2, .int (nI k)), (1, .int (nI e)), (0, .ref 87)] ⟨rfl, rfl, rfl, rfl, rfl, rfl, rfl, trivial⟩ ?_
                            refine X_L [(6, .int (dnI (e ^ aG A) (i + 1))), (5, .int (oI ((fD (stB (aP A) e) (e ^ aG A) (i + 1)).map (fun q => dgQ (aG A) e q (aG A))))), (4, .int (nI (cD (stB (aP A) e) (e ^ aG A) (i + 1)))), (3, .int (nI (e ^ aG A))), (2, .int (nI k)), (1, .int (nI e)), (0, .ref 87)] ⟨(by rw [← dn_s hi, ← hqe]; rfl), (congrArg (fun x => some (Value.int x)) (show _ = oI (Option.map (fun q => dgQ (aG A) e q (aG A)) (if stB (aP A) e ((e ^ aG A) - 1 - i) = true then some ((e ^ aG A) - 1 - i) else fD (stB (aP A) e) (e ^ aG A) i)) by rw [← hqe, if_pos hB]; rfl)), (congrArg (fun x => some (Value.int x)) (show _ = nI (cD (stB (aP A) e) (e ^ aG A) i + (stB (aP A) e ((e ^ aG A) - 1 - i)).toNat) by rw [← hqe, hB]; rfl)), rfl, rfl, rfl, rfl, trivial⟩ ?_
                            exact hnw () trivial
                          · exact absurd h_17 (by omega)
                        | false =>
                          refine X_topi (show bI (!anB (fun z8 => anB (fun z9 => !decide (nqP (aP A) e (q - cmQ (aG A) e q z8 * stp (aG A) e z8 + z9 * stp (aG A) e z8) z8 ≤ nqP (aP A) e q z8)) e) (aG A)) = nI 0 from congrArg bI hB) ?_
                          refine X_if_neN (a := 0) 286 dX12_still_280 (by decide) (by omega) (fun h_18 => ?_) (fun h_18 => ?_)
                          · exact absurd h_18 (by omega)
                          · refine X_goto 293 dX12_still_283 (by decide) ?_
                            refine X_iinc dX12_still_293 rfl rfl (by decide) ?_
                            refine X_goto 152 dX12_still_296 (by decide) ?_
                            refine X_L [(6, .int ((nI q) + Int32.ofInt (-1))), (5, .int (oI ((fD (stB (aP A) e) (e ^ aG A) i).map (fun q => dgQ (aG A) e q (aG A))))), (4, .int (nI (cD (stB (aP A) e) (e ^ aG A) i))), (3, .int (nI (e ^ aG A))), (2, .int (nI k)), (1, .int (nI e)), (0, .ref 87)] ⟨rfl, rfl, rfl, rfl, rfl, rfl, rfl, trivial⟩ ?_
                            refine X_L [(6, .int (dnI (e ^ aG A) (i + 1))), (5, .int (oI ((fD (stB (aP A) e) (e ^ aG A) (i + 1)).map (fun q => dgQ (aG A) e q (aG A))))), (4, .int (nI (cD (stB (aP A) e) (e ^ aG A) (i + 1)))), (3, .int (nI (e ^ aG A))), (2, .int (nI k)), (1, .int (nI e)), (0, .ref 87)] ⟨(by rw [← dn_s hi, ← hqe]; rfl), (congrArg (fun x => some (Value.int x)) (show _ = oI (Option.map (fun q => dgQ (aG A) e q (aG A)) (if stB (aP A) e ((e ^ aG A) - 1 - i) = true then some ((e ^ aG A) - 1 - i) else fD (stB (aP A) e) (e ^ aG A) i)) by rw [← hqe, if_neg (by rw [hB]; decide)])), (congrArg (fun x => some (Value.int x)) (show _ = nI (cD (stB (aP A) e) (e ^ aG A) i + (stB (aP A) e ((e ^ aG A) - 1 - i)).toNat) by rw [← hqe, hB]; rfl)), rfl, rfl, rfl, rfl, trivial⟩ ?_
                            exact hnw () trivial
                      · exact absurd h_16 (by omega)
                · intro u hU
                  have hcd := cD_le (stB (aP A) e) (e ^ aG A) (e ^ aG A)
                  refine X_L [(6, .int (-1)), (5, .int (oI ((fD (stB (aP A) e) (e ^ aG A) (e ^ aG A)).map (fun q => dgQ (aG A) e q (aG A))))), (4, .int (nI (cD (stB (aP A) e) (e ^ aG A) (e ^ aG A)))), (3, .int (nI (e ^ aG A))), (2, .int (nI k)), (1, .int (nI e)), (0, .ref 87)] ⟨by rw [dn_e]; rfl, rfl, rfl, rfl, rfl, rfl, rfl, trivial⟩ ?_
                  refine X_iload dX12_still_152 rfl ?_
                  refine X_if_lt 299 dX12_still_154 (by decide) (fun h_19 => ?_) (fun h_19 => ?_)
                  · refine X_iload_n dX12_still_299 rfl ?_
                    refine X_if_neN (a := k) 308 dX12_still_300 (by decide) (by omega) (fun h_20 => ?_) (fun h_20 => ?_)
                    · refine X_iload dX12_still_308 rfl ?_
                      exact X_iret dX12_still_310 rfl ⟨rfl, rfl, RW_I hA hR hI.1, hI.1.2.1, _, rfl, by first | (rw [if_pos (by omega)]; exact congrArg nI cD_e) | (rw [if_neg (by omega)]; exact congrArg (fun o => oI (Option.map (fun q => dgQ (aG A) e q (aG A)) o)) fD_e), hI.1.2.2⟩
                    · refine X_iload dX12_still_303 rfl ?_
                      refine X_goto 310 dX12_still_305 (by decide) ?_
                      exact X_iret dX12_still_310 rfl ⟨rfl, rfl, RW_I hA hR hI.1, hI.1.2.1, _, rfl, by first | (rw [if_pos (by omega)]; exact congrArg nI cD_e) | (rw [if_neg (by omega)]; exact congrArg (fun o => oI (Option.map (fun q => dgQ (aG A) e q (aG A)) o)) fD_e), hI.1.2.2⟩
                  · exact absurd (by decide) h_19
              · exact absurd h_9 (by omega)
          · exact absurd h_5 (by omega)
        · exact absurd h_4 (by omega)
    · exact absurd h_2 (by omega)
theorem m_still (A : AS) (hA : okAS A) (v w : Int32) : MOK mX11_still mX12_still cd3 [.int v, .int w] A := by
  by_cases hg0 : nI 2 ≤ v ∧ v ≤ nI 8
  · obtain ⟨e, hea, he, rfl⟩ := (wi_iff (by decide) (by decide)).mp hg0
    by_cases hg1 : nI 0 ≤ w ∧ w ≤ nI 1
    · obtain ⟨k, hka, hk, rfl⟩ := (wi_iff (by decide) (by decide)).mp hg1
      by_cases h4 : aG A ≤ 4
      · refine ⟨.inl (if k = 0 then stM (aP A) e else stF (aP A) e), A, hA, fun j h => (by cases h), fun Γ g m l hC => ?_, fun Γ g m l hSh hR => r_still Γ g m l A hA hSh hR e hea he k hka hk h4⟩
        obtain ⟨r, im, st, qi, si, hx⟩ := CI_dyn hC
        have hst := hx.2.2.2.2.2.2.2.2.2.2.2.1.2.1
        match st, hst, hx with
        | 0, _, hx => exact k_still_0 Γ g m l A hA hC e hea he k hka hk h4 r im qi si hx
        | 1, _, hx => exact k_still_1 Γ g m l A hA hC e hea he k hka hk h4 r im qi si hx
      · exact ⟨.inr 2, rfA A 2, ok_rf hA, fun j h => by cases h; decide, fun Γ g m l hC => k_still_f2 Γ g m l A hA hC e hea he k hka hk h4, fun Γ g m l hSh hR => r_still_f2 Γ g m l A hA hSh hR e hea he k hka hk h4⟩
    · exact ⟨.inr 1, rfA A 1, ok_rf hA, fun j h => by cases h; decide, fun Γ g m l hC => k_still_f1 Γ g m l A hA hC e hea he w hg1, fun Γ g m l hSh hR => r_still_f1 Γ g m l A hA hSh hR e hea he w hg1⟩
  · exact ⟨.inr 1, rfA A 1, ok_rf hA, fun j h => by cases h; decide, fun Γ g m l hC => k_still_f0 Γ g m l A hA hC v hg0 w, fun Γ g m l hSh hR => r_still_f0 Γ g m l A hA hSh hR v hg0 w⟩

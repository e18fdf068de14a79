/-! ===== rounds ===== -/
def eqM (A : AS) (e d : Nat) : Bool := decide (pkL (sqd (aP A) (aH A) id e) (aG A) = pkL (sqd (aP A) (aH A) id d) (aG A))
theorem eqM_t {A : AS} (hA : okAS A) {e d : Nat} : eqM A e d = true ↔ sqd (aP A) (aH A) id e = sqd (aP A) (aH A) id d := by
  unfold eqM
  rw [decide_eq_true_eq]
  exact ⟨fun h => sqd_ext (pk_inj hA.1.2.1 (fun g _ => sqd_lt hA.1 _ _) (fun g _ => sqd_lt hA.1 _ _) h), fun h => by rw [h]⟩
theorem eqM_f {A : AS} (hA : okAS A) {e d : Nat} : eqM A e d = false ↔ sqd (aP A) (aH A) id e ≠ sqd (aP A) (aH A) id d := by
  rw [← Bool.not_eq_true, eqM_t hA]
def rnV (A : AS) (k : Nat) : Int32 := if anB (aK A) (aG A) = true then -1 else match fE (fun d => anB (fun e => eqM A e d) d) 200 with
  | none => -1
  | some d => match fE (fun e => eqM A e d) d with
    | none => -1
    | some e => if k = 0 then nI e else nI (d - e)
theorem rn_hit {A : AS} {k d e : Nat} (ha : anB (aK A) (aG A) = false) (hno : ∀ d', d' < d → ∀ e', e' < d' → eqM A e' d' = false) (hd : d < 200) (he : e < d) (hlt : ∀ e', e' < e → eqM A e' d = false) (h : eqM A e d = true) : rnV A k = if k = 0 then nI e else nI (d - e) := by
  unfold rnV
  rw [ha, if_neg (by decide), fE_s (i := d) (fun d' hd' => anB_f.mpr (fun e' he' => hno d' hd' e' he')) (anB_t (p := fun e => eqM A e d) (i := e) h he) hd]
  dsimp only
  rw [fE_s (i := e) hlt h he]
theorem rn_no {A : AS} {k : Nat} (h : anB (aK A) (aG A) = false → ∀ d, d < 200 → ∀ e, e < d → eqM A e d = false) : rnV A k = -1 := by
  unfold rnV
  by_cases ha : anB (aK A) (aG A) = true
  · rw [if_pos ha]
  · rw [if_neg ha, fE_n.mpr (fun d hd => anB_f.mpr (fun e he => h (by simpa using ha) d hd e he))]
theorem rn_k {A : AS} (hA : okAS A) {m : pMI} {l : pML} (h : DOK (aP A) (aH A) id (aK A) 27 200 m l) : ∃ rd f, m 27 9 = nI rd ∧ rd ≤ 200 ∧ (rd = 0 → ∀ k, rnV A k = -1) ∧ (0 < rd → m 27 8 = nI f ∧ f < 200 ∧ ∀ k, rnV A k = if k = 0 then nI f else nI rd) := by
  obtain ⟨rd, f, a1, a2, a3, a4⟩ := h.2.2.2.2.2.2.2.2.2
  refine ⟨rd, f, a1, a2, fun h0 k => rn_no (fun ha d hd e he => (eqM_f hA).mpr ((a3 h0).2 ha d hd e he)), fun h0 => ?_⟩
  obtain ⟨b1, b2, b3, b4, b5⟩ := a4 h0
  refine ⟨b2, by omega, fun k => ?_⟩
  have hz := rn_hit (A := A) (k := k) (d := f + rd) (e := f) b1 (fun d' hd' e' he' => (eqM_f hA).mpr (b5 d' hd' e' he')) b3 (by omega) (fun e' he' => (eqM_f hA).mpr (fun q => b5 f (by omega) e' he' (q.trans b4))) ((eqM_t hA).mpr b4.symm)
  rw [hz, show f + rd - f = rd by omega]
def offB (D : DS) (b : Nat) : Bool := !decide (D.1 202 b ≤ 0)
def bnR (A : AS) (y : pMI) (R d b : Nat) : Prop := y R (4 * b) = nI (sqd (aP A) (aH A) id d b) ∧ y R (4 * b + 1) = bI (seaB (DDd (aP A) (aH A) id d) b) ∧ y R (4 * b + 2) = (DDd (aP A) (aH A) id d).1 199 b ∧ y R (4 * b + 3) = bI (offB (DDd (aP A) (aH A) id d) b)
theorem RDY_b {m x : pMI} {P : PD} {cm : Nat → Nat} {D : DS} (hP : okPD P) (hx : ∀ i, i < 230 → x i = m i) (h : RDY m P cm D) : RDY x P cm D := by
  obtain ⟨h1, h2, h3, G, h4, h5⟩ := h
  have hG8 := hP.2.1
  have hC8 := hP.1
  refine ⟨fun b hb => ?_, fun c hc => ?_, fun j hj => by rw [hx 209 (by omega)]; exact h3 j hj, G, fun b hb => by rw [hx 228 (by omega)]; exact h4 b hb, h5⟩
  · have e : netM x b = netM m b := by unfold netM lostM; rw [hx 200 (by omega), hx (121 + b) (by omega), hx 194 (by omega), hx 91 (by omega), hx 201 (by omega)]
    rw [hx 194 (by omega), hx 198 (by omega), hx 199 (by omega), hx 200 (by omega), e, hx 201 (by omega), hx 202 (by omega), hx 203 (by omega)]
    exact h1 b hb
  · rw [hx 206 (by omega), hx 207 (by omega), hx 208 (by omega), hx (211 + c) (by omega), hx (220 + c) (by omega)]
    exact h2 c hc
theorem rS_b {m x : pMI} {P : PD} {H : Nat → HBt} {wh rk : Nat → Nat} {un : Nat} (hP : okPD P) (hx : ∀ i, i < 230 → x i = m i) (h : rS m P H wh rk un) : rS x P H wh rk un := ⟨rfP_w hP h.1 (fun i hi => hx i (by omega)), rfHb_w h.2.1 (fun i hi => hx i (by omega)), fun b hb => by rw [hx 229 (by omega)]; exact h.2.2.1 b hb, fun b hb => by rw [hx 197 (by omega)]; exact h.2.2.2.1 b hb, by rw [hx 87 (by omega)]; exact h.2.2.2.2⟩
theorem isAs_e {A : AS} (hA : okAS A) {y : pMI} {d e : Nat} (h1 : ∀ b, b < aG A → bnR A y (232 + d) d b) (h2 : ∀ b, b < aG A → bnR A y (232 + e) e b) : (!anB (fun k => !decide (y (232 + d) k = y (232 + e) k)) (4 * aG A)) = eqM A e d := by
  cases hq : eqM A e d with
  | true =>
    have he := (eqM_t hA).mp hq
    rw [Bool.not_eq_true', anB_f]
    intro k hk
    obtain ⟨a1, a2, a3, a4⟩ := h1 (k / 4) (by omega)
    obtain ⟨b1, b2, b3, b4⟩ := h2 (k / 4) (by omega)
    have hD : DDd (aP A) (aH A) id e = DDd (aP A) (aH A) id d := by unfold DDd; rw [he]
    rw [he] at b1
    rw [hD] at b2 b3 b4
    have : k = 4 * (k / 4) ∨ k = 4 * (k / 4) + 1 ∨ k = 4 * (k / 4) + 2 ∨ k = 4 * (k / 4) + 3 := by omega
    have hk2 : y (232 + d) k = y (232 + e) k := by
      rcases this with q | q | q | q
      · rw [q, a1, b1]
      · rw [q, a2, b2]
      · rw [q, a3, b3]
      · rw [q, a4, b4]
    rw [decide_eq_true hk2]; rfl
  | false =>
    rw [Bool.not_eq_false']
    cases ha : anB (fun k => !decide (y (232 + d) k = y (232 + e) k)) (4 * aG A) with
    | true => rfl
    | false =>
      refine absurd ((eqM_t hA).mpr (sqd_ext (fun b hb => ?_))) (by rw [hq]; decide)
      have hb : b < aG A := hb
      have := anB_f.mp ha (4 * b) (by omega)
      rw [Bool.not_eq_false', decide_eq_true_eq, (h1 b hb).1, (h2 b hb).1] at this
      have l1 := sqd_lt (H := aH A) (wh := id) hA.1 d b
      have l2 := sqd_lt (H := aH A) (wh := id) hA.1 e b
      exact (nI_inj (by omega) (by omega) this).symm
set_option maxRecDepth 100000 in
set_option maxHeartbeats 4000000 in
theorem c_isAs (Γ : pTG) (g : pGG) (mi : pMI) (ml : pML) (hSh : Sh g) (nG : Nat) (hG : mi 91 1 = nI nG) (h8 : nG ≤ 8) (ra rb : Nat) (hka : g.2.1 ra = (20, 32)) (hkb : g.2.1 rb = (20, 32)) : cI Γ 1 mX12_isAs [.ref 87, .ref ra, .ref rb] g mi ml (bI (!anB (fun k => !decide (mi ra k = mi rb k)) (4 * nG))) mi := by
  refine cI_of (by decide +kernel) (Nat.le_of_ble_eq_true rfl) ?_
  refine X_iconst (v := nI 0) dX12_isAs_0 (by decide) ?_
  refine X_istore_n dX12_isAs_1 (by decide) ?_
  refine X_L [(3, .int (nI 0)), (0, .ref 87), (1, .ref ra), (2, .ref rb)] ⟨rfl, rfl, rfl, rfl, trivial⟩ ?_
  refine X_forE 2 (fun i => [(3, .int (nI i)), (0, .ref 87), (1, .ref ra), (2, .ref rb)]) (fun k => !decide (mi ra k = mi rb k)) (4 * nG) (fun i hi h0 => ⟨fun hp => ?_, fun hp hk => ?_⟩) (fun hz => ?_) (4 * nG) 0 (by omega) (fun b hb => absurd hb (by omega))
  · skip
    refine X_iload_n dX12_isAs_2 rfl ?_
    refine X_iconst (v := nI 4) dX12_isAs_3 (by decide) ?_
    refine X_aload_n dX12_isAs_4 rfl ?_
    refine X_getr (a := 91) dX12_isAs_5 fkX12_23 rfl (k_87 hSh) (r_87_12 hSh) ?_
    refine X_iconst (v := nI 1) dX12_isAs_8 (by decide) ?_
    refine X_iald 1 dX12_isAs_9 (k_91 hSh) rfl (by omega) ?_
    rw [hG]
    refine X_imul dX12_isAs_10 ?_
    refine X_topi (pk_mul 4 nG) ?_
    refine X_icmp_geN (a := i) (b := 4 * nG) 31 dX12_isAs_11 (by decide) (by omega) (by omega) (fun h_1 => ?_) (fun h_1 => ?_)
    · exact absurd h_1 (by omega)
    · refine X_aload_n dX12_isAs_14 rfl ?_
      refine X_iload_n dX12_isAs_15 rfl ?_
      refine X_iald i dX12_isAs_16 hka rfl (by omega) ?_
      refine X_aload_n dX12_isAs_17 rfl ?_
      refine X_iload_n dX12_isAs_18 rfl ?_
      refine X_iald i dX12_isAs_19 hkb rfl (by omega) ?_
      refine X_icmp_eq 25 dX12_isAs_20 (by decide) (fun h_2 => ?_) (fun h_2 => ?_)
      · exact absurd hp (by simp [h_2])
      · refine X_iconst (v := nI 0) dX12_isAs_23 (by decide) ?_
        exact X_zret (ty := .boolean) dX12_isAs_24 rfl (by first | decide | (rcases bI_01 _ with q | q <;> rw [q] <;> decide)) ⟨by rw [anB_t hp hi]; rfl, rfl, rfl, rfl⟩
  · skip
    refine X_iload_n dX12_isAs_2 rfl ?_
    refine X_iconst (v := nI 4) dX12_isAs_3 (by decide) ?_
    refine X_aload_n dX12_isAs_4 rfl ?_
    refine X_getr (a := 91) dX12_isAs_5 fkX12_23 rfl (k_87 hSh) (r_87_12 hSh) ?_
    refine X_iconst (v := nI 1) dX12_isAs_8 (by decide) ?_
    refine X_iald 1 dX12_isAs_9 (k_91 hSh) rfl (by omega) ?_
    rw [hG]
    refine X_imul dX12_isAs_10 ?_
    refine X_topi (pk_mul 4 nG) ?_
    refine X_icmp_geN (a := i) (b := 4 * nG) 31 dX12_isAs_11 (by decide) (by omega) (by omega) (fun h_3 => ?_) (fun h_3 => ?_)
    · exact absurd h_3 (by omega)
    · refine X_aload_n dX12_isAs_14 rfl ?_
      refine X_iload_n dX12_isAs_15 rfl ?_
      refine X_iald i dX12_isAs_16 hka rfl (by omega) ?_
      refine X_aload_n dX12_isAs_17 rfl ?_
      refine X_iload_n dX12_isAs_18 rfl ?_
      refine X_iald i dX12_isAs_19 hkb rfl (by omega) ?_
      refine X_icmp_eq 25 dX12_isAs_20 (by decide) (fun h_4 => ?_) (fun h_4 => ?_)
      · refine X_iinc (v := nI (i + 1)) dX12_isAs_25 rfl (nI_1 _) (by decide) ?_
        refine X_goto 2 dX12_isAs_28 (by decide) ?_
        refine X_L [(3, .int (nI (i + 1))), (0, .ref 87), (1, .ref ra), (2, .ref rb)] ⟨rfl, rfl, rfl, rfl, trivial⟩ ?_
        exact hk
      · exact absurd hp (by simp [h_4])
  · skip
    refine X_iload_n dX12_isAs_2 rfl ?_
    refine X_iconst (v := nI 4) dX12_isAs_3 (by decide) ?_
    refine X_aload_n dX12_isAs_4 rfl ?_
    refine X_getr (a := 91) dX12_isAs_5 fkX12_23 rfl (k_87 hSh) (r_87_12 hSh) ?_
    refine X_iconst (v := nI 1) dX12_isAs_8 (by decide) ?_
    refine X_iald 1 dX12_isAs_9 (k_91 hSh) rfl (by omega) ?_
    rw [hG]
    refine X_imul dX12_isAs_10 ?_
    refine X_topi (pk_mul 4 nG) ?_
    refine X_icmp_geN (a := 4 * nG) (b := 4 * nG) 31 dX12_isAs_11 (by decide) (by omega) (by omega) (fun h_5 => ?_) (fun h_5 => ?_)
    · refine X_iconst (v := nI 1) dX12_isAs_31 (by decide) ?_
      exact X_zret (ty := .boolean) dX12_isAs_32 rfl (by first | decide | (rcases bI_01 _ with q | q <;> rw [q] <;> decide)) ⟨by rw [anB_f.mpr hz]; rfl, rfl, rfl, rfl⟩
    · exact absurd h_5 (by omega)
set_option maxRecDepth 100000 in
set_option maxHeartbeats 4000000 in
theorem k_round_f0 (Γ : pTG) (g : pGG) (mi : pMI) (ml : pML) (A : AS) (hA : okAS A) (hC : CI A g mi ml) (w : Int32) (hf : ¬ (nI 0 ≤ w ∧ w ≤ nI 1)) : CT Γ 60 20 5000 mX11_round [.ref 0, .int w] g mi ml (CQ (rfA A 1) (.inr 1) mi ml) := by
  refine CT_of (by decide +kernel) (Nat.le_of_ble_eq_true rfl) ?_
  have hSh := CI_Sh hC
  have hcl := CI_cl hC
  have hP := hA.1
  have hG8 : aG A ≤ 8 := hP.2.1
  have hC8 : (aP A).1 ≤ 8 := hP.1
  refine X_aload_n dX11_round_0 rfl ?_
  refine X_iload_n dX11_round_1 rfl ?_
  refine X_iconst (v := nI 0) dX11_round_2 (by decide) ?_
  refine X_iconst (v := nI 1) dX11_round_3 (by decide) ?_
  exact X_need dX11_round_4 mkX11_116 (k_0 hSh) (c_needWithin Γ g mi ml hSh w (nI 0) (nI 1)) rfl rfl (by decide) (by decide) (by decide) (by decide) (fun _ => ⟨rfl, CI_rf (by decide) hC, frK_86, rfl⟩) (fun h => absurd h hf)
set_option maxRecDepth 100000 in
set_option maxHeartbeats 4000000 in
theorem r_round_f0 (Γ : pTG) (g : pGG) (mi : pMI) (ml : pML) (A : AS) (hA : okAS A) (hSh : Sh g) (hR : RI A mi) (w : Int32) (hf : ¬ (nI 0 ≤ w ∧ w ≤ nI 1)) : CT Γ 60 0 0 mX12_round [.ref 87, .int w] g mi ml (RQ (rfA A 1) (.inr 1) cd1 g mi ml) := by
  refine CT_of (by decide +kernel) (Nat.le_of_ble_eq_true rfl) ?_
  have hP := hA.1
  have hG8 : aG A ≤ 8 := hP.2.1
  have hC8 : (aP A).1 ≤ 8 := hP.1
  refine X_aload_n dX12_round_0 rfl ?_
  refine X_iconst (v := nI 0) dX12_round_1 (by decide) ?_
  refine X_puti dX12_round_2 fkX12_158 rfl rfl (k_87 hSh) ?_
  refine X_aload_n dX12_round_5 rfl ?_
  refine X_iload_n dX12_round_6 rfl ?_
  refine X_iconst (v := nI 0) dX12_round_7 (by decide) ?_
  refine X_iconst (v := nI 1) dX12_round_8 (by decide) ?_
  refine X_callSI dX12_round_9 mkX12_192 (c_in Γ g (up2 mi 87 0 (nI 0)) ml w (nI 0) (nI 1)) rfl rfl (by decide) (Nat.le_of_ble_eq_true rfl) ?_
  refine X_topi (show bI (decide (nI 0 ≤ w) && decide (w ≤ nI 1)) = nI 0 from congrArg bI (show (decide (nI 0 ≤ w) && decide (w ≤ nI 1)) = false from Bool.eq_false_iff.mpr (fun q => hf (by rw [Bool.and_eq_true, decide_eq_true_eq, decide_eq_true_eq] at q; exact q)))) ?_
  refine X_if_neN (a := 0) 19 dX12_round_12 (by decide) (by omega) (fun h_1 => ?_) (fun h_1 => ?_)
  · exact absurd h_1 (by omega)
  · refine X_iconst (v := nI 1) dX12_round_15 (by decide) ?_
    refine X_goto 20 dX12_round_16 (by decide) ?_
    refine X_iconst (v := nI 1) dX12_round_20 (by decide) ?_
    refine X_iconst (v := nI 1) dX12_round_21 (by decide) ?_
    refine X_callVI dX12_round_22 mkX12_228 (k_87 hSh) (c_bad1 Γ g (up2 mi 87 0 (nI 0)) ml hSh 1 1 (by decide) (by decide) (by decide) up2_s) rfl rfl (by decide) (Nat.le_of_ble_eq_true rfl) ?_
    refine X_mi (show _ = mB mi 1 1 from rfl) ?_
    refine X_if_eqN (a := 1) 30 dX12_round_25 (by decide) (by omega) (fun h_2 => ?_) (fun h_2 => ?_)
    · exact absurd h_2 (by omega)
    · refine X_iconst (v := nI 0) dX12_round_28 (by decide) ?_
      exact X_iret dX12_round_29 rfl ⟨rfl, rfl, RI_rf hA (by decide) hR, fr2_B, _, rfl, mB_0⟩
set_option maxRecDepth 100000 in
set_option maxHeartbeats 4000000 in
theorem k_round_0 (Γ : pTG) (g : pGG) (mi : pMI) (ml : pML) (A : AS) (hA : okAS A) (hC : CI A g mi ml)  : CT Γ 60 20 5000 mX11_round [.ref 0, .int (nI 0)] g mi ml (CQ A (.inl (rnV A 0)) mi ml) := by
  refine CT_of (by decide +kernel) (Nat.le_of_ble_eq_true rfl) ?_
  have hSh := CI_Sh hC
  have hcl := CI_cl hC
  have hP := hA.1
  have hG8 : aG A ≤ 8 := hP.2.1
  have hC8 : (aP A).1 ≤ 8 := hP.1
  refine X_aload_n dX11_round_0 rfl ?_
  refine X_iload_n dX11_round_1 rfl ?_
  refine X_iconst (v := nI 0) dX11_round_2 (by decide) ?_
  refine X_iconst (v := nI 1) dX11_round_3 (by decide) ?_
  refine X_need dX11_round_4 mkX11_116 (k_0 hSh) (c_needWithin Γ g mi ml hSh (nI 0) (nI 0) (nI 1)) rfl rfl (by decide) (by decide) (by decide) (by decide) (fun h => absurd (by decide) h) (fun _ => ?_)
  refine X_aload_n dX11_round_7 rfl ?_
  refine X_getr (a := 27) dX11_round_8 fkX11_60 rfl (k_0 hSh) (r_0_7 hSh) ?_
  refine X_sipush (v := nI 199) dX11_round_11 (by decide) ?_
  refine X_callVrV dX11_round_14 mkX11_262 (k_27 hSh) (c_reachK Γ g mi ml A hA hC 199 (by omega)) rfl rfl (by decide) (Nat.le_of_ble_eq_true rfl) (fun m1 l1 hm1 => ?_)
  obtain ⟨⟨r, hrd, hr⟩, hk1, hl1⟩ := hm1
  have hC1 := CIr_CI hr
  have hcl1 := CI_cl hC1
  have hD1 := CIr_D hr
  have hr2 : r = 200 := by have := hD1.2.2.2.2.2.2.2.1; omega
  subst hr2
  obtain ⟨rd, f, hd9, hd2, hd0, hdp⟩ := rn_k hA hD1
  by_cases h0 : rd = 0
  · subst h0
    refine X_aload_n dX11_round_17 rfl ?_
    refine X_getr (a := 27) dX11_round_18 fkX11_60 rfl (k_0 hSh) (r_0_7 hSh) ?_
    refine X_geti dX11_round_21 fkX11_265 rfl (k_27 hSh) ?_
    rw [hd9]
    refine X_if_neN (a := 0) 29 dX11_round_24 (by decide) (by omega) (fun h_1 => ?_) (fun h_1 => ?_)
    · exact absurd h_1 (by omega)
    · refine X_iconst (v := -1) dX11_round_27 (by decide) ?_
      exact X_iret dX11_round_28 rfl ⟨congrArg (fun z => Sum.inl (some (Value.int z))) ((hd0 rfl 0).symm), hC1, hk1, hl1⟩
  · obtain ⟨hf8, hf2, hfv⟩ := hdp (by omega)
    refine X_aload_n dX11_round_17 rfl ?_
    refine X_getr (a := 27) dX11_round_18 fkX11_60 rfl (k_0 hSh) (r_0_7 hSh) ?_
    refine X_geti dX11_round_21 fkX11_265 rfl (k_27 hSh) ?_
    rw [hd9]
    refine X_if_neN (a := rd) 29 dX11_round_24 (by decide) (by omega) (fun h_2 => ?_) (fun h_2 => ?_)
    · refine X_iload_n dX11_round_29 rfl ?_
      refine X_if_neN (a := 0) 43 dX11_round_30 (by decide) (by omega) (fun h_3 => ?_) (fun h_3 => ?_)
      · exact absurd h_3 (by omega)
      · refine X_aload_n dX11_round_33 rfl ?_
        refine X_getr (a := 27) dX11_round_34 fkX11_60 rfl (k_0 hSh) (r_0_7 hSh) ?_
        refine X_geti dX11_round_37 fkX11_268 rfl (k_27 hSh) ?_
        rw [hf8]
        refine X_goto 50 dX11_round_40 (by decide) ?_
        exact X_iret dX11_round_50 rfl ⟨congrArg (fun z => Sum.inl (some (Value.int z))) ((hfv 0).symm), hC1, hk1, hl1⟩
    · exact absurd h_2 h0
set_option maxRecDepth 100000 in
set_option maxHeartbeats 4000000 in
theorem r_round_0a (Γ : pTG) (g : pGG) (mi : pMI) (ml : pML) (A : AS) (hA : okAS A) (hSh : Sh g) (hR : RI A mi)  (ha : anB (aK A) (aG A) = true) : CT Γ 60 0 0 mX12_round [.ref 87, .int (nI 0)] g mi ml (RQ A (.inl (rnV A 0)) cd1 g mi ml) := by
  refine CT_of (by decide +kernel) (Nat.le_of_ble_eq_true rfl) ?_
  have hP := hA.1
  have hG8 : aG A ≤ 8 := hP.2.1
  have hC8 : (aP A).1 ≤ 8 := hP.1
  refine X_aload_n dX12_round_0 rfl ?_
  refine X_iconst (v := nI 0) dX12_round_1 (by decide) ?_
  refine X_puti dX12_round_2 fkX12_158 rfl rfl (k_87 hSh) ?_
  refine X_aload_n dX12_round_5 rfl ?_
  refine X_iload_n dX12_round_6 rfl ?_
  refine X_iconst (v := nI 0) dX12_round_7 (by decide) ?_
  refine X_iconst (v := nI 1) dX12_round_8 (by decide) ?_
  refine X_callSI dX12_round_9 mkX12_192 (c_in Γ g (up2 mi 87 0 (nI 0)) ml (nI 0) (nI 0) (nI 1)) rfl rfl (by decide) (Nat.le_of_ble_eq_true rfl) ?_
  refine X_topi (show bI (decide (nI 0 ≤ nI 0) && decide (nI 0 ≤ nI 1)) = nI 1 from congrArg bI (show (decide (nI 0 ≤ nI 0) && decide (nI 0 ≤ nI 1)) = true from by decide)) ?_
  refine X_if_neN (a := 1) 19 dX12_round_12 (by decide) (by omega) (fun h_1 => ?_) (fun h_1 => ?_)
  · refine X_iconst (v := nI 0) dX12_round_19 (by decide) ?_
    refine X_iconst (v := nI 1) dX12_round_20 (by decide) ?_
    refine X_iconst (v := nI 1) dX12_round_21 (by decide) ?_
    refine X_callVI dX12_round_22 mkX12_228 (k_87 hSh) (c_bad0 Γ g (up2 mi 87 0 (nI 0)) ml hSh 1 1 up2_s) rfl rfl (by decide) (Nat.le_of_ble_eq_true rfl) ?_
    refine X_if_eqN (a := 0) 30 dX12_round_25 (by decide) (by omega) (fun h_2 => ?_) (fun h_2 => ?_)
    · refine X_iconst (v := nI 0) dX12_round_30 (by decide) ?_
      refine X_istore_n dX12_round_31 (by decide) ?_
      refine X_L [(2, .int (nI 0)), (0, .ref 87), (1, .int (nI 0))] ⟨rfl, rfl, rfl, trivial⟩ ?_
      refine X_forE 32 (fun i => [(2, .int (nI i)), (0, .ref 87), (1, .int (nI 0))]) (aK A) (aG A) (fun i hi h0 => ⟨fun hp => ?_, fun hp hk => ?_⟩) (fun hz => ?_) (aG A) 0 (by omega) (fun b hb => absurd hb (by omega))
      · skip
        refine X_iload_n dX12_round_32 rfl ?_
        refine X_aload_n dX12_round_33 rfl ?_
        refine X_getr (a := 91) dX12_round_34 fkX12_23 rfl (k_87 hSh) (r_87_12 hSh) ?_
        refine X_iconst (v := nI 1) dX12_round_37 (by decide) ?_
        refine X_iald 1 dX12_round_38 (k_91 hSh) rfl (by omega) ?_
        rw [((congrFun (up2_row (by omega)) _).trans hR.1.2.1)]
        refine X_icmp_geN (a := i) (b := aG A) 59 dX12_round_39 (by decide) (by omega) (by omega) (fun h_3 => ?_) (fun h_3 => ?_)
        · exact absurd h_3 (by omega)
        · refine X_aload_n dX12_round_42 rfl ?_
          refine X_getr (a := 193) dX12_round_43 fkX12_67 rfl (k_87 hSh) (r_87_26 hSh) ?_
          refine X_iload_n dX12_round_46 rfl ?_
          refine X_zald i dX12_round_47 (k_193 hSh) rfl (by omega) ?_
          rw [((congrFun (up2_row (by omega)) _).trans ((hR.2.2.1 i (by omega)).trans (congrArg bI hp)))]
          refine X_if_eqN (a := 1) 53 dX12_round_48 (by decide) (by omega) (fun h_4 => ?_) (fun h_4 => ?_)
          · exact absurd h_4 (by omega)
          · refine X_iconst (v := -1) dX12_round_51 (by decide) ?_
            exact X_iret dX12_round_52 rfl ⟨rfl, rfl, RI_fr hA hR (frW_u frW_r (by unfold rsF rsR; omega)), (frM2_u frM2_r (by omega)), _, rfl, (if_pos ha).symm, (show (up2 mi 87 0 (nI 0)) 87 0 = nI 0 by rw [up2_s])⟩
      · skip
        refine X_iload_n dX12_round_32 rfl ?_
        refine X_aload_n dX12_round_33 rfl ?_
        refine X_getr (a := 91) dX12_round_34 fkX12_23 rfl (k_87 hSh) (r_87_12 hSh) ?_
        refine X_iconst (v := nI 1) dX12_round_37 (by decide) ?_
        refine X_iald 1 dX12_round_38 (k_91 hSh) rfl (by omega) ?_
        rw [((congrFun (up2_row (by omega)) _).trans hR.1.2.1)]
        refine X_icmp_geN (a := i) (b := aG A) 59 dX12_round_39 (by decide) (by omega) (by omega) (fun h_5 => ?_) (fun h_5 => ?_)
        · exact absurd h_5 (by omega)
        · refine X_aload_n dX12_round_42 rfl ?_
          refine X_getr (a := 193) dX12_round_43 fkX12_67 rfl (k_87 hSh) (r_87_26 hSh) ?_
          refine X_iload_n dX12_round_46 rfl ?_
          refine X_zald i dX12_round_47 (k_193 hSh) rfl (by omega) ?_
          rw [((congrFun (up2_row (by omega)) _).trans ((hR.2.2.1 i (by omega)).trans (congrArg bI hp)))]
          refine X_if_eqN (a := 0) 53 dX12_round_48 (by decide) (by omega) (fun h_6 => ?_) (fun h_6 => ?_)
          · refine X_iinc (v := nI (i + 1)) dX12_round_53 rfl (nI_1 _) (by decide) ?_
            refine X_goto 32 dX12_round_56 (by decide) ?_
            refine X_L [(2, .int (nI (i + 1))), (0, .ref 87), (1, .int (nI 0))] ⟨rfl, rfl, rfl, trivial⟩ ?_
            exact hk
          · exact absurd h_6 (by omega)
      · exact absurd (anB_f.mpr hz) (by rw [ha]; decide)
    · exact absurd h_2 (by omega)
  · exact absurd h_1 (by omega)
set_option maxRecDepth 100000 in
set_option maxHeartbeats 4000000 in
theorem r_round_0 (Γ : pTG) (g : pGG) (mi : pMI) (ml : pML) (A : AS) (hA : okAS A) (hSh : Sh g) (hR : RI A mi)  (ha : anB (aK A) (aG A) = false) : CT Γ 60 0 0 mX12_round [.ref 87, .int (nI 0)] g mi ml (RQ A (.inl (rnV A 0)) cd1 g mi ml) := by
  refine CT_of (by decide +kernel) (Nat.le_of_ble_eq_true rfl) ?_
  have hP := hA.1
  have hG8 : aG A ≤ 8 := hP.2.1
  have hC8 : (aP A).1 ≤ 8 := hP.1
  refine X_aload_n dX12_round_0 rfl ?_
  refine X_iconst (v := nI 0) dX12_round_1 (by decide) ?_
  refine X_puti dX12_round_2 fkX12_158 rfl rfl (k_87 hSh) ?_
  refine X_aload_n dX12_round_5 rfl ?_
  refine X_iload_n dX12_round_6 rfl ?_
  refine X_iconst (v := nI 0) dX12_round_7 (by decide) ?_
  refine X_iconst (v := nI 1) dX12_round_8 (by decide) ?_
  refine X_callSI dX12_round_9 mkX12_192 (c_in Γ g (up2 mi 87 0 (nI 0)) ml (nI 0) (nI 0) (nI 1)) rfl rfl (by decide) (Nat.le_of_ble_eq_true rfl) ?_
  refine X_topi (show bI (decide (nI 0 ≤ nI 0) && decide (nI 0 ≤ nI 1)) = nI 1 from congrArg bI (show (decide (nI 0 ≤ nI 0) && decide (nI 0 ≤ nI 1)) = true from by decide)) ?_
  refine X_if_neN (a := 1) 19 dX12_round_12 (by decide) (by omega) (fun h_1 => ?_) (fun h_1 => ?_)
  · refine X_iconst (v := nI 0) dX12_round_19 (by decide) ?_
    refine X_iconst (v := nI 1) dX12_round_20 (by decide) ?_
    refine X_iconst (v := nI 1) dX12_round_21 (by decide) ?_
    refine X_callVI dX12_round_22 mkX12_228 (k_87 hSh) (c_bad0 Γ g (up2 mi 87 0 (nI 0)) ml hSh 1 1 up2_s) rfl rfl (by decide) (Nat.le_of_ble_eq_true rfl) ?_
    refine X_if_eqN (a := 0) 30 dX12_round_25 (by decide) (by omega) (fun h_2 => ?_) (fun h_2 => ?_)
    · refine X_iconst (v := nI 0) dX12_round_30 (by decide) ?_
      refine X_istore_n dX12_round_31 (by decide) ?_
      refine X_L [(2, .int (nI 0)), (0, .ref 87), (1, .int (nI 0))] ⟨rfl, rfl, rfl, trivial⟩ ?_
      refine X_forE 32 (fun i => [(2, .int (nI i)), (0, .ref 87), (1, .int (nI 0))]) (aK A) (aG A) (fun i hi h0 => ⟨fun hp => ?_, fun hp hk => ?_⟩) (fun hz => ?_) (aG A) 0 (by omega) (fun b hb => absurd hb (by omega))
      · exact absurd (anB_t hp hi) (by rw [ha]; decide)
      · skip
        refine X_iload_n dX12_round_32 rfl ?_
        refine X_aload_n dX12_round_33 rfl ?_
        refine X_getr (a := 91) dX12_round_34 fkX12_23 rfl (k_87 hSh) (r_87_12 hSh) ?_
        refine X_iconst (v := nI 1) dX12_round_37 (by decide) ?_
        refine X_iald 1 dX12_round_38 (k_91 hSh) rfl (by omega) ?_
        rw [((congrFun (up2_row (by omega)) _).trans hR.1.2.1)]
        refine X_icmp_geN (a := i) (b := aG A) 59 dX12_round_39 (by decide) (by omega) (by omega) (fun h_3 => ?_) (fun h_3 => ?_)
        · exact absurd h_3 (by omega)
        · refine X_aload_n dX12_round_42 rfl ?_
          refine X_getr (a := 193) dX12_round_43 fkX12_67 rfl (k_87 hSh) (r_87_26 hSh) ?_
          refine X_iload_n dX12_round_46 rfl ?_
          refine X_zald i dX12_round_47 (k_193 hSh) rfl (by omega) ?_
          rw [((congrFun (up2_row (by omega)) _).trans ((hR.2.2.1 i (by omega)).trans (congrArg bI hp)))]
          refine X_if_eqN (a := 0) 53 dX12_round_48 (by decide) (by omega) (fun h_4 => ?_) (fun h_4 => ?_)
          · refine X_iinc (v := nI (i + 1)) dX12_round_53 rfl (nI_1 _) (by decide) ?_
            refine X_goto 32 dX12_round_56 (by decide) ?_
            refine X_L [(2, .int (nI (i + 1))), (0, .ref 87), (1, .int (nI 0))] ⟨rfl, rfl, rfl, trivial⟩ ?_
            exact hk
          · exact absurd h_4 (by omega)
      · skip
        refine X_iload_n dX12_round_32 rfl ?_
        refine X_aload_n dX12_round_33 rfl ?_
        refine X_getr (a := 91) dX12_round_34 fkX12_23 rfl (k_87 hSh) (r_87_12 hSh) ?_
        refine X_iconst (v := nI 1) dX12_round_37 (by decide) ?_
        refine X_iald 1 dX12_round_38 (k_91 hSh) rfl (by omega) ?_
        rw [((congrFun (up2_row (by omega)) _).trans hR.1.2.1)]
        refine X_icmp_geN (a := aG A) (b := aG A) 59 dX12_round_39 (by decide) (by omega) (by omega) (fun h_5 => ?_) (fun h_5 => ?_)
        · refine X_aload_n dX12_round_59 rfl ?_
          refine X_callVrV dX12_round_60 mkX12_347 (k_87 hSh) (r_beg Γ g (up2 mi 87 0 (nI 0)) ml A hA hSh mi hR RW_0) rfl rfl (by decide) (Nat.le_of_ble_eq_true rfl) (fun b1 bl hb1 => ?_)
          obtain ⟨hbS, hbc, hbW, hbB, hbl⟩ := hb1
          rw [hbl]
          refine X_aload_n dX12_round_63 rfl ?_
          refine X_callVrV dX12_round_64 mkX12_341 (k_87 hSh) (r_run Γ g b1 ml A hA hSh mi hbW id id id (pU (aP A)) (aP A).2.2.2.1 ⟨hA.1.2.2.2.1, hA.1.2.2.2.2.1⟩ hbS (okO_id hG8) hbc) rfl rfl (by decide) (Nat.le_of_ble_eq_true rfl) (fun x1 xl hx1 => ?_)
          obtain ⟨hxR, hxS, hxW, hxF, hxl⟩ := hx1
          rw [hxl]
          refine X_iconst (v := nI 0) dX12_round_67 (by decide) ?_
          refine X_istore_n dX12_round_68 (by decide) ?_
          refine X_L [(2, .int (nI 0)), (0, .ref 87), (1, .int (nI 0))] ⟨rfl, rfl, rfl, trivial⟩ ?_
          refine X_forR (σ := pMI) 69 (fun i y => [(2, .int (nI i)), (0, .ref 87), (1, .int (nI 0))]) (fun y => y) (fun y => ml) (fun i y => RDY y (aP A) (sqd (aP A) (aH A) id (i - 1)) (DDd (aP A) (aH A) id (i - 1)) ∧ rS y (aP A) (aH A) id id (aP A).2.2.2.1 ∧ RW mi y ∧ (∀ e, e < i → ∀ b, b < aG A → bnR A y (232 + e) e b) ∧ (∀ d, d < i → ∀ e, e < d → eqM A e d = false)) 200 ?_ ?_ 200 0 x1 (by omega) ⟨hxR, hxS, hxW, fun e he => absurd he (by omega), fun d hd => absurd hd (by omega)⟩
          · intro i y hi hI hn
            obtain ⟨hyR, hyS, hyW, hyB, hyN⟩ := hI
            have key : ∀ (u1 : pMI), RDY u1 (aP A) (sqd (aP A) (aH A) id i) (DDd (aP A) (aH A) id i) → rS u1 (aP A) (aH A) id id (aP A).2.2.2.1 → RW mi u1 → (∀ e, e < i → ∀ b, b < aG A → bnR A u1 (232 + e) e b) → XW Γ 60 0 0 mX12_round 89 [(2, .int (nI i)), (0, .ref 87), (1, .int (nI 0))] [] g u1 ml (RQ A (.inl (rnV A 0)) cd1 g mi ml) := by
              intro u1 huR huS huW huB
              have huI := RW_I hA hR huW
              refine X_iconst (v := nI 0) dX12_round_89 (by decide) ?_
              refine X_istore_n dX12_round_90 (by decide) ?_
              refine X_L [(3, .int (nI 0)), (2, .int (nI i)), (0, .ref 87), (1, .int (nI 0))] ⟨rfl, rfl, rfl, rfl, trivial⟩ ?_
              refine X_forR (σ := pMI) 91 (fun j z => [(3, .int (nI j)), (2, .int (nI i)), (0, .ref 87), (1, .int (nI 0))]) (fun z => z) (fun z => ml) (fun j z => RDY z (aP A) (sqd (aP A) (aH A) id i) (DDd (aP A) (aH A) id i) ∧ rS z (aP A) (aH A) id id (aP A).2.2.2.1 ∧ RW mi z ∧ (∀ e, e < i → ∀ b, b < aG A → bnR A z (232 + e) e b) ∧ (∀ b, b < j → bnR A z (232 + i) i b)) (aG A) ?_ ?_ (aG A) 0 u1 (by omega) ⟨huR, huS, huW, huB, fun b hb => absurd hb (by omega)⟩
              · intro j z hj hJ hn2
                obtain ⟨hzR, hzS, hzW, hzB, hzN⟩ := hJ
                have hzI := RW_I hA hR hzW
                obtain ⟨n8, hn8a, hn8, hse⟩ := sea_r hzR hj
                have hz9 := hzR.1 j hj
                refine X_iload_n dX12_round_91 rfl ?_
                refine X_aload_n dX12_round_92 rfl ?_
                refine X_getr (a := 91) dX12_round_93 fkX12_23 rfl (k_87 hSh) (r_87_12 hSh) ?_
                refine X_iconst (v := nI 1) dX12_round_96 (by decide) ?_
                refine X_iald 1 dX12_round_97 (k_91 hSh) rfl (by omega) ?_
                rw [hzI.1.2.1]
                refine X_icmp_geN (a := j) (b := aG A) 193 dX12_round_98 (by decide) (by omega) (by omega) (fun h_6 => ?_) (fun h_6 => ?_)
                · exact absurd h_6 (by omega)
                · refine X_aload_n dX12_round_101 rfl ?_
                  refine X_getr (a := 231) dX12_round_102 fkX12_134 rfl (k_87 hSh) (r_87_56 hSh) ?_
                  refine X_iload_n dX12_round_105 rfl ?_
                  refine X_aaldr (b := 232 + i) i dX12_round_106 (k_231 hSh) rfl (by omega) (o_231 hSh i (by omega)) ?_
                  refine X_iconst (v := nI 4) dX12_round_107 (by decide) ?_
                  refine X_iload_n dX12_round_108 rfl ?_
                  refine X_imul dX12_round_109 ?_
                  refine X_topi (pk_mul 4 j) ?_
                  refine X_aload_n dX12_round_110 rfl ?_
                  refine X_getr (a := 194) dX12_round_111 fkX12_71 rfl (k_87 hSh) (r_87_34 hSh) ?_
                  refine X_iload_n dX12_round_114 rfl ?_
                  refine X_iald j dX12_round_115 (k_194 hSh) rfl (by omega) ?_
                  rw [hz9.1]
                  refine X_iast (4 * j) dX12_round_116 (kr_231 hSh i (by omega)) rfl (by omega) ?_
                  refine X_aload_n dX12_round_117 rfl ?_
                  refine X_getr (a := 231) dX12_round_118 fkX12_134 rfl (k_87 hSh) (r_87_56 hSh) ?_
                  refine X_iload_n dX12_round_121 rfl ?_
                  refine X_aaldr (b := 232 + i) i dX12_round_122 (k_231 hSh) rfl (by omega) (o_231 hSh i (by omega)) ?_
                  refine X_iconst (v := nI 4) dX12_round_123 (by decide) ?_
                  refine X_iload_n dX12_round_124 rfl ?_
                  refine X_imul dX12_round_125 ?_
                  refine X_topi (pk_mul 4 j) ?_
                  refine X_iconst (v := nI 1) dX12_round_126 (by decide) ?_
                  refine X_iadd dX12_round_127 ?_
                  refine X_topi (nI_add (4 * j) 1) ?_
                  refine X_aload_n dX12_round_128 rfl ?_
                  refine X_getr (a := 201) dX12_round_129 fkX12_92 rfl (k_87 hSh) (r_87_41 hSh) ?_
                  refine X_iload_n dX12_round_132 rfl ?_
                  refine X_iald j dX12_round_133 (k_201 hSh) rfl (by omega) ?_
                  refine X_topi (show (up2 z (232 + i) (4 * j) (nI (sqd (aP A) (aH A) id i j))) 201 j = (DDd (aP A) (aH A) id i).1 201 j by rw [up2_row (by omega)]; exact hz9.2.2.2.2.2.2.1) ?_
                  refine X_join (S := [.int (nI ((4 * j) + 1)), .ref (232 + i)]) 142 (fun v => v = bI (seaB (DDd (aP A) (aH A) id i) j)) (fun vJ hvJ => ?_) (fun hJ_7 => ?_)
                  · rw [hvJ]
                    refine X_iast ((4 * j) + 1) dX12_round_142 (kr_231 hSh i (by omega)) rfl (by omega) ?_
                    refine X_aload_n dX12_round_143 rfl ?_
                    refine X_getr (a := 231) dX12_round_144 fkX12_134 rfl (k_87 hSh) (r_87_56 hSh) ?_
                    refine X_iload_n dX12_round_147 rfl ?_
                    refine X_aaldr (b := 232 + i) i dX12_round_148 (k_231 hSh) rfl (by omega) (o_231 hSh i (by omega)) ?_
                    refine X_iconst (v := nI 4) dX12_round_149 (by decide) ?_
                    refine X_iload_n dX12_round_150 rfl ?_
                    refine X_imul dX12_round_151 ?_
                    refine X_topi (pk_mul 4 j) ?_
                    refine X_iconst (v := nI 2) dX12_round_152 (by decide) ?_
                    refine X_iadd dX12_round_153 ?_
                    refine X_topi (nI_add (4 * j) 2) ?_
                    refine X_aload_n dX12_round_154 rfl ?_
                    refine X_getr (a := 199) dX12_round_155 fkX12_86 rfl (k_87 hSh) (r_87_39 hSh) ?_
                    refine X_iload_n dX12_round_158 rfl ?_
                    refine X_iald j dX12_round_159 (k_199 hSh) rfl (by omega) ?_
                    refine X_topi (show (up2 (up2 z (232 + i) (4 * j) (nI (sqd (aP A) (aH A) id i j))) (232 + i) ((4 * j) + 1) (bI (seaB (DDd (aP A) (aH A) id i) j))) 199 j = (DDd (aP A) (aH A) id i).1 199 j by rw [up2_row (by omega), up2_row (by omega)]; exact hz9.2.2.2.1) ?_
                    refine X_iast ((4 * j) + 2) dX12_round_160 (kr_231 hSh i (by omega)) rfl (by omega) ?_
                    refine X_aload_n dX12_round_161 rfl ?_
                    refine X_getr (a := 231) dX12_round_162 fkX12_134 rfl (k_87 hSh) (r_87_56 hSh) ?_
                    refine X_iload_n dX12_round_165 rfl ?_
                    refine X_aaldr (b := 232 + i) i dX12_round_166 (k_231 hSh) rfl (by omega) (o_231 hSh i (by omega)) ?_
                    refine X_iconst (v := nI 4) dX12_round_167 (by decide) ?_
                    refine X_iload_n dX12_round_168 rfl ?_
                    refine X_imul dX12_round_169 ?_
                    refine X_topi (pk_mul 4 j) ?_
                    refine X_iconst (v := nI 3) dX12_round_170 (by decide) ?_
                    refine X_iadd dX12_round_171 ?_
                    refine X_topi (nI_add (4 * j) 3) ?_
                    refine X_aload_n dX12_round_172 rfl ?_
                    refine X_getr (a := 202) dX12_round_173 fkX12_95 rfl (k_87 hSh) (r_87_42 hSh) ?_
                    refine X_iload_n dX12_round_176 rfl ?_
                    refine X_iald j dX12_round_177 (k_202 hSh) rfl (by omega) ?_
                    refine X_topi (show (up2 (up2 (up2 z (232 + i) (4 * j) (nI (sqd (aP A) (aH A) id i j))) (232 + i) ((4 * j) + 1) (bI (seaB (DDd (aP A) (aH A) id i) j))) (232 + i) ((4 * j) + 2) ((DDd (aP A) (aH A) id i).1 199 j)) 202 j = (DDd (aP A) (aH A) id i).1 202 j by rw [up2_row (by omega), up2_row (by omega), up2_row (by omega)]; exact hz9.2.2.2.2.2.2.2.1) ?_
                    refine X_join (S := [.int (nI ((4 * j) + 3)), .ref (232 + i)]) 186 (fun v => v = bI (offB (DDd (aP A) (aH A) id i) j)) (fun vJ hvJ => ?_) (fun hJ_8 => ?_)
                    · rw [hvJ]
                      refine X_iast ((4 * j) + 3) dX12_round_186 (kr_231 hSh i (by omega)) rfl (by omega) ?_
                      refine X_iinc (v := nI (j + 1)) dX12_round_187 rfl (nI_1 _) (by decide) ?_
                      refine X_goto 91 dX12_round_190 (by decide) ?_
                      refine X_L [(3, .int (nI (j + 1))), (2, .int (nI i)), (0, .ref 87), (1, .int (nI 0))] ⟨rfl, rfl, rfl, rfl, trivial⟩ ?_
                      have hsm : ∀ q, q < 230 → (up2 (up2 (up2 (up2 z (232 + i) (4 * j) (nI (sqd (aP A) (aH A) id i j))) (232 + i) ((4 * j) + 1) (bI (seaB (DDd (aP A) (aH A) id i) j))) (232 + i) ((4 * j) + 2) ((DDd (aP A) (aH A) id i).1 199 j)) (232 + i) ((4 * j) + 3) (bI (offB (DDd (aP A) (aH A) id i) j))) q = z q := fun q hq => by rw [up2_row (by omega), up2_row (by omega), up2_row (by omega), up2_row (by omega)]
                      refine hn2 _ ⟨RDY_b hP hsm hzR, rS_b hP hsm hzS, RW_u (RW_u (RW_u (RW_u hzW (by unfold rsR; omega)) (by unfold rsR; omega)) (by unfold rsR; omega)) (by unfold rsR; omega), fun e he b hb => ?_, fun b hb => ?_⟩
                      · have hb9 := hzB e he b hb
                        unfold bnR at hb9 ⊢
                        rw [up2_row (by omega), up2_row (by omega), up2_row (by omega), up2_row (by omega)]; exact hb9
                      · by_cases q : b = j
                        · subst q
                          exact ⟨by rw [up2_n (by omega), up2_n (by omega), up2_n (by omega)]; exact up2_s, by rw [up2_n (by omega), up2_n (by omega)]; exact up2_s, by rw [up2_n (by omega)]; exact up2_s, up2_s⟩
                        · have hb9 := hzN b (by omega)
                          unfold bnR at hb9 ⊢
                          rw [up2_n (by omega), up2_n (by omega), up2_n (by omega), up2_n (by omega), up2_n (by omega), up2_n (by omega), up2_n (by omega), up2_n (by omega), up2_n (by omega), up2_n (by omega), up2_n (by omega), up2_n (by omega), up2_n (by omega), up2_n (by omega), up2_n (by omega), up2_n (by omega)]; exact hb9
                    · refine X_if_le 185 dX12_round_178 (by decide) (fun h_9 => ?_) (fun h_9 => ?_)
                      · refine X_iconst (v := nI 0) dX12_round_185 (by decide) ?_
                        exact hJ_8 _ (by first | (unfold offB; rw [decide_eq_true (by assumption)]; rfl) | (unfold offB; rw [decide_eq_false (by assumption)]; rfl))
                      · refine X_iconst (v := nI 1) dX12_round_181 (by decide) ?_
                        refine X_goto 186 dX12_round_182 (by decide) ?_
                        exact hJ_8 _ (by first | (unfold offB; rw [decide_eq_true (by assumption)]; rfl) | (unfold offB; rw [decide_eq_false (by assumption)]; rfl))
                  · refine X_if_le 141 dX12_round_134 (by decide) (fun h_10 => ?_) (fun h_10 => ?_)
                    · refine X_iconst (v := nI 0) dX12_round_141 (by decide) ?_
                      exact hJ_7 _ (by first | (unfold seaB; rw [decide_eq_true (by assumption)]; rfl) | (unfold seaB; rw [decide_eq_false (by assumption)]; rfl))
                    · refine X_iconst (v := nI 1) dX12_round_137 (by decide) ?_
                      refine X_goto 142 dX12_round_138 (by decide) ?_
                      exact hJ_7 _ (by first | (unfold seaB; rw [decide_eq_true (by assumption)]; rfl) | (unfold seaB; rw [decide_eq_false (by assumption)]; rfl))
              · intro z hJ
                obtain ⟨hzR, hzS, hzW, hzB, hzN⟩ := hJ
                have hzI := RW_I hA hR hzW
                refine X_iload_n dX12_round_91 rfl ?_
                refine X_aload_n dX12_round_92 rfl ?_
                refine X_getr (a := 91) dX12_round_93 fkX12_23 rfl (k_87 hSh) (r_87_12 hSh) ?_
                refine X_iconst (v := nI 1) dX12_round_96 (by decide) ?_
                refine X_iald 1 dX12_round_97 (k_91 hSh) rfl (by omega) ?_
                rw [hzI.1.2.1]
                refine X_icmp_geN (a := aG A) (b := aG A) 193 dX12_round_98 (by decide) (by omega) (by omega) (fun h_11 => ?_) (fun h_11 => ?_)
                · refine X_iconst (v := nI 0) dX12_round_193 (by decide) ?_
                  refine X_istore_n dX12_round_194 (by decide) ?_
                  refine X_L [(3, .int (nI 0)), (2, .int (nI i)), (0, .ref 87), (1, .int (nI 0))] ⟨rfl, rfl, rfl, rfl, trivial⟩ ?_
                  refine X_forE 195 (fun e => [(3, .int (nI e)), (2, .int (nI i)), (0, .ref 87), (1, .int (nI 0))]) (fun e => eqM A e i) i (fun e he h0 => ⟨fun hp => ?_, fun hp hk => ?_⟩) (fun hz => ?_) i 0 (by omega) (fun b hb => absurd hb (by omega))
                  · skip
                    refine X_iload_n dX12_round_195 rfl ?_
                    refine X_iload_n dX12_round_196 rfl ?_
                    refine X_icmp_geN (a := e) (b := i) 237 dX12_round_197 (by decide) (by omega) (by omega) (fun h_12 => ?_) (fun h_12 => ?_)
                    · exact absurd h_12 (by omega)
                    · refine X_aload_n dX12_round_200 rfl ?_
                      refine X_aload_n dX12_round_201 rfl ?_
                      refine X_getr (a := 231) dX12_round_202 fkX12_134 rfl (k_87 hSh) (r_87_56 hSh) ?_
                      refine X_iload_n dX12_round_205 rfl ?_
                      refine X_aaldr (b := 232 + i) i dX12_round_206 (k_231 hSh) rfl (by omega) (o_231 hSh i (by omega)) ?_
                      refine X_aload_n dX12_round_207 rfl ?_
                      refine X_getr (a := 231) dX12_round_208 fkX12_134 rfl (k_87 hSh) (r_87_56 hSh) ?_
                      refine X_iload_n dX12_round_211 rfl ?_
                      refine X_aaldr (b := 232 + e) e dX12_round_212 (k_231 hSh) rfl (by omega) (o_231 hSh e (by omega)) ?_
                      refine X_callVI dX12_round_213 mkX12_368 (k_87 hSh) (c_isAs Γ g z ml hSh (aG A) hzI.1.2.1 hG8 (232 + i) (232 + e) (kr_231 hSh i (by omega)) (kr_231 hSh e (by omega))) rfl rfl (by decide) (Nat.le_of_ble_eq_true rfl) ?_
                      refine X_topi (show _ = nI 1 by rw [isAs_e hA hzN (hzB e he), hp]; rfl) ?_
                      refine X_if_eqN (a := 1) 231 dX12_round_216 (by decide) (by omega) (fun h_13 => ?_) (fun h_13 => ?_)
                      · exact absurd h_13 (by omega)
                      · refine X_iload_n dX12_round_219 rfl ?_
                        refine X_if_neN (a := 0) 227 dX12_round_220 (by decide) (by omega) (fun h_14 => ?_) (fun h_14 => ?_)
                        · exact absurd h_14 (by omega)
                        · refine X_iload_n dX12_round_223 rfl ?_
                          refine X_goto 230 dX12_round_224 (by decide) ?_
                          exact X_iret dX12_round_230 rfl ⟨rfl, rfl, RW_I hA hR hzW, hzW.2.1, _, rfl, (rn_hit (k := 0) ha hyN hi he h0 hp).symm, hzW.2.2⟩
                  · skip
                    refine X_iload_n dX12_round_195 rfl ?_
                    refine X_iload_n dX12_round_196 rfl ?_
                    refine X_icmp_geN (a := e) (b := i) 237 dX12_round_197 (by decide) (by omega) (by omega) (fun h_15 => ?_) (fun h_15 => ?_)
                    · exact absurd h_15 (by omega)
                    · refine X_aload_n dX12_round_200 rfl ?_
                      refine X_aload_n dX12_round_201 rfl ?_
                      refine X_getr (a := 231) dX12_round_202 fkX12_134 rfl (k_87 hSh) (r_87_56 hSh) ?_
                      refine X_iload_n dX12_round_205 rfl ?_
                      refine X_aaldr (b := 232 + i) i dX12_round_206 (k_231 hSh) rfl (by omega) (o_231 hSh i (by omega)) ?_
                      refine X_aload_n dX12_round_207 rfl ?_
                      refine X_getr (a := 231) dX12_round_208 fkX12_134 rfl (k_87 hSh) (r_87_56 hSh) ?_
                      refine X_iload_n dX12_round_211 rfl ?_
                      refine X_aaldr (b := 232 + e) e dX12_round_212 (k_231 hSh) rfl (by omega) (o_231 hSh e (by omega)) ?_
                      refine X_callVI dX12_round_213 mkX12_368 (k_87 hSh) (c_isAs Γ g z ml hSh (aG A) hzI.1.2.1 hG8 (232 + i) (232 + e) (kr_231 hSh i (by omega)) (kr_231 hSh e (by omega))) rfl rfl (by decide) (Nat.le_of_ble_eq_true rfl) ?_
                      refine X_topi (show _ = nI 0 by rw [isAs_e hA hzN (hzB e he), hp]; rfl) ?_
                      refine X_if_eqN (a := 0) 231 dX12_round_216 (by decide) (by omega) (fun h_16 => ?_) (fun h_16 => ?_)
                      · refine X_iinc (v := nI (e + 1)) dX12_round_231 rfl (nI_1 _) (by decide) ?_
                        refine X_goto 195 dX12_round_234 (by decide) ?_
                        refine X_L [(3, .int (nI (e + 1))), (2, .int (nI i)), (0, .ref 87), (1, .int (nI 0))] ⟨rfl, rfl, rfl, rfl, trivial⟩ ?_
                        exact hk
                      · exact absurd h_16 (by omega)
                  · have hEnd : RDY z (aP A) (sqd (aP A) (aH A) id (i + 1 - 1)) (DDd (aP A) (aH A) id (i + 1 - 1)) ∧ rS z (aP A) (aH A) id id (aP A).2.2.2.1 ∧ RW mi z ∧ (∀ e, e < i + 1 → ∀ b, b < aG A → bnR A z (232 + e) e b) ∧ (∀ d, d < i + 1 → ∀ e, e < d → eqM A e d = false) := ⟨hzR, hzS, hzW, fun e he b hb => by by_cases q : e = i; (subst q; exact hzN b hb); exact hzB e (by omega) b hb, fun d hd e he => by by_cases q : d = i; (subst q; exact hz e he); exact hyN d (by omega) e he⟩
                    refine X_iload_n dX12_round_195 rfl ?_
                    refine X_iload_n dX12_round_196 rfl ?_
                    refine X_icmp_geN (a := i) (b := i) 237 dX12_round_197 (by decide) (by omega) (by omega) (fun h_17 => ?_) (fun h_17 => ?_)
                    · refine X_iinc (v := nI (i + 1)) dX12_round_237 rfl (nI_1 _) (by decide) ?_
                      refine X_goto 69 dX12_round_240 (by decide) ?_
                      refine X_L [(2, .int (nI (i + 1))), (0, .ref 87), (1, .int (nI 0))] ⟨rfl, rfl, rfl, trivial⟩ ?_
                      exact hn _ hEnd
                    · exact absurd h_17 (by omega)
                · exact absurd h_11 (by omega)
            by_cases h00 : i = 0
            · subst h00
              refine X_iload_n dX12_round_69 rfl ?_
              refine X_sipush (v := nI 200) dX12_round_70 (by decide) ?_
              refine X_icmp_geN (a := 0) (b := 200) 243 dX12_round_73 (by decide) (by omega) (by omega) (fun h_18 => ?_) (fun h_18 => ?_)
              · exact absurd h_18 (by omega)
              · refine X_iload_n dX12_round_76 rfl ?_
                refine X_if_leN (a := 0) 89 dX12_round_77 (by decide) (by omega) (fun h_19 => ?_) (fun h_19 => ?_)
                · refine X_L [(2, .int (nI 0)), (0, .ref 87), (1, .int (nI 0))] ⟨rfl, rfl, rfl, trivial⟩ ?_
                  exact key _ hyR hyS hyW hyB
                · exact absurd h_19 (by omega)
            · skip
              refine X_iload_n dX12_round_69 rfl ?_
              refine X_sipush (v := nI 200) dX12_round_70 (by decide) ?_
              refine X_icmp_geN (a := i) (b := 200) 243 dX12_round_73 (by decide) (by omega) (by omega) (fun h_20 => ?_) (fun h_20 => ?_)
              · exact absurd h_20 (by omega)
              · refine X_iload_n dX12_round_76 rfl ?_
                refine X_if_leN (a := i) 89 dX12_round_77 (by decide) (by omega) (fun h_21 => ?_) (fun h_21 => ?_)
                · exact absurd h_21 h00
                · refine X_aload_n dX12_round_80 rfl ?_
                  refine X_iload_n dX12_round_81 rfl ?_
                  refine X_callVrV dX12_round_82 mkX12_344 (k_87 hSh) (r_ask Γ g y ml A hA hSh mi hyW id id _ _ i _ hyS hyR) rfl rfl (by decide) (Nat.le_of_ble_eq_true rfl) (fun z1 zl hz1 => ?_)
                  obtain ⟨hzc, hzS, hzW, hzF, hzl⟩ := hz1
                  rw [hzl]
                  have hzc := sqd_nx (by omega) hzc
                  refine X_aload_n dX12_round_85 rfl ?_
                  refine X_callVrV dX12_round_86 mkX12_341 (k_87 hSh) (r_run Γ g z1 ml A hA hSh mi hzW id id id (sqd (aP A) (aH A) id i) (aP A).2.2.2.1 ⟨hA.1.2.2.2.1, hA.1.2.2.2.2.1⟩ hzS (okO_id hG8) hzc) rfl rfl (by decide) (Nat.le_of_ble_eq_true rfl) (fun u1 ul hu1 => ?_)
                  obtain ⟨huR, huS, huW, huF, hul⟩ := hu1
                  rw [hul]
                  refine X_L [(2, .int (nI i)), (0, .ref 87), (1, .int (nI 0))] ⟨rfl, rfl, rfl, trivial⟩ ?_
                  exact key _ huR huS huW (fun e he b hb => by have hb9 := hyB e he b hb; unfold bnR at hb9 ⊢; rw [huF (232 + e) (by omega) (by omega) (by omega) (by omega) (by omega), hzF (232 + e) (by omega) (by omega) (by omega) (by omega) (by omega)]; exact hb9)
          · intro y hI
            refine X_iload_n dX12_round_69 rfl ?_
            refine X_sipush (v := nI 200) dX12_round_70 (by decide) ?_
            refine X_icmp_geN (a := 200) (b := 200) 243 dX12_round_73 (by decide) (by omega) (by omega) (fun h_22 => ?_) (fun h_22 => ?_)
            · refine X_iconst (v := -1) dX12_round_243 (by decide) ?_
              exact X_iret dX12_round_244 rfl ⟨rfl, rfl, RW_I hA hR hI.2.2.1, hI.2.2.1.2.1, _, rfl, (rn_no (fun _ => hI.2.2.2.2)).symm, hI.2.2.1.2.2⟩
            · exact absurd h_22 (by omega)
        · exact absurd h_5 (by omega)
    · exact absurd h_2 (by omega)
  · exact absurd h_1 (by omega)
set_option maxRecDepth 100000 in
set_option maxHeartbeats 4000000 in
theorem k_round_1 (Γ : pTG) (g : pGG) (mi : pMI) (ml : pML) (A : AS) (hA : okAS A) (hC : CI A g mi ml)  : CT Γ 60 20 5000 mX11_round [.ref 0, .int (nI 1)] g mi ml (CQ A (.inl (rnV A 1)) mi ml) := by
  refine CT_of (by decide +kernel) (Nat.le_of_ble_eq_true rfl) ?_
  have hSh := CI_Sh hC
  have hcl := CI_cl hC
  have hP := hA.1
  have hG8 : aG A ≤ 8 := hP.2.1
  have hC8 : (aP A).1 ≤ 8 := hP.1
  refine X_aload_n dX11_round_0 rfl ?_
  refine X_iload_n dX11_round_1 rfl ?_
  refine X_iconst (v := nI 0) dX11_round_2 (by decide) ?_
  refine X_iconst (v := nI 1) dX11_round_3 (by decide) ?_
  refine X_need dX11_round_4 mkX11_116 (k_0 hSh) (c_needWithin Γ g mi ml hSh (nI 1) (nI 0) (nI 1)) rfl rfl (by decide) (by decide) (by decide) (by decide) (fun h => absurd (by decide) h) (fun _ => ?_)
  refine X_aload_n dX11_round_7 rfl ?_
  refine X_getr (a := 27) dX11_round_8 fkX11_60 rfl (k_0 hSh) (r_0_7 hSh) ?_
  refine X_sipush (v := nI 199) dX11_round_11 (by decide) ?_
  refine X_callVrV dX11_round_14 mkX11_262 (k_27 hSh) (c_reachK Γ g mi ml A hA hC 199 (by omega)) rfl rfl (by decide) (Nat.le_of_ble_eq_true rfl) (fun m1 l1 hm1 => ?_)
  obtain ⟨⟨r, hrd, hr⟩, hk1, hl1⟩ := hm1
  have hC1 := CIr_CI hr
  have hcl1 := CI_cl hC1
  have hD1 := CIr_D hr
  have hr2 : r = 200 := by have := hD1.2.2.2.2.2.2.2.1; omega
  subst hr2
  obtain ⟨rd, f, hd9, hd2, hd0, hdp⟩ := rn_k hA hD1
  by_cases h0 : rd = 0
  · subst h0
    refine X_aload_n dX11_round_17 rfl ?_
    refine X_getr (a := 27) dX11_round_18 fkX11_60 rfl (k_0 hSh) (r_0_7 hSh) ?_
    refine X_geti dX11_round_21 fkX11_265 rfl (k_27 hSh) ?_
    rw [hd9]
    refine X_if_neN (a := 0) 29 dX11_round_24 (by decide) (by omega) (fun h_1 => ?_) (fun h_1 => ?_)
    · exact absurd h_1 (by omega)
    · refine X_iconst (v := -1) dX11_round_27 (by decide) ?_
      exact X_iret dX11_round_28 rfl ⟨congrArg (fun z => Sum.inl (some (Value.int z))) ((hd0 rfl 1).symm), hC1, hk1, hl1⟩
  · obtain ⟨hf8, hf2, hfv⟩ := hdp (by omega)
    refine X_aload_n dX11_round_17 rfl ?_
    refine X_getr (a := 27) dX11_round_18 fkX11_60 rfl (k_0 hSh) (r_0_7 hSh) ?_
    refine X_geti dX11_round_21 fkX11_265 rfl (k_27 hSh) ?_
    rw [hd9]
    refine X_if_neN (a := rd) 29 dX11_round_24 (by decide) (by omega) (fun h_2 => ?_) (fun h_2 => ?_)
    · refine X_iload_n dX11_round_29 rfl ?_
      refine X_if_neN (a := 1) 43 dX11_round_30 (by decide) (by omega) (fun h_3 => ?_) (fun h_3 => ?_)
      · refine X_aload_n dX11_round_43 rfl ?_
        refine X_getr (a := 27) dX11_round_44 fkX11_60 rfl (k_0 hSh) (r_0_7 hSh) ?_
        refine X_geti dX11_round_47 fkX11_265 rfl (k_27 hSh) ?_
        rw [hd9]
        exact X_iret dX11_round_50 rfl ⟨congrArg (fun z => Sum.inl (some (Value.int z))) ((hfv 1).symm), hC1, hk1, hl1⟩
      · exact absurd h_3 (by omega)
    · exact absurd h_2 h0
set_option maxRecDepth 100000 in
set_option maxHeartbeats 4000000 in
theorem r_round_1a (Γ : pTG) (g : pGG) (mi : pMI) (ml : pML) (A : AS) (hA : okAS A) (hSh : Sh g) (hR : RI A mi)  (ha : anB (aK A) (aG A) = true) : CT Γ 60 0 0 mX12_round [.ref 87, .int (nI 1)] g mi ml (RQ A (.inl (rnV A 1)) cd1 g mi ml) := by
  refine CT_of (by decide +kernel) (Nat.le_of_ble_eq_true rfl) ?_
  have hP := hA.1
  have hG8 : aG A ≤ 8 := hP.2.1
  have hC8 : (aP A).1 ≤ 8 := hP.1
  refine X_aload_n dX12_round_0 rfl ?_
  refine X_iconst (v := nI 0) dX12_round_1 (by decide) ?_
  refine X_puti dX12_round_2 fkX12_158 rfl rfl (k_87 hSh) ?_
  refine X_aload_n dX12_round_5 rfl ?_
  refine X_iload_n dX12_round_6 rfl ?_
  refine X_iconst (v := nI 0) dX12_round_7 (by decide) ?_
  refine X_iconst (v := nI 1) dX12_round_8 (by decide) ?_
  refine X_callSI dX12_round_9 mkX12_192 (c_in Γ g (up2 mi 87 0 (nI 0)) ml (nI 1) (nI 0) (nI 1)) rfl rfl (by decide) (Nat.le_of_ble_eq_true rfl) ?_
  refine X_topi (show bI (decide (nI 0 ≤ nI 1) && decide (nI 1 ≤ nI 1)) = nI 1 from congrArg bI (show (decide (nI 0 ≤ nI 1) && decide (nI 1 ≤ nI 1)) = true from by decide)) ?_
  refine X_if_neN (a := 1) 19 dX12_round_12 (by decide) (by omega) (fun h_1 => ?_) (fun h_1 => ?_)
  · refine X_iconst (v := nI 0) dX12_round_19 (by decide) ?_
    refine X_iconst (v := nI 1) dX12_round_20 (by decide) ?_
    refine X_iconst (v := nI 1) dX12_round_21 (by decide) ?_
    refine X_callVI dX12_round_22 mkX12_228 (k_87 hSh) (c_bad0 Γ g (up2 mi 87 0 (nI 0)) ml hSh 1 1 up2_s) rfl rfl (by decide) (Nat.le_of_ble_eq_true rfl) ?_
    refine X_if_eqN (a := 0) 30 dX12_round_25 (by decide) (by omega) (fun h_2 => ?_) (fun h_2 => ?_)
    · refine X_iconst (v := nI 0) dX12_round_30 (by decide) ?_
      refine X_istore_n dX12_round_31 (by decide) ?_
      refine X_L [(2, .int (nI 0)), (0, .ref 87), (1, .int (nI 1))] ⟨rfl, rfl, rfl, trivial⟩ ?_
      refine X_forE 32 (fun i => [(2, .int (nI i)), (0, .ref 87), (1, .int (nI 1))]) (aK A) (aG A) (fun i hi h0 => ⟨fun hp => ?_, fun hp hk => ?_⟩) (fun hz => ?_) (aG A) 0 (by omega) (fun b hb => absurd hb (by omega))
      · skip
        refine X_iload_n dX12_round_32 rfl ?_
        refine X_aload_n dX12_round_33 rfl ?_
        refine X_getr (a := 91) dX12_round_34 fkX12_23 rfl (k_87 hSh) (r_87_12 hSh) ?_
        refine X_iconst (v := nI 1) dX12_round_37 (by decide) ?_
        refine X_iald 1 dX12_round_38 (k_91 hSh) rfl (by omega) ?_
        rw [((congrFun (up2_row (by omega)) _).trans hR.1.2.1)]
        refine X_icmp_geN (a := i) (b := aG A) 59 dX12_round_39 (by decide) (by omega) (by omega) (fun h_3 => ?_) (fun h_3 => ?_)
        · exact absurd h_3 (by omega)
        · refine X_aload_n dX12_round_42 rfl ?_
          refine X_getr (a := 193) dX12_round_43 fkX12_67 rfl (k_87 hSh) (r_87_26 hSh) ?_
          refine X_iload_n dX12_round_46 rfl ?_
          refine X_zald i dX12_round_47 (k_193 hSh) rfl (by omega) ?_
          rw [((congrFun (up2_row (by omega)) _).trans ((hR.2.2.1 i (by omega)).trans (congrArg bI hp)))]
          refine X_if_eqN (a := 1) 53 dX12_round_48 (by decide) (by omega) (fun h_4 => ?_) (fun h_4 => ?_)
          · exact absurd h_4 (by omega)
          · refine X_iconst (v := -1) dX12_round_51 (by decide) ?_
            exact X_iret dX12_round_52 rfl ⟨rfl, rfl, RI_fr hA hR (frW_u frW_r (by unfold rsF rsR; omega)), (frM2_u frM2_r (by omega)), _, rfl, (if_pos ha).symm, (show (up2 mi 87 0 (nI 0)) 87 0 = nI 0 by rw [up2_s])⟩
      · skip
        refine X_iload_n dX12_round_32 rfl ?_
        refine X_aload_n dX12_round_33 rfl ?_
        refine X_getr (a := 91) dX12_round_34 fkX12_23 rfl (k_87 hSh) (r_87_12 hSh) ?_
        refine X_iconst (v := nI 1) dX12_round_37 (by decide) ?_
        refine X_iald 1 dX12_round_38 (k_91 hSh) rfl (by omega) ?_
        rw [((congrFun (up2_row (by omega)) _).trans hR.1.2.1)]
        refine X_icmp_geN (a := i) (b := aG A) 59 dX12_round_39 (by decide) (by omega) (by omega) (fun h_5 => ?_) (fun h_5 => ?_)
        · exact absurd h_5 (by omega)
        · refine X_aload_n dX12_round_42 rfl ?_
          refine X_getr (a := 193) dX12_round_43 fkX12_67 rfl (k_87 hSh) (r_87_26 hSh) ?_
          refine X_iload_n dX12_round_46 rfl ?_
          refine X_zald i dX12_round_47 (k_193 hSh) rfl (by omega) ?_
          rw [((congrFun (up2_row (by omega)) _).trans ((hR.2.2.1 i (by omega)).trans (congrArg bI hp)))]
          refine X_if_eqN (a := 0) 53 dX12_round_48 (by decide) (by omega) (fun h_6 => ?_) (fun h_6 => ?_)
          · refine X_iinc (v := nI (i + 1)) dX12_round_53 rfl (nI_1 _) (by decide) ?_
            refine X_goto 32 dX12_round_56 (by decide) ?_
            refine X_L [(2, .int (nI (i + 1))), (0, .ref 87), (1, .int (nI 1))] ⟨rfl, rfl, rfl, trivial⟩ ?_
            exact hk
          · exact absurd h_6 (by omega)
      · exact absurd (anB_f.mpr hz) (by rw [ha]; decide)
    · exact absurd h_2 (by omega)
  · exact absurd h_1 (by omega)
set_option maxRecDepth 100000 in
set_option maxHeartbeats 4000000 in
theorem r_round_1 (Γ : pTG) (g : pGG) (mi : pMI) (ml : pML) (A : AS) (hA : okAS A) (hSh : Sh g) (hR : RI A mi)  (ha : anB (aK A) (aG A) = false) : CT Γ 60 0 0 mX12_round [.ref 87, .int (nI 1)] g mi ml (RQ A (.inl (rnV A 1)) cd1 g mi ml) := by
  refine CT_of (by decide +kernel) (Nat.le_of_ble_eq_true rfl) ?_
  have hP := hA.1
  have hG8 : aG A ≤ 8 := hP.2.1
  have hC8 : (aP A).1 ≤ 8 := hP.1
  refine X_aload_n dX12_round_0 rfl ?_
  refine X_iconst (v := nI 0) dX12_round_1 (by decide) ?_
  refine X_puti dX12_round_2 fkX12_158 rfl rfl (k_87 hSh) ?_
  refine X_aload_n dX12_round_5 rfl ?_
  refine X_iload_n dX12_round_6 rfl ?_
  refine X_iconst (v := nI 0) dX12_round_7 (by decide) ?_
  refine X_iconst (v := nI 1) dX12_round_8 (by decide) ?_
  refine X_callSI dX12_round_9 mkX12_192 (c_in Γ g (up2 mi 87 0 (nI 0)) ml (nI 1) (nI 0) (nI 1)) rfl rfl (by decide) (Nat.le_of_ble_eq_true rfl) ?_
  refine X_topi (show bI (decide (nI 0 ≤ nI 1) && decide (nI 1 ≤ nI 1)) = nI 1 from congrArg bI (show (decide (nI 0 ≤ nI 1) && decide (nI 1 ≤ nI 1)) = true from by decide)) ?_
  refine X_if_neN (a := 1) 19 dX12_round_12 (by decide) (by omega) (fun h_1 => ?_) (fun h_1 => ?_)
  · refine X_iconst (v := nI 0) dX12_round_19 (by decide) ?_
    refine X_iconst (v := nI 1) dX12_round_20 (by decide) ?_
    refine X_iconst (v := nI 1) dX12_round_21 (by decide) ?_
    refine X_callVI dX12_round_22 mkX12_228 (k_87 hSh) (c_bad0 Γ g (up2 mi 87 0 (nI 0)) ml hSh 1 1 up2_s) rfl rfl (by decide) (Nat.le_of_ble_eq_true rfl) ?_
    refine X_if_eqN (a := 0) 30 dX12_round_25 (by decide) (by omega) (fun h_2 => ?_) (fun h_2 => ?_)
    · refine X_iconst (v := nI 0) dX12_round_30 (by decide) ?_
      refine X_istore_n dX12_round_31 (by decide) ?_
      refine X_L [(2, .int (nI 0)), (0, .ref 87), (1, .int (nI 1))] ⟨rfl, rfl, rfl, trivial⟩ ?_
      refine X_forE 32 (fun i => [(2, .int (nI i)), (0, .ref 87), (1, .int (nI 1))]) (aK A) (aG A) (fun i hi h0 => ⟨fun hp => ?_, fun hp hk => ?_⟩) (fun hz => ?_) (aG A) 0 (by omega) (fun b hb => absurd hb (by omega))
      · exact absurd (anB_t hp hi) (by rw [ha]; decide)
      · skip
        refine X_iload_n dX12_round_32 rfl ?_
        refine X_aload_n dX12_round_33 rfl ?_
        refine X_getr (a := 91) dX12_round_34 fkX12_23 rfl (k_87 hSh) (r_87_12 hSh) ?_
        refine X_iconst (v := nI 1) dX12_round_37 (by decide) ?_
        refine X_iald 1 dX12_round_38 (k_91 hSh) rfl (by omega) ?_
        rw [((congrFun (up2_row (by omega)) _).trans hR.1.2.1)]
        refine X_icmp_geN (a := i) (b := aG A) 59 dX12_round_39 (by decide) (by omega) (by omega) (fun h_3 => ?_) (fun h_3 => ?_)
        · exact absurd h_3 (by omega)
        · refine X_aload_n dX12_round_42 rfl ?_
          refine X_getr (a := 193) dX12_round_43 fkX12_67 rfl (k_87 hSh) (r_87_26 hSh) ?_
          refine X_iload_n dX12_round_46 rfl ?_
          refine X_zald i dX12_round_47 (k_193 hSh) rfl (by omega) ?_
          rw [((congrFun (up2_row (by omega)) _).trans ((hR.2.2.1 i (by omega)).trans (congrArg bI hp)))]
          refine X_if_eqN (a := 0) 53 dX12_round_48 (by decide) (by omega) (fun h_4 => ?_) (fun h_4 => ?_)
          · refine X_iinc (v := nI (i + 1)) dX12_round_53 rfl (nI_1 _) (by decide) ?_
            refine X_goto 32 dX12_round_56 (by decide) ?_
            refine X_L [(2, .int (nI (i + 1))), (0, .ref 87), (1, .int (nI 1))] ⟨rfl, rfl, rfl, trivial⟩ ?_
            exact hk
          · exact absurd h_4 (by omega)
      · skip
        refine X_iload_n dX12_round_32 rfl ?_
        refine X_aload_n dX12_round_33 rfl ?_
        refine X_getr (a := 91) dX12_round_34 fkX12_23 rfl (k_87 hSh) (r_87_12 hSh) ?_
        refine X_iconst (v := nI 1) dX12_round_37 (by decide) ?_
        refine X_iald 1 dX12_round_38 (k_91 hSh) rfl (by omega) ?_
        rw [((congrFun (up2_row (by omega)) _).trans hR.1.2.1)]
        refine X_icmp_geN (a := aG A) (b := aG A) 59 dX12_round_39 (by decide) (by omega) (by omega) (fun h_5 => ?_) (fun h_5 => ?_)
        · refine X_aload_n dX12_round_59 rfl ?_
          refine X_callVrV dX12_round_60 mkX12_347 (k_87 hSh) (r_beg Γ g (up2 mi 87 0 (nI 0)) ml A hA hSh mi hR RW_0) rfl rfl (by decide) (Nat.le_of_ble_eq_true rfl) (fun b1 bl hb1 => ?_)
          obtain ⟨hbS, hbc, hbW, hbB, hbl⟩ := hb1
          rw [hbl]
          refine X_aload_n dX12_round_63 rfl ?_
          refine X_callVrV dX12_round_64 mkX12_341 (k_87 hSh) (r_run Γ g b1 ml A hA hSh mi hbW id id id (pU (aP A)) (aP A).2.2.2.1 ⟨hA.1.2.2.2.1, hA.1.2.2.2.2.1⟩ hbS (okO_id hG8) hbc) rfl rfl (by decide) (Nat.le_of_ble_eq_true rfl) (fun x1 xl hx1 => ?_)
          obtain ⟨hxR, hxS, hxW, hxF, hxl⟩ := hx1
          rw [hxl]
          refine X_iconst (v := nI 0) dX12_round_67 (by decide) ?_
          refine X_istore_n dX12_round_68 (by decide) ?_
          refine X_L [(2, .int (nI 0)), (0, .ref 87), (1, .int (nI 1))] ⟨rfl, rfl, rfl, trivial⟩ ?_
          refine X_forR (σ := pMI) 69 (fun i y => [(2, .int (nI i)), (0, .ref 87), (1, .int (nI 1))]) (fun y => y) (fun y => ml) (fun i y => RDY y (aP A) (sqd (aP A) (aH A) id (i - 1)) (DDd (aP A) (aH A) id (i - 1)) ∧ rS y (aP A) (aH A) id id (aP A).2.2.2.1 ∧ RW mi y ∧ (∀ e, e < i → ∀ b, b < aG A → bnR A y (232 + e) e b) ∧ (∀ d, d < i → ∀ e, e < d → eqM A e d = false)) 200 ?_ ?_ 200 0 x1 (by omega) ⟨hxR, hxS, hxW, fun e he => absurd he (by omega), fun d hd => absurd hd (by omega)⟩
          · intro i y hi hI hn
            obtain ⟨hyR, hyS, hyW, hyB, hyN⟩ := hI
            have key : ∀ (u1 : pMI), RDY u1 (aP A) (sqd (aP A) (aH A) id i) (DDd (aP A) (aH A) id i) → rS u1 (aP A) (aH A) id id (aP A).2.2.2.1 → RW mi u1 → (∀ e, e < i → ∀ b, b < aG A → bnR A u1 (232 + e) e b) → XW Γ 60 0 0 mX12_round 89 [(2, .int (nI i)), (0, .ref 87), (1, .int (nI 1))] [] g u1 ml (RQ A (.inl (rnV A 1)) cd1 g mi ml) := by
              intro u1 huR huS huW huB
              have huI := RW_I hA hR huW
              refine X_iconst (v := nI 0) dX12_round_89 (by decide) ?_
              refine X_istore_n dX12_round_90 (by decide) ?_
              refine X_L [(3, .int (nI 0)), (2, .int (nI i)), (0, .ref 87), (1, .int (nI 1))] ⟨rfl, rfl, rfl, rfl, trivial⟩ ?_
              refine X_forR (σ := pMI) 91 (fun j z => [(3, .int (nI j)), (2, .int (nI i)), (0, .ref 87), (1, .int (nI 1))]) (fun z => z) (fun z => ml) (fun j z => RDY z (aP A) (sqd (aP A) (aH A) id i) (DDd (aP A) (aH A) id i) ∧ rS z (aP A) (aH A) id id (aP A).2.2.2.1 ∧ RW mi z ∧ (∀ e, e < i → ∀ b, b < aG A → bnR A z (232 + e) e b) ∧ (∀ b, b < j → bnR A z (232 + i) i b)) (aG A) ?_ ?_ (aG A) 0 u1 (by omega) ⟨huR, huS, huW, huB, fun b hb => absurd hb (by omega)⟩
              · intro j z hj hJ hn2
                obtain ⟨hzR, hzS, hzW, hzB, hzN⟩ := hJ
                have hzI := RW_I hA hR hzW
                obtain ⟨n8, hn8a, hn8, hse⟩ := sea_r hzR hj
                have hz9 := hzR.1 j hj
                refine X_iload_n dX12_round_91 rfl ?_
                refine X_aload_n dX12_round_92 rfl ?_
                refine X_getr (a := 91) dX12_round_93 fkX12_23 rfl (k_87 hSh) (r_87_12 hSh) ?_
                refine X_iconst (v := nI 1) dX12_round_96 (by decide) ?_
                refine X_iald 1 dX12_round_97 (k_91 hSh) rfl (by omega) ?_
                rw [hzI.1.2.1]
                refine X_icmp_geN (a := j) (b := aG A) 193 dX12_round_98 (by decide) (by omega) (by omega) (fun h_6 => ?_) (fun h_6 => ?_)
                · exact absurd h_6 (by omega)
                · refine X_aload_n dX12_round_101 rfl ?_
                  refine X_getr (a := 231) dX12_round_102 fkX12_134 rfl (k_87 hSh) (r_87_56 hSh) ?_
                  refine X_iload_n dX12_round_105 rfl ?_
                  refine X_aaldr (b := 232 + i) i dX12_round_106 (k_231 hSh) rfl (by omega) (o_231 hSh i (by omega)) ?_
                  refine X_iconst (v := nI 4) dX12_round_107 (by decide) ?_
                  refine X_iload_n dX12_round_108 rfl ?_
                  refine X_imul dX12_round_109 ?_
                  refine X_topi (pk_mul 4 j) ?_
                  refine X_aload_n dX12_round_110 rfl ?_
                  refine X_getr (a := 194) dX12_round_111 fkX12_71 rfl (k_87 hSh) (r_87_34 hSh) ?_
                  refine X_iload_n dX12_round_114 rfl ?_
                  refine X_iald j dX12_round_115 (k_194 hSh) rfl (by omega) ?_
                  rw [hz9.1]
                  refine X_iast (4 * j) dX12_round_116 (kr_231 hSh i (by omega)) rfl (by omega) ?_
                  refine X_aload_n dX12_round_117 rfl ?_
                  refine X_getr (a := 231) dX12_round_118 fkX12_134 rfl (k_87 hSh) (r_87_56 hSh) ?_
                  refine X_iload_n dX12_round_121 rfl ?_
                  refine X_aaldr (b := 232 + i) i dX12_round_122 (k_231 hSh) rfl (by omega) (o_231 hSh i (by omega)) ?_
                  refine X_iconst (v := nI 4) dX12_round_123 (by decide) ?_
                  refine X_iload_n dX12_round_124 rfl ?_
                  refine X_imul dX12_round_125 ?_
                  refine X_topi (pk_mul 4 j) ?_
                  refine X_iconst (v := nI 1) dX12_round_126 (by decide) ?_
                  refine X_iadd dX12_round_127 ?_
                  refine X_topi (nI_add (4 * j) 1) ?_
                  refine X_aload_n dX12_round_128 rfl ?_
                  refine X_getr (a := 201) dX12_round_129 fkX12_92 rfl (k_87 hSh) (r_87_41 hSh) ?_
                  refine X_iload_n dX12_round_132 rfl ?_
                  refine X_iald j dX12_round_133 (k_201 hSh) rfl (by omega) ?_
                  refine X_topi (show (up2 z (232 + i) (4 * j) (nI (sqd (aP A) (aH A) id i j))) 201 j = (DDd (aP A) (aH A) id i).1 201 j by rw [up2_row (by omega)]; exact hz9.2.2.2.2.2.2.1) ?_
                  refine X_join (S := [.int (nI ((4 * j) + 1)), .ref (232 + i)]) 142 (fun v => v = bI (seaB (DDd (aP A) (aH A) id i) j)) (fun vJ hvJ => ?_) (fun hJ_7 => ?_)
                  · rw [hvJ]
                    refine X_iast ((4 * j) + 1) dX12_round_142 (kr_231 hSh i (by omega)) rfl (by omega) ?_
                    refine X_aload_n dX12_round_143 rfl ?_
                    refine X_getr (a := 231) dX12_round_144 fkX12_134 rfl (k_87 hSh) (r_87_56 hSh) ?_
                    refine X_iload_n dX12_round_147 rfl ?_
                    refine X_aaldr (b := 232 + i) i dX12_round_148 (k_231 hSh) rfl (by omega) (o_231 hSh i (by omega)) ?_
                    refine X_iconst (v := nI 4) dX12_round_149 (by decide) ?_
                    refine X_iload_n dX12_round_150 rfl ?_
                    refine X_imul dX12_round_151 ?_
                    refine X_topi (pk_mul 4 j) ?_
                    refine X_iconst (v := nI 2) dX12_round_152 (by decide) ?_
                    refine X_iadd dX12_round_153 ?_
                    refine X_topi (nI_add (4 * j) 2) ?_
                    refine X_aload_n dX12_round_154 rfl ?_
                    refine X_getr (a := 199) dX12_round_155 fkX12_86 rfl (k_87 hSh) (r_87_39 hSh) ?_
                    refine X_iload_n dX12_round_158 rfl ?_
                    refine X_iald j dX12_round_159 (k_199 hSh) rfl (by omega) ?_
                    refine X_topi (show (up2 (up2 z (232 + i) (4 * j) (nI (sqd (aP A) (aH A) id i j))) (232 + i) ((4 * j) + 1) (bI (seaB (DDd (aP A) (aH A) id i) j))) 199 j = (DDd (aP A) (aH A) id i).1 199 j by rw [up2_row (by omega), up2_row (by omega)]; exact hz9.2.2.2.1) ?_
                    refine X_iast ((4 * j) + 2) dX12_round_160 (kr_231 hSh i (by omega)) rfl (by omega) ?_
                    refine X_aload_n dX12_round_161 rfl ?_
                    refine X_getr (a := 231) dX12_round_162 fkX12_134 rfl (k_87 hSh) (r_87_56 hSh) ?_
                    refine X_iload_n dX12_round_165 rfl ?_
                    refine X_aaldr (b := 232 + i) i dX12_round_166 (k_231 hSh) rfl (by omega) (o_231 hSh i (by omega)) ?_
                    refine X_iconst (v := nI 4) dX12_round_167 (by decide) ?_
                    refine X_iload_n dX12_round_168 rfl ?_
                    refine X_imul dX12_round_169 ?_
                    refine X_topi (pk_mul 4 j) ?_
                    refine X_iconst (v := nI 3) dX12_round_170 (by decide) ?_
                    refine X_iadd dX12_round_171 ?_
                    refine X_topi (nI_add (4 * j) 3) ?_
                    refine X_aload_n dX12_round_172 rfl ?_
                    refine X_getr (a := 202) dX12_round_173 fkX12_95 rfl (k_87 hSh) (r_87_42 hSh) ?_
                    refine X_iload_n dX12_round_176 rfl ?_
                    refine X_iald j dX12_round_177 (k_202 hSh) rfl (by omega) ?_
                    refine X_topi (show (up2 (up2 (up2 z (232 + i) (4 * j) (nI (sqd (aP A) (aH A) id i j))) (232 + i) ((4 * j) + 1) (bI (seaB (DDd (aP A) (aH A) id i) j))) (232 + i) ((4 * j) + 2) ((DDd (aP A) (aH A) id i).1 199 j)) 202 j = (DDd (aP A) (aH A) id i).1 202 j by rw [up2_row (by omega), up2_row (by omega), up2_row (by omega)]; exact hz9.2.2.2.2.2.2.2.1) ?_
                    refine X_join (S := [.int (nI ((4 * j) + 3)), .ref (232 + i)]) 186 (fun v => v = bI (offB (DDd (aP A) (aH A) id i) j)) (fun vJ hvJ => ?_) (fun hJ_8 => ?_)
                    · rw [hvJ]
                      refine X_iast ((4 * j) + 3) dX12_round_186 (kr_231 hSh i (by omega)) rfl (by omega) ?_
                      refine X_iinc (v := nI (j + 1)) dX12_round_187 rfl (nI_1 _) (by decide) ?_
                      refine X_goto 91 dX12_round_190 (by decide) ?_
                      refine X_L [(3, .int (nI (j + 1))), (2, .int (nI i)), (0, .ref 87), (1, .int (nI 1))] ⟨rfl, rfl, rfl, rfl, trivial⟩ ?_
                      have hsm : ∀ q, q < 230 → (up2 (up2 (up2 (up2 z (232 + i) (4 * j) (nI (sqd (aP A) (aH A) id i j))) (232 + i) ((4 * j) + 1) (bI (seaB (DDd (aP A) (aH A) id i) j))) (232 + i) ((4 * j) + 2) ((DDd (aP A) (aH A) id i).1 199 j)) (232 + i) ((4 * j) + 3) (bI (offB (DDd (aP A) (aH A) id i) j))) q = z q := fun q hq => by rw [up2_row (by omega), up2_row (by omega), up2_row (by omega), up2_row (by omega)]
                      refine hn2 _ ⟨RDY_b hP hsm hzR, rS_b hP hsm hzS, RW_u (RW_u (RW_u (RW_u hzW (by unfold rsR; omega)) (by unfold rsR; omega)) (by unfold rsR; omega)) (by unfold rsR; omega), fun e he b hb => ?_, fun b hb => ?_⟩
                      · have hb9 := hzB e he b hb
                        unfold bnR at hb9 ⊢
                        rw [up2_row (by omega), up2_row (by omega), up2_row (by omega), up2_row (by omega)]; exact hb9
                      · by_cases q : b = j
                        · subst q
                          exact ⟨by rw [up2_n (by omega), up2_n (by omega), up2_n (by omega)]; exact up2_s, by rw [up2_n (by omega), up2_n (by omega)]; exact up2_s, by rw [up2_n (by omega)]; exact up2_s, up2_s⟩
                        · have hb9 := hzN b (by omega)
                          unfold bnR at hb9 ⊢
                          rw [up2_n (by omega), up2_n (by omega), up2_n (by omega), up2_n (by omega), up2_n (by omega), up2_n (by omega), up2_n (by omega), up2_n (by omega), up2_n (by omega), up2_n (by omega), up2_n (by omega), up2_n (by omega), up2_n (by omega), up2_n (by omega), up2_n (by omega), up2_n (by omega)]; exact hb9
                    · refine X_if_le 185 dX12_round_178 (by decide) (fun h_9 => ?_) (fun h_9 => ?_)
                      · refine X_iconst (v := nI 0) dX12_round_185 (by decide) ?_
                        exact hJ_8 _ (by first | (unfold offB; rw [decide_eq_true (by assumption)]; rfl) | (unfold offB; rw [decide_eq_false (by assumption)]; rfl))
                      · refine X_iconst (v := nI 1) dX12_round_181 (by decide) ?_
                        refine X_goto 186 dX12_round_182 (by decide) ?_
                        exact hJ_8 _ (by first | (unfold offB; rw [decide_eq_true (by assumption)]; rfl) | (unfold offB; rw [decide_eq_false (by assumption)]; rfl))
                  · refine X_if_le 141 dX12_round_134 (by decide) (fun h_10 => ?_) (fun h_10 => ?_)
                    · refine X_iconst (v := nI 0) dX12_round_141 (by decide) ?_
                      exact hJ_7 _ (by first | (unfold seaB; rw [decide_eq_true (by assumption)]; rfl) | (unfold seaB; rw [decide_eq_false (by assumption)]; rfl))
                    · refine X_iconst (v := nI 1) dX12_round_137 (by decide) ?_
                      refine X_goto 142 dX12_round_138 (by decide) ?_
                      exact hJ_7 _ (by first | (unfold seaB; rw [decide_eq_true (by assumption)]; rfl) | (unfold seaB; rw [decide_eq_false (by assumption)]; rfl))
              · intro z hJ
                obtain ⟨hzR, hzS, hzW, hzB, hzN⟩ := hJ
                have hzI := RW_I hA hR hzW
                refine X_iload_n dX12_round_91 rfl ?_
                refine X_aload_n dX12_round_92 rfl ?_
                refine X_getr (a := 91) dX12_round_93 fkX12_23 rfl (k_87 hSh) (r_87_12 hSh) ?_
                refine X_iconst (v := nI 1) dX12_round_96 (by decide) ?_
                refine X_iald 1 dX12_round_97 (k_91 hSh) rfl (by omega) ?_
                rw [hzI.1.2.1]
                refine X_icmp_geN (a := aG A) (b := aG A) 193 dX12_round_98 (by decide) (by omega) (by omega) (fun h_11 => ?_) (fun h_11 => ?_)
                · refine X_iconst (v := nI 0) dX12_round_193 (by decide) ?_
                  refine X_istore_n dX12_round_194 (by decide) ?_
                  refine X_L [(3, .int (nI 0)), (2, .int (nI i)), (0, .ref 87), (1, .int (nI 1))] ⟨rfl, rfl, rfl, rfl, trivial⟩ ?_
                  refine X_forE 195 (fun e => [(3, .int (nI e)), (2, .int (nI i)), (0, .ref 87), (1, .int (nI 1))]) (fun e => eqM A e i) i (fun e he h0 => ⟨fun hp => ?_, fun hp hk => ?_⟩) (fun hz => ?_) i 0 (by omega) (fun b hb => absurd hb (by omega))
                  · skip
                    refine X_iload_n dX12_round_195 rfl ?_
                    refine X_iload_n dX12_round_196 rfl ?_
                    refine X_icmp_geN (a := e) (b := i) 237 dX12_round_197 (by decide) (by omega) (by omega) (fun h_12 => ?_) (fun h_12 => ?_)
                    · exact absurd h_12 (by omega)
                    · refine X_aload_n dX12_round_200 rfl ?_
                      refine X_aload_n dX12_round_201 rfl ?_
                      refine X_getr (a := 231) dX12_round_202 fkX12_134 rfl (k_87 hSh) (r_87_56 hSh) ?_
                      refine X_iload_n dX12_round_205 rfl ?_
                      refine X_aaldr (b := 232 + i) i dX12_round_206 (k_231 hSh) rfl (by omega) (o_231 hSh i (by omega)) ?_
                      refine X_aload_n dX12_round_207 rfl ?_
                      refine X_getr (a := 231) dX12_round_208 fkX12_134 rfl (k_87 hSh) (r_87_56 hSh) ?_
                      refine X_iload_n dX12_round_211 rfl ?_
                      refine X_aaldr (b := 232 + e) e dX12_round_212 (k_231 hSh) rfl (by omega) (o_231 hSh e (by omega)) ?_
                      refine X_callVI dX12_round_213 mkX12_368 (k_87 hSh) (c_isAs Γ g z ml hSh (aG A) hzI.1.2.1 hG8 (232 + i) (232 + e) (kr_231 hSh i (by omega)) (kr_231 hSh e (by omega))) rfl rfl (by decide) (Nat.le_of_ble_eq_true rfl) ?_
                      refine X_topi (show _ = nI 1 by rw [isAs_e hA hzN (hzB e he), hp]; rfl) ?_
                      refine X_if_eqN (a := 1) 231 dX12_round_216 (by decide) (by omega) (fun h_13 => ?_) (fun h_13 => ?_)
                      · exact absurd h_13 (by omega)
                      · refine X_iload_n dX12_round_219 rfl ?_
                        refine X_if_neN (a := 1) 227 dX12_round_220 (by decide) (by omega) (fun h_14 => ?_) (fun h_14 => ?_)
                        · refine X_iload_n dX12_round_227 rfl ?_
                          refine X_iload_n dX12_round_228 rfl ?_
                          refine X_isub dX12_round_229 ?_
                          refine X_topi (pk_sub (a := i) (b := e) (by omega)) ?_
                          exact X_iret dX12_round_230 rfl ⟨rfl, rfl, RW_I hA hR hzW, hzW.2.1, _, rfl, (rn_hit (k := 1) ha hyN hi he h0 hp).symm, hzW.2.2⟩
                        · exact absurd h_14 (by omega)
                  · skip
                    refine X_iload_n dX12_round_195 rfl ?_
                    refine X_iload_n dX12_round_196 rfl ?_
                    refine X_icmp_geN (a := e) (b := i) 237 dX12_round_197 (by decide) (by omega) (by omega) (fun h_15 => ?_) (fun h_15 => ?_)
                    · exact absurd h_15 (by omega)
                    · refine X_aload_n dX12_round_200 rfl ?_
                      refine X_aload_n dX12_round_201 rfl ?_
                      refine X_getr (a := 231) dX12_round_202 fkX12_134 rfl (k_87 hSh) (r_87_56 hSh) ?_
                      refine X_iload_n dX12_round_205 rfl ?_
                      refine X_aaldr (b := 232 + i) i dX12_round_206 (k_231 hSh) rfl (by omega) (o_231 hSh i (by omega)) ?_
                      refine X_aload_n dX12_round_207 rfl ?_
                      refine X_getr (a := 231) dX12_round_208 fkX12_134 rfl (k_87 hSh) (r_87_56 hSh) ?_
                      refine X_iload_n dX12_round_211 rfl ?_
                      refine X_aaldr (b := 232 + e) e dX12_round_212 (k_231 hSh) rfl (by omega) (o_231 hSh e (by omega)) ?_
                      refine X_callVI dX12_round_213 mkX12_368 (k_87 hSh) (c_isAs Γ g z ml hSh (aG A) hzI.1.2.1 hG8 (232 + i) (232 + e) (kr_231 hSh i (by omega)) (kr_231 hSh e (by omega))) rfl rfl (by decide) (Nat.le_of_ble_eq_true rfl) ?_
                      refine X_topi (show _ = nI 0 by rw [isAs_e hA hzN (hzB e he), hp]; rfl) ?_
                      refine X_if_eqN (a := 0) 231 dX12_round_216 (by decide) (by omega) (fun h_16 => ?_) (fun h_16 => ?_)
                      · refine X_iinc (v := nI (e + 1)) dX12_round_231 rfl (nI_1 _) (by decide) ?_
                        refine X_goto 195 dX12_round_234 (by decide) ?_
                        refine X_L [(3, .int (nI (e + 1))), (2, .int (nI i)), (0, .ref 87), (1, .int (nI 1))] ⟨rfl, rfl, rfl, rfl, trivial⟩ ?_
                        exact hk
                      · exact absurd h_16 (by omega)
                  · have hEnd : RDY z (aP A) (sqd (aP A) (aH A) id (i + 1 - 1)) (DDd (aP A) (aH A) id (i + 1 - 1)) ∧ rS z (aP A) (aH A) id id (aP A).2.2.2.1 ∧ RW mi z ∧ (∀ e, e < i + 1 → ∀ b, b < aG A → bnR A z (232 + e) e b) ∧ (∀ d, d < i + 1 → ∀ e, e < d → eqM A e d = false) := ⟨hzR, hzS, hzW, fun e he b hb => by by_cases q : e = i; (subst q; exact hzN b hb); exact hzB e (by omega) b hb, fun d hd e he => by by_cases q : d = i; (subst q; exact hz e he); exact hyN d (by omega) e he⟩
                    refine X_iload_n dX12_round_195 rfl ?_
                    refine X_iload_n dX12_round_196 rfl ?_
                    refine X_icmp_geN (a := i) (b := i) 237 dX12_round_197 (by decide) (by omega) (by omega) (fun h_17 => ?_) (fun h_17 => ?_)
                    · refine X_iinc (v := nI (i + 1)) dX12_round_237 rfl (nI_1 _) (by decide) ?_
                      refine X_goto 69 dX12_round_240 (by decide) ?_
                      refine X_L [(2, .int (nI (i + 1))), (0, .ref 87), (1, .int (nI 1))] ⟨rfl, rfl, rfl, trivial⟩ ?_
                      exact hn _ hEnd
                    · exact absurd h_17 (by omega)
                · exact absurd h_11 (by omega)
            by_cases h00 : i = 0
            · subst h00
              refine X_iload_n dX12_round_69 rfl ?_
              refine X_sipush (v := nI 200) dX12_round_70 (by decide) ?_
              refine X_icmp_geN (a := 0) (b := 200) 243 dX12_round_73 (by decide) (by omega) (by omega) (fun h_18 => ?_) (fun h_18 => ?_)
              · exact absurd h_18 (by omega)
              · refine X_iload_n dX12_round_76 rfl ?_
                refine X_if_leN (a := 0) 89 dX12_round_77 (by decide) (by omega) (fun h_19 => ?_) (fun h_19 => ?_)
                · refine X_L [(2, .int (nI 0)), (0, .ref 87), (1, .int (nI 1))] ⟨rfl, rfl, rfl, trivial⟩ ?_
                  exact key _ hyR hyS hyW hyB
                · exact absurd h_19 (by omega)
            · skip
              refine X_iload_n dX12_round_69 rfl ?_
              refine X_sipush (v := nI 200) dX12_round_70 (by decide) ?_
              refine X_icmp_geN (a := i) (b := 200) 243 dX12_round_73 (by decide) (by omega) (by omega) (fun h_20 => ?_) (fun h_20 => ?_)
              · exact absurd h_20 (by omega)
              · refine X_iload_n dX12_round_76 rfl ?_
                refine X_if_leN (a := i) 89 dX12_round_77 (by decide) (by omega) (fun h_21 => ?_) (fun h_21 => ?_)
                · exact absurd h_21 h00
                · refine X_aload_n dX12_round_80 rfl ?_
                  refine X_iload_n dX12_round_81 rfl ?_
                  refine X_callVrV dX12_round_82 mkX12_344 (k_87 hSh) (r_ask Γ g y ml A hA hSh mi hyW id id _ _ i _ hyS hyR) rfl rfl (by decide) (Nat.le_of_ble_eq_true rfl) (fun z1 zl hz1 => ?_)
                  obtain ⟨hzc, hzS, hzW, hzF, hzl⟩ := hz1
                  rw [hzl]
                  have hzc := sqd_nx (by omega) hzc
                  refine X_aload_n dX12_round_85 rfl ?_
                  refine X_callVrV dX12_round_86 mkX12_341 (k_87 hSh) (r_run Γ g z1 ml A hA hSh mi hzW id id id (sqd (aP A) (aH A) id i) (aP A).2.2.2.1 ⟨hA.1.2.2.2.1, hA.1.2.2.2.2.1⟩ hzS (okO_id hG8) hzc) rfl rfl (by decide) (Nat.le_of_ble_eq_true rfl) (fun u1 ul hu1 => ?_)
                  obtain ⟨huR, huS, huW, huF, hul⟩ := hu1
                  rw [hul]
                  refine X_L [(2, .int (nI i)), (0, .ref 87), (1, .int (nI 1))] ⟨rfl, rfl, rfl, trivial⟩ ?_
                  exact key _ huR huS huW (fun e he b hb => by have hb9 := hyB e he b hb; unfold bnR at hb9 ⊢; rw [huF (232 + e) (by omega) (by omega) (by omega) (by omega) (by omega), hzF (232 + e) (by omega) (by omega) (by omega) (by omega) (by omega)]; exact hb9)
          · intro y hI
            refine X_iload_n dX12_round_69 rfl ?_
            refine X_sipush (v := nI 200) dX12_round_70 (by decide) ?_
            refine X_icmp_geN (a := 200) (b := 200) 243 dX12_round_73 (by decide) (by omega) (by omega) (fun h_22 => ?_) (fun h_22 => ?_)
            · refine X_iconst (v := -1) dX12_round_243 (by decide) ?_
              exact X_iret dX12_round_244 rfl ⟨rfl, rfl, RW_I hA hR hI.2.2.1, hI.2.2.1.2.1, _, rfl, (rn_no (fun _ => hI.2.2.2.2)).symm, hI.2.2.1.2.2⟩
            · exact absurd h_22 (by omega)
        · exact absurd h_5 (by omega)
    · exact absurd h_2 (by omega)
  · exact absurd h_1 (by omega)
theorem m_round (A : AS) (hA : okAS A) (w : Int32) : MOK mX11_round mX12_round cd1 [.int w] A := by
  by_cases hg0 : nI 0 ≤ w ∧ w ≤ nI 1
  · obtain ⟨k, hka, hk, rfl⟩ := (wi_iff (by decide) (by decide)).mp hg0
    have hkk : k < 2 := by omega
    match k, hkk with
    | 0, _ =>
      refine ⟨.inl (rnV A 0), A, hA, fun j h => (by cases h), fun Γ g m l hC => k_round_0 Γ g m l A hA hC, fun Γ g m l hSh hR => ?_⟩
      cases ha : anB (aK A) (aG A) with
      | true => exact r_round_0a Γ g m l A hA hSh hR ha
      | false => exact r_round_0 Γ g m l A hA hSh hR ha
    | 1, _ =>
      refine ⟨.inl (rnV A 1), A, hA, fun j h => (by cases h), fun Γ g m l hC => k_round_1 Γ g m l A hA hC, fun Γ g m l hSh hR => ?_⟩
      cases ha : anB (aK A) (aG A) with
      | true => exact r_round_1a Γ g m l A hA hSh hR ha
      | false => exact r_round_1 Γ g m l A hA hSh hR ha
  · exact ⟨.inr 1, rfA A 1, ok_rf hA, fun j h => by cases h; decide, fun Γ g m l hC => k_round_f0 Γ g m l A hA hC w hg0, fun Γ g m l hSh hR => r_round_f0 Γ g m l A hA hSh hR w hg0⟩

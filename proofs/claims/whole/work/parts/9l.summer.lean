/-! ===== summer ===== -/
def smS (A : AS) (s : Int32) : Nat → Int32 × (Nat → Nat)
  | 0 => (s, pU (aP A))
  | j + 1 => ((lDw A (smS A s j).1).1, nxN (aP A) (aH A) id (smS A s j).2 (lDD A (smS A s j).2 (smS A s j).1) (j + 1))
def smD (A : AS) (s : Int32) (j : Nat) : DS := lDD A (smS A s j).2 (smS A s j).1
theorem pU_lt {P : PD} (hP : okPD P) {b : Nat} (hb : b < P.2.1) : pU P b < 24 := by
  unfold pU
  rw [nrm_i hb]
  exact (hP.2.2.2.2.2.2.2 b hb).1
theorem pU_e {A : AS} {s : Int32} {b : Nat} (hb : b < aG A) : (smS A s 0).2 b = (aP A).2.2.2.2.2.2 b 0 := nrm_i (nG := aG A) (f := fun b => (aP A).2.2.2.2.2.2 b 0) hb
theorem sm_lt {A : AS} (hA : okAS A) {s : Int32} {b : Nat} (hb : b < aG A) : ∀ j, (smS A s j).2 b < 24
  | 0 => pU_lt hA.1 hb
  | j + 1 => nxN_lt
def smT (A : AS) (s : Int32) (k b : Nat) : Nat := cN (fun i => seaB (smD A s i) b) k
theorem smT_le {A : AS} {s : Int32} {k : Nat} (b : Nat) : smT A s k b ≤ k := cN_le _ _
theorem smT_s {A : AS} {s : Int32} {k b : Nat} : smT A s (k + 1) b = smT A s k b + (seaB (smD A s k) b).toNat := cN_s _ _
def smG (A : AS) (s : Int32) (i : Nat) : Int32 := sumN (fun b => (smD A s i).1 200 b) (aG A)
def smI (A : AS) (s : Int32) (i : Nat) : Int32 := sumN (fun c => (smD A s i).1 207 c) (aP A).1
/-- the first of those with most -/
def fmN (f : Nat → Nat) : Nat → Option Nat
  | 0 => none
  | n + 1 => match fmN f n with
    | none => some n
    | some q => if f q < f n then some n else some q
theorem fm_n {f : Nat → Nat} {n : Nat} (h : fmN f n = none) : fmN f (n + 1) = some n := by unfold fmN; rw [h]
theorem fm_s {f : Nat → Nat} {n q : Nat} (h : fmN f n = some q) : fmN f (n + 1) = if f q < f n then some n else some q := by
  show (match fmN f n with
    | none => some n
    | some q => if f q < f n then some n else some q) = _
  rw [h]
theorem fm_lt {f : Nat → Nat} : ∀ {n q : Nat}, fmN f n = some q → q < n
  | 0, q, h => by cases h
  | n + 1, q, h => by
    cases hq : fmN f n with
    | none => rw [fm_n hq] at h; cases h; omega
    | some p =>
      rw [fm_s hq] at h
      by_cases z : f p < f n
      · rw [if_pos z] at h; cases h; omega
      · rw [if_neg z] at h; cases h; have := fm_lt hq; omega
set_option maxRecDepth 100000 in
set_option maxHeartbeats 4000000 in
theorem c_tallyS (Γ : pTG) (g : pGG) (mi : pMI) (ml : pML) (hSh : Sh g) (x : Int32) : rV Γ 1 mX11_tallySeated [.ref 0, .int x] g mi ml (fun m l => (∀ b, b < 8 → m 85 b = mi 85 b + bI (bt x b)) ∧ (∀ a, a ≠ 85 → m a = mi a) ∧ l = ml) := by
  refine rV_of (by decide +kernel) (Nat.le_of_ble_eq_true rfl) ?_
  refine X_iconst (v := nI 0) dX11_tallySeated_0 (by decide) ?_
  refine X_istore_n dX11_tallySeated_1 (by decide) ?_
  refine X_L [(2, .int (nI 0)), (0, .ref 0), (1, .int x)] ⟨rfl, rfl, rfl, trivial⟩ ?_
  refine X_forR (σ := pMI) 2 (fun i y => [(2, .int (nI i)), (0, .ref 0), (1, .int x)]) (fun y => y) (fun y => ml) (fun i y => (∀ b, b < 8 → y 85 b = if b < i then mi 85 b + bI (bt x b) else mi 85 b) ∧ ∀ a, a ≠ 85 → y a = mi a) 8 ?_ ?_ 8 0 mi (by omega) ⟨fun b hb => (if_neg (by omega)).symm, fun _ _ => rfl⟩
  · intro i y hi hI hn
    refine X_iload_n dX11_tallySeated_2 rfl ?_
    refine X_bipush (v := nI 8) dX11_tallySeated_3 (by decide) ?_
    refine X_icmp_geN (a := i) (b := 8) 28 dX11_tallySeated_5 (by decide) (by omega) (by omega) (fun h_1 => ?_) (fun h_1 => ?_)
    · exact absurd hi (by omega)
    · refine X_aload_n dX11_tallySeated_8 rfl ?_
      refine X_getr (a := 85) dX11_tallySeated_9 fkX11_98 rfl (k_0 hSh) (r_0_14 hSh) ?_
      refine X_iload_n dX11_tallySeated_12 rfl ?_
      refine X_dup2 dX11_tallySeated_13 rfl rfl ?_
      refine X_iald i dX11_tallySeated_14 (k_85 hSh) rfl (by omega) ?_
      refine X_iload_n dX11_tallySeated_15 rfl ?_
      refine X_iload_n dX11_tallySeated_16 rfl ?_
      refine X_ishr dX11_tallySeated_17 ?_
      refine X_iconst (v := nI 1) dX11_tallySeated_18 (by decide) ?_
      refine X_iand dX11_tallySeated_19 ?_
      refine X_iadd dX11_tallySeated_20 ?_
      refine X_iast i dX11_tallySeated_21 (k_85 hSh) rfl (by omega) ?_
      refine X_iinc (v := nI (i + 1)) dX11_tallySeated_22 rfl (nI_1 _) (by decide) ?_
      refine X_goto 2 dX11_tallySeated_25 (by decide) ?_
      refine X_L [(2, .int (nI (i + 1))), (0, .ref 0), (1, .int x)] ⟨rfl, rfl, rfl, trivial⟩ ?_
      refine hn _ ⟨fun b hb => ?_, fun a ha => (up2_row ha).trans (hI.2 a ha)⟩
      by_cases q : b = i
      · subst q; rw [up2_s, if_pos (by omega), bit_ask (by omega), hI.1 b hb, if_neg (by omega)]
      · rw [up2_n q, hI.1 b hb]; by_cases z : b < i; (rw [if_pos z, if_pos (by omega)]); rw [if_neg z, if_neg (by omega)]
  · intro y hI
    refine X_iload_n dX11_tallySeated_2 rfl ?_
    refine X_bipush (v := nI 8) dX11_tallySeated_3 (by decide) ?_
    refine X_icmp_geN (a := 8) (b := 8) 28 dX11_tallySeated_5 (by decide) (by omega) (by omega) (fun h_2 => ?_) (fun h_2 => ?_)
    · exact X_vret dX11_tallySeated_28 rfl ⟨rfl, rfl, fun b hb => by rw [hI.1 b hb, if_pos hb], hI.2, rfl⟩
    · exact absurd h_2 (by omega)
set_option maxRecDepth 100000 in
set_option maxHeartbeats 4000000 in
theorem c_fom (Γ : pTG) (g : pGG) (mi : pMI) (ml : pML) (hSh : Sh g) (nG : Nat) (hG : mi 3 10 = nI nG) (h8 : nG ≤ 8) (f : Nat → Nat) (hf : ∀ b, b < nG → mi 85 b = nI (f b)) (hfb : ∀ b, f b ≤ 1000) : cI Γ 1 mX11_firstOfMost [.ref 0] g mi ml (oI (fmN f nG)) mi := by
  refine cI_of (by decide +kernel) (Nat.le_of_ble_eq_true rfl) ?_
  refine X_iconst (v := -1) dX11_firstOfMost_0 (by decide) ?_
  refine X_istore_n dX11_firstOfMost_1 (by decide) ?_
  refine X_iconst (v := nI 0) dX11_firstOfMost_2 (by decide) ?_
  refine X_istore_n dX11_firstOfMost_3 (by decide) ?_
  refine X_L [(2, .int (nI 0)), (1, .int (-1)), (0, .ref 0)] ⟨rfl, rfl, rfl, trivial⟩ ?_
  refine X_L [(2, .int (nI 0)), (1, .int (oI (fmN f 0))), (0, .ref 0)] ⟨rfl, rfl, rfl, trivial⟩ ?_
  refine X_forR (σ := Unit) 4 (fun i u => [(2, .int (nI i)), (1, .int (oI (fmN f i))), (0, .ref 0)]) (fun u => mi) (fun u => ml) (fun i u => True) nG ?_ ?_ nG 0 () (by omega) trivial
  · intro i u hi hI hn
    have hfi := hfb i
    cases hq : fmN f i with
    | none =>
      refine X_iload_n dX11_firstOfMost_4 rfl ?_
      refine X_aload_n dX11_firstOfMost_5 rfl ?_
      refine X_getr (a := 3) dX11_firstOfMost_6 fkX11_25 rfl (k_0 hSh) (r_0_2 hSh) ?_
      refine X_geti dX11_firstOfMost_9 fkX11_144 rfl (k_3 hSh) ?_
      rw [hG]
      refine X_icmp_geN (a := i) (b := nG) 43 dX11_firstOfMost_12 (by decide) (by omega) (by omega) (fun h_1 => ?_) (fun h_1 => ?_)
      · exact absurd h_1 (by omega)
      · refine X_iload_n dX11_firstOfMost_15 rfl ?_
        refine X_iconst (v := -1) dX11_firstOfMost_16 (by decide) ?_
        refine X_icmp_eq 35 dX11_firstOfMost_17 (by decide) (fun h_2 => ?_) (fun h_2 => ?_)
        · refine X_iload_n dX11_firstOfMost_35 rfl ?_
          refine X_istore_n dX11_firstOfMost_36 (by decide) ?_
          refine X_iinc (v := nI (i + 1)) dX11_firstOfMost_37 rfl (nI_1 _) (by decide) ?_
          refine X_goto 4 dX11_firstOfMost_40 (by decide) ?_
          refine X_L [(2, .int (nI (i + 1))), (1, .int (nI i)), (0, .ref 0)] ⟨rfl, rfl, rfl, trivial⟩ ?_
          refine X_L [(2, .int (nI (i + 1))), (1, .int (oI (fmN f (i + 1)))), (0, .ref 0)] ⟨rfl, by rw [fm_n hq]; rfl, rfl, trivial⟩ ?_
          exact hn () trivial
        · exact absurd rfl h_2
    | some q =>
      have hqi := fm_lt hq
      have hfq := hfb q
      refine X_iload_n dX11_firstOfMost_4 rfl ?_
      refine X_aload_n dX11_firstOfMost_5 rfl ?_
      refine X_getr (a := 3) dX11_firstOfMost_6 fkX11_25 rfl (k_0 hSh) (r_0_2 hSh) ?_
      refine X_geti dX11_firstOfMost_9 fkX11_144 rfl (k_3 hSh) ?_
      rw [hG]
      refine X_icmp_geN (a := i) (b := nG) 43 dX11_firstOfMost_12 (by decide) (by omega) (by omega) (fun h_3 => ?_) (fun h_3 => ?_)
      · exact absurd h_3 (by omega)
      · refine X_iload_n dX11_firstOfMost_15 rfl ?_
        refine X_iconst (v := -1) dX11_firstOfMost_16 (by decide) ?_
        refine X_icmp_eq 35 dX11_firstOfMost_17 (by decide) (fun h_4 => ?_) (fun h_4 => ?_)
        · exact absurd h_4 (nI_m1 (by omega))
        · refine X_aload_n dX11_firstOfMost_20 rfl ?_
          refine X_getr (a := 85) dX11_firstOfMost_21 fkX11_98 rfl (k_0 hSh) (r_0_14 hSh) ?_
          refine X_iload_n dX11_firstOfMost_24 rfl ?_
          refine X_iald i dX11_firstOfMost_25 (k_85 hSh) rfl (by omega) ?_
          rw [(hf i hi)]
          refine X_aload_n dX11_firstOfMost_26 rfl ?_
          refine X_getr (a := 85) dX11_firstOfMost_27 fkX11_98 rfl (k_0 hSh) (r_0_14 hSh) ?_
          refine X_iload_n dX11_firstOfMost_30 rfl ?_
          refine X_iald q dX11_firstOfMost_31 (k_85 hSh) rfl (by omega) ?_
          rw [(hf q (by omega))]
          refine X_icmp_leN (a := f i) (b := f q) 37 dX11_firstOfMost_32 (by decide) (by omega) (by omega) (fun h_5 => ?_) (fun h_5 => ?_)
          · refine X_iinc (v := nI (i + 1)) dX11_firstOfMost_37 rfl (nI_1 _) (by decide) ?_
            refine X_goto 4 dX11_firstOfMost_40 (by decide) ?_
            refine X_L [(2, .int (nI (i + 1))), (1, .int (nI q)), (0, .ref 0)] ⟨rfl, rfl, rfl, trivial⟩ ?_
            refine X_L [(2, .int (nI (i + 1))), (1, .int (oI (fmN f (i + 1)))), (0, .ref 0)] ⟨rfl, by rw [(fm_s hq).trans (if_neg (by omega))]; rfl, rfl, trivial⟩ ?_
            exact hn () trivial
          · refine X_iload_n dX11_firstOfMost_35 rfl ?_
            refine X_istore_n dX11_firstOfMost_36 (by decide) ?_
            refine X_iinc (v := nI (i + 1)) dX11_firstOfMost_37 rfl (nI_1 _) (by decide) ?_
            refine X_goto 4 dX11_firstOfMost_40 (by decide) ?_
            refine X_L [(2, .int (nI (i + 1))), (1, .int (nI i)), (0, .ref 0)] ⟨rfl, rfl, rfl, trivial⟩ ?_
            refine X_L [(2, .int (nI (i + 1))), (1, .int (oI (fmN f (i + 1)))), (0, .ref 0)] ⟨rfl, by rw [(fm_s hq).trans (if_pos (by omega))]; rfl, rfl, trivial⟩ ?_
            exact hn () trivial
  · intro u hI
    refine X_iload_n dX11_firstOfMost_4 rfl ?_
    refine X_aload_n dX11_firstOfMost_5 rfl ?_
    refine X_getr (a := 3) dX11_firstOfMost_6 fkX11_25 rfl (k_0 hSh) (r_0_2 hSh) ?_
    refine X_geti dX11_firstOfMost_9 fkX11_144 rfl (k_3 hSh) ?_
    rw [hG]
    refine X_icmp_geN (a := nG) (b := nG) 43 dX11_firstOfMost_12 (by decide) (by omega) (by omega) (fun h_6 => ?_) (fun h_6 => ?_)
    · refine X_iload_n dX11_firstOfMost_43 rfl ?_
      exact X_iret dX11_firstOfMost_44 rfl ⟨by rfl, rfl, rfl, rfl⟩
    · exact absurd h_6 (by omega)
theorem c_nmK (Γ : pTG) (g : pGG) (mi : pMI) (ml : pML) (A : AS) (hA : okAS A) (hC : CI A g mi ml) (cm : Nat → Nat) (D : DS) (hcd : CDY mi 67 (aP A) cm D) (hcm : ∀ b, b < aG A → cm b < 24) (d : Nat) : rV Γ 4 mX6_nextMorning [.ref 17, .ref 67, .ref 28, .int (nI d), .ref 84] g mi ml (fun m l => CI A g m l ∧ (∀ b, b < aG A → m 84 b = nI (nxN (aP A) (aH A) id cm D d b)) ∧ m 85 = mi 85 ∧ frK mi m ∧ l = ml) := by
  have hSh := CI_Sh hC
  have hcl := CI_cl hC
  have hG8 : aG A ≤ 8 := hA.1.2.1
  obtain ⟨r, hr⟩ := CI_r hC
  have hD := CIr_D hr
  have hw : ∀ b, b < aG A → mi 28 b = nI (id b) ∧ id b < 8 := fun b hb => hD.2.2.2.1 b (by omega)
  refine rV_w (rV_c (c_nextMorning Γ g mi ml hSh 67 (shC_67 hSh) (aG A) hcl.2.1 hG8 cm (fun b hb => ⟨(hcd.1 b hb).1, hcm b hb⟩) (by omega) 28 84 (k_28 hSh) (k_84 hSh) (by omega) id hw (aH A) hA.2.1 hD.2.1 (nI d))) (fun m l hm => ?_)
  obtain ⟨rfl, rfl⟩ := hm
  obtain ⟨h1, _, _, _, _, _, h2⟩ := nm_res (t := 67) (w := 28) (hv := 84) (d := d) hA.1 hA.2.1 hcl hcd hw (by omega) (by omega) (aG A) (Nat.le_refl _)
  refine ⟨CI_fr hC ⟨fun i a1 a2 a3 a4 a5 a6 => h1.1 i (by rintro rfl; exact a2 (by unfold scR; omega)) (by rintro rfl; exact a2 (by unfold scR; omega)) a3 (by rintro rfl; exact a2 (by unfold scR; omega)), h1.2, by rw [h1.1 2 (by omega) (by omega) (by omega) (by omega)], by rw [h1.1 47 (by omega) (by omega) (by omega) (by omega)], by rw [h1.1 67 (by omega) (by omega) (by omega) (by omega)]⟩ rfl, h2, h1.1 85 (by omega) (by omega) (by omega) (by omega), fun i a1 a2 => h1.1 i (by omega) (by omega) (by omega) (by omega), rfl⟩
theorem fr85_S {m y : pMI} (h : ∀ a, a ≠ 85 → y a = m a) : frS m y := ⟨fun i h1 h2 h3 h4 h5 h6 => h i (by rintro rfl; exact h2 (by unfold scR; omega)), fun j hj => by rw [h 17 (by omega)], by rw [h 2 (by omega)], by rw [h 47 (by omega)], by rw [h 67 (by omega)]⟩
theorem tl_s {A : AS} {s x : Int32} {i b : Nat} {v w : Int32} (hb : b < aG A) (hG : aG A ≤ 8) (hv : v = nI (smT A s i b)) (hx : x = mkN (seaB (smD A s i)) (aG A)) (hw : w = v + bI (bt x b)) : w = nI (smT A s (i + 1) b) := by
  rw [hw, hv, hx, bt_mkN _ (by omega) _ (by omega), decide_eq_true hb, Bool.true_and, smT_s, ← nI_add]
  cases seaB (smD A s i) b <;> rfl
set_option maxRecDepth 100000 in
set_option maxHeartbeats 4000000 in
theorem k_summer_f0 (Γ : pTG) (g : pGG) (mi : pMI) (ml : pML) (A : AS) (hA : okAS A) (hC : CI A g mi ml) (w : Int32) (hf : ¬ (nI 1 ≤ w ∧ w ≤ nI 60)) (s : Int32) (q : Int32) : CT Γ 60 20 5000 mX11_summer [.ref 0, .int s, .int w, .int q] g mi ml (CQ (rfA A 1) (.inr 1) mi ml) := by
  refine CT_of (by decide +kernel) (Nat.le_of_ble_eq_true rfl) ?_
  have hSh := CI_Sh hC
  have hcl := CI_cl hC
  have hP := hA.1
  have hG8 : aG A ≤ 8 := hP.2.1
  have hC8 : (aP A).1 ≤ 8 := hP.1
  refine X_aload_n dX11_summer_0 rfl ?_
  refine X_iload_n dX11_summer_1 rfl ?_
  refine X_iconst (v := nI 1) dX11_summer_2 (by decide) ?_
  refine X_bipush (v := nI 60) dX11_summer_3 (by decide) ?_
  exact X_need dX11_summer_5 mkX11_116 (k_0 hSh) (c_needWithin Γ g mi ml hSh w (nI 1) (nI 60)) rfl rfl (by decide) (by decide) (by decide) (by decide) (fun _ => ⟨rfl, CI_rf (by decide) hC, frK_86, rfl⟩) (fun h => absurd h hf)
set_option maxRecDepth 100000 in
set_option maxHeartbeats 4000000 in
theorem r_summer_f0 (Γ : pTG) (g : pGG) (mi : pMI) (ml : pML) (A : AS) (hA : okAS A) (hSh : Sh g) (hR : RI A mi) (w : Int32) (hf : ¬ (nI 1 ≤ w ∧ w ≤ nI 60)) (s : Int32) (q : Int32) : CT Γ 60 0 0 mX12_summer [.ref 87, .int s, .int w, .int q] g mi ml (RQ (rfA A 1) (.inr 1) cd1 g mi ml) := by
  refine CT_of (by decide +kernel) (Nat.le_of_ble_eq_true rfl) ?_
  have hP := hA.1
  have hG8 : aG A ≤ 8 := hP.2.1
  have hC8 : (aP A).1 ≤ 8 := hP.1
  refine X_aload_n dX12_summer_0 rfl ?_
  refine X_iconst (v := nI 0) dX12_summer_1 (by decide) ?_
  refine X_puti dX12_summer_2 fkX12_158 rfl rfl (k_87 hSh) ?_
  refine X_aload_n dX12_summer_5 rfl ?_
  refine X_iload_n dX12_summer_6 rfl ?_
  refine X_iconst (v := nI 1) dX12_summer_7 (by decide) ?_
  refine X_bipush (v := nI 60) dX12_summer_8 (by decide) ?_
  refine X_callSI dX12_summer_10 mkX12_192 (c_in Γ g (up2 mi 87 0 (nI 0)) ml w (nI 1) (nI 60)) rfl rfl (by decide) (Nat.le_of_ble_eq_true rfl) ?_
  refine X_topi (show bI (decide (nI 1 ≤ w) && decide (w ≤ nI 60)) = nI 0 from congrArg bI (show (decide (nI 1 ≤ w) && decide (w ≤ nI 60)) = false from Bool.eq_false_iff.mpr (fun q => hf (by rw [Bool.and_eq_true, decide_eq_true_eq, decide_eq_true_eq] at q; exact q)))) ?_
  refine X_if_eqN (a := 0) 25 dX12_summer_13 (by decide) (by omega) (fun h_1 => ?_) (fun h_1 => ?_)
  · refine X_iconst (v := nI 1) dX12_summer_25 (by decide) ?_
    refine X_goto 30 dX12_summer_26 (by decide) ?_
    refine X_iconst (v := nI 1) dX12_summer_30 (by decide) ?_
    refine X_iconst (v := nI 1) dX12_summer_31 (by decide) ?_
    refine X_callVI dX12_summer_32 mkX12_228 (k_87 hSh) (c_bad1 Γ g (up2 mi 87 0 (nI 0)) ml hSh 1 1 (by decide) (by decide) (by decide) up2_s) rfl rfl (by decide) (Nat.le_of_ble_eq_true rfl) ?_
    refine X_mi (show _ = mB mi 1 1 from rfl) ?_
    refine X_if_eqN (a := 1) 40 dX12_summer_35 (by decide) (by omega) (fun h_2 => ?_) (fun h_2 => ?_)
    · exact absurd h_2 (by omega)
    · refine X_iconst (v := nI 0) dX12_summer_38 (by decide) ?_
      exact X_iret dX12_summer_39 rfl ⟨rfl, rfl, RI_rf hA (by decide) hR, fr2_B, _, rfl, mB_0⟩
  · exact absurd h_1 (by omega)
set_option maxRecDepth 100000 in
set_option maxHeartbeats 4000000 in
theorem k_summer_f1 (Γ : pTG) (g : pGG) (mi : pMI) (ml : pML) (A : AS) (hA : okAS A) (hC : CI A g mi ml) (k : Nat) (hka : 1 ≤ k) (hk : k ≤ 60) (q : Int32) (hf : ¬ (nI 0 ≤ q ∧ q ≤ nI 3)) (s : Int32) : CT Γ 60 20 5000 mX11_summer [.ref 0, .int s, .int (nI k), .int q] g mi ml (CQ (rfA A 1) (.inr 1) mi ml) := by
  refine CT_of (by decide +kernel) (Nat.le_of_ble_eq_true rfl) ?_
  have hSh := CI_Sh hC
  have hcl := CI_cl hC
  have hP := hA.1
  have hG8 : aG A ≤ 8 := hP.2.1
  have hC8 : (aP A).1 ≤ 8 := hP.1
  refine X_aload_n dX11_summer_0 rfl ?_
  refine X_iload_n dX11_summer_1 rfl ?_
  refine X_iconst (v := nI 1) dX11_summer_2 (by decide) ?_
  refine X_bipush (v := nI 60) dX11_summer_3 (by decide) ?_
  refine X_need dX11_summer_5 mkX11_116 (k_0 hSh) (c_needWithin Γ g mi ml hSh (nI k) (nI 1) (nI 60)) rfl rfl (by decide) (by decide) (by decide) (by decide) (fun h => absurd (⟨nI_le (by omega) (by omega), nI_le (by omega) (by omega)⟩) h) (fun _ => ?_)
  refine X_aload_n dX11_summer_8 rfl ?_
  refine X_iload_n dX11_summer_9 rfl ?_
  refine X_iconst (v := nI 0) dX11_summer_10 (by decide) ?_
  refine X_iconst (v := nI 3) dX11_summer_11 (by decide) ?_
  exact X_need dX11_summer_12 mkX11_116 (k_0 hSh) (c_needWithin Γ g mi ml hSh q (nI 0) (nI 3)) rfl rfl (by decide) (by decide) (by decide) (by decide) (fun _ => ⟨rfl, CI_rf (by decide) hC, frK_86, rfl⟩) (fun h => absurd h hf)
set_option maxRecDepth 100000 in
set_option maxHeartbeats 4000000 in
theorem r_summer_f1 (Γ : pTG) (g : pGG) (mi : pMI) (ml : pML) (A : AS) (hA : okAS A) (hSh : Sh g) (hR : RI A mi) (k : Nat) (hka : 1 ≤ k) (hk : k ≤ 60) (q : Int32) (hf : ¬ (nI 0 ≤ q ∧ q ≤ nI 3)) (s : Int32) : CT Γ 60 0 0 mX12_summer [.ref 87, .int s, .int (nI k), .int q] g mi ml (RQ (rfA A 1) (.inr 1) cd1 g mi ml) := by
  refine CT_of (by decide +kernel) (Nat.le_of_ble_eq_true rfl) ?_
  have hP := hA.1
  have hG8 : aG A ≤ 8 := hP.2.1
  have hC8 : (aP A).1 ≤ 8 := hP.1
  refine X_aload_n dX12_summer_0 rfl ?_
  refine X_iconst (v := nI 0) dX12_summer_1 (by decide) ?_
  refine X_puti dX12_summer_2 fkX12_158 rfl rfl (k_87 hSh) ?_
  refine X_aload_n dX12_summer_5 rfl ?_
  refine X_iload_n dX12_summer_6 rfl ?_
  refine X_iconst (v := nI 1) dX12_summer_7 (by decide) ?_
  refine X_bipush (v := nI 60) dX12_summer_8 (by decide) ?_
  refine X_callSI dX12_summer_10 mkX12_192 (c_in Γ g (up2 mi 87 0 (nI 0)) ml (nI k) (nI 1) (nI 60)) rfl rfl (by decide) (Nat.le_of_ble_eq_true rfl) ?_
  refine X_topi (show bI (decide (nI 1 ≤ nI k) && decide (nI k ≤ nI 60)) = nI 1 from congrArg bI (show (decide (nI 1 ≤ nI k) && decide (nI k ≤ nI 60)) = true from by rw [decide_eq_true (nI_le (by omega) (by omega)), decide_eq_true (nI_le (by omega) (by omega))]; rfl)) ?_
  refine X_if_eqN (a := 1) 25 dX12_summer_13 (by decide) (by omega) (fun h_1 => ?_) (fun h_1 => ?_)
  · exact absurd h_1 (by omega)
  · refine X_iload_n dX12_summer_16 rfl ?_
    refine X_iconst (v := nI 0) dX12_summer_17 (by decide) ?_
    refine X_iconst (v := nI 3) dX12_summer_18 (by decide) ?_
    refine X_callSI dX12_summer_19 mkX12_192 (c_in Γ g (up2 mi 87 0 (nI 0)) ml q (nI 0) (nI 3)) rfl rfl (by decide) (Nat.le_of_ble_eq_true rfl) ?_
    refine X_topi (show bI (decide (nI 0 ≤ q) && decide (q ≤ nI 3)) = nI 0 from congrArg bI (show (decide (nI 0 ≤ q) && decide (q ≤ nI 3)) = false from Bool.eq_false_iff.mpr (fun q => hf (by rw [Bool.and_eq_true, decide_eq_true_eq, decide_eq_true_eq] at q; exact q)))) ?_
    refine X_if_neN (a := 0) 29 dX12_summer_22 (by decide) (by omega) (fun h_2 => ?_) (fun h_2 => ?_)
    · exact absurd h_2 (by omega)
    · refine X_iconst (v := nI 1) dX12_summer_25 (by decide) ?_
      refine X_goto 30 dX12_summer_26 (by decide) ?_
      refine X_iconst (v := nI 1) dX12_summer_30 (by decide) ?_
      refine X_iconst (v := nI 1) dX12_summer_31 (by decide) ?_
      refine X_callVI dX12_summer_32 mkX12_228 (k_87 hSh) (c_bad1 Γ g (up2 mi 87 0 (nI 0)) ml hSh 1 1 (by decide) (by decide) (by decide) up2_s) rfl rfl (by decide) (Nat.le_of_ble_eq_true rfl) ?_
      refine X_mi (show _ = mB mi 1 1 from rfl) ?_
      refine X_if_eqN (a := 1) 40 dX12_summer_35 (by decide) (by omega) (fun h_3 => ?_) (fun h_3 => ?_)
      · exact absurd h_3 (by omega)
      · refine X_iconst (v := nI 0) dX12_summer_38 (by decide) ?_
        exact X_iret dX12_summer_39 rfl ⟨rfl, rfl, RI_rf hA (by decide) hR, fr2_B, _, rfl, mB_0⟩
set_option maxRecDepth 100000 in
set_option maxHeartbeats 4000000 in
theorem k_summer_0 (Γ : pTG) (g : pGG) (mi : pMI) (ml : pML) (A : AS) (hA : okAS A) (hC : CI A g mi ml) (k : Nat) (hka : 1 ≤ k) (hk : k ≤ 60)  (s : Int32) : CT Γ 60 20 5000 mX11_summer [.ref 0, .int s, .int (nI k), .int (nI 0)] g mi ml (CQ A (.inl (sumN (smG A s) k)) mi ml) := by
  refine CT_of (by decide +kernel) (Nat.le_of_ble_eq_true rfl) ?_
  have hSh := CI_Sh hC
  have hcl := CI_cl hC
  have hP := hA.1
  have hG8 : aG A ≤ 8 := hP.2.1
  have hC8 : (aP A).1 ≤ 8 := hP.1
  refine X_aload_n dX11_summer_0 rfl ?_
  refine X_iload_n dX11_summer_1 rfl ?_
  refine X_iconst (v := nI 1) dX11_summer_2 (by decide) ?_
  refine X_bipush (v := nI 60) dX11_summer_3 (by decide) ?_
  refine X_need dX11_summer_5 mkX11_116 (k_0 hSh) (c_needWithin Γ g mi ml hSh (nI k) (nI 1) (nI 60)) rfl rfl (by decide) (by decide) (by decide) (by decide) (fun h => absurd (⟨nI_le (by omega) (by omega), nI_le (by omega) (by omega)⟩) h) (fun _ => ?_)
  refine X_aload_n dX11_summer_8 rfl ?_
  refine X_iload_n dX11_summer_9 rfl ?_
  refine X_iconst (v := nI 0) dX11_summer_10 (by decide) ?_
  refine X_iconst (v := nI 3) dX11_summer_11 (by decide) ?_
  refine X_need dX11_summer_12 mkX11_116 (k_0 hSh) (c_needWithin Γ g mi ml hSh (nI 0) (nI 0) (nI 3)) rfl rfl (by decide) (by decide) (by decide) (by decide) (fun h => absurd (by decide) h) (fun _ => ?_)
  refine X_aload_n dX11_summer_15 rfl ?_
  refine X_callVV dX11_summer_16 mkX11_326 (k_0 hSh) (c_clearTally Γ g mi ml hSh) rfl rfl (by decide) (Nat.le_of_ble_eq_true rfl) ?_
  refine X_iload_n dX11_summer_19 rfl ?_
  refine X_istore dX11_summer_20 (by decide) ?_
  refine X_iconst (v := nI 0) dX11_summer_22 (by decide) ?_
  refine X_istore dX11_summer_23 (by decide) ?_
  refine X_iconst (v := nI 0) dX11_summer_25 (by decide) ?_
  refine X_istore dX11_summer_26 (by decide) ?_
  refine X_iconst (v := nI 0) dX11_summer_28 (by decide) ?_
  refine X_istore dX11_summer_29 (by decide) ?_
  refine X_L [(7, .int (nI 0)), (6, .int (nI 0)), (5, .int (nI 0)), (4, .int s), (0, .ref 0), (1, .int s), (2, .int (nI k)), (3, .int (nI 0))] ⟨rfl, rfl, rfl, rfl, rfl, rfl, rfl, rfl, trivial⟩ ?_
  refine X_L [(7, .int (nI (0))), (6, .int (sumN (smI A s) (0))), (5, .int (sumN (smG A s) (0))), (4, .int (smS A s (0)).1), (0, .ref 0), (1, .int s), (2, .int (nI k)), (3, .int (nI 0))] ⟨rfl, rfl, rfl, rfl, rfl, rfl, rfl, rfl, trivial⟩ ?_
  refine X_forR (σ := pMI) 31 (fun i y => [(7, .int (nI (i))), (6, .int (sumN (smI A s) (i))), (5, .int (sumN (smG A s) (i))), (4, .int (smS A s (i)).1), (0, .ref 0), (1, .int s), (2, .int (nI k)), (3, .int (nI 0))]) (fun y => y) (fun y => ml) (fun i y => CI A g y ml ∧ (∀ b, b < aG A → y 85 b = nI (smT A s i b)) ∧ (0 < i → CDY y 67 (aP A) (smS A s (i - 1)).2 (smD A s (i - 1))) ∧ frK mi y) k ?_ ?_ k 0 (fillR mi 85 8 (fun _ => nI 0)) (by omega) ⟨CI_fr hC (fill_S (by unfold scR; omega)) rfl, fun b hb => fill_at (by omega), fun h => absurd h (by omega), fill_K (by omega)⟩
  · intro i y hi hI hn
    obtain ⟨hyC, hyT, hyD, hyK⟩ := hI
    have key : ∀ u0 : pMI, CI A g u0 ml → (∀ b, b < aG A → u0 84 b = nI ((smS A s i).2 b)) → u0 85 = y 85 → frK mi u0 → XW Γ 60 (20 - 1 - 1) (5000 - 6 - 6) mX11_summer 80 [(7, .int (nI (i))), (6, .int (sumN (smI A s) (i))), (5, .int (sumN (smG A s) (i))), (4, .int (smS A s (i)).1), (0, .ref 0), (1, .int s), (2, .int (nI k)), (3, .int (nI 0))] [] g u0 ml (CQ A (.inl (sumN (smG A s) k)) mi ml) := by
      intro u0 h0C h0c h0T h0K
      refine X_aload_n dX11_summer_80 rfl ?_
      refine X_getr (a := 67) dX11_summer_81 fkX11_76 rfl (k_0 hSh) (r_0_10 hSh) ?_
      refine X_iload dX11_summer_84 rfl ?_
      refine X_callVrI dX11_summer_86 mkX11_332 (k_67 hSh) (c_lotK Γ g u0 ml A hA h0C (smS A s i).1) rfl rfl (by decide) (Nat.le_of_ble_eq_true rfl) (fun v3 m3 l3 hm3 => ?_)
      obtain ⟨hv3, hC3, ho3, he3, hl3⟩ := hm3
      rw [hl3] at hC3 ⊢
      refine X_istore dX11_summer_89 (by decide) ?_
      refine X_aload_n dX11_summer_91 rfl ?_
      refine X_getr (a := 67) dX11_summer_92 fkX11_76 rfl (k_0 hSh) (r_0_10 hSh) ?_
      refine X_aload_n dX11_summer_95 rfl ?_
      refine X_getr (a := 84) dX11_summer_96 fkX11_95 rfl (k_0 hSh) (r_0_13 hSh) ?_
      refine X_aload_n dX11_summer_99 rfl ?_
      refine X_getr (a := 3) dX11_summer_100 fkX11_25 rfl (k_0 hSh) (r_0_2 hSh) ?_
      refine X_geti dX11_summer_103 fkX11_178 rfl (k_3 hSh) ?_
      rw [(CI_cl hC3).2.2.2.1]
      refine X_callVrV dX11_summer_106 mkX11_303 (k_67 hSh) (c_tryK Γ g m3 ml A hA hC3 (smS A s i).2 (lDw A (smS A s i).1).2.2 (lDw A (smS A s i).1).2.1 (aP A).2.2.2.1 (lDw_ok hA _) (fun b hb => ⟨(congrFun (he3 84 (by omega)) b).trans (h0c b hb), sm_lt hA hb i⟩) ho3 ⟨hA.1.2.2.2.1, hA.1.2.2.2.2.1⟩) rfl rfl (by decide) (Nat.le_of_ble_eq_true rfl) (fun u1 ul hu1 => ?_)
      obtain ⟨huC, hcd, huT, hul⟩ := hu1
      rw [hul] at huC ⊢
      have hcd : CDY u1 67 (aP A) (smS A s i).2 (smD A s i) := hcd
      refine X_iload dX11_summer_109 rfl ?_
      refine X_aload_n dX11_summer_111 rfl ?_
      refine X_getr (a := 67) dX11_summer_112 fkX11_76 rfl (k_0 hSh) (r_0_10 hSh) ?_
      refine X_iconst (v := nI 3) dX11_summer_115 (by decide) ?_
      refine X_callVI dX11_summer_116 mkX11_224 (k_67 hSh) (c_total Γ g u1 ml hSh 67 (shC_67 hSh) (aG A) (CI_cl huC).2.1 hG8 3 (by decide)) rfl rfl (by decide) (Nat.le_of_ble_eq_true rfl) ?_
      refine X_topi (show _ = smG A s i from sumN_eq _ (fun b hb => (hcd.1 b hb).2.2.2.1)) ?_
      refine X_iadd dX11_summer_119 ?_
      refine X_istore dX11_summer_120 (by decide) ?_
      refine X_iload dX11_summer_122 rfl ?_
      refine X_aload_n dX11_summer_124 rfl ?_
      refine X_getr (a := 67) dX11_summer_125 fkX11_76 rfl (k_0 hSh) (r_0_10 hSh) ?_
      refine X_callVI dX11_summer_128 mkX11_228 (k_67 hSh) (c_idle Γ g u1 ml hSh 67 (shC_67 hSh) (aP A).1 (CI_cl huC).1 hC8) rfl rfl (by decide) (Nat.le_of_ble_eq_true rfl) ?_
      refine X_topi (show _ = smI A s i from sumN_eq _ (fun c hc => (hcd.2.1 c hc).2.1)) ?_
      refine X_iadd dX11_summer_131 ?_
      refine X_istore dX11_summer_132 (by decide) ?_
      refine X_aload_n dX11_summer_134 rfl ?_
      refine X_aload_n dX11_summer_135 rfl ?_
      refine X_getr (a := 67) dX11_summer_136 fkX11_76 rfl (k_0 hSh) (r_0_10 hSh) ?_
      refine X_callVI dX11_summer_139 mkX11_235 (k_67 hSh) (c_seated Γ g u1 ml hSh 67 (shC_67 hSh) (aG A) (CI_cl huC).2.1 hG8) rfl rfl (by decide) (Nat.le_of_ble_eq_true rfl) ?_
      refine X_topi (sea_m hcd) ?_
      refine X_callVrV dX11_summer_142 mkX11_345 (k_0 hSh) (c_tallyS Γ g u1 ml hSh (mkN (seaB (smD A s i)) (aG A))) rfl rfl (by decide) (Nat.le_of_ble_eq_true rfl) (fun t1 tl ht1 => ?_)
      obtain ⟨htT, htF, htl⟩ := ht1
      rw [htl]
      refine X_iinc (v := nI (i + 1)) dX11_summer_145 rfl (nI_1 _) (by decide) ?_
      refine X_goto 31 dX11_summer_148 (by decide) ?_
      refine X_L [(7, .int (nI (i + 1))), (6, .int ((sumN (smI A s) i) + (smI A s i))), (5, .int ((sumN (smG A s) i) + (smG A s i))), (4, .int v3), (0, .ref 0), (1, .int s), (2, .int (nI k)), (3, .int (nI 0))] ⟨rfl, rfl, rfl, rfl, rfl, rfl, rfl, rfl, trivial⟩ ?_
      refine X_L [(7, .int (nI (i + 1))), (6, .int (sumN (smI A s) (i + 1))), (5, .int (sumN (smG A s) (i + 1))), (4, .int (smS A s (i + 1)).1), (0, .ref 0), (1, .int s), (2, .int (nI k)), (3, .int (nI 0))] ⟨rfl, rfl, rfl, by rw [hv3]; rfl, rfl, rfl, rfl, rfl, trivial⟩ ?_
      refine hn t1 ⟨CI_fr huC (fr85_S htF) rfl, fun b hb => tl_s hb hG8 ?_ rfl (htT b (by omega)), fun _ => cdy_row (htF 68 (by omega)) (htF 69 (by omega)) (by rw [htF 67 (by omega)]) (htF 75 (by omega)) (htF 76 (by omega)) hcd, frK_t h0K (frK_t (fun i h1 h2 => he3 i (by omega)) (frK_t (frT_K (Or.inr rfl) huT) (fun i h1 h2 => htF i (by omega))))⟩
      rw [frT_row huT (by omega), he3 85 (by omega), h0T]; exact hyT b hb
    by_cases h00 : i = 0
    · subst h00
      refine X_iload dX11_summer_31 rfl ?_
      refine X_iload_n dX11_summer_33 rfl ?_
      refine X_icmp_geN (a := 0) (b := k) 151 dX11_summer_34 (by decide) (by omega) (by omega) (fun h_1 => ?_) (fun h_1 => ?_)
      · exact absurd h_1 (by omega)
      · refine X_iload dX11_summer_37 rfl ?_
        refine X_if_neN (a := 0) 56 dX11_summer_39 (by decide) (by omega) (fun h_2 => ?_) (fun h_2 => ?_)
        · exact absurd h_2 (by omega)
        · refine X_aload_n dX11_summer_42 rfl ?_
          refine X_getr (a := 3) dX11_summer_43 fkX11_25 rfl (k_0 hSh) (r_0_2 hSh) ?_
          refine X_aload_n dX11_summer_46 rfl ?_
          refine X_getr (a := 84) dX11_summer_47 fkX11_95 rfl (k_0 hSh) (r_0_13 hSh) ?_
          refine X_callVV dX11_summer_50 mkX11_335 (k_3 hSh) (c_tellWaking Γ g y ml hSh 84 (k_84 hSh)) rfl rfl (by decide) (Nat.le_of_ble_eq_true rfl) ?_
          have hE : ∀ a, a ≠ 84 → (fun i j => if i = 84 then va_cpy (y 6) (y 84) 0 0 8 j else y i j) a = y a := fun a ha => by funext j; exact if_neg ha
          refine X_goto 80 dX11_summer_53 (by decide) ?_
          refine X_L [(7, .int (nI 0)), (6, .int (sumN (smI A s) 0)), (5, .int (sumN (smG A s) 0)), (4, .int ((smS A s 0).1)), (0, .ref 0), (1, .int s), (2, .int (nI k)), (3, .int (nI 0))] ⟨rfl, rfl, rfl, rfl, rfl, rfl, rfl, rfl, trivial⟩ ?_
          exact key _ (CI_fr hyC (dg_S hE) rfl) (fun b hb => ((if_pos rfl).trans (cpy_in (by omega))).trans (((CI_cl hyC).2.2.2.2.2.2 b hb).1.trans (congrArg nI (pU_e hb).symm))) (hE 85 (by omega)) (frK_t hyK (dg_K hE))
    · obtain ⟨j, rfl⟩ : ∃ j, i = j + 1 := ⟨i - 1, by omega⟩
      refine X_iload dX11_summer_31 rfl ?_
      refine X_iload_n dX11_summer_33 rfl ?_
      refine X_icmp_geN (a := j + 1) (b := k) 151 dX11_summer_34 (by decide) (by omega) (by omega) (fun h_3 => ?_) (fun h_3 => ?_)
      · exact absurd h_3 (by omega)
      · refine X_iload dX11_summer_37 rfl ?_
        refine X_if_neN (a := j + 1) 56 dX11_summer_39 (by decide) (by omega) (fun h_4 => ?_) (fun h_4 => ?_)
        · refine X_aload_n dX11_summer_56 rfl ?_
          refine X_getr (a := 17) dX11_summer_57 fkX11_35 rfl (k_0 hSh) (r_0_4 hSh) ?_
          refine X_aload_n dX11_summer_60 rfl ?_
          refine X_getr (a := 67) dX11_summer_61 fkX11_76 rfl (k_0 hSh) (r_0_10 hSh) ?_
          refine X_aload_n dX11_summer_64 rfl ?_
          refine X_getr (a := 27) dX11_summer_65 fkX11_60 rfl (k_0 hSh) (r_0_7 hSh) ?_
          refine X_getr (a := 28) dX11_summer_68 fkX11_338 rfl (k_27 hSh) (r_27_3 hSh) ?_
          refine X_iload dX11_summer_71 rfl ?_
          refine X_aload_n dX11_summer_73 rfl ?_
          refine X_getr (a := 84) dX11_summer_74 fkX11_95 rfl (k_0 hSh) (r_0_13 hSh) ?_
          refine X_callVrV dX11_summer_77 mkX11_341 (k_17 hSh) (c_nmK Γ g y ml A hA hyC (smS A s j).2 (smD A s j) (hyD (by omega)) (fun b hb => sm_lt hA hb j) (j + 1)) rfl rfl (by decide) (Nat.le_of_ble_eq_true rfl) (fun n1 nl hn1 => ?_)
          obtain ⟨hnC, hnc, hnT, hnK, hnl⟩ := hn1
          rw [hnl] at hnC ⊢
          refine X_L [(7, .int (nI (j + 1))), (6, .int (sumN (smI A s) (j + 1))), (5, .int (sumN (smG A s) (j + 1))), (4, .int ((smS A s (j + 1)).1)), (0, .ref 0), (1, .int s), (2, .int (nI k)), (3, .int (nI 0))] ⟨rfl, rfl, rfl, rfl, rfl, rfl, rfl, rfl, trivial⟩ ?_
          exact key _ hnC hnc hnT (frK_t hyK hnK)
        · exact absurd h_4 h00
  · intro y hI
    obtain ⟨hyC, hyT, hyD, hyK⟩ := hI
    refine X_iload dX11_summer_31 rfl ?_
    refine X_iload_n dX11_summer_33 rfl ?_
    refine X_icmp_geN (a := k) (b := k) 151 dX11_summer_34 (by decide) (by omega) (by omega) (fun h_5 => ?_) (fun h_5 => ?_)
    · refine X_iload_n dX11_summer_151 rfl ?_
      refine X_tableIn 180 dX11_summer_152 (by decide) (by decide) rfl (by decide) ?_
      refine X_iload dX11_summer_180 rfl ?_
      exact X_iret dX11_summer_182 rfl ⟨rfl, hyC, hyK, rfl⟩
    · exact absurd h_5 (by omega)
set_option maxRecDepth 100000 in
set_option maxHeartbeats 4000000 in
theorem r_summer_0 (Γ : pTG) (g : pGG) (mi : pMI) (ml : pML) (A : AS) (hA : okAS A) (hSh : Sh g) (hR : RI A mi) (k : Nat) (hka : 1 ≤ k) (hk : k ≤ 60)  (s : Int32) : CT Γ 60 0 0 mX12_summer [.ref 87, .int s, .int (nI k), .int (nI 0)] g mi ml (RQ A (.inl (sumN (smG A s) k)) cd1 g mi ml) := by
  refine CT_of (by decide +kernel) (Nat.le_of_ble_eq_true rfl) ?_
  have hP := hA.1
  have hG8 : aG A ≤ 8 := hP.2.1
  have hC8 : (aP A).1 ≤ 8 := hP.1
  refine X_aload_n dX12_summer_0 rfl ?_
  refine X_iconst (v := nI 0) dX12_summer_1 (by decide) ?_
  refine X_puti dX12_summer_2 fkX12_158 rfl rfl (k_87 hSh) ?_
  refine X_aload_n dX12_summer_5 rfl ?_
  refine X_iload_n dX12_summer_6 rfl ?_
  refine X_iconst (v := nI 1) dX12_summer_7 (by decide) ?_
  refine X_bipush (v := nI 60) dX12_summer_8 (by decide) ?_
  refine X_callSI dX12_summer_10 mkX12_192 (c_in Γ g (up2 mi 87 0 (nI 0)) ml (nI k) (nI 1) (nI 60)) rfl rfl (by decide) (Nat.le_of_ble_eq_true rfl) ?_
  refine X_topi (show bI (decide (nI 1 ≤ nI k) && decide (nI k ≤ nI 60)) = nI 1 from congrArg bI (show (decide (nI 1 ≤ nI k) && decide (nI k ≤ nI 60)) = true from by rw [decide_eq_true (nI_le (by omega) (by omega)), decide_eq_true (nI_le (by omega) (by omega))]; rfl)) ?_
  refine X_if_eqN (a := 1) 25 dX12_summer_13 (by decide) (by omega) (fun h_1 => ?_) (fun h_1 => ?_)
  · exact absurd h_1 (by omega)
  · refine X_iload_n dX12_summer_16 rfl ?_
    refine X_iconst (v := nI 0) dX12_summer_17 (by decide) ?_
    refine X_iconst (v := nI 3) dX12_summer_18 (by decide) ?_
    refine X_callSI dX12_summer_19 mkX12_192 (c_in Γ g (up2 mi 87 0 (nI 0)) ml (nI 0) (nI 0) (nI 3)) rfl rfl (by decide) (Nat.le_of_ble_eq_true rfl) ?_
    refine X_topi (show bI (decide (nI 0 ≤ nI 0) && decide (nI 0 ≤ nI 3)) = nI 1 from congrArg bI (show (decide (nI 0 ≤ nI 0) && decide (nI 0 ≤ nI 3)) = true from by decide)) ?_
    refine X_if_neN (a := 1) 29 dX12_summer_22 (by decide) (by omega) (fun h_2 => ?_) (fun h_2 => ?_)
    · refine X_iconst (v := nI 0) dX12_summer_29 (by decide) ?_
      refine X_iconst (v := nI 1) dX12_summer_30 (by decide) ?_
      refine X_iconst (v := nI 1) dX12_summer_31 (by decide) ?_
      refine X_callVI dX12_summer_32 mkX12_228 (k_87 hSh) (c_bad0 Γ g (up2 mi 87 0 (nI 0)) ml hSh 1 1 up2_s) rfl rfl (by decide) (Nat.le_of_ble_eq_true rfl) ?_
      refine X_if_eqN (a := 0) 40 dX12_summer_35 (by decide) (by omega) (fun h_3 => ?_) (fun h_3 => ?_)
      · refine X_iconst (v := nI 0) dX12_summer_40 (by decide) ?_
        refine X_istore dX12_summer_41 (by decide) ?_
        refine X_iconst (v := nI 0) dX12_summer_43 (by decide) ?_
        refine X_istore dX12_summer_44 (by decide) ?_
        refine X_iconst (v := -1) dX12_summer_46 (by decide) ?_
        refine X_istore dX12_summer_47 (by decide) ?_
        refine X_iconst (v := nI 0) dX12_summer_49 (by decide) ?_
        refine X_istore dX12_summer_50 (by decide) ?_
        refine X_L [(7, .int (nI 0)), (6, .int (-1)), (5, .int (nI 0)), (4, .int (nI 0)), (0, .ref 87), (1, .int s), (2, .int (nI k)), (3, .int (nI 0))] ⟨rfl, rfl, rfl, rfl, rfl, rfl, rfl, rfl, trivial⟩ ?_
        refine X_forR (σ := pMI) 52 (fun i y => [(7, .int (nI i)), (6, .int (-1)), (5, .int (nI 0)), (4, .int (nI 0)), (0, .ref 87), (1, .int s), (2, .int (nI k)), (3, .int (nI 0))]) (fun y => y) (fun y => ml) (fun i y => y = fillR (up2 mi 87 0 (nI 0)) 447 i (fun _ => nI 0)) 8 ?_ ?_ 8 0 ((up2 mi 87 0 (nI 0))) (by omega) (fill_0 _ _ _).symm
        · intro i y hi hI hn
          refine X_iload dX12_summer_52 rfl ?_
          refine X_bipush (v := nI 8) dX12_summer_54 (by decide) ?_
          refine X_icmp_geN (a := i) (b := 8) 73 dX12_summer_56 (by decide) (by omega) (by omega) (fun h_4 => ?_) (fun h_4 => ?_)
          · exact absurd hi (by omega)
          · refine X_aload_n dX12_summer_59 rfl ?_
            refine X_getr (a := 447) dX12_summer_60 fkX12_143 rfl (k_87 hSh) (r_87_59 hSh) ?_
            refine X_iload dX12_summer_63 rfl ?_
            refine X_iconst (v := nI 0) dX12_summer_65 (by decide) ?_
            refine X_iast i dX12_summer_66 (k_447 hSh) rfl (by omega) ?_
            refine X_iinc (v := nI (i + 1)) dX12_summer_67 rfl (nI_1 _) (by decide) ?_
            refine X_goto 52 dX12_summer_70 (by decide) ?_
            refine X_L [(7, .int (nI (i + 1))), (6, .int (-1)), (5, .int (nI 0)), (4, .int (nI 0)), (0, .ref 87), (1, .int s), (2, .int (nI k)), (3, .int (nI 0))] ⟨rfl, rfl, rfl, rfl, rfl, rfl, rfl, rfl, trivial⟩ ?_
            refine hn _ ?_
            rw [hI]; exact fill_s _ _ _ _
        · intro y hI
          have hyW : RW mi y := by rw [hI]; exact fill_W RW_0 (by unfold rsR; omega)
          have hyT : ∀ b, b < 8 → y 447 b = nI 0 := fun b hb => by rw [hI]; exact fill_at hb
          refine X_iload dX12_summer_52 rfl ?_
          refine X_bipush (v := nI 8) dX12_summer_54 (by decide) ?_
          refine X_icmp_geN (a := 8) (b := 8) 73 dX12_summer_56 (by decide) (by omega) (by omega) (fun h_5 => ?_) (fun h_5 => ?_)
          · refine X_aload_n dX12_summer_73 rfl ?_
            refine X_callVrV dX12_summer_74 mkX12_347 (k_87 hSh) (r_beg Γ g y ml A hA hSh mi hR hyW) rfl rfl (by decide) (Nat.le_of_ble_eq_true rfl) (fun b1 bl hb1 => ?_)
            obtain ⟨hbS, hbc, hbW, hbB, hbl⟩ := hb1
            rw [hbl]
            refine X_aload_n dX12_summer_77 rfl ?_
            refine X_iload_n dX12_summer_78 rfl ?_
            refine X_puti dX12_summer_79 fkX12_384 rfl rfl (k_87 hSh) ?_
            refine X_iconst (v := nI 0) dX12_summer_82 (by decide) ?_
            refine X_istore dX12_summer_83 (by decide) ?_
            refine X_L [(7, .int (nI 0)), (6, .int (-1)), (5, .int (nI 0)), (4, .int (nI 0)), (0, .ref 87), (1, .int s), (2, .int (nI k)), (3, .int (nI 0))] ⟨rfl, rfl, rfl, rfl, rfl, rfl, rfl, rfl, trivial⟩ ?_
            refine X_L [(7, .int (nI (0))), (6, .int (-1)), (5, .int (sumN (smI A s) (0))), (4, .int (sumN (smG A s) (0))), (0, .ref 87), (1, .int s), (2, .int (nI k)), (3, .int (nI 0))] ⟨rfl, rfl, rfl, rfl, rfl, rfl, rfl, rfl, trivial⟩ ?_
            refine X_forR (σ := pMI) 85 (fun i z => [(7, .int (nI (i))), (6, .int (-1)), (5, .int (sumN (smI A s) (i))), (4, .int (sumN (smG A s) (i))), (0, .ref 87), (1, .int s), (2, .int (nI k)), (3, .int (nI 0))]) (fun z => z) (fun z => ml) (fun i z => RW mi z ∧ z 87 60 = (smS A s i).1 ∧ (∀ b, b < aG A → z 447 b = nI (smT A s i b)) ∧ (∃ rk, rS z (aP A) (aH A) id rk (aP A).2.2.2.1) ∧ (i = 0 → ∀ b, b < aG A → z 194 b = nI ((smS A s 0).2 b) ∧ (smS A s 0).2 b < 24) ∧ (0 < i → RDY z (aP A) (smS A s (i - 1)).2 (smD A s (i - 1)))) k ?_ ?_ k 0 (up2 b1 87 60 s) (by omega) ⟨RW_f hbW (by unfold rsF; omega) (by omega), up2_s, fun b hb => by rw [up2_row (by omega), hbB.1 447 (by omega) (by omega) (by omega) (by omega)]; exact hyT b (by omega), ⟨_, rS_f hA.1 (by omega) hbS⟩, fun _ b hb => by rw [up2_row (by omega)]; exact hbc b hb, fun h => absurd h (by omega)⟩
            · intro i z hi hI hn
              obtain ⟨hzW, hz60, hzT, ⟨rk9, hzS⟩, hz0, hzD⟩ := hI
              have key : ∀ u0 : pMI, RW mi u0 → u0 87 60 = (smS A s i).1 → u0 447 = z 447 → rS u0 (aP A) (aH A) id rk9 (aP A).2.2.2.1 → (∀ b, b < aG A → u0 194 b = nI ((smS A s i).2 b) ∧ (smS A s i).2 b < 24) → XW Γ 60 0 0 mX12_summer 102 [(7, .int (nI (i))), (6, .int (-1)), (5, .int (sumN (smI A s) (i))), (4, .int (sumN (smG A s) (i))), (0, .ref 87), (1, .int s), (2, .int (nI k)), (3, .int (nI 0))] [] g u0 ml (RQ A (.inl (sumN (smG A s) k)) cd1 g mi ml) := by
                intro u0 h0W h060 h0T h0S h0c
                refine X_aload_n dX12_summer_102 rfl ?_
                refine X_callVrV dX12_summer_103 mkX12_391 (k_87 hSh) (r_draw Γ g u0 ml A hA hSh mi hR h0W rk9 (aP A).2.2.2.1 h0S) rfl rfl (by decide) (Nat.le_of_ble_eq_true rfl) (fun x1 xl hx1 => ?_)
                obtain ⟨hxS, hxW, hx60, hxF, hxl⟩ := hx1
                rw [hxl]
                rw [h060] at hxS hx60
                refine X_aload_n dX12_summer_106 rfl ?_
                refine X_callVrV dX12_summer_107 mkX12_341 (k_87 hSh) (r_run Γ g x1 ml A hA hSh mi hxW id (lDw A (smS A s i).1).2.2 (lDw A (smS A s i).1).2.1 (smS A s i).2 (aP A).2.2.2.1 ⟨hA.1.2.2.2.1, hA.1.2.2.2.2.1⟩ hxS (lDw_ok hA _) (fun b hb => by rw [hxF 194 (by omega) (by omega) (by omega)]; exact h0c b hb)) rfl rfl (by decide) (Nat.le_of_ble_eq_true rfl) (fun u1 ul hu1 => ?_)
                obtain ⟨huR, huS, huW, huF, hul⟩ := hu1
                rw [hul]
                have huR : RDY u1 (aP A) (smS A s i).2 (smD A s i) := huR
                refine X_iload dX12_summer_110 rfl ?_
                refine X_aload_n dX12_summer_112 rfl ?_
                refine X_callVI dX12_summer_113 mkX12_359 (k_87 hSh) (c_allGot Γ g u1 ml hSh (aG A) (RW_I hA hR huW).1.2.1 hG8) rfl rfl (by decide) (Nat.le_of_ble_eq_true rfl) ?_
                refine X_topi (show _ = smG A s i from sumN_eq _ (fun b hb => (huR.1 b hb).2.2.2.2.1)) ?_
                refine X_iadd dX12_summer_116 ?_
                refine X_istore dX12_summer_117 (by decide) ?_
                refine X_iload dX12_summer_119 rfl ?_
                refine X_aload_n dX12_summer_121 rfl ?_
                refine X_callVI dX12_summer_122 mkX12_362 (k_87 hSh) (c_allIdle Γ g u1 ml hSh (aP A).1 (RW_I hA hR huW).1.1 hC8) rfl rfl (by decide) (Nat.le_of_ble_eq_true rfl) ?_
                refine X_topi (show _ = smI A s i from sumN_eq _ (fun c hc => (huR.2.1 c hc).2.1)) ?_
                refine X_iadd dX12_summer_125 ?_
                refine X_istore dX12_summer_126 (by decide) ?_
                refine X_iconst (v := nI 0) dX12_summer_128 (by decide) ?_
                refine X_istore dX12_summer_129 (by decide) ?_
                refine X_L [(8, .int (nI 0)), (7, .int (nI i)), (6, .int (-1)), (5, .int ((sumN (smI A s) i) + (smI A s i))), (4, .int ((sumN (smG A s) i) + (smG A s i))), (0, .ref 87), (1, .int s), (2, .int (nI k)), (3, .int (nI 0))] ⟨rfl, rfl, rfl, rfl, rfl, rfl, rfl, rfl, rfl, trivial⟩ ?_
                refine X_forR (σ := pMI) 131 (fun j t => [(8, .int (nI j)), (7, .int (nI i)), (6, .int (-1)), (5, .int ((sumN (smI A s) i) + (smI A s i))), (4, .int ((sumN (smG A s) i) + (smG A s i))), (0, .ref 87), (1, .int s), (2, .int (nI k)), (3, .int (nI 0))]) (fun t => t) (fun t => ml) (fun j t => (RDY t (aP A) (smS A s i).2 (smD A s i) ∧ rS t (aP A) (aH A) id (lDw A (smS A s i).1).2.2 (aP A).2.2.2.1 ∧ RW mi t ∧ t 87 60 = (smS A s (i + 1)).1) ∧ (∀ b, b < aG A → t 447 b = nI (smT A s (if b < j then i + 1 else i) b))) (aG A) ?_ ?_ (aG A) 0 u1 (by omega) ⟨⟨huR, huS, huW, by rw [huF 87 (by omega) (by omega) (by omega) (by omega) (by omega)]; exact hx60⟩, fun b hb => by rw [if_neg (by omega), huF 447 (by omega) (by omega) (by omega) (by omega) (by omega), hxF 447 (by omega) (by omega) (by omega), h0T]; exact hzT b hb⟩
                · intro j t hj hJ hn2
                  obtain ⟨⟨htR, htS, htW, ht60⟩, htT⟩ := hJ
                  obtain ⟨n9, hn9, hn8, hse⟩ := sea_r htR hj
                  refine X_iload dX12_summer_131 rfl ?_
                  refine X_aload_n dX12_summer_133 rfl ?_
                  refine X_getr (a := 91) dX12_summer_134 fkX12_23 rfl (k_87 hSh) (r_87_12 hSh) ?_
                  refine X_iconst (v := nI 1) dX12_summer_137 (by decide) ?_
                  refine X_iald 1 dX12_summer_138 (k_91 hSh) rfl (by omega) ?_
                  rw [(RW_I hA hR htW).1.2.1]
                  refine X_icmp_geN (a := j) (b := aG A) 173 dX12_summer_139 (by decide) (by omega) (by omega) (fun h_6 => ?_) (fun h_6 => ?_)
                  · exact absurd h_6 (by omega)
                  · refine X_aload_n dX12_summer_142 rfl ?_
                    refine X_getr (a := 447) dX12_summer_143 fkX12_143 rfl (k_87 hSh) (r_87_59 hSh) ?_
                    refine X_iload dX12_summer_146 rfl ?_
                    refine X_dup2 dX12_summer_148 rfl rfl ?_
                    refine X_iald j dX12_summer_149 (k_447 hSh) rfl (by omega) ?_
                    rw [(show t 447 j = nI (smT A s i j) by rw [htT j hj, if_neg (by omega)])]
                    refine X_aload_n dX12_summer_150 rfl ?_
                    refine X_getr (a := 201) dX12_summer_151 fkX12_92 rfl (k_87 hSh) (r_87_41 hSh) ?_
                    refine X_iload dX12_summer_154 rfl ?_
                    refine X_iald j dX12_summer_156 (k_201 hSh) rfl (by omega) ?_
                    rw [hn8]
                    refine X_if_leN (a := n9) 164 dX12_summer_157 (by decide) (by omega) (fun h_7 => ?_) (fun h_7 => ?_)
                    · refine X_iconst (v := nI 0) dX12_summer_164 (by decide) ?_
                      refine X_iadd dX12_summer_165 ?_
                      refine X_topi (nI_add (smT A s i j) 0) ?_
                      refine X_iast j dX12_summer_166 (k_447 hSh) rfl (by omega) ?_
                      refine X_iinc (v := nI (j + 1)) dX12_summer_167 rfl (nI_1 _) (by decide) ?_
                      refine X_goto 131 dX12_summer_170 (by decide) ?_
                      refine X_L [(8, .int (nI (j + 1))), (7, .int (nI i)), (6, .int (-1)), (5, .int ((sumN (smI A s) i) + (smI A s i))), (4, .int ((sumN (smG A s) i) + (smG A s i))), (0, .ref 87), (1, .int s), (2, .int (nI k)), (3, .int (nI 0))] ⟨rfl, rfl, rfl, rfl, rfl, rfl, rfl, rfl, rfl, trivial⟩ ?_
                      have hsm : ∀ q, q < 230 → (up2 t 447 j (nI ((smT A s i j) + 0))) q = t q := fun q hq => up2_row (by omega)
                      refine hn2 _ ⟨⟨RDY_b hP hsm htR, rS_b hP hsm htS, RW_u htW (by unfold rsR; omega), by rw [up2_row (by omega)]; exact ht60⟩, fun b hb => ?_⟩
                      by_cases q : b = j
                      · subst q; rw [up2_s, if_pos (by omega), smT_s, hse]; first | rw [decide_eq_true (by omega)]; rfl | rw [decide_eq_false (by omega)]; rfl
                      · rw [up2_n q, htT b hb]; by_cases q2 : b < j; (rw [if_pos q2, if_pos (by omega)]); rw [if_neg q2, if_neg (by omega)]
                    · refine X_iconst (v := nI 1) dX12_summer_160 (by decide) ?_
                      refine X_goto 165 dX12_summer_161 (by decide) ?_
                      refine X_iadd dX12_summer_165 ?_
                      refine X_topi (nI_add (smT A s i j) 1) ?_
                      refine X_iast j dX12_summer_166 (k_447 hSh) rfl (by omega) ?_
                      refine X_iinc (v := nI (j + 1)) dX12_summer_167 rfl (nI_1 _) (by decide) ?_
                      refine X_goto 131 dX12_summer_170 (by decide) ?_
                      refine X_L [(8, .int (nI (j + 1))), (7, .int (nI i)), (6, .int (-1)), (5, .int ((sumN (smI A s) i) + (smI A s i))), (4, .int ((sumN (smG A s) i) + (smG A s i))), (0, .ref 87), (1, .int s), (2, .int (nI k)), (3, .int (nI 0))] ⟨rfl, rfl, rfl, rfl, rfl, rfl, rfl, rfl, rfl, trivial⟩ ?_
                      have hsm : ∀ q, q < 230 → (up2 t 447 j (nI ((smT A s i j) + 1))) q = t q := fun q hq => up2_row (by omega)
                      refine hn2 _ ⟨⟨RDY_b hP hsm htR, rS_b hP hsm htS, RW_u htW (by unfold rsR; omega), by rw [up2_row (by omega)]; exact ht60⟩, fun b hb => ?_⟩
                      by_cases q : b = j
                      · subst q; rw [up2_s, if_pos (by omega), smT_s, hse]; first | rw [decide_eq_true (by omega)]; rfl | rw [decide_eq_false (by omega)]; rfl
                      · rw [up2_n q, htT b hb]; by_cases q2 : b < j; (rw [if_pos q2, if_pos (by omega)]); rw [if_neg q2, if_neg (by omega)]
                · intro t hJ
                  obtain ⟨⟨htR, htS, htW, ht60⟩, htT⟩ := hJ
                  refine X_iload dX12_summer_131 rfl ?_
                  refine X_aload_n dX12_summer_133 rfl ?_
                  refine X_getr (a := 91) dX12_summer_134 fkX12_23 rfl (k_87 hSh) (r_87_12 hSh) ?_
                  refine X_iconst (v := nI 1) dX12_summer_137 (by decide) ?_
                  refine X_iald 1 dX12_summer_138 (k_91 hSh) rfl (by omega) ?_
                  rw [(RW_I hA hR htW).1.2.1]
                  refine X_icmp_geN (a := aG A) (b := aG A) 173 dX12_summer_139 (by decide) (by omega) (by omega) (fun h_8 => ?_) (fun h_8 => ?_)
                  · refine X_iinc (v := nI (i + 1)) dX12_summer_173 rfl (nI_1 _) (by decide) ?_
                    refine X_goto 85 dX12_summer_176 (by decide) ?_
                    refine X_L [(7, .int (nI (i + 1))), (6, .int (-1)), (5, .int ((sumN (smI A s) i) + (smI A s i))), (4, .int ((sumN (smG A s) i) + (smG A s i))), (0, .ref 87), (1, .int s), (2, .int (nI k)), (3, .int (nI 0))] ⟨rfl, rfl, rfl, rfl, rfl, rfl, rfl, rfl, trivial⟩ ?_
                    refine X_L [(7, .int (nI (i + 1))), (6, .int (-1)), (5, .int (sumN (smI A s) (i + 1))), (4, .int (sumN (smG A s) (i + 1))), (0, .ref 87), (1, .int s), (2, .int (nI k)), (3, .int (nI 0))] ⟨rfl, rfl, rfl, rfl, rfl, rfl, rfl, rfl, trivial⟩ ?_
                    exact hn t ⟨htW, ht60, fun b hb => by rw [htT b hb, if_pos hb], ⟨_, htS⟩, fun h => absurd h (by omega), fun _ => htR⟩
                  · exact absurd h_8 (by omega)
              by_cases h00 : i = 0
              · subst h00
                refine X_iload dX12_summer_85 rfl ?_
                refine X_iload_n dX12_summer_87 rfl ?_
                refine X_icmp_geN (a := 0) (b := k) 179 dX12_summer_88 (by decide) (by omega) (by omega) (fun h_9 => ?_) (fun h_9 => ?_)
                · exact absurd h_9 (by omega)
                · refine X_iload dX12_summer_91 rfl ?_
                  refine X_if_leN (a := 0) 102 dX12_summer_93 (by decide) (by omega) (fun h_10 => ?_) (fun h_10 => ?_)
                  · refine X_L [(7, .int (nI 0)), (6, .int (-1)), (5, .int (sumN (smI A s) 0)), (4, .int (sumN (smG A s) 0)), (0, .ref 87), (1, .int s), (2, .int (nI k)), (3, .int (nI 0))] ⟨rfl, rfl, rfl, rfl, rfl, rfl, rfl, rfl, trivial⟩ ?_
                    exact key _ hzW hz60 rfl hzS (hz0 rfl)
                  · exact absurd h_10 (by omega)
              · obtain ⟨j, rfl⟩ : ∃ j, i = j + 1 := ⟨i - 1, by omega⟩
                refine X_iload dX12_summer_85 rfl ?_
                refine X_iload_n dX12_summer_87 rfl ?_
                refine X_icmp_geN (a := j + 1) (b := k) 179 dX12_summer_88 (by decide) (by omega) (by omega) (fun h_11 => ?_) (fun h_11 => ?_)
                · exact absurd h_11 (by omega)
                · refine X_iload dX12_summer_91 rfl ?_
                  refine X_if_leN (a := j + 1) 102 dX12_summer_93 (by decide) (by omega) (fun h_12 => ?_) (fun h_12 => ?_)
                  · exact absurd h_12 (by omega)
                  · refine X_aload_n dX12_summer_96 rfl ?_
                    refine X_iload dX12_summer_97 rfl ?_
                    refine X_callVrV dX12_summer_99 mkX12_344 (k_87 hSh) (r_ask Γ g z ml A hA hSh mi hzW id rk9 _ _ (j + 1) _ hzS (hzD (by omega))) rfl rfl (by decide) (Nat.le_of_ble_eq_true rfl) (fun a1 al ha1 => ?_)
                    obtain ⟨hac, haS, haW, haF, hal⟩ := ha1
                    rw [hal]
                    refine X_L [(7, .int (nI (j + 1))), (6, .int (-1)), (5, .int (sumN (smI A s) (j + 1))), (4, .int (sumN (smG A s) (j + 1))), (0, .ref 87), (1, .int s), (2, .int (nI k)), (3, .int (nI 0))] ⟨rfl, rfl, rfl, rfl, rfl, rfl, rfl, rfl, trivial⟩ ?_
                    exact key _ haW ((congrFun (haF 87 (by omega) (by omega) (by omega) (by omega) (by omega)) 60).trans hz60) (haF 447 (by omega) (by omega) (by omega) (by omega) (by omega)) haS hac
            · intro z hI
              obtain ⟨hzW, hz60, hzT, ⟨rk9, hzS⟩, hz0, hzD⟩ := hI
              have hzI := RW_I hA hR hzW
              have hzD := hzD (by omega)
              have hf : ∀ b, b < aG A → z 447 b = nI (smT A s k b) := hzT
              have hfb : ∀ b, smT A s k b ≤ 1000 := fun b => Nat.le_trans (smT_le b) (by omega)
              generalize hsf : smT A s k = f at hf hfb
              refine X_iload dX12_summer_85 rfl ?_
              refine X_iload_n dX12_summer_87 rfl ?_
              refine X_icmp_geN (a := k) (b := k) 179 dX12_summer_88 (by decide) (by omega) (by omega) (fun h_13 => ?_) (fun h_13 => ?_)
              · refine X_iconst (v := nI 0) dX12_summer_179 (by decide) ?_
                refine X_istore dX12_summer_180 (by decide) ?_
                refine X_L [(7, .int (nI 0)), (6, .int (-1)), (5, .int (sumN (smI A s) k)), (4, .int (sumN (smG A s) k)), (0, .ref 87), (1, .int s), (2, .int (nI k)), (3, .int (nI 0))] ⟨rfl, rfl, rfl, rfl, rfl, rfl, rfl, rfl, trivial⟩ ?_
                refine X_L [(7, .int (nI 0)), (6, .int (oI (fmN f 0))), (5, .int (sumN (smI A s) k)), (4, .int (sumN (smG A s) k)), (0, .ref 87), (1, .int s), (2, .int (nI k)), (3, .int (nI 0))] ⟨rfl, rfl, rfl, rfl, rfl, rfl, rfl, rfl, trivial⟩ ?_
                refine X_forR (σ := Unit) 182 (fun i u => [(7, .int (nI i)), (6, .int (oI (fmN f i))), (5, .int (sumN (smI A s) k)), (4, .int (sumN (smG A s) k)), (0, .ref 87), (1, .int s), (2, .int (nI k)), (3, .int (nI 0))]) (fun u => z) (fun u => ml) (fun i u => True) (aG A) ?_ ?_ (aG A) 0 () (by omega) trivial
                · intro i u hi hI hn
                  have hfi := hfb i
                  cases hq : fmN f i with
                  | none =>
                    refine X_iload dX12_summer_182 rfl ?_
                    refine X_aload_n dX12_summer_184 rfl ?_
                    refine X_getr (a := 91) dX12_summer_185 fkX12_23 rfl (k_87 hSh) (r_87_12 hSh) ?_
                    refine X_iconst (v := nI 1) dX12_summer_188 (by decide) ?_
                    refine X_iald 1 dX12_summer_189 (k_91 hSh) rfl (by omega) ?_
                    rw [hzI.1.2.1]
                    refine X_icmp_geN (a := i) (b := aG A) 231 dX12_summer_190 (by decide) (by omega) (by omega) (fun h_14 => ?_) (fun h_14 => ?_)
                    · exact absurd h_14 (by omega)
                    · refine X_iload dX12_summer_193 rfl ?_
                      refine X_iconst (v := -1) dX12_summer_195 (by decide) ?_
                      refine X_icmp_eq 216 dX12_summer_196 (by decide) (fun h_15 => ?_) (fun h_15 => ?_)
                      · refine X_iload dX12_summer_216 rfl ?_
                        refine X_goto 223 dX12_summer_218 (by decide) ?_
                        refine X_istore dX12_summer_223 (by decide) ?_
                        refine X_iinc (v := nI (i + 1)) dX12_summer_225 rfl (nI_1 _) (by decide) ?_
                        refine X_goto 182 dX12_summer_228 (by decide) ?_
                        refine X_L [(7, .int (nI (i + 1))), (6, .int (nI i)), (5, .int (sumN (smI A s) k)), (4, .int (sumN (smG A s) k)), (0, .ref 87), (1, .int s), (2, .int (nI k)), (3, .int (nI 0))] ⟨rfl, rfl, rfl, rfl, rfl, rfl, rfl, rfl, trivial⟩ ?_
                        refine X_L [(7, .int (nI (i + 1))), (6, .int (oI (fmN f (i + 1)))), (5, .int (sumN (smI A s) k)), (4, .int (sumN (smG A s) k)), (0, .ref 87), (1, .int s), (2, .int (nI k)), (3, .int (nI 0))] ⟨rfl, by rw [fm_n hq]; rfl, rfl, rfl, rfl, rfl, rfl, rfl, trivial⟩ ?_
                        exact hn () trivial
                      · exact absurd rfl h_15
                  | some q =>
                    have hqi := fm_lt hq
                    have hfq := hfb q
                    refine X_iload dX12_summer_182 rfl ?_
                    refine X_aload_n dX12_summer_184 rfl ?_
                    refine X_getr (a := 91) dX12_summer_185 fkX12_23 rfl (k_87 hSh) (r_87_12 hSh) ?_
                    refine X_iconst (v := nI 1) dX12_summer_188 (by decide) ?_
                    refine X_iald 1 dX12_summer_189 (k_91 hSh) rfl (by omega) ?_
                    rw [hzI.1.2.1]
                    refine X_icmp_geN (a := i) (b := aG A) 231 dX12_summer_190 (by decide) (by omega) (by omega) (fun h_16 => ?_) (fun h_16 => ?_)
                    · exact absurd h_16 (by omega)
                    · refine X_iload dX12_summer_193 rfl ?_
                      refine X_iconst (v := -1) dX12_summer_195 (by decide) ?_
                      refine X_icmp_eq 216 dX12_summer_196 (by decide) (fun h_17 => ?_) (fun h_17 => ?_)
                      · exact absurd h_17 (nI_m1 (by omega))
                      · refine X_aload_n dX12_summer_199 rfl ?_
                        refine X_getr (a := 447) dX12_summer_200 fkX12_143 rfl (k_87 hSh) (r_87_59 hSh) ?_
                        refine X_iload dX12_summer_203 rfl ?_
                        refine X_iald i dX12_summer_205 (k_447 hSh) rfl (by omega) ?_
                        rw [(hf i hi)]
                        refine X_aload_n dX12_summer_206 rfl ?_
                        refine X_getr (a := 447) dX12_summer_207 fkX12_143 rfl (k_87 hSh) (r_87_59 hSh) ?_
                        refine X_iload dX12_summer_210 rfl ?_
                        refine X_iald q dX12_summer_212 (k_447 hSh) rfl (by omega) ?_
                        rw [(hf q (by omega))]
                        refine X_icmp_leN (a := f i) (b := f q) 221 dX12_summer_213 (by decide) (by omega) (by omega) (fun h_18 => ?_) (fun h_18 => ?_)
                        · refine X_iload dX12_summer_221 rfl ?_
                          refine X_istore dX12_summer_223 (by decide) ?_
                          refine X_iinc (v := nI (i + 1)) dX12_summer_225 rfl (nI_1 _) (by decide) ?_
                          refine X_goto 182 dX12_summer_228 (by decide) ?_
                          refine X_L [(7, .int (nI (i + 1))), (6, .int (nI q)), (5, .int (sumN (smI A s) k)), (4, .int (sumN (smG A s) k)), (0, .ref 87), (1, .int s), (2, .int (nI k)), (3, .int (nI 0))] ⟨rfl, rfl, rfl, rfl, rfl, rfl, rfl, rfl, trivial⟩ ?_
                          refine X_L [(7, .int (nI (i + 1))), (6, .int (oI (fmN f (i + 1)))), (5, .int (sumN (smI A s) k)), (4, .int (sumN (smG A s) k)), (0, .ref 87), (1, .int s), (2, .int (nI k)), (3, .int (nI 0))] ⟨rfl, by rw [(fm_s hq).trans (if_neg (by omega))]; rfl, rfl, rfl, rfl, rfl, rfl, rfl, trivial⟩ ?_
                          exact hn () trivial
                        · refine X_iload dX12_summer_216 rfl ?_
                          refine X_goto 223 dX12_summer_218 (by decide) ?_
                          refine X_istore dX12_summer_223 (by decide) ?_
                          refine X_iinc (v := nI (i + 1)) dX12_summer_225 rfl (nI_1 _) (by decide) ?_
                          refine X_goto 182 dX12_summer_228 (by decide) ?_
                          refine X_L [(7, .int (nI (i + 1))), (6, .int (nI i)), (5, .int (sumN (smI A s) k)), (4, .int (sumN (smG A s) k)), (0, .ref 87), (1, .int s), (2, .int (nI k)), (3, .int (nI 0))] ⟨rfl, rfl, rfl, rfl, rfl, rfl, rfl, rfl, trivial⟩ ?_
                          refine X_L [(7, .int (nI (i + 1))), (6, .int (oI (fmN f (i + 1)))), (5, .int (sumN (smI A s) k)), (4, .int (sumN (smG A s) k)), (0, .ref 87), (1, .int s), (2, .int (nI k)), (3, .int (nI 0))] ⟨rfl, by rw [(fm_s hq).trans (if_pos (by omega))]; rfl, rfl, rfl, rfl, rfl, rfl, rfl, trivial⟩ ?_
                          exact hn () trivial
                · intro u hI
                  refine X_iload dX12_summer_182 rfl ?_
                  refine X_aload_n dX12_summer_184 rfl ?_
                  refine X_getr (a := 91) dX12_summer_185 fkX12_23 rfl (k_87 hSh) (r_87_12 hSh) ?_
                  refine X_iconst (v := nI 1) dX12_summer_188 (by decide) ?_
                  refine X_iald 1 dX12_summer_189 (k_91 hSh) rfl (by omega) ?_
                  rw [hzI.1.2.1]
                  refine X_icmp_geN (a := aG A) (b := aG A) 231 dX12_summer_190 (by decide) (by omega) (by omega) (fun h_19 => ?_) (fun h_19 => ?_)
                  · refine X_iload_n dX12_summer_231 rfl ?_
                    refine X_if_neN (a := 0) 240 dX12_summer_232 (by decide) (by omega) (fun h_20 => ?_) (fun h_20 => ?_)
                    · exact absurd h_20 (by omega)
                    · refine X_iload dX12_summer_235 rfl ?_
                      refine X_goto 264 dX12_summer_237 (by decide) ?_
                      exact X_iret dX12_summer_264 rfl ⟨rfl, rfl, RW_I hA hR hzW, hzW.2.1, _, rfl, rfl, hzW.2.2⟩
                  · exact absurd h_19 (by omega)
              · exact absurd h_13 (by omega)
          · exact absurd h_5 (by omega)
      · exact absurd h_3 (by omega)
    · exact absurd h_2 (by omega)
set_option maxRecDepth 100000 in
set_option maxHeartbeats 4000000 in
theorem k_summer_1 (Γ : pTG) (g : pGG) (mi : pMI) (ml : pML) (A : AS) (hA : okAS A) (hC : CI A g mi ml) (k : Nat) (hka : 1 ≤ k) (hk : k ≤ 60)  (s : Int32) : CT Γ 60 20 5000 mX11_summer [.ref 0, .int s, .int (nI k), .int (nI 1)] g mi ml (CQ A (.inl (sumN (smI A s) k)) mi ml) := by
  refine CT_of (by decide +kernel) (Nat.le_of_ble_eq_true rfl) ?_
  have hSh := CI_Sh hC
  have hcl := CI_cl hC
  have hP := hA.1
  have hG8 : aG A ≤ 8 := hP.2.1
  have hC8 : (aP A).1 ≤ 8 := hP.1
  refine X_aload_n dX11_summer_0 rfl ?_
  refine X_iload_n dX11_summer_1 rfl ?_
  refine X_iconst (v := nI 1) dX11_summer_2 (by decide) ?_
  refine X_bipush (v := nI 60) dX11_summer_3 (by decide) ?_
  refine X_need dX11_summer_5 mkX11_116 (k_0 hSh) (c_needWithin Γ g mi ml hSh (nI k) (nI 1) (nI 60)) rfl rfl (by decide) (by decide) (by decide) (by decide) (fun h => absurd (⟨nI_le (by omega) (by omega), nI_le (by omega) (by omega)⟩) h) (fun _ => ?_)
  refine X_aload_n dX11_summer_8 rfl ?_
  refine X_iload_n dX11_summer_9 rfl ?_
  refine X_iconst (v := nI 0) dX11_summer_10 (by decide) ?_
  refine X_iconst (v := nI 3) dX11_summer_11 (by decide) ?_
  refine X_need dX11_summer_12 mkX11_116 (k_0 hSh) (c_needWithin Γ g mi ml hSh (nI 1) (nI 0) (nI 3)) rfl rfl (by decide) (by decide) (by decide) (by decide) (fun h => absurd (by decide) h) (fun _ => ?_)
  refine X_aload_n dX11_summer_15 rfl ?_
  refine X_callVV dX11_summer_16 mkX11_326 (k_0 hSh) (c_clearTally Γ g mi ml hSh) rfl rfl (by decide) (Nat.le_of_ble_eq_true rfl) ?_
  refine X_iload_n dX11_summer_19 rfl ?_
  refine X_istore dX11_summer_20 (by decide) ?_
  refine X_iconst (v := nI 0) dX11_summer_22 (by decide) ?_
  refine X_istore dX11_summer_23 (by decide) ?_
  refine X_iconst (v := nI 0) dX11_summer_25 (by decide) ?_
  refine X_istore dX11_summer_26 (by decide) ?_
  refine X_iconst (v := nI 0) dX11_summer_28 (by decide) ?_
  refine X_istore dX11_summer_29 (by decide) ?_
  refine X_L [(7, .int (nI 0)), (6, .int (nI 0)), (5, .int (nI 0)), (4, .int s), (0, .ref 0), (1, .int s), (2, .int (nI k)), (3, .int (nI 1))] ⟨rfl, rfl, rfl, rfl, rfl, rfl, rfl, rfl, trivial⟩ ?_
  refine X_L [(7, .int (nI (0))), (6, .int (sumN (smI A s) (0))), (5, .int (sumN (smG A s) (0))), (4, .int (smS A s (0)).1), (0, .ref 0), (1, .int s), (2, .int (nI k)), (3, .int (nI 1))] ⟨rfl, rfl, rfl, rfl, rfl, rfl, rfl, rfl, trivial⟩ ?_
  refine X_forR (σ := pMI) 31 (fun i y => [(7, .int (nI (i))), (6, .int (sumN (smI A s) (i))), (5, .int (sumN (smG A s) (i))), (4, .int (smS A s (i)).1), (0, .ref 0), (1, .int s), (2, .int (nI k)), (3, .int (nI 1))]) (fun y => y) (fun y => ml) (fun i y => CI A g y ml ∧ (∀ b, b < aG A → y 85 b = nI (smT A s i b)) ∧ (0 < i → CDY y 67 (aP A) (smS A s (i - 1)).2 (smD A s (i - 1))) ∧ frK mi y) k ?_ ?_ k 0 (fillR mi 85 8 (fun _ => nI 0)) (by omega) ⟨CI_fr hC (fill_S (by unfold scR; omega)) rfl, fun b hb => fill_at (by omega), fun h => absurd h (by omega), fill_K (by omega)⟩
  · intro i y hi hI hn
    obtain ⟨hyC, hyT, hyD, hyK⟩ := hI
    have key : ∀ u0 : pMI, CI A g u0 ml → (∀ b, b < aG A → u0 84 b = nI ((smS A s i).2 b)) → u0 85 = y 85 → frK mi u0 → XW Γ 60 (20 - 1 - 1) (5000 - 6 - 6) mX11_summer 80 [(7, .int (nI (i))), (6, .int (sumN (smI A s) (i))), (5, .int (sumN (smG A s) (i))), (4, .int (smS A s (i)).1), (0, .ref 0), (1, .int s), (2, .int (nI k)), (3, .int (nI 1))] [] g u0 ml (CQ A (.inl (sumN (smI A s) k)) mi ml) := by
      intro u0 h0C h0c h0T h0K
      refine X_aload_n dX11_summer_80 rfl ?_
      refine X_getr (a := 67) dX11_summer_81 fkX11_76 rfl (k_0 hSh) (r_0_10 hSh) ?_
      refine X_iload dX11_summer_84 rfl ?_
      refine X_callVrI dX11_summer_86 mkX11_332 (k_67 hSh) (c_lotK Γ g u0 ml A hA h0C (smS A s i).1) rfl rfl (by decide) (Nat.le_of_ble_eq_true rfl) (fun v3 m3 l3 hm3 => ?_)
      obtain ⟨hv3, hC3, ho3, he3, hl3⟩ := hm3
      rw [hl3] at hC3 ⊢
      refine X_istore dX11_summer_89 (by decide) ?_
      refine X_aload_n dX11_summer_91 rfl ?_
      refine X_getr (a := 67) dX11_summer_92 fkX11_76 rfl (k_0 hSh) (r_0_10 hSh) ?_
      refine X_aload_n dX11_summer_95 rfl ?_
      refine X_getr (a := 84) dX11_summer_96 fkX11_95 rfl (k_0 hSh) (r_0_13 hSh) ?_
      refine X_aload_n dX11_summer_99 rfl ?_
      refine X_getr (a := 3) dX11_summer_100 fkX11_25 rfl (k_0 hSh) (r_0_2 hSh) ?_
      refine X_geti dX11_summer_103 fkX11_178 rfl (k_3 hSh) ?_
      rw [(CI_cl hC3).2.2.2.1]
      refine X_callVrV dX11_summer_106 mkX11_303 (k_67 hSh) (c_tryK Γ g m3 ml A hA hC3 (smS A s i).2 (lDw A (smS A s i).1).2.2 (lDw A (smS A s i).1).2.1 (aP A).2.2.2.1 (lDw_ok hA _) (fun b hb => ⟨(congrFun (he3 84 (by omega)) b).trans (h0c b hb), sm_lt hA hb i⟩) ho3 ⟨hA.1.2.2.2.1, hA.1.2.2.2.2.1⟩) rfl rfl (by decide) (Nat.le_of_ble_eq_true rfl) (fun u1 ul hu1 => ?_)
      obtain ⟨huC, hcd, huT, hul⟩ := hu1
      rw [hul] at huC ⊢
      have hcd : CDY u1 67 (aP A) (smS A s i).2 (smD A s i) := hcd
      refine X_iload dX11_summer_109 rfl ?_
      refine X_aload_n dX11_summer_111 rfl ?_
      refine X_getr (a := 67) dX11_summer_112 fkX11_76 rfl (k_0 hSh) (r_0_10 hSh) ?_
      refine X_iconst (v := nI 3) dX11_summer_115 (by decide) ?_
      refine X_callVI dX11_summer_116 mkX11_224 (k_67 hSh) (c_total Γ g u1 ml hSh 67 (shC_67 hSh) (aG A) (CI_cl huC).2.1 hG8 3 (by decide)) rfl rfl (by decide) (Nat.le_of_ble_eq_true rfl) ?_
      refine X_topi (show _ = smG A s i from sumN_eq _ (fun b hb => (hcd.1 b hb).2.2.2.1)) ?_
      refine X_iadd dX11_summer_119 ?_
      refine X_istore dX11_summer_120 (by decide) ?_
      refine X_iload dX11_summer_122 rfl ?_
      refine X_aload_n dX11_summer_124 rfl ?_
      refine X_getr (a := 67) dX11_summer_125 fkX11_76 rfl (k_0 hSh) (r_0_10 hSh) ?_
      refine X_callVI dX11_summer_128 mkX11_228 (k_67 hSh) (c_idle Γ g u1 ml hSh 67 (shC_67 hSh) (aP A).1 (CI_cl huC).1 hC8) rfl rfl (by decide) (Nat.le_of_ble_eq_true rfl) ?_
      refine X_topi (show _ = smI A s i from sumN_eq _ (fun c hc => (hcd.2.1 c hc).2.1)) ?_
      refine X_iadd dX11_summer_131 ?_
      refine X_istore dX11_summer_132 (by decide) ?_
      refine X_aload_n dX11_summer_134 rfl ?_
      refine X_aload_n dX11_summer_135 rfl ?_
      refine X_getr (a := 67) dX11_summer_136 fkX11_76 rfl (k_0 hSh) (r_0_10 hSh) ?_
      refine X_callVI dX11_summer_139 mkX11_235 (k_67 hSh) (c_seated Γ g u1 ml hSh 67 (shC_67 hSh) (aG A) (CI_cl huC).2.1 hG8) rfl rfl (by decide) (Nat.le_of_ble_eq_true rfl) ?_
      refine X_topi (sea_m hcd) ?_
      refine X_callVrV dX11_summer_142 mkX11_345 (k_0 hSh) (c_tallyS Γ g u1 ml hSh (mkN (seaB (smD A s i)) (aG A))) rfl rfl (by decide) (Nat.le_of_ble_eq_true rfl) (fun t1 tl ht1 => ?_)
      obtain ⟨htT, htF, htl⟩ := ht1
      rw [htl]
      refine X_iinc (v := nI (i + 1)) dX11_summer_145 rfl (nI_1 _) (by decide) ?_
      refine X_goto 31 dX11_summer_148 (by decide) ?_
      refine X_L [(7, .int (nI (i + 1))), (6, .int ((sumN (smI A s) i) + (smI A s i))), (5, .int ((sumN (smG A s) i) + (smG A s i))), (4, .int v3), (0, .ref 0), (1, .int s), (2, .int (nI k)), (3, .int (nI 1))] ⟨rfl, rfl, rfl, rfl, rfl, rfl, rfl, rfl, trivial⟩ ?_
      refine X_L [(7, .int (nI (i + 1))), (6, .int (sumN (smI A s) (i + 1))), (5, .int (sumN (smG A s) (i + 1))), (4, .int (smS A s (i + 1)).1), (0, .ref 0), (1, .int s), (2, .int (nI k)), (3, .int (nI 1))] ⟨rfl, rfl, rfl, by rw [hv3]; rfl, rfl, rfl, rfl, rfl, trivial⟩ ?_
      refine hn t1 ⟨CI_fr huC (fr85_S htF) rfl, fun b hb => tl_s hb hG8 ?_ rfl (htT b (by omega)), fun _ => cdy_row (htF 68 (by omega)) (htF 69 (by omega)) (by rw [htF 67 (by omega)]) (htF 75 (by omega)) (htF 76 (by omega)) hcd, frK_t h0K (frK_t (fun i h1 h2 => he3 i (by omega)) (frK_t (frT_K (Or.inr rfl) huT) (fun i h1 h2 => htF i (by omega))))⟩
      rw [frT_row huT (by omega), he3 85 (by omega), h0T]; exact hyT b hb
    by_cases h00 : i = 0
    · subst h00
      refine X_iload dX11_summer_31 rfl ?_
      refine X_iload_n dX11_summer_33 rfl ?_
      refine X_icmp_geN (a := 0) (b := k) 151 dX11_summer_34 (by decide) (by omega) (by omega) (fun h_1 => ?_) (fun h_1 => ?_)
      · exact absurd h_1 (by omega)
      · refine X_iload dX11_summer_37 rfl ?_
        refine X_if_neN (a := 0) 56 dX11_summer_39 (by decide) (by omega) (fun h_2 => ?_) (fun h_2 => ?_)
        · exact absurd h_2 (by omega)
        · refine X_aload_n dX11_summer_42 rfl ?_
          refine X_getr (a := 3) dX11_summer_43 fkX11_25 rfl (k_0 hSh) (r_0_2 hSh) ?_
          refine X_aload_n dX11_summer_46 rfl ?_
          refine X_getr (a := 84) dX11_summer_47 fkX11_95 rfl (k_0 hSh) (r_0_13 hSh) ?_
          refine X_callVV dX11_summer_50 mkX11_335 (k_3 hSh) (c_tellWaking Γ g y ml hSh 84 (k_84 hSh)) rfl rfl (by decide) (Nat.le_of_ble_eq_true rfl) ?_
          have hE : ∀ a, a ≠ 84 → (fun i j => if i = 84 then va_cpy (y 6) (y 84) 0 0 8 j else y i j) a = y a := fun a ha => by funext j; exact if_neg ha
          refine X_goto 80 dX11_summer_53 (by decide) ?_
          refine X_L [(7, .int (nI 0)), (6, .int (sumN (smI A s) 0)), (5, .int (sumN (smG A s) 0)), (4, .int ((smS A s 0).1)), (0, .ref 0), (1, .int s), (2, .int (nI k)), (3, .int (nI 1))] ⟨rfl, rfl, rfl, rfl, rfl, rfl, rfl, rfl, trivial⟩ ?_
          exact key _ (CI_fr hyC (dg_S hE) rfl) (fun b hb => ((if_pos rfl).trans (cpy_in (by omega))).trans (((CI_cl hyC).2.2.2.2.2.2 b hb).1.trans (congrArg nI (pU_e hb).symm))) (hE 85 (by omega)) (frK_t hyK (dg_K hE))
    · obtain ⟨j, rfl⟩ : ∃ j, i = j + 1 := ⟨i - 1, by omega⟩
      refine X_iload dX11_summer_31 rfl ?_
      refine X_iload_n dX11_summer_33 rfl ?_
      refine X_icmp_geN (a := j + 1) (b := k) 151 dX11_summer_34 (by decide) (by omega) (by omega) (fun h_3 => ?_) (fun h_3 => ?_)
      · exact absurd h_3 (by omega)
      · refine X_iload dX11_summer_37 rfl ?_
        refine X_if_neN (a := j + 1) 56 dX11_summer_39 (by decide) (by omega) (fun h_4 => ?_) (fun h_4 => ?_)
        · refine X_aload_n dX11_summer_56 rfl ?_
          refine X_getr (a := 17) dX11_summer_57 fkX11_35 rfl (k_0 hSh) (r_0_4 hSh) ?_
          refine X_aload_n dX11_summer_60 rfl ?_
          refine X_getr (a := 67) dX11_summer_61 fkX11_76 rfl (k_0 hSh) (r_0_10 hSh) ?_
          refine X_aload_n dX11_summer_64 rfl ?_
          refine X_getr (a := 27) dX11_summer_65 fkX11_60 rfl (k_0 hSh) (r_0_7 hSh) ?_
          refine X_getr (a := 28) dX11_summer_68 fkX11_338 rfl (k_27 hSh) (r_27_3 hSh) ?_
          refine X_iload dX11_summer_71 rfl ?_
          refine X_aload_n dX11_summer_73 rfl ?_
          refine X_getr (a := 84) dX11_summer_74 fkX11_95 rfl (k_0 hSh) (r_0_13 hSh) ?_
          refine X_callVrV dX11_summer_77 mkX11_341 (k_17 hSh) (c_nmK Γ g y ml A hA hyC (smS A s j).2 (smD A s j) (hyD (by omega)) (fun b hb => sm_lt hA hb j) (j + 1)) rfl rfl (by decide) (Nat.le_of_ble_eq_true rfl) (fun n1 nl hn1 => ?_)
          obtain ⟨hnC, hnc, hnT, hnK, hnl⟩ := hn1
          rw [hnl] at hnC ⊢
          refine X_L [(7, .int (nI (j + 1))), (6, .int (sumN (smI A s) (j + 1))), (5, .int (sumN (smG A s) (j + 1))), (4, .int ((smS A s (j + 1)).1)), (0, .ref 0), (1, .int s), (2, .int (nI k)), (3, .int (nI 1))] ⟨rfl, rfl, rfl, rfl, rfl, rfl, rfl, rfl, trivial⟩ ?_
          exact key _ hnC hnc hnT (frK_t hyK hnK)
        · exact absurd h_4 h00
  · intro y hI
    obtain ⟨hyC, hyT, hyD, hyK⟩ := hI
    refine X_iload dX11_summer_31 rfl ?_
    refine X_iload_n dX11_summer_33 rfl ?_
    refine X_icmp_geN (a := k) (b := k) 151 dX11_summer_34 (by decide) (by omega) (by omega) (fun h_5 => ?_) (fun h_5 => ?_)
    · refine X_iload_n dX11_summer_151 rfl ?_
      refine X_tableIn 183 dX11_summer_152 (by decide) (by decide) rfl (by decide) ?_
      refine X_iload dX11_summer_183 rfl ?_
      exact X_iret dX11_summer_185 rfl ⟨rfl, hyC, hyK, rfl⟩
    · exact absurd h_5 (by omega)
set_option maxRecDepth 100000 in
set_option maxHeartbeats 4000000 in
theorem r_summer_1 (Γ : pTG) (g : pGG) (mi : pMI) (ml : pML) (A : AS) (hA : okAS A) (hSh : Sh g) (hR : RI A mi) (k : Nat) (hka : 1 ≤ k) (hk : k ≤ 60)  (s : Int32) : CT Γ 60 0 0 mX12_summer [.ref 87, .int s, .int (nI k), .int (nI 1)] g mi ml (RQ A (.inl (sumN (smI A s) k)) cd1 g mi ml) := by
  refine CT_of (by decide +kernel) (Nat.le_of_ble_eq_true rfl) ?_
  have hP := hA.1
  have hG8 : aG A ≤ 8 := hP.2.1
  have hC8 : (aP A).1 ≤ 8 := hP.1
  refine X_aload_n dX12_summer_0 rfl ?_
  refine X_iconst (v := nI 0) dX12_summer_1 (by decide) ?_
  refine X_puti dX12_summer_2 fkX12_158 rfl rfl (k_87 hSh) ?_
  refine X_aload_n dX12_summer_5 rfl ?_
  refine X_iload_n dX12_summer_6 rfl ?_
  refine X_iconst (v := nI 1) dX12_summer_7 (by decide) ?_
  refine X_bipush (v := nI 60) dX12_summer_8 (by decide) ?_
  refine X_callSI dX12_summer_10 mkX12_192 (c_in Γ g (up2 mi 87 0 (nI 0)) ml (nI k) (nI 1) (nI 60)) rfl rfl (by decide) (Nat.le_of_ble_eq_true rfl) ?_
  refine X_topi (show bI (decide (nI 1 ≤ nI k) && decide (nI k ≤ nI 60)) = nI 1 from congrArg bI (show (decide (nI 1 ≤ nI k) && decide (nI k ≤ nI 60)) = true from by rw [decide_eq_true (nI_le (by omega) (by omega)), decide_eq_true (nI_le (by omega) (by omega))]; rfl)) ?_
  refine X_if_eqN (a := 1) 25 dX12_summer_13 (by decide) (by omega) (fun h_1 => ?_) (fun h_1 => ?_)
  · exact absurd h_1 (by omega)
  · refine X_iload_n dX12_summer_16 rfl ?_
    refine X_iconst (v := nI 0) dX12_summer_17 (by decide) ?_
    refine X_iconst (v := nI 3) dX12_summer_18 (by decide) ?_
    refine X_callSI dX12_summer_19 mkX12_192 (c_in Γ g (up2 mi 87 0 (nI 0)) ml (nI 1) (nI 0) (nI 3)) rfl rfl (by decide) (Nat.le_of_ble_eq_true rfl) ?_
    refine X_topi (show bI (decide (nI 0 ≤ nI 1) && decide (nI 1 ≤ nI 3)) = nI 1 from congrArg bI (show (decide (nI 0 ≤ nI 1) && decide (nI 1 ≤ nI 3)) = true from by decide)) ?_
    refine X_if_neN (a := 1) 29 dX12_summer_22 (by decide) (by omega) (fun h_2 => ?_) (fun h_2 => ?_)
    · refine X_iconst (v := nI 0) dX12_summer_29 (by decide) ?_
      refine X_iconst (v := nI 1) dX12_summer_30 (by decide) ?_
      refine X_iconst (v := nI 1) dX12_summer_31 (by decide) ?_
      refine X_callVI dX12_summer_32 mkX12_228 (k_87 hSh) (c_bad0 Γ g (up2 mi 87 0 (nI 0)) ml hSh 1 1 up2_s) rfl rfl (by decide) (Nat.le_of_ble_eq_true rfl) ?_
      refine X_if_eqN (a := 0) 40 dX12_summer_35 (by decide) (by omega) (fun h_3 => ?_) (fun h_3 => ?_)
      · refine X_iconst (v := nI 0) dX12_summer_40 (by decide) ?_
        refine X_istore dX12_summer_41 (by decide) ?_
        refine X_iconst (v := nI 0) dX12_summer_43 (by decide) ?_
        refine X_istore dX12_summer_44 (by decide) ?_
        refine X_iconst (v := -1) dX12_summer_46 (by decide) ?_
        refine X_istore dX12_summer_47 (by decide) ?_
        refine X_iconst (v := nI 0) dX12_summer_49 (by decide) ?_
        refine X_istore dX12_summer_50 (by decide) ?_
        refine X_L [(7, .int (nI 0)), (6, .int (-1)), (5, .int (nI 0)), (4, .int (nI 0)), (0, .ref 87), (1, .int s), (2, .int (nI k)), (3, .int (nI 1))] ⟨rfl, rfl, rfl, rfl, rfl, rfl, rfl, rfl, trivial⟩ ?_
        refine X_forR (σ := pMI) 52 (fun i y => [(7, .int (nI i)), (6, .int (-1)), (5, .int (nI 0)), (4, .int (nI 0)), (0, .ref 87), (1, .int s), (2, .int (nI k)), (3, .int (nI 1))]) (fun y => y) (fun y => ml) (fun i y => y = fillR (up2 mi 87 0 (nI 0)) 447 i (fun _ => nI 0)) 8 ?_ ?_ 8 0 ((up2 mi 87 0 (nI 0))) (by omega) (fill_0 _ _ _).symm
        · intro i y hi hI hn
          refine X_iload dX12_summer_52 rfl ?_
          refine X_bipush (v := nI 8) dX12_summer_54 (by decide) ?_
          refine X_icmp_geN (a := i) (b := 8) 73 dX12_summer_56 (by decide) (by omega) (by omega) (fun h_4 => ?_) (fun h_4 => ?_)
          · exact absurd hi (by omega)
          · refine X_aload_n dX12_summer_59 rfl ?_
            refine X_getr (a := 447) dX12_summer_60 fkX12_143 rfl (k_87 hSh) (r_87_59 hSh) ?_
            refine X_iload dX12_summer_63 rfl ?_
            refine X_iconst (v := nI 0) dX12_summer_65 (by decide) ?_
            refine X_iast i dX12_summer_66 (k_447 hSh) rfl (by omega) ?_
            refine X_iinc (v := nI (i + 1)) dX12_summer_67 rfl (nI_1 _) (by decide) ?_
            refine X_goto 52 dX12_summer_70 (by decide) ?_
            refine X_L [(7, .int (nI (i + 1))), (6, .int (-1)), (5, .int (nI 0)), (4, .int (nI 0)), (0, .ref 87), (1, .int s), (2, .int (nI k)), (3, .int (nI 1))] ⟨rfl, rfl, rfl, rfl, rfl, rfl, rfl, rfl, trivial⟩ ?_
            refine hn _ ?_
            rw [hI]; exact fill_s _ _ _ _
        · intro y hI
          have hyW : RW mi y := by rw [hI]; exact fill_W RW_0 (by unfold rsR; omega)
          have hyT : ∀ b, b < 8 → y 447 b = nI 0 := fun b hb => by rw [hI]; exact fill_at hb
          refine X_iload dX12_summer_52 rfl ?_
          refine X_bipush (v := nI 8) dX12_summer_54 (by decide) ?_
          refine X_icmp_geN (a := 8) (b := 8) 73 dX12_summer_56 (by decide) (by omega) (by omega) (fun h_5 => ?_) (fun h_5 => ?_)
          · refine X_aload_n dX12_summer_73 rfl ?_
            refine X_callVrV dX12_summer_74 mkX12_347 (k_87 hSh) (r_beg Γ g y ml A hA hSh mi hR hyW) rfl rfl (by decide) (Nat.le_of_ble_eq_true rfl) (fun b1 bl hb1 => ?_)
            obtain ⟨hbS, hbc, hbW, hbB, hbl⟩ := hb1
            rw [hbl]
            refine X_aload_n dX12_summer_77 rfl ?_
            refine X_iload_n dX12_summer_78 rfl ?_
            refine X_puti dX12_summer_79 fkX12_384 rfl rfl (k_87 hSh) ?_
            refine X_iconst (v := nI 0) dX12_summer_82 (by decide) ?_
            refine X_istore dX12_summer_83 (by decide) ?_
            refine X_L [(7, .int (nI 0)), (6, .int (-1)), (5, .int (nI 0)), (4, .int (nI 0)), (0, .ref 87), (1, .int s), (2, .int (nI k)), (3, .int (nI 1))] ⟨rfl, rfl, rfl, rfl, rfl, rfl, rfl, rfl, trivial⟩ ?_
            refine X_L [(7, .int (nI (0))), (6, .int (-1)), (5, .int (sumN (smI A s) (0))), (4, .int (sumN (smG A s) (0))), (0, .ref 87), (1, .int s), (2, .int (nI k)), (3, .int (nI 1))] ⟨rfl, rfl, rfl, rfl, rfl, rfl, rfl, rfl, trivial⟩ ?_
            refine X_forR (σ := pMI) 85 (fun i z => [(7, .int (nI (i))), (6, .int (-1)), (5, .int (sumN (smI A s) (i))), (4, .int (sumN (smG A s) (i))), (0, .ref 87), (1, .int s), (2, .int (nI k)), (3, .int (nI 1))]) (fun z => z) (fun z => ml) (fun i z => RW mi z ∧ z 87 60 = (smS A s i).1 ∧ (∀ b, b < aG A → z 447 b = nI (smT A s i b)) ∧ (∃ rk, rS z (aP A) (aH A) id rk (aP A).2.2.2.1) ∧ (i = 0 → ∀ b, b < aG A → z 194 b = nI ((smS A s 0).2 b) ∧ (smS A s 0).2 b < 24) ∧ (0 < i → RDY z (aP A) (smS A s (i - 1)).2 (smD A s (i - 1)))) k ?_ ?_ k 0 (up2 b1 87 60 s) (by omega) ⟨RW_f hbW (by unfold rsF; omega) (by omega), up2_s, fun b hb => by rw [up2_row (by omega), hbB.1 447 (by omega) (by omega) (by omega) (by omega)]; exact hyT b (by omega), ⟨_, rS_f hA.1 (by omega) hbS⟩, fun _ b hb => by rw [up2_row (by omega)]; exact hbc b hb, fun h => absurd h (by omega)⟩
            · intro i z hi hI hn
              obtain ⟨hzW, hz60, hzT, ⟨rk9, hzS⟩, hz0, hzD⟩ := hI
              have key : ∀ u0 : pMI, RW mi u0 → u0 87 60 = (smS A s i).1 → u0 447 = z 447 → rS u0 (aP A) (aH A) id rk9 (aP A).2.2.2.1 → (∀ b, b < aG A → u0 194 b = nI ((smS A s i).2 b) ∧ (smS A s i).2 b < 24) → XW Γ 60 0 0 mX12_summer 102 [(7, .int (nI (i))), (6, .int (-1)), (5, .int (sumN (smI A s) (i))), (4, .int (sumN (smG A s) (i))), (0, .ref 87), (1, .int s), (2, .int (nI k)), (3, .int (nI 1))] [] g u0 ml (RQ A (.inl (sumN (smI A s) k)) cd1 g mi ml) := by
                intro u0 h0W h060 h0T h0S h0c
                refine X_aload_n dX12_summer_102 rfl ?_
                refine X_callVrV dX12_summer_103 mkX12_391 (k_87 hSh) (r_draw Γ g u0 ml A hA hSh mi hR h0W rk9 (aP A).2.2.2.1 h0S) rfl rfl (by decide) (Nat.le_of_ble_eq_true rfl) (fun x1 xl hx1 => ?_)
                obtain ⟨hxS, hxW, hx60, hxF, hxl⟩ := hx1
                rw [hxl]
                rw [h060] at hxS hx60
                refine X_aload_n dX12_summer_106 rfl ?_
                refine X_callVrV dX12_summer_107 mkX12_341 (k_87 hSh) (r_run Γ g x1 ml A hA hSh mi hxW id (lDw A (smS A s i).1).2.2 (lDw A (smS A s i).1).2.1 (smS A s i).2 (aP A).2.2.2.1 ⟨hA.1.2.2.2.1, hA.1.2.2.2.2.1⟩ hxS (lDw_ok hA _) (fun b hb => by rw [hxF 194 (by omega) (by omega) (by omega)]; exact h0c b hb)) rfl rfl (by decide) (Nat.le_of_ble_eq_true rfl) (fun u1 ul hu1 => ?_)
                obtain ⟨huR, huS, huW, huF, hul⟩ := hu1
                rw [hul]
                have huR : RDY u1 (aP A) (smS A s i).2 (smD A s i) := huR
                refine X_iload dX12_summer_110 rfl ?_
                refine X_aload_n dX12_summer_112 rfl ?_
                refine X_callVI dX12_summer_113 mkX12_359 (k_87 hSh) (c_allGot Γ g u1 ml hSh (aG A) (RW_I hA hR huW).1.2.1 hG8) rfl rfl (by decide) (Nat.le_of_ble_eq_true rfl) ?_
                refine X_topi (show _ = smG A s i from sumN_eq _ (fun b hb => (huR.1 b hb).2.2.2.2.1)) ?_
                refine X_iadd dX12_summer_116 ?_
                refine X_istore dX12_summer_117 (by decide) ?_
                refine X_iload dX12_summer_119 rfl ?_
                refine X_aload_n dX12_summer_121 rfl ?_
                refine X_callVI dX12_summer_122 mkX12_362 (k_87 hSh) (c_allIdle Γ g u1 ml hSh (aP A).1 (RW_I hA hR huW).1.1 hC8) rfl rfl (by decide) (Nat.le_of_ble_eq_true rfl) ?_
                refine X_topi (show _ = smI A s i from sumN_eq _ (fun c hc => (huR.2.1 c hc).2.1)) ?_
                refine X_iadd dX12_summer_125 ?_
                refine X_istore dX12_summer_126 (by decide) ?_
                refine X_iconst (v := nI 0) dX12_summer_128 (by decide) ?_
                refine X_istore dX12_summer_129 (by decide) ?_
                refine X_L [(8, .int (nI 0)), (7, .int (nI i)), (6, .int (-1)), (5, .int ((sumN (smI A s) i) + (smI A s i))), (4, .int ((sumN (smG A s) i) + (smG A s i))), (0, .ref 87), (1, .int s), (2, .int (nI k)), (3, .int (nI 1))] ⟨rfl, rfl, rfl, rfl, rfl, rfl, rfl, rfl, rfl, trivial⟩ ?_
                refine X_forR (σ := pMI) 131 (fun j t => [(8, .int (nI j)), (7, .int (nI i)), (6, .int (-1)), (5, .int ((sumN (smI A s) i) + (smI A s i))), (4, .int ((sumN (smG A s) i) + (smG A s i))), (0, .ref 87), (1, .int s), (2, .int (nI k)), (3, .int (nI 1))]) (fun t => t) (fun t => ml) (fun j t => (RDY t (aP A) (smS A s i).2 (smD A s i) ∧ rS t (aP A) (aH A) id (lDw A (smS A s i).1).2.2 (aP A).2.2.2.1 ∧ RW mi t ∧ t 87 60 = (smS A s (i + 1)).1) ∧ (∀ b, b < aG A → t 447 b = nI (smT A s (if b < j then i + 1 else i) b))) (aG A) ?_ ?_ (aG A) 0 u1 (by omega) ⟨⟨huR, huS, huW, by rw [huF 87 (by omega) (by omega) (by omega) (by omega) (by omega)]; exact hx60⟩, fun b hb => by rw [if_neg (by omega), huF 447 (by omega) (by omega) (by omega) (by omega) (by omega), hxF 447 (by omega) (by omega) (by omega), h0T]; exact hzT b hb⟩
                · intro j t hj hJ hn2
                  obtain ⟨⟨htR, htS, htW, ht60⟩, htT⟩ := hJ
                  obtain ⟨n9, hn9, hn8, hse⟩ := sea_r htR hj
                  refine X_iload dX12_summer_131 rfl ?_
                  refine X_aload_n dX12_summer_133 rfl ?_
                  refine X_getr (a := 91) dX12_summer_134 fkX12_23 rfl (k_87 hSh) (r_87_12 hSh) ?_
                  refine X_iconst (v := nI 1) dX12_summer_137 (by decide) ?_
                  refine X_iald 1 dX12_summer_138 (k_91 hSh) rfl (by omega) ?_
                  rw [(RW_I hA hR htW).1.2.1]
                  refine X_icmp_geN (a := j) (b := aG A) 173 dX12_summer_139 (by decide) (by omega) (by omega) (fun h_6 => ?_) (fun h_6 => ?_)
                  · exact absurd h_6 (by omega)
                  · refine X_aload_n dX12_summer_142 rfl ?_
                    refine X_getr (a := 447) dX12_summer_143 fkX12_143 rfl (k_87 hSh) (r_87_59 hSh) ?_
                    refine X_iload dX12_summer_146 rfl ?_
                    refine X_dup2 dX12_summer_148 rfl rfl ?_
                    refine X_iald j dX12_summer_149 (k_447 hSh) rfl (by omega) ?_
                    rw [(show t 447 j = nI (smT A s i j) by rw [htT j hj, if_neg (by omega)])]
                    refine X_aload_n dX12_summer_150 rfl ?_
                    refine X_getr (a := 201) dX12_summer_151 fkX12_92 rfl (k_87 hSh) (r_87_41 hSh) ?_
                    refine X_iload dX12_summer_154 rfl ?_
                    refine X_iald j dX12_summer_156 (k_201 hSh) rfl (by omega) ?_
                    rw [hn8]
                    refine X_if_leN (a := n9) 164 dX12_summer_157 (by decide) (by omega) (fun h_7 => ?_) (fun h_7 => ?_)
                    · refine X_iconst (v := nI 0) dX12_summer_164 (by decide) ?_
                      refine X_iadd dX12_summer_165 ?_
                      refine X_topi (nI_add (smT A s i j) 0) ?_
                      refine X_iast j dX12_summer_166 (k_447 hSh) rfl (by omega) ?_
                      refine X_iinc (v := nI (j + 1)) dX12_summer_167 rfl (nI_1 _) (by decide) ?_
                      refine X_goto 131 dX12_summer_170 (by decide) ?_
                      refine X_L [(8, .int (nI (j + 1))), (7, .int (nI i)), (6, .int (-1)), (5, .int ((sumN (smI A s) i) + (smI A s i))), (4, .int ((sumN (smG A s) i) + (smG A s i))), (0, .ref 87), (1, .int s), (2, .int (nI k)), (3, .int (nI 1))] ⟨rfl, rfl, rfl, rfl, rfl, rfl, rfl, rfl, rfl, trivial⟩ ?_
                      have hsm : ∀ q, q < 230 → (up2 t 447 j (nI ((smT A s i j) + 0))) q = t q := fun q hq => up2_row (by omega)
                      refine hn2 _ ⟨⟨RDY_b hP hsm htR, rS_b hP hsm htS, RW_u htW (by unfold rsR; omega), by rw [up2_row (by omega)]; exact ht60⟩, fun b hb => ?_⟩
                      by_cases q : b = j
                      · subst q; rw [up2_s, if_pos (by omega), smT_s, hse]; first | rw [decide_eq_true (by omega)]; rfl | rw [decide_eq_false (by omega)]; rfl
                      · rw [up2_n q, htT b hb]; by_cases q2 : b < j; (rw [if_pos q2, if_pos (by omega)]); rw [if_neg q2, if_neg (by omega)]
                    · refine X_iconst (v := nI 1) dX12_summer_160 (by decide) ?_
                      refine X_goto 165 dX12_summer_161 (by decide) ?_
                      refine X_iadd dX12_summer_165 ?_
                      refine X_topi (nI_add (smT A s i j) 1) ?_
                      refine X_iast j dX12_summer_166 (k_447 hSh) rfl (by omega) ?_
                      refine X_iinc (v := nI (j + 1)) dX12_summer_167 rfl (nI_1 _) (by decide) ?_
                      refine X_goto 131 dX12_summer_170 (by decide) ?_
                      refine X_L [(8, .int (nI (j + 1))), (7, .int (nI i)), (6, .int (-1)), (5, .int ((sumN (smI A s) i) + (smI A s i))), (4, .int ((sumN (smG A s) i) + (smG A s i))), (0, .ref 87), (1, .int s), (2, .int (nI k)), (3, .int (nI 1))] ⟨rfl, rfl, rfl, rfl, rfl, rfl, rfl, rfl, rfl, trivial⟩ ?_
                      have hsm : ∀ q, q < 230 → (up2 t 447 j (nI ((smT A s i j) + 1))) q = t q := fun q hq => up2_row (by omega)
                      refine hn2 _ ⟨⟨RDY_b hP hsm htR, rS_b hP hsm htS, RW_u htW (by unfold rsR; omega), by rw [up2_row (by omega)]; exact ht60⟩, fun b hb => ?_⟩
                      by_cases q : b = j
                      · subst q; rw [up2_s, if_pos (by omega), smT_s, hse]; first | rw [decide_eq_true (by omega)]; rfl | rw [decide_eq_false (by omega)]; rfl
                      · rw [up2_n q, htT b hb]; by_cases q2 : b < j; (rw [if_pos q2, if_pos (by omega)]); rw [if_neg q2, if_neg (by omega)]
                · intro t hJ
                  obtain ⟨⟨htR, htS, htW, ht60⟩, htT⟩ := hJ
                  refine X_iload dX12_summer_131 rfl ?_
                  refine X_aload_n dX12_summer_133 rfl ?_
                  refine X_getr (a := 91) dX12_summer_134 fkX12_23 rfl (k_87 hSh) (r_87_12 hSh) ?_
                  refine X_iconst (v := nI 1) dX12_summer_137 (by decide) ?_
                  refine X_iald 1 dX12_summer_138 (k_91 hSh) rfl (by omega) ?_
                  rw [(RW_I hA hR htW).1.2.1]
                  refine X_icmp_geN (a := aG A) (b := aG A) 173 dX12_summer_139 (by decide) (by omega) (by omega) (fun h_8 => ?_) (fun h_8 => ?_)
                  · refine X_iinc (v := nI (i + 1)) dX12_summer_173 rfl (nI_1 _) (by decide) ?_
                    refine X_goto 85 dX12_summer_176 (by decide) ?_
                    refine X_L [(7, .int (nI (i + 1))), (6, .int (-1)), (5, .int ((sumN (smI A s) i) + (smI A s i))), (4, .int ((sumN (smG A s) i) + (smG A s i))), (0, .ref 87), (1, .int s), (2, .int (nI k)), (3, .int (nI 1))] ⟨rfl, rfl, rfl, rfl, rfl, rfl, rfl, rfl, trivial⟩ ?_
                    refine X_L [(7, .int (nI (i + 1))), (6, .int (-1)), (5, .int (sumN (smI A s) (i + 1))), (4, .int (sumN (smG A s) (i + 1))), (0, .ref 87), (1, .int s), (2, .int (nI k)), (3, .int (nI 1))] ⟨rfl, rfl, rfl, rfl, rfl, rfl, rfl, rfl, trivial⟩ ?_
                    exact hn t ⟨htW, ht60, fun b hb => by rw [htT b hb, if_pos hb], ⟨_, htS⟩, fun h => absurd h (by omega), fun _ => htR⟩
                  · exact absurd h_8 (by omega)
              by_cases h00 : i = 0
              · subst h00
                refine X_iload dX12_summer_85 rfl ?_
                refine X_iload_n dX12_summer_87 rfl ?_
                refine X_icmp_geN (a := 0) (b := k) 179 dX12_summer_88 (by decide) (by omega) (by omega) (fun h_9 => ?_) (fun h_9 => ?_)
                · exact absurd h_9 (by omega)
                · refine X_iload dX12_summer_91 rfl ?_
                  refine X_if_leN (a := 0) 102 dX12_summer_93 (by decide) (by omega) (fun h_10 => ?_) (fun h_10 => ?_)
                  · refine X_L [(7, .int (nI 0)), (6, .int (-1)), (5, .int (sumN (smI A s) 0)), (4, .int (sumN (smG A s) 0)), (0, .ref 87), (1, .int s), (2, .int (nI k)), (3, .int (nI 1))] ⟨rfl, rfl, rfl, rfl, rfl, rfl, rfl, rfl, trivial⟩ ?_
                    exact key _ hzW hz60 rfl hzS (hz0 rfl)
                  · exact absurd h_10 (by omega)
              · obtain ⟨j, rfl⟩ : ∃ j, i = j + 1 := ⟨i - 1, by omega⟩
                refine X_iload dX12_summer_85 rfl ?_
                refine X_iload_n dX12_summer_87 rfl ?_
                refine X_icmp_geN (a := j + 1) (b := k) 179 dX12_summer_88 (by decide) (by omega) (by omega) (fun h_11 => ?_) (fun h_11 => ?_)
                · exact absurd h_11 (by omega)
                · refine X_iload dX12_summer_91 rfl ?_
                  refine X_if_leN (a := j + 1) 102 dX12_summer_93 (by decide) (by omega) (fun h_12 => ?_) (fun h_12 => ?_)
                  · exact absurd h_12 (by omega)
                  · refine X_aload_n dX12_summer_96 rfl ?_
                    refine X_iload dX12_summer_97 rfl ?_
                    refine X_callVrV dX12_summer_99 mkX12_344 (k_87 hSh) (r_ask Γ g z ml A hA hSh mi hzW id rk9 _ _ (j + 1) _ hzS (hzD (by omega))) rfl rfl (by decide) (Nat.le_of_ble_eq_true rfl) (fun a1 al ha1 => ?_)
                    obtain ⟨hac, haS, haW, haF, hal⟩ := ha1
                    rw [hal]
                    refine X_L [(7, .int (nI (j + 1))), (6, .int (-1)), (5, .int (sumN (smI A s) (j + 1))), (4, .int (sumN (smG A s) (j + 1))), (0, .ref 87), (1, .int s), (2, .int (nI k)), (3, .int (nI 1))] ⟨rfl, rfl, rfl, rfl, rfl, rfl, rfl, rfl, trivial⟩ ?_
                    exact key _ haW ((congrFun (haF 87 (by omega) (by omega) (by omega) (by omega) (by omega)) 60).trans hz60) (haF 447 (by omega) (by omega) (by omega) (by omega) (by omega)) haS hac
            · intro z hI
              obtain ⟨hzW, hz60, hzT, ⟨rk9, hzS⟩, hz0, hzD⟩ := hI
              have hzI := RW_I hA hR hzW
              have hzD := hzD (by omega)
              have hf : ∀ b, b < aG A → z 447 b = nI (smT A s k b) := hzT
              have hfb : ∀ b, smT A s k b ≤ 1000 := fun b => Nat.le_trans (smT_le b) (by omega)
              generalize hsf : smT A s k = f at hf hfb
              refine X_iload dX12_summer_85 rfl ?_
              refine X_iload_n dX12_summer_87 rfl ?_
              refine X_icmp_geN (a := k) (b := k) 179 dX12_summer_88 (by decide) (by omega) (by omega) (fun h_13 => ?_) (fun h_13 => ?_)
              · refine X_iconst (v := nI 0) dX12_summer_179 (by decide) ?_
                refine X_istore dX12_summer_180 (by decide) ?_
                refine X_L [(7, .int (nI 0)), (6, .int (-1)), (5, .int (sumN (smI A s) k)), (4, .int (sumN (smG A s) k)), (0, .ref 87), (1, .int s), (2, .int (nI k)), (3, .int (nI 1))] ⟨rfl, rfl, rfl, rfl, rfl, rfl, rfl, rfl, trivial⟩ ?_
                refine X_L [(7, .int (nI 0)), (6, .int (oI (fmN f 0))), (5, .int (sumN (smI A s) k)), (4, .int (sumN (smG A s) k)), (0, .ref 87), (1, .int s), (2, .int (nI k)), (3, .int (nI 1))] ⟨rfl, rfl, rfl, rfl, rfl, rfl, rfl, rfl, trivial⟩ ?_
                refine X_forR (σ := Unit) 182 (fun i u => [(7, .int (nI i)), (6, .int (oI (fmN f i))), (5, .int (sumN (smI A s) k)), (4, .int (sumN (smG A s) k)), (0, .ref 87), (1, .int s), (2, .int (nI k)), (3, .int (nI 1))]) (fun u => z) (fun u => ml) (fun i u => True) (aG A) ?_ ?_ (aG A) 0 () (by omega) trivial
                · intro i u hi hI hn
                  have hfi := hfb i
                  cases hq : fmN f i with
                  | none =>
                    refine X_iload dX12_summer_182 rfl ?_
                    refine X_aload_n dX12_summer_184 rfl ?_
                    refine X_getr (a := 91) dX12_summer_185 fkX12_23 rfl (k_87 hSh) (r_87_12 hSh) ?_
                    refine X_iconst (v := nI 1) dX12_summer_188 (by decide) ?_
                    refine X_iald 1 dX12_summer_189 (k_91 hSh) rfl (by omega) ?_
                    rw [hzI.1.2.1]
                    refine X_icmp_geN (a := i) (b := aG A) 231 dX12_summer_190 (by decide) (by omega) (by omega) (fun h_14 => ?_) (fun h_14 => ?_)
                    · exact absurd h_14 (by omega)
                    · refine X_iload dX12_summer_193 rfl ?_
                      refine X_iconst (v := -1) dX12_summer_195 (by decide) ?_
                      refine X_icmp_eq 216 dX12_summer_196 (by decide) (fun h_15 => ?_) (fun h_15 => ?_)
                      · refine X_iload dX12_summer_216 rfl ?_
                        refine X_goto 223 dX12_summer_218 (by decide) ?_
                        refine X_istore dX12_summer_223 (by decide) ?_
                        refine X_iinc (v := nI (i + 1)) dX12_summer_225 rfl (nI_1 _) (by decide) ?_
                        refine X_goto 182 dX12_summer_228 (by decide) ?_
                        refine X_L [(7, .int (nI (i + 1))), (6, .int (nI i)), (5, .int (sumN (smI A s) k)), (4, .int (sumN (smG A s) k)), (0, .ref 87), (1, .int s), (2, .int (nI k)), (3, .int (nI 1))] ⟨rfl, rfl, rfl, rfl, rfl, rfl, rfl, rfl, trivial⟩ ?_
                        refine X_L [(7, .int (nI (i + 1))), (6, .int (oI (fmN f (i + 1)))), (5, .int (sumN (smI A s) k)), (4, .int (sumN (smG A s) k)), (0, .ref 87), (1, .int s), (2, .int (nI k)), (3, .int (nI 1))] ⟨rfl, by rw [fm_n hq]; rfl, rfl, rfl, rfl, rfl, rfl, rfl, trivial⟩ ?_
                        exact hn () trivial
                      · exact absurd rfl h_15
                  | some q =>
                    have hqi := fm_lt hq
                    have hfq := hfb q
                    refine X_iload dX12_summer_182 rfl ?_
                    refine X_aload_n dX12_summer_184 rfl ?_
                    refine X_getr (a := 91) dX12_summer_185 fkX12_23 rfl (k_87 hSh) (r_87_12 hSh) ?_
                    refine X_iconst (v := nI 1) dX12_summer_188 (by decide) ?_
                    refine X_iald 1 dX12_summer_189 (k_91 hSh) rfl (by omega) ?_
                    rw [hzI.1.2.1]
                    refine X_icmp_geN (a := i) (b := aG A) 231 dX12_summer_190 (by decide) (by omega) (by omega) (fun h_16 => ?_) (fun h_16 => ?_)
                    · exact absurd h_16 (by omega)
                    · refine X_iload dX12_summer_193 rfl ?_
                      refine X_iconst (v := -1) dX12_summer_195 (by decide) ?_
                      refine X_icmp_eq 216 dX12_summer_196 (by decide) (fun h_17 => ?_) (fun h_17 => ?_)
                      · exact absurd h_17 (nI_m1 (by omega))
                      · refine X_aload_n dX12_summer_199 rfl ?_
                        refine X_getr (a := 447) dX12_summer_200 fkX12_143 rfl (k_87 hSh) (r_87_59 hSh) ?_
                        refine X_iload dX12_summer_203 rfl ?_
                        refine X_iald i dX12_summer_205 (k_447 hSh) rfl (by omega) ?_
                        rw [(hf i hi)]
                        refine X_aload_n dX12_summer_206 rfl ?_
                        refine X_getr (a := 447) dX12_summer_207 fkX12_143 rfl (k_87 hSh) (r_87_59 hSh) ?_
                        refine X_iload dX12_summer_210 rfl ?_
                        refine X_iald q dX12_summer_212 (k_447 hSh) rfl (by omega) ?_
                        rw [(hf q (by omega))]
                        refine X_icmp_leN (a := f i) (b := f q) 221 dX12_summer_213 (by decide) (by omega) (by omega) (fun h_18 => ?_) (fun h_18 => ?_)
                        · refine X_iload dX12_summer_221 rfl ?_
                          refine X_istore dX12_summer_223 (by decide) ?_
                          refine X_iinc (v := nI (i + 1)) dX12_summer_225 rfl (nI_1 _) (by decide) ?_
                          refine X_goto 182 dX12_summer_228 (by decide) ?_
                          refine X_L [(7, .int (nI (i + 1))), (6, .int (nI q)), (5, .int (sumN (smI A s) k)), (4, .int (sumN (smG A s) k)), (0, .ref 87), (1, .int s), (2, .int (nI k)), (3, .int (nI 1))] ⟨rfl, rfl, rfl, rfl, rfl, rfl, rfl, rfl, trivial⟩ ?_
                          refine X_L [(7, .int (nI (i + 1))), (6, .int (oI (fmN f (i + 1)))), (5, .int (sumN (smI A s) k)), (4, .int (sumN (smG A s) k)), (0, .ref 87), (1, .int s), (2, .int (nI k)), (3, .int (nI 1))] ⟨rfl, by rw [(fm_s hq).trans (if_neg (by omega))]; rfl, rfl, rfl, rfl, rfl, rfl, rfl, trivial⟩ ?_
                          exact hn () trivial
                        · refine X_iload dX12_summer_216 rfl ?_
                          refine X_goto 223 dX12_summer_218 (by decide) ?_
                          refine X_istore dX12_summer_223 (by decide) ?_
                          refine X_iinc (v := nI (i + 1)) dX12_summer_225 rfl (nI_1 _) (by decide) ?_
                          refine X_goto 182 dX12_summer_228 (by decide) ?_
                          refine X_L [(7, .int (nI (i + 1))), (6, .int (nI i)), (5, .int (sumN (smI A s) k)), (4, .int (sumN (smG A s) k)), (0, .ref 87), (1, .int s), (2, .int (nI k)), (3, .int (nI 1))] ⟨rfl, rfl, rfl, rfl, rfl, rfl, rfl, rfl, trivial⟩ ?_
                          refine X_L [(7, .int (nI (i + 1))), (6, .int (oI (fmN f (i + 1)))), (5, .int (sumN (smI A s) k)), (4, .int (sumN (smG A s) k)), (0, .ref 87), (1, .int s), (2, .int (nI k)), (3, .int (nI 1))] ⟨rfl, by rw [(fm_s hq).trans (if_pos (by omega))]; rfl, rfl, rfl, rfl, rfl, rfl, rfl, trivial⟩ ?_
                          exact hn () trivial
                · intro u hI
                  refine X_iload dX12_summer_182 rfl ?_
                  refine X_aload_n dX12_summer_184 rfl ?_
                  refine X_getr (a := 91) dX12_summer_185 fkX12_23 rfl (k_87 hSh) (r_87_12 hSh) ?_
                  refine X_iconst (v := nI 1) dX12_summer_188 (by decide) ?_
                  refine X_iald 1 dX12_summer_189 (k_91 hSh) rfl (by omega) ?_
                  rw [hzI.1.2.1]
                  refine X_icmp_geN (a := aG A) (b := aG A) 231 dX12_summer_190 (by decide) (by omega) (by omega) (fun h_19 => ?_) (fun h_19 => ?_)
                  · refine X_iload_n dX12_summer_231 rfl ?_
                    refine X_if_neN (a := 1) 240 dX12_summer_232 (by decide) (by omega) (fun h_20 => ?_) (fun h_20 => ?_)
                    · refine X_iload_n dX12_summer_240 rfl ?_
                      refine X_iconst (v := nI 1) dX12_summer_241 (by decide) ?_
                      refine X_icmp_neN (a := 1) (b := 1) 250 dX12_summer_242 (by decide) (by omega) (by omega) (fun h_21 => ?_) (fun h_21 => ?_)
                      · exact absurd h_21 (by omega)
                      · refine X_iload dX12_summer_245 rfl ?_
                        refine X_goto 264 dX12_summer_247 (by decide) ?_
                        exact X_iret dX12_summer_264 rfl ⟨rfl, rfl, RW_I hA hR hzW, hzW.2.1, _, rfl, rfl, hzW.2.2⟩
                    · exact absurd h_20 (by omega)
                  · exact absurd h_19 (by omega)
              · exact absurd h_13 (by omega)
          · exact absurd h_5 (by omega)
      · exact absurd h_3 (by omega)
    · exact absurd h_2 (by omega)
set_option maxRecDepth 100000 in
set_option maxHeartbeats 4000000 in
theorem k_summer_2 (Γ : pTG) (g : pGG) (mi : pMI) (ml : pML) (A : AS) (hA : okAS A) (hC : CI A g mi ml) (k : Nat) (hka : 1 ≤ k) (hk : k ≤ 60)  (s : Int32) : CT Γ 60 20 5000 mX11_summer [.ref 0, .int s, .int (nI k), .int (nI 2)] g mi ml (CQ A (.inl (oI (fmN (smT A s k) (aG A)))) mi ml) := by
  refine CT_of (by decide +kernel) (Nat.le_of_ble_eq_true rfl) ?_
  have hSh := CI_Sh hC
  have hcl := CI_cl hC
  have hP := hA.1
  have hG8 : aG A ≤ 8 := hP.2.1
  have hC8 : (aP A).1 ≤ 8 := hP.1
  refine X_aload_n dX11_summer_0 rfl ?_
  refine X_iload_n dX11_summer_1 rfl ?_
  refine X_iconst (v := nI 1) dX11_summer_2 (by decide) ?_
  refine X_bipush (v := nI 60) dX11_summer_3 (by decide) ?_
  refine X_need dX11_summer_5 mkX11_116 (k_0 hSh) (c_needWithin Γ g mi ml hSh (nI k) (nI 1) (nI 60)) rfl rfl (by decide) (by decide) (by decide) (by decide) (fun h => absurd (⟨nI_le (by omega) (by omega), nI_le (by omega) (by omega)⟩) h) (fun _ => ?_)
  refine X_aload_n dX11_summer_8 rfl ?_
  refine X_iload_n dX11_summer_9 rfl ?_
  refine X_iconst (v := nI 0) dX11_summer_10 (by decide) ?_
  refine X_iconst (v := nI 3) dX11_summer_11 (by decide) ?_
  refine X_need dX11_summer_12 mkX11_116 (k_0 hSh) (c_needWithin Γ g mi ml hSh (nI 2) (nI 0) (nI 3)) rfl rfl (by decide) (by decide) (by decide) (by decide) (fun h => absurd (by decide) h) (fun _ => ?_)
  refine X_aload_n dX11_summer_15 rfl ?_
  refine X_callVV dX11_summer_16 mkX11_326 (k_0 hSh) (c_clearTally Γ g mi ml hSh) rfl rfl (by decide) (Nat.le_of_ble_eq_true rfl) ?_
  refine X_iload_n dX11_summer_19 rfl ?_
  refine X_istore dX11_summer_20 (by decide) ?_
  refine X_iconst (v := nI 0) dX11_summer_22 (by decide) ?_
  refine X_istore dX11_summer_23 (by decide) ?_
  refine X_iconst (v := nI 0) dX11_summer_25 (by decide) ?_
  refine X_istore dX11_summer_26 (by decide) ?_
  refine X_iconst (v := nI 0) dX11_summer_28 (by decide) ?_
  refine X_istore dX11_summer_29 (by decide) ?_
  refine X_L [(7, .int (nI 0)), (6, .int (nI 0)), (5, .int (nI 0)), (4, .int s), (0, .ref 0), (1, .int s), (2, .int (nI k)), (3, .int (nI 2))] ⟨rfl, rfl, rfl, rfl, rfl, rfl, rfl, rfl, trivial⟩ ?_
  refine X_L [(7, .int (nI (0))), (6, .int (sumN (smI A s) (0))), (5, .int (sumN (smG A s) (0))), (4, .int (smS A s (0)).1), (0, .ref 0), (1, .int s), (2, .int (nI k)), (3, .int (nI 2))] ⟨rfl, rfl, rfl, rfl, rfl, rfl, rfl, rfl, trivial⟩ ?_
  refine X_forR (σ := pMI) 31 (fun i y => [(7, .int (nI (i))), (6, .int (sumN (smI A s) (i))), (5, .int (sumN (smG A s) (i))), (4, .int (smS A s (i)).1), (0, .ref 0), (1, .int s), (2, .int (nI k)), (3, .int (nI 2))]) (fun y => y) (fun y => ml) (fun i y => CI A g y ml ∧ (∀ b, b < aG A → y 85 b = nI (smT A s i b)) ∧ (0 < i → CDY y 67 (aP A) (smS A s (i - 1)).2 (smD A s (i - 1))) ∧ frK mi y) k ?_ ?_ k 0 (fillR mi 85 8 (fun _ => nI 0)) (by omega) ⟨CI_fr hC (fill_S (by unfold scR; omega)) rfl, fun b hb => fill_at (by omega), fun h => absurd h (by omega), fill_K (by omega)⟩
  · intro i y hi hI hn
    obtain ⟨hyC, hyT, hyD, hyK⟩ := hI
    have key : ∀ u0 : pMI, CI A g u0 ml → (∀ b, b < aG A → u0 84 b = nI ((smS A s i).2 b)) → u0 85 = y 85 → frK mi u0 → XW Γ 60 (20 - 1 - 1) (5000 - 6 - 6) mX11_summer 80 [(7, .int (nI (i))), (6, .int (sumN (smI A s) (i))), (5, .int (sumN (smG A s) (i))), (4, .int (smS A s (i)).1), (0, .ref 0), (1, .int s), (2, .int (nI k)), (3, .int (nI 2))] [] g u0 ml (CQ A (.inl (oI (fmN (smT A s k) (aG A)))) mi ml) := by
      intro u0 h0C h0c h0T h0K
      refine X_aload_n dX11_summer_80 rfl ?_
      refine X_getr (a := 67) dX11_summer_81 fkX11_76 rfl (k_0 hSh) (r_0_10 hSh) ?_
      refine X_iload dX11_summer_84 rfl ?_
      refine X_callVrI dX11_summer_86 mkX11_332 (k_67 hSh) (c_lotK Γ g u0 ml A hA h0C (smS A s i).1) rfl rfl (by decide) (Nat.le_of_ble_eq_true rfl) (fun v3 m3 l3 hm3 => ?_)
      obtain ⟨hv3, hC3, ho3, he3, hl3⟩ := hm3
      rw [hl3] at hC3 ⊢
      refine X_istore dX11_summer_89 (by decide) ?_
      refine X_aload_n dX11_summer_91 rfl ?_
      refine X_getr (a := 67) dX11_summer_92 fkX11_76 rfl (k_0 hSh) (r_0_10 hSh) ?_
      refine X_aload_n dX11_summer_95 rfl ?_
      refine X_getr (a := 84) dX11_summer_96 fkX11_95 rfl (k_0 hSh) (r_0_13 hSh) ?_
      refine X_aload_n dX11_summer_99 rfl ?_
      refine X_getr (a := 3) dX11_summer_100 fkX11_25 rfl (k_0 hSh) (r_0_2 hSh) ?_
      refine X_geti dX11_summer_103 fkX11_178 rfl (k_3 hSh) ?_
      rw [(CI_cl hC3).2.2.2.1]
      refine X_callVrV dX11_summer_106 mkX11_303 (k_67 hSh) (c_tryK Γ g m3 ml A hA hC3 (smS A s i).2 (lDw A (smS A s i).1).2.2 (lDw A (smS A s i).1).2.1 (aP A).2.2.2.1 (lDw_ok hA _) (fun b hb => ⟨(congrFun (he3 84 (by omega)) b).trans (h0c b hb), sm_lt hA hb i⟩) ho3 ⟨hA.1.2.2.2.1, hA.1.2.2.2.2.1⟩) rfl rfl (by decide) (Nat.le_of_ble_eq_true rfl) (fun u1 ul hu1 => ?_)
      obtain ⟨huC, hcd, huT, hul⟩ := hu1
      rw [hul] at huC ⊢
      have hcd : CDY u1 67 (aP A) (smS A s i).2 (smD A s i) := hcd
      refine X_iload dX11_summer_109 rfl ?_
      refine X_aload_n dX11_summer_111 rfl ?_
      refine X_getr (a := 67) dX11_summer_112 fkX11_76 rfl (k_0 hSh) (r_0_10 hSh) ?_
      refine X_iconst (v := nI 3) dX11_summer_115 (by decide) ?_
      refine X_callVI dX11_summer_116 mkX11_224 (k_67 hSh) (c_total Γ g u1 ml hSh 67 (shC_67 hSh) (aG A) (CI_cl huC).2.1 hG8 3 (by decide)) rfl rfl (by decide) (Nat.le_of_ble_eq_true rfl) ?_
      refine X_topi (show _ = smG A s i from sumN_eq _ (fun b hb => (hcd.1 b hb).2.2.2.1)) ?_
      refine X_iadd dX11_summer_119 ?_
      refine X_istore dX11_summer_120 (by decide) ?_
      refine X_iload dX11_summer_122 rfl ?_
      refine X_aload_n dX11_summer_124 rfl ?_
      refine X_getr (a := 67) dX11_summer_125 fkX11_76 rfl (k_0 hSh) (r_0_10 hSh) ?_
      refine X_callVI dX11_summer_128 mkX11_228 (k_67 hSh) (c_idle Γ g u1 ml hSh 67 (shC_67 hSh) (aP A).1 (CI_cl huC).1 hC8) rfl rfl (by decide) (Nat.le_of_ble_eq_true rfl) ?_
      refine X_topi (show _ = smI A s i from sumN_eq _ (fun c hc => (hcd.2.1 c hc).2.1)) ?_
      refine X_iadd dX11_summer_131 ?_
      refine X_istore dX11_summer_132 (by decide) ?_
      refine X_aload_n dX11_summer_134 rfl ?_
      refine X_aload_n dX11_summer_135 rfl ?_
      refine X_getr (a := 67) dX11_summer_136 fkX11_76 rfl (k_0 hSh) (r_0_10 hSh) ?_
      refine X_callVI dX11_summer_139 mkX11_235 (k_67 hSh) (c_seated Γ g u1 ml hSh 67 (shC_67 hSh) (aG A) (CI_cl huC).2.1 hG8) rfl rfl (by decide) (Nat.le_of_ble_eq_true rfl) ?_
      refine X_topi (sea_m hcd) ?_
      refine X_callVrV dX11_summer_142 mkX11_345 (k_0 hSh) (c_tallyS Γ g u1 ml hSh (mkN (seaB (smD A s i)) (aG A))) rfl rfl (by decide) (Nat.le_of_ble_eq_true rfl) (fun t1 tl ht1 => ?_)
      obtain ⟨htT, htF, htl⟩ := ht1
      rw [htl]
      refine X_iinc (v := nI (i + 1)) dX11_summer_145 rfl (nI_1 _) (by decide) ?_
      refine X_goto 31 dX11_summer_148 (by decide) ?_
      refine X_L [(7, .int (nI (i + 1))), (6, .int ((sumN (smI A s) i) + (smI A s i))), (5, .int ((sumN (smG A s) i) + (smG A s i))), (4, .int v3), (0, .ref 0), (1, .int s), (2, .int (nI k)), (3, .int (nI 2))] ⟨rfl, rfl, rfl, rfl, rfl, rfl, rfl, rfl, trivial⟩ ?_
      refine X_L [(7, .int (nI (i + 1))), (6, .int (sumN (smI A s) (i + 1))), (5, .int (sumN (smG A s) (i + 1))), (4, .int (smS A s (i + 1)).1), (0, .ref 0), (1, .int s), (2, .int (nI k)), (3, .int (nI 2))] ⟨rfl, rfl, rfl, by rw [hv3]; rfl, rfl, rfl, rfl, rfl, trivial⟩ ?_
      refine hn t1 ⟨CI_fr huC (fr85_S htF) rfl, fun b hb => tl_s hb hG8 ?_ rfl (htT b (by omega)), fun _ => cdy_row (htF 68 (by omega)) (htF 69 (by omega)) (by rw [htF 67 (by omega)]) (htF 75 (by omega)) (htF 76 (by omega)) hcd, frK_t h0K (frK_t (fun i h1 h2 => he3 i (by omega)) (frK_t (frT_K (Or.inr rfl) huT) (fun i h1 h2 => htF i (by omega))))⟩
      rw [frT_row huT (by omega), he3 85 (by omega), h0T]; exact hyT b hb
    by_cases h00 : i = 0
    · subst h00
      refine X_iload dX11_summer_31 rfl ?_
      refine X_iload_n dX11_summer_33 rfl ?_
      refine X_icmp_geN (a := 0) (b := k) 151 dX11_summer_34 (by decide) (by omega) (by omega) (fun h_1 => ?_) (fun h_1 => ?_)
      · exact absurd h_1 (by omega)
      · refine X_iload dX11_summer_37 rfl ?_
        refine X_if_neN (a := 0) 56 dX11_summer_39 (by decide) (by omega) (fun h_2 => ?_) (fun h_2 => ?_)
        · exact absurd h_2 (by omega)
        · refine X_aload_n dX11_summer_42 rfl ?_
          refine X_getr (a := 3) dX11_summer_43 fkX11_25 rfl (k_0 hSh) (r_0_2 hSh) ?_
          refine X_aload_n dX11_summer_46 rfl ?_
          refine X_getr (a := 84) dX11_summer_47 fkX11_95 rfl (k_0 hSh) (r_0_13 hSh) ?_
          refine X_callVV dX11_summer_50 mkX11_335 (k_3 hSh) (c_tellWaking Γ g y ml hSh 84 (k_84 hSh)) rfl rfl (by decide) (Nat.le_of_ble_eq_true rfl) ?_
          have hE : ∀ a, a ≠ 84 → (fun i j => if i = 84 then va_cpy (y 6) (y 84) 0 0 8 j else y i j) a = y a := fun a ha => by funext j; exact if_neg ha
          refine X_goto 80 dX11_summer_53 (by decide) ?_
          refine X_L [(7, .int (nI 0)), (6, .int (sumN (smI A s) 0)), (5, .int (sumN (smG A s) 0)), (4, .int ((smS A s 0).1)), (0, .ref 0), (1, .int s), (2, .int (nI k)), (3, .int (nI 2))] ⟨rfl, rfl, rfl, rfl, rfl, rfl, rfl, rfl, trivial⟩ ?_
          exact key _ (CI_fr hyC (dg_S hE) rfl) (fun b hb => ((if_pos rfl).trans (cpy_in (by omega))).trans (((CI_cl hyC).2.2.2.2.2.2 b hb).1.trans (congrArg nI (pU_e hb).symm))) (hE 85 (by omega)) (frK_t hyK (dg_K hE))
    · obtain ⟨j, rfl⟩ : ∃ j, i = j + 1 := ⟨i - 1, by omega⟩
      refine X_iload dX11_summer_31 rfl ?_
      refine X_iload_n dX11_summer_33 rfl ?_
      refine X_icmp_geN (a := j + 1) (b := k) 151 dX11_summer_34 (by decide) (by omega) (by omega) (fun h_3 => ?_) (fun h_3 => ?_)
      · exact absurd h_3 (by omega)
      · refine X_iload dX11_summer_37 rfl ?_
        refine X_if_neN (a := j + 1) 56 dX11_summer_39 (by decide) (by omega) (fun h_4 => ?_) (fun h_4 => ?_)
        · refine X_aload_n dX11_summer_56 rfl ?_
          refine X_getr (a := 17) dX11_summer_57 fkX11_35 rfl (k_0 hSh) (r_0_4 hSh) ?_
          refine X_aload_n dX11_summer_60 rfl ?_
          refine X_getr (a := 67) dX11_summer_61 fkX11_76 rfl (k_0 hSh) (r_0_10 hSh) ?_
          refine X_aload_n dX11_summer_64 rfl ?_
          refine X_getr (a := 27) dX11_summer_65 fkX11_60 rfl (k_0 hSh) (r_0_7 hSh) ?_
          refine X_getr (a := 28) dX11_summer_68 fkX11_338 rfl (k_27 hSh) (r_27_3 hSh) ?_
          refine X_iload dX11_summer_71 rfl ?_
          refine X_aload_n dX11_summer_73 rfl ?_
          refine X_getr (a := 84) dX11_summer_74 fkX11_95 rfl (k_0 hSh) (r_0_13 hSh) ?_
          refine X_callVrV dX11_summer_77 mkX11_341 (k_17 hSh) (c_nmK Γ g y ml A hA hyC (smS A s j).2 (smD A s j) (hyD (by omega)) (fun b hb => sm_lt hA hb j) (j + 1)) rfl rfl (by decide) (Nat.le_of_ble_eq_true rfl) (fun n1 nl hn1 => ?_)
          obtain ⟨hnC, hnc, hnT, hnK, hnl⟩ := hn1
          rw [hnl] at hnC ⊢
          refine X_L [(7, .int (nI (j + 1))), (6, .int (sumN (smI A s) (j + 1))), (5, .int (sumN (smG A s) (j + 1))), (4, .int ((smS A s (j + 1)).1)), (0, .ref 0), (1, .int s), (2, .int (nI k)), (3, .int (nI 2))] ⟨rfl, rfl, rfl, rfl, rfl, rfl, rfl, rfl, trivial⟩ ?_
          exact key _ hnC hnc hnT (frK_t hyK hnK)
        · exact absurd h_4 h00
  · intro y hI
    obtain ⟨hyC, hyT, hyD, hyK⟩ := hI
    refine X_iload dX11_summer_31 rfl ?_
    refine X_iload_n dX11_summer_33 rfl ?_
    refine X_icmp_geN (a := k) (b := k) 151 dX11_summer_34 (by decide) (by omega) (by omega) (fun h_5 => ?_) (fun h_5 => ?_)
    · refine X_iload_n dX11_summer_151 rfl ?_
      refine X_tableIn 186 dX11_summer_152 (by decide) (by decide) rfl (by decide) ?_
      refine X_aload_n dX11_summer_186 rfl ?_
      refine X_callVI dX11_summer_187 mkX11_348 (k_0 hSh) (c_fom Γ g y ml hSh (aG A) (CI_cl hyC).2.1 hG8 (smT A s k) hyT (fun b => Nat.le_trans (smT_le b) (by omega))) rfl rfl (by decide) (Nat.le_of_ble_eq_true rfl) ?_
      exact X_iret dX11_summer_190 rfl ⟨rfl, hyC, hyK, rfl⟩
    · exact absurd h_5 (by omega)
set_option maxRecDepth 100000 in
set_option maxHeartbeats 4000000 in
theorem r_summer_2 (Γ : pTG) (g : pGG) (mi : pMI) (ml : pML) (A : AS) (hA : okAS A) (hSh : Sh g) (hR : RI A mi) (k : Nat) (hka : 1 ≤ k) (hk : k ≤ 60)  (s : Int32) : CT Γ 60 0 0 mX12_summer [.ref 87, .int s, .int (nI k), .int (nI 2)] g mi ml (RQ A (.inl (oI (fmN (smT A s k) (aG A)))) cd1 g mi ml) := by
  refine CT_of (by decide +kernel) (Nat.le_of_ble_eq_true rfl) ?_
  have hP := hA.1
  have hG8 : aG A ≤ 8 := hP.2.1
  have hC8 : (aP A).1 ≤ 8 := hP.1
  refine X_aload_n dX12_summer_0 rfl ?_
  refine X_iconst (v := nI 0) dX12_summer_1 (by decide) ?_
  refine X_puti dX12_summer_2 fkX12_158 rfl rfl (k_87 hSh) ?_
  refine X_aload_n dX12_summer_5 rfl ?_
  refine X_iload_n dX12_summer_6 rfl ?_
  refine X_iconst (v := nI 1) dX12_summer_7 (by decide) ?_
  refine X_bipush (v := nI 60) dX12_summer_8 (by decide) ?_
  refine X_callSI dX12_summer_10 mkX12_192 (c_in Γ g (up2 mi 87 0 (nI 0)) ml (nI k) (nI 1) (nI 60)) rfl rfl (by decide) (Nat.le_of_ble_eq_true rfl) ?_
  refine X_topi (show bI (decide (nI 1 ≤ nI k) && decide (nI k ≤ nI 60)) = nI 1 from congrArg bI (show (decide (nI 1 ≤ nI k) && decide (nI k ≤ nI 60)) = true from by rw [decide_eq_true (nI_le (by omega) (by omega)), decide_eq_true (nI_le (by omega) (by omega))]; rfl)) ?_
  refine X_if_eqN (a := 1) 25 dX12_summer_13 (by decide) (by omega) (fun h_1 => ?_) (fun h_1 => ?_)
  · exact absurd h_1 (by omega)
  · refine X_iload_n dX12_summer_16 rfl ?_
    refine X_iconst (v := nI 0) dX12_summer_17 (by decide) ?_
    refine X_iconst (v := nI 3) dX12_summer_18 (by decide) ?_
    refine X_callSI dX12_summer_19 mkX12_192 (c_in Γ g (up2 mi 87 0 (nI 0)) ml (nI 2) (nI 0) (nI 3)) rfl rfl (by decide) (Nat.le_of_ble_eq_true rfl) ?_
    refine X_topi (show bI (decide (nI 0 ≤ nI 2) && decide (nI 2 ≤ nI 3)) = nI 1 from congrArg bI (show (decide (nI 0 ≤ nI 2) && decide (nI 2 ≤ nI 3)) = true from by decide)) ?_
    refine X_if_neN (a := 1) 29 dX12_summer_22 (by decide) (by omega) (fun h_2 => ?_) (fun h_2 => ?_)
    · refine X_iconst (v := nI 0) dX12_summer_29 (by decide) ?_
      refine X_iconst (v := nI 1) dX12_summer_30 (by decide) ?_
      refine X_iconst (v := nI 1) dX12_summer_31 (by decide) ?_
      refine X_callVI dX12_summer_32 mkX12_228 (k_87 hSh) (c_bad0 Γ g (up2 mi 87 0 (nI 0)) ml hSh 1 1 up2_s) rfl rfl (by decide) (Nat.le_of_ble_eq_true rfl) ?_
      refine X_if_eqN (a := 0) 40 dX12_summer_35 (by decide) (by omega) (fun h_3 => ?_) (fun h_3 => ?_)
      · refine X_iconst (v := nI 0) dX12_summer_40 (by decide) ?_
        refine X_istore dX12_summer_41 (by decide) ?_
        refine X_iconst (v := nI 0) dX12_summer_43 (by decide) ?_
        refine X_istore dX12_summer_44 (by decide) ?_
        refine X_iconst (v := -1) dX12_summer_46 (by decide) ?_
        refine X_istore dX12_summer_47 (by decide) ?_
        refine X_iconst (v := nI 0) dX12_summer_49 (by decide) ?_
        refine X_istore dX12_summer_50 (by decide) ?_
        refine X_L [(7, .int (nI 0)), (6, .int (-1)), (5, .int (nI 0)), (4, .int (nI 0)), (0, .ref 87), (1, .int s), (2, .int (nI k)), (3, .int (nI 2))] ⟨rfl, rfl, rfl, rfl, rfl, rfl, rfl, rfl, trivial⟩ ?_
        refine X_forR (σ := pMI) 52 (fun i y => [(7, .int (nI i)), (6, .int (-1)), (5, .int (nI 0)), (4, .int (nI 0)), (0, .ref 87), (1, .int s), (2, .int (nI k)), (3, .int (nI 2))]) (fun y => y) (fun y => ml) (fun i y => y = fillR (up2 mi 87 0 (nI 0)) 447 i (fun _ => nI 0)) 8 ?_ ?_ 8 0 ((up2 mi 87 0 (nI 0))) (by omega) (fill_0 _ _ _).symm
        · intro i y hi hI hn
          refine X_iload dX12_summer_52 rfl ?_
          refine X_bipush (v := nI 8) dX12_summer_54 (by decide) ?_
          refine X_icmp_geN (a := i) (b := 8) 73 dX12_summer_56 (by decide) (by omega) (by omega) (fun h_4 => ?_) (fun h_4 => ?_)
          · exact absurd hi (by omega)
          · refine X_aload_n dX12_summer_59 rfl ?_
            refine X_getr (a := 447) dX12_summer_60 fkX12_143 rfl (k_87 hSh) (r_87_59 hSh) ?_
            refine X_iload dX12_summer_63 rfl ?_
            refine X_iconst (v := nI 0) dX12_summer_65 (by decide) ?_
            refine X_iast i dX12_summer_66 (k_447 hSh) rfl (by omega) ?_
            refine X_iinc (v := nI (i + 1)) dX12_summer_67 rfl (nI_1 _) (by decide) ?_
            refine X_goto 52 dX12_summer_70 (by decide) ?_
            refine X_L [(7, .int (nI (i + 1))), (6, .int (-1)), (5, .int (nI 0)), (4, .int (nI 0)), (0, .ref 87), (1, .int s), (2, .int (nI k)), (3, .int (nI 2))] ⟨rfl, rfl, rfl, rfl, rfl, rfl, rfl, rfl, trivial⟩ ?_
            refine hn _ ?_
            rw [hI]; exact fill_s _ _ _ _
        · intro y hI
          have hyW : RW mi y := by rw [hI]; exact fill_W RW_0 (by unfold rsR; omega)
          have hyT : ∀ b, b < 8 → y 447 b = nI 0 := fun b hb => by rw [hI]; exact fill_at hb
          refine X_iload dX12_summer_52 rfl ?_
          refine X_bipush (v := nI 8) dX12_summer_54 (by decide) ?_
          refine X_icmp_geN (a := 8) (b := 8) 73 dX12_summer_56 (by decide) (by omega) (by omega) (fun h_5 => ?_) (fun h_5 => ?_)
          · refine X_aload_n dX12_summer_73 rfl ?_
            refine X_callVrV dX12_summer_74 mkX12_347 (k_87 hSh) (r_beg Γ g y ml A hA hSh mi hR hyW) rfl rfl (by decide) (Nat.le_of_ble_eq_true rfl) (fun b1 bl hb1 => ?_)
            obtain ⟨hbS, hbc, hbW, hbB, hbl⟩ := hb1
            rw [hbl]
            refine X_aload_n dX12_summer_77 rfl ?_
            refine X_iload_n dX12_summer_78 rfl ?_
            refine X_puti dX12_summer_79 fkX12_384 rfl rfl (k_87 hSh) ?_
            refine X_iconst (v := nI 0) dX12_summer_82 (by decide) ?_
            refine X_istore dX12_summer_83 (by decide) ?_
            refine X_L [(7, .int (nI 0)), (6, .int (-1)), (5, .int (nI 0)), (4, .int (nI 0)), (0, .ref 87), (1, .int s), (2, .int (nI k)), (3, .int (nI 2))] ⟨rfl, rfl, rfl, rfl, rfl, rfl, rfl, rfl, trivial⟩ ?_
            refine X_L [(7, .int (nI (0))), (6, .int (-1)), (5, .int (sumN (smI A s) (0))), (4, .int (sumN (smG A s) (0))), (0, .ref 87), (1, .int s), (2, .int (nI k)), (3, .int (nI 2))] ⟨rfl, rfl, rfl, rfl, rfl, rfl, rfl, rfl, trivial⟩ ?_
            refine X_forR (σ := pMI) 85 (fun i z => [(7, .int (nI (i))), (6, .int (-1)), (5, .int (sumN (smI A s) (i))), (4, .int (sumN (smG A s) (i))), (0, .ref 87), (1, .int s), (2, .int (nI k)), (3, .int (nI 2))]) (fun z => z) (fun z => ml) (fun i z => RW mi z ∧ z 87 60 = (smS A s i).1 ∧ (∀ b, b < aG A → z 447 b = nI (smT A s i b)) ∧ (∃ rk, rS z (aP A) (aH A) id rk (aP A).2.2.2.1) ∧ (i = 0 → ∀ b, b < aG A → z 194 b = nI ((smS A s 0).2 b) ∧ (smS A s 0).2 b < 24) ∧ (0 < i → RDY z (aP A) (smS A s (i - 1)).2 (smD A s (i - 1)))) k ?_ ?_ k 0 (up2 b1 87 60 s) (by omega) ⟨RW_f hbW (by unfold rsF; omega) (by omega), up2_s, fun b hb => by rw [up2_row (by omega), hbB.1 447 (by omega) (by omega) (by omega) (by omega)]; exact hyT b (by omega), ⟨_, rS_f hA.1 (by omega) hbS⟩, fun _ b hb => by rw [up2_row (by omega)]; exact hbc b hb, fun h => absurd h (by omega)⟩
            · intro i z hi hI hn
              obtain ⟨hzW, hz60, hzT, ⟨rk9, hzS⟩, hz0, hzD⟩ := hI
              have key : ∀ u0 : pMI, RW mi u0 → u0 87 60 = (smS A s i).1 → u0 447 = z 447 → rS u0 (aP A) (aH A) id rk9 (aP A).2.2.2.1 → (∀ b, b < aG A → u0 194 b = nI ((smS A s i).2 b) ∧ (smS A s i).2 b < 24) → XW Γ 60 0 0 mX12_summer 102 [(7, .int (nI (i))), (6, .int (-1)), (5, .int (sumN (smI A s) (i))), (4, .int (sumN (smG A s) (i))), (0, .ref 87), (1, .int s), (2, .int (nI k)), (3, .int (nI 2))] [] g u0 ml (RQ A (.inl (oI (fmN (smT A s k) (aG A)))) cd1 g mi ml) := by
                intro u0 h0W h060 h0T h0S h0c
                refine X_aload_n dX12_summer_102 rfl ?_
                refine X_callVrV dX12_summer_103 mkX12_391 (k_87 hSh) (r_draw Γ g u0 ml A hA hSh mi hR h0W rk9 (aP A).2.2.2.1 h0S) rfl rfl (by decide) (Nat.le_of_ble_eq_true rfl) (fun x1 xl hx1 => ?_)
                obtain ⟨hxS, hxW, hx60, hxF, hxl⟩ := hx1
                rw [hxl]
                rw [h060] at hxS hx60
                refine X_aload_n dX12_summer_106 rfl ?_
                refine X_callVrV dX12_summer_107 mkX12_341 (k_87 hSh) (r_run Γ g x1 ml A hA hSh mi hxW id (lDw A (smS A s i).1).2.2 (lDw A (smS A s i).1).2.1 (smS A s i).2 (aP A).2.2.2.1 ⟨hA.1.2.2.2.1, hA.1.2.2.2.2.1⟩ hxS (lDw_ok hA _) (fun b hb => by rw [hxF 194 (by omega) (by omega) (by omega)]; exact h0c b hb)) rfl rfl (by decide) (Nat.le_of_ble_eq_true rfl) (fun u1 ul hu1 => ?_)
                obtain ⟨huR, huS, huW, huF, hul⟩ := hu1
                rw [hul]
                have huR : RDY u1 (aP A) (smS A s i).2 (smD A s i) := huR
                refine X_iload dX12_summer_110 rfl ?_
                refine X_aload_n dX12_summer_112 rfl ?_
                refine X_callVI dX12_summer_113 mkX12_359 (k_87 hSh) (c_allGot Γ g u1 ml hSh (aG A) (RW_I hA hR huW).1.2.1 hG8) rfl rfl (by decide) (Nat.le_of_ble_eq_true rfl) ?_
                refine X_topi (show _ = smG A s i from sumN_eq _ (fun b hb => (huR.1 b hb).2.2.2.2.1)) ?_
                refine X_iadd dX12_summer_116 ?_
                refine X_istore dX12_summer_117 (by decide) ?_
                refine X_iload dX12_summer_119 rfl ?_
                refine X_aload_n dX12_summer_121 rfl ?_
                refine X_callVI dX12_summer_122 mkX12_362 (k_87 hSh) (c_allIdle Γ g u1 ml hSh (aP A).1 (RW_I hA hR huW).1.1 hC8) rfl rfl (by decide) (Nat.le_of_ble_eq_true rfl) ?_
                refine X_topi (show _ = smI A s i from sumN_eq _ (fun c hc => (huR.2.1 c hc).2.1)) ?_
                refine X_iadd dX12_summer_125 ?_
                refine X_istore dX12_summer_126 (by decide) ?_
                refine X_iconst (v := nI 0) dX12_summer_128 (by decide) ?_
                refine X_istore dX12_summer_129 (by decide) ?_
                refine X_L [(8, .int (nI 0)), (7, .int (nI i)), (6, .int (-1)), (5, .int ((sumN (smI A s) i) + (smI A s i))), (4, .int ((sumN (smG A s) i) + (smG A s i))), (0, .ref 87), (1, .int s), (2, .int (nI k)), (3, .int (nI 2))] ⟨rfl, rfl, rfl, rfl, rfl, rfl, rfl, rfl, rfl, trivial⟩ ?_
                refine X_forR (σ := pMI) 131 (fun j t => [(8, .int (nI j)), (7, .int (nI i)), (6, .int (-1)), (5, .int ((sumN (smI A s) i) + (smI A s i))), (4, .int ((sumN (smG A s) i) + (smG A s i))), (0, .ref 87), (1, .int s), (2, .int (nI k)), (3, .int (nI 2))]) (fun t => t) (fun t => ml) (fun j t => (RDY t (aP A) (smS A s i).2 (smD A s i) ∧ rS t (aP A) (aH A) id (lDw A (smS A s i).1).2.2 (aP A).2.2.2.1 ∧ RW mi t ∧ t 87 60 = (smS A s (i + 1)).1) ∧ (∀ b, b < aG A → t 447 b = nI (smT A s (if b < j then i + 1 else i) b))) (aG A) ?_ ?_ (aG A) 0 u1 (by omega) ⟨⟨huR, huS, huW, by rw [huF 87 (by omega) (by omega) (by omega) (by omega) (by omega)]; exact hx60⟩, fun b hb => by rw [if_neg (by omega), huF 447 (by omega) (by omega) (by omega) (by omega) (by omega), hxF 447 (by omega) (by omega) (by omega), h0T]; exact hzT b hb⟩
                · intro j t hj hJ hn2
                  obtain ⟨⟨htR, htS, htW, ht60⟩, htT⟩ := hJ
                  obtain ⟨n9, hn9, hn8, hse⟩ := sea_r htR hj
                  refine X_iload dX12_summer_131 rfl ?_
                  refine X_aload_n dX12_summer_133 rfl ?_
                  refine X_getr (a := 91) dX12_summer_134 fkX12_23 rfl (k_87 hSh) (r_87_12 hSh) ?_
                  refine X_iconst (v := nI 1) dX12_summer_137 (by decide) ?_
                  refine X_iald 1 dX12_summer_138 (k_91 hSh) rfl (by omega) ?_
                  rw [(RW_I hA hR htW).1.2.1]
                  refine X_icmp_geN (a := j) (b := aG A) 173 dX12_summer_139 (by decide) (by omega) (by omega) (fun h_6 => ?_) (fun h_6 => ?_)
                  · exact absurd h_6 (by omega)
                  · refine X_aload_n dX12_summer_142 rfl ?_
                    refine X_getr (a := 447) dX12_summer_143 fkX12_143 rfl (k_87 hSh) (r_87_59 hSh) ?_
                    refine X_iload dX12_summer_146 rfl ?_
                    refine X_dup2 dX12_summer_148 rfl rfl ?_
                    refine X_iald j dX12_summer_149 (k_447 hSh) rfl (by omega) ?_
                    rw [(show t 447 j = nI (smT A s i j) by rw [htT j hj, if_neg (by omega)])]
                    refine X_aload_n dX12_summer_150 rfl ?_
                    refine X_getr (a := 201) dX12_summer_151 fkX12_92 rfl (k_87 hSh) (r_87_41 hSh) ?_
                    refine X_iload dX12_summer_154 rfl ?_
                    refine X_iald j dX12_summer_156 (k_201 hSh) rfl (by omega) ?_
                    rw [hn8]
                    refine X_if_leN (a := n9) 164 dX12_summer_157 (by decide) (by omega) (fun h_7 => ?_) (fun h_7 => ?_)
                    · refine X_iconst (v := nI 0) dX12_summer_164 (by decide) ?_
                      refine X_iadd dX12_summer_165 ?_
                      refine X_topi (nI_add (smT A s i j) 0) ?_
                      refine X_iast j dX12_summer_166 (k_447 hSh) rfl (by omega) ?_
                      refine X_iinc (v := nI (j + 1)) dX12_summer_167 rfl (nI_1 _) (by decide) ?_
                      refine X_goto 131 dX12_summer_170 (by decide) ?_
                      refine X_L [(8, .int (nI (j + 1))), (7, .int (nI i)), (6, .int (-1)), (5, .int ((sumN (smI A s) i) + (smI A s i))), (4, .int ((sumN (smG A s) i) + (smG A s i))), (0, .ref 87), (1, .int s), (2, .int (nI k)), (3, .int (nI 2))] ⟨rfl, rfl, rfl, rfl, rfl, rfl, rfl, rfl, rfl, trivial⟩ ?_
                      have hsm : ∀ q, q < 230 → (up2 t 447 j (nI ((smT A s i j) + 0))) q = t q := fun q hq => up2_row (by omega)
                      refine hn2 _ ⟨⟨RDY_b hP hsm htR, rS_b hP hsm htS, RW_u htW (by unfold rsR; omega), by rw [up2_row (by omega)]; exact ht60⟩, fun b hb => ?_⟩
                      by_cases q : b = j
                      · subst q; rw [up2_s, if_pos (by omega), smT_s, hse]; first | rw [decide_eq_true (by omega)]; rfl | rw [decide_eq_false (by omega)]; rfl
                      · rw [up2_n q, htT b hb]; by_cases q2 : b < j; (rw [if_pos q2, if_pos (by omega)]); rw [if_neg q2, if_neg (by omega)]
                    · refine X_iconst (v := nI 1) dX12_summer_160 (by decide) ?_
                      refine X_goto 165 dX12_summer_161 (by decide) ?_
                      refine X_iadd dX12_summer_165 ?_
                      refine X_topi (nI_add (smT A s i j) 1) ?_
                      refine X_iast j dX12_summer_166 (k_447 hSh) rfl (by omega) ?_
                      refine X_iinc (v := nI (j + 1)) dX12_summer_167 rfl (nI_1 _) (by decide) ?_
                      refine X_goto 131 dX12_summer_170 (by decide) ?_
                      refine X_L [(8, .int (nI (j + 1))), (7, .int (nI i)), (6, .int (-1)), (5, .int ((sumN (smI A s) i) + (smI A s i))), (4, .int ((sumN (smG A s) i) + (smG A s i))), (0, .ref 87), (1, .int s), (2, .int (nI k)), (3, .int (nI 2))] ⟨rfl, rfl, rfl, rfl, rfl, rfl, rfl, rfl, rfl, trivial⟩ ?_
                      have hsm : ∀ q, q < 230 → (up2 t 447 j (nI ((smT A s i j) + 1))) q = t q := fun q hq => up2_row (by omega)
                      refine hn2 _ ⟨⟨RDY_b hP hsm htR, rS_b hP hsm htS, RW_u htW (by unfold rsR; omega), by rw [up2_row (by omega)]; exact ht60⟩, fun b hb => ?_⟩
                      by_cases q : b = j
                      · subst q; rw [up2_s, if_pos (by omega), smT_s, hse]; first | rw [decide_eq_true (by omega)]; rfl | rw [decide_eq_false (by omega)]; rfl
                      · rw [up2_n q, htT b hb]; by_cases q2 : b < j; (rw [if_pos q2, if_pos (by omega)]); rw [if_neg q2, if_neg (by omega)]
                · intro t hJ
                  obtain ⟨⟨htR, htS, htW, ht60⟩, htT⟩ := hJ
                  refine X_iload dX12_summer_131 rfl ?_
                  refine X_aload_n dX12_summer_133 rfl ?_
                  refine X_getr (a := 91) dX12_summer_134 fkX12_23 rfl (k_87 hSh) (r_87_12 hSh) ?_
                  refine X_iconst (v := nI 1) dX12_summer_137 (by decide) ?_
                  refine X_iald 1 dX12_summer_138 (k_91 hSh) rfl (by omega) ?_
                  rw [(RW_I hA hR htW).1.2.1]
                  refine X_icmp_geN (a := aG A) (b := aG A) 173 dX12_summer_139 (by decide) (by omega) (by omega) (fun h_8 => ?_) (fun h_8 => ?_)
                  · refine X_iinc (v := nI (i + 1)) dX12_summer_173 rfl (nI_1 _) (by decide) ?_
                    refine X_goto 85 dX12_summer_176 (by decide) ?_
                    refine X_L [(7, .int (nI (i + 1))), (6, .int (-1)), (5, .int ((sumN (smI A s) i) + (smI A s i))), (4, .int ((sumN (smG A s) i) + (smG A s i))), (0, .ref 87), (1, .int s), (2, .int (nI k)), (3, .int (nI 2))] ⟨rfl, rfl, rfl, rfl, rfl, rfl, rfl, rfl, trivial⟩ ?_
                    refine X_L [(7, .int (nI (i + 1))), (6, .int (-1)), (5, .int (sumN (smI A s) (i + 1))), (4, .int (sumN (smG A s) (i + 1))), (0, .ref 87), (1, .int s), (2, .int (nI k)), (3, .int (nI 2))] ⟨rfl, rfl, rfl, rfl, rfl, rfl, rfl, rfl, trivial⟩ ?_
                    exact hn t ⟨htW, ht60, fun b hb => by rw [htT b hb, if_pos hb], ⟨_, htS⟩, fun h => absurd h (by omega), fun _ => htR⟩
                  · exact absurd h_8 (by omega)
              by_cases h00 : i = 0
              · subst h00
                refine X_iload dX12_summer_85 rfl ?_
                refine X_iload_n dX12_summer_87 rfl ?_
                refine X_icmp_geN (a := 0) (b := k) 179 dX12_summer_88 (by decide) (by omega) (by omega) (fun h_9 => ?_) (fun h_9 => ?_)
                · exact absurd h_9 (by omega)
                · refine X_iload dX12_summer_91 rfl ?_
                  refine X_if_leN (a := 0) 102 dX12_summer_93 (by decide) (by omega) (fun h_10 => ?_) (fun h_10 => ?_)
                  · refine X_L [(7, .int (nI 0)), (6, .int (-1)), (5, .int (sumN (smI A s) 0)), (4, .int (sumN (smG A s) 0)), (0, .ref 87), (1, .int s), (2, .int (nI k)), (3, .int (nI 2))] ⟨rfl, rfl, rfl, rfl, rfl, rfl, rfl, rfl, trivial⟩ ?_
                    exact key _ hzW hz60 rfl hzS (hz0 rfl)
                  · exact absurd h_10 (by omega)
              · obtain ⟨j, rfl⟩ : ∃ j, i = j + 1 := ⟨i - 1, by omega⟩
                refine X_iload dX12_summer_85 rfl ?_
                refine X_iload_n dX12_summer_87 rfl ?_
                refine X_icmp_geN (a := j + 1) (b := k) 179 dX12_summer_88 (by decide) (by omega) (by omega) (fun h_11 => ?_) (fun h_11 => ?_)
                · exact absurd h_11 (by omega)
                · refine X_iload dX12_summer_91 rfl ?_
                  refine X_if_leN (a := j + 1) 102 dX12_summer_93 (by decide) (by omega) (fun h_12 => ?_) (fun h_12 => ?_)
                  · exact absurd h_12 (by omega)
                  · refine X_aload_n dX12_summer_96 rfl ?_
                    refine X_iload dX12_summer_97 rfl ?_
                    refine X_callVrV dX12_summer_99 mkX12_344 (k_87 hSh) (r_ask Γ g z ml A hA hSh mi hzW id rk9 _ _ (j + 1) _ hzS (hzD (by omega))) rfl rfl (by decide) (Nat.le_of_ble_eq_true rfl) (fun a1 al ha1 => ?_)
                    obtain ⟨hac, haS, haW, haF, hal⟩ := ha1
                    rw [hal]
                    refine X_L [(7, .int (nI (j + 1))), (6, .int (-1)), (5, .int (sumN (smI A s) (j + 1))), (4, .int (sumN (smG A s) (j + 1))), (0, .ref 87), (1, .int s), (2, .int (nI k)), (3, .int (nI 2))] ⟨rfl, rfl, rfl, rfl, rfl, rfl, rfl, rfl, trivial⟩ ?_
                    exact key _ haW ((congrFun (haF 87 (by omega) (by omega) (by omega) (by omega) (by omega)) 60).trans hz60) (haF 447 (by omega) (by omega) (by omega) (by omega) (by omega)) haS hac
            · intro z hI
              obtain ⟨hzW, hz60, hzT, ⟨rk9, hzS⟩, hz0, hzD⟩ := hI
              have hzI := RW_I hA hR hzW
              have hzD := hzD (by omega)
              have hf : ∀ b, b < aG A → z 447 b = nI (smT A s k b) := hzT
              have hfb : ∀ b, smT A s k b ≤ 1000 := fun b => Nat.le_trans (smT_le b) (by omega)
              generalize hsf : smT A s k = f at hf hfb
              refine X_iload dX12_summer_85 rfl ?_
              refine X_iload_n dX12_summer_87 rfl ?_
              refine X_icmp_geN (a := k) (b := k) 179 dX12_summer_88 (by decide) (by omega) (by omega) (fun h_13 => ?_) (fun h_13 => ?_)
              · refine X_iconst (v := nI 0) dX12_summer_179 (by decide) ?_
                refine X_istore dX12_summer_180 (by decide) ?_
                refine X_L [(7, .int (nI 0)), (6, .int (-1)), (5, .int (sumN (smI A s) k)), (4, .int (sumN (smG A s) k)), (0, .ref 87), (1, .int s), (2, .int (nI k)), (3, .int (nI 2))] ⟨rfl, rfl, rfl, rfl, rfl, rfl, rfl, rfl, trivial⟩ ?_
                refine X_L [(7, .int (nI 0)), (6, .int (oI (fmN f 0))), (5, .int (sumN (smI A s) k)), (4, .int (sumN (smG A s) k)), (0, .ref 87), (1, .int s), (2, .int (nI k)), (3, .int (nI 2))] ⟨rfl, rfl, rfl, rfl, rfl, rfl, rfl, rfl, trivial⟩ ?_
                refine X_forR (σ := Unit) 182 (fun i u => [(7, .int (nI i)), (6, .int (oI (fmN f i))), (5, .int (sumN (smI A s) k)), (4, .int (sumN (smG A s) k)), (0, .ref 87), (1, .int s), (2, .int (nI k)), (3, .int (nI 2))]) (fun u => z) (fun u => ml) (fun i u => True) (aG A) ?_ ?_ (aG A) 0 () (by omega) trivial
                · intro i u hi hI hn
                  have hfi := hfb i
                  cases hq : fmN f i with
                  | none =>
                    refine X_iload dX12_summer_182 rfl ?_
                    refine X_aload_n dX12_summer_184 rfl ?_
                    refine X_getr (a := 91) dX12_summer_185 fkX12_23 rfl (k_87 hSh) (r_87_12 hSh) ?_
                    refine X_iconst (v := nI 1) dX12_summer_188 (by decide) ?_
                    refine X_iald 1 dX12_summer_189 (k_91 hSh) rfl (by omega) ?_
                    rw [hzI.1.2.1]
                    refine X_icmp_geN (a := i) (b := aG A) 231 dX12_summer_190 (by decide) (by omega) (by omega) (fun h_14 => ?_) (fun h_14 => ?_)
                    · exact absurd h_14 (by omega)
                    · refine X_iload dX12_summer_193 rfl ?_
                      refine X_iconst (v := -1) dX12_summer_195 (by decide) ?_
                      refine X_icmp_eq 216 dX12_summer_196 (by decide) (fun h_15 => ?_) (fun h_15 => ?_)
                      · refine X_iload dX12_summer_216 rfl ?_
                        refine X_goto 223 dX12_summer_218 (by decide) ?_
                        refine X_istore dX12_summer_223 (by decide) ?_
                        refine X_iinc (v := nI (i + 1)) dX12_summer_225 rfl (nI_1 _) (by decide) ?_
                        refine X_goto 182 dX12_summer_228 (by decide) ?_
                        refine X_L [(7, .int (nI (i + 1))), (6, .int (nI i)), (5, .int (sumN (smI A s) k)), (4, .int (sumN (smG A s) k)), (0, .ref 87), (1, .int s), (2, .int (nI k)), (3, .int (nI 2))] ⟨rfl, rfl, rfl, rfl, rfl, rfl, rfl, rfl, trivial⟩ ?_
                        refine X_L [(7, .int (nI (i + 1))), (6, .int (oI (fmN f (i + 1)))), (5, .int (sumN (smI A s) k)), (4, .int (sumN (smG A s) k)), (0, .ref 87), (1, .int s), (2, .int (nI k)), (3, .int (nI 2))] ⟨rfl, by rw [fm_n hq]; rfl, rfl, rfl, rfl, rfl, rfl, rfl, trivial⟩ ?_
                        exact hn () trivial
                      · exact absurd rfl h_15
                  | some q =>
                    have hqi := fm_lt hq
                    have hfq := hfb q
                    refine X_iload dX12_summer_182 rfl ?_
                    refine X_aload_n dX12_summer_184 rfl ?_
                    refine X_getr (a := 91) dX12_summer_185 fkX12_23 rfl (k_87 hSh) (r_87_12 hSh) ?_
                    refine X_iconst (v := nI 1) dX12_summer_188 (by decide) ?_
                    refine X_iald 1 dX12_summer_189 (k_91 hSh) rfl (by omega) ?_
                    rw [hzI.1.2.1]
                    refine X_icmp_geN (a := i) (b := aG A) 231 dX12_summer_190 (by decide) (by omega) (by omega) (fun h_16 => ?_) (fun h_16 => ?_)
                    · exact absurd h_16 (by omega)
                    · refine X_iload dX12_summer_193 rfl ?_
                      refine X_iconst (v := -1) dX12_summer_195 (by decide) ?_
                      refine X_icmp_eq 216 dX12_summer_196 (by decide) (fun h_17 => ?_) (fun h_17 => ?_)
                      · exact absurd h_17 (nI_m1 (by omega))
                      · refine X_aload_n dX12_summer_199 rfl ?_
                        refine X_getr (a := 447) dX12_summer_200 fkX12_143 rfl (k_87 hSh) (r_87_59 hSh) ?_
                        refine X_iload dX12_summer_203 rfl ?_
                        refine X_iald i dX12_summer_205 (k_447 hSh) rfl (by omega) ?_
                        rw [(hf i hi)]
                        refine X_aload_n dX12_summer_206 rfl ?_
                        refine X_getr (a := 447) dX12_summer_207 fkX12_143 rfl (k_87 hSh) (r_87_59 hSh) ?_
                        refine X_iload dX12_summer_210 rfl ?_
                        refine X_iald q dX12_summer_212 (k_447 hSh) rfl (by omega) ?_
                        rw [(hf q (by omega))]
                        refine X_icmp_leN (a := f i) (b := f q) 221 dX12_summer_213 (by decide) (by omega) (by omega) (fun h_18 => ?_) (fun h_18 => ?_)
                        · refine X_iload dX12_summer_221 rfl ?_
                          refine X_istore dX12_summer_223 (by decide) ?_
                          refine X_iinc (v := nI (i + 1)) dX12_summer_225 rfl (nI_1 _) (by decide) ?_
                          refine X_goto 182 dX12_summer_228 (by decide) ?_
                          refine X_L [(7, .int (nI (i + 1))), (6, .int (nI q)), (5, .int (sumN (smI A s) k)), (4, .int (sumN (smG A s) k)), (0, .ref 87), (1, .int s), (2, .int (nI k)), (3, .int (nI 2))] ⟨rfl, rfl, rfl, rfl, rfl, rfl, rfl, rfl, trivial⟩ ?_
                          refine X_L [(7, .int (nI (i + 1))), (6, .int (oI (fmN f (i + 1)))), (5, .int (sumN (smI A s) k)), (4, .int (sumN (smG A s) k)), (0, .ref 87), (1, .int s), (2, .int (nI k)), (3, .int (nI 2))] ⟨rfl, by rw [(fm_s hq).trans (if_neg (by omega))]; rfl, rfl, rfl, rfl, rfl, rfl, rfl, trivial⟩ ?_
                          exact hn () trivial
                        · refine X_iload dX12_summer_216 rfl ?_
                          refine X_goto 223 dX12_summer_218 (by decide) ?_
                          refine X_istore dX12_summer_223 (by decide) ?_
                          refine X_iinc (v := nI (i + 1)) dX12_summer_225 rfl (nI_1 _) (by decide) ?_
                          refine X_goto 182 dX12_summer_228 (by decide) ?_
                          refine X_L [(7, .int (nI (i + 1))), (6, .int (nI i)), (5, .int (sumN (smI A s) k)), (4, .int (sumN (smG A s) k)), (0, .ref 87), (1, .int s), (2, .int (nI k)), (3, .int (nI 2))] ⟨rfl, rfl, rfl, rfl, rfl, rfl, rfl, rfl, trivial⟩ ?_
                          refine X_L [(7, .int (nI (i + 1))), (6, .int (oI (fmN f (i + 1)))), (5, .int (sumN (smI A s) k)), (4, .int (sumN (smG A s) k)), (0, .ref 87), (1, .int s), (2, .int (nI k)), (3, .int (nI 2))] ⟨rfl, by rw [(fm_s hq).trans (if_pos (by omega))]; rfl, rfl, rfl, rfl, rfl, rfl, rfl, trivial⟩ ?_
                          exact hn () trivial
                · intro u hI
                  refine X_iload dX12_summer_182 rfl ?_
                  refine X_aload_n dX12_summer_184 rfl ?_
                  refine X_getr (a := 91) dX12_summer_185 fkX12_23 rfl (k_87 hSh) (r_87_12 hSh) ?_
                  refine X_iconst (v := nI 1) dX12_summer_188 (by decide) ?_
                  refine X_iald 1 dX12_summer_189 (k_91 hSh) rfl (by omega) ?_
                  rw [hzI.1.2.1]
                  refine X_icmp_geN (a := aG A) (b := aG A) 231 dX12_summer_190 (by decide) (by omega) (by omega) (fun h_19 => ?_) (fun h_19 => ?_)
                  · refine X_iload_n dX12_summer_231 rfl ?_
                    refine X_if_neN (a := 2) 240 dX12_summer_232 (by decide) (by omega) (fun h_20 => ?_) (fun h_20 => ?_)
                    · refine X_iload_n dX12_summer_240 rfl ?_
                      refine X_iconst (v := nI 1) dX12_summer_241 (by decide) ?_
                      refine X_icmp_neN (a := 2) (b := 1) 250 dX12_summer_242 (by decide) (by omega) (by omega) (fun h_21 => ?_) (fun h_21 => ?_)
                      · refine X_iload_n dX12_summer_250 rfl ?_
                        refine X_iconst (v := nI 2) dX12_summer_251 (by decide) ?_
                        refine X_icmp_neN (a := 2) (b := 2) 260 dX12_summer_252 (by decide) (by omega) (by omega) (fun h_22 => ?_) (fun h_22 => ?_)
                        · exact absurd h_22 (by omega)
                        · refine X_iload dX12_summer_255 rfl ?_
                          refine X_goto 264 dX12_summer_257 (by decide) ?_
                          exact X_iret dX12_summer_264 rfl ⟨rfl, rfl, RW_I hA hR hzW, hzW.2.1, _, rfl, rfl, hzW.2.2⟩
                      · exact absurd h_21 (by omega)
                    · exact absurd h_20 (by omega)
                  · exact absurd h_19 (by omega)
              · exact absurd h_13 (by omega)
          · exact absurd h_5 (by omega)
      · exact absurd h_3 (by omega)
    · exact absurd h_2 (by omega)
set_option maxRecDepth 100000 in
set_option maxHeartbeats 4000000 in
theorem k_summer_3 (Γ : pTG) (g : pGG) (mi : pMI) (ml : pML) (A : AS) (hA : okAS A) (hC : CI A g mi ml) (k : Nat) (hka : 1 ≤ k) (hk : k ≤ 60)  (s : Int32) : CT Γ 60 20 5000 mX11_summer [.ref 0, .int s, .int (nI k), .int (nI 3)] g mi ml (CQ A (.inl (sumN (fun b => nI ((aP A).2.2.2.2.2.2 b 0 - (smS A s (k - 1)).2 b)) (aG A))) mi ml) := by
  refine CT_of (by decide +kernel) (Nat.le_of_ble_eq_true rfl) ?_
  have hSh := CI_Sh hC
  have hcl := CI_cl hC
  have hP := hA.1
  have hG8 : aG A ≤ 8 := hP.2.1
  have hC8 : (aP A).1 ≤ 8 := hP.1
  refine X_aload_n dX11_summer_0 rfl ?_
  refine X_iload_n dX11_summer_1 rfl ?_
  refine X_iconst (v := nI 1) dX11_summer_2 (by decide) ?_
  refine X_bipush (v := nI 60) dX11_summer_3 (by decide) ?_
  refine X_need dX11_summer_5 mkX11_116 (k_0 hSh) (c_needWithin Γ g mi ml hSh (nI k) (nI 1) (nI 60)) rfl rfl (by decide) (by decide) (by decide) (by decide) (fun h => absurd (⟨nI_le (by omega) (by omega), nI_le (by omega) (by omega)⟩) h) (fun _ => ?_)
  refine X_aload_n dX11_summer_8 rfl ?_
  refine X_iload_n dX11_summer_9 rfl ?_
  refine X_iconst (v := nI 0) dX11_summer_10 (by decide) ?_
  refine X_iconst (v := nI 3) dX11_summer_11 (by decide) ?_
  refine X_need dX11_summer_12 mkX11_116 (k_0 hSh) (c_needWithin Γ g mi ml hSh (nI 3) (nI 0) (nI 3)) rfl rfl (by decide) (by decide) (by decide) (by decide) (fun h => absurd (by decide) h) (fun _ => ?_)
  refine X_aload_n dX11_summer_15 rfl ?_
  refine X_callVV dX11_summer_16 mkX11_326 (k_0 hSh) (c_clearTally Γ g mi ml hSh) rfl rfl (by decide) (Nat.le_of_ble_eq_true rfl) ?_
  refine X_iload_n dX11_summer_19 rfl ?_
  refine X_istore dX11_summer_20 (by decide) ?_
  refine X_iconst (v := nI 0) dX11_summer_22 (by decide) ?_
  refine X_istore dX11_summer_23 (by decide) ?_
  refine X_iconst (v := nI 0) dX11_summer_25 (by decide) ?_
  refine X_istore dX11_summer_26 (by decide) ?_
  refine X_iconst (v := nI 0) dX11_summer_28 (by decide) ?_
  refine X_istore dX11_summer_29 (by decide) ?_
  refine X_L [(7, .int (nI 0)), (6, .int (nI 0)), (5, .int (nI 0)), (4, .int s), (0, .ref 0), (1, .int s), (2, .int (nI k)), (3, .int (nI 3))] ⟨rfl, rfl, rfl, rfl, rfl, rfl, rfl, rfl, trivial⟩ ?_
  refine X_L [(7, .int (nI (0))), (6, .int (sumN (smI A s) (0))), (5, .int (sumN (smG A s) (0))), (4, .int (smS A s (0)).1), (0, .ref 0), (1, .int s), (2, .int (nI k)), (3, .int (nI 3))] ⟨rfl, rfl, rfl, rfl, rfl, rfl, rfl, rfl, trivial⟩ ?_
  refine X_forR (σ := pMI) 31 (fun i y => [(7, .int (nI (i))), (6, .int (sumN (smI A s) (i))), (5, .int (sumN (smG A s) (i))), (4, .int (smS A s (i)).1), (0, .ref 0), (1, .int s), (2, .int (nI k)), (3, .int (nI 3))]) (fun y => y) (fun y => ml) (fun i y => CI A g y ml ∧ (∀ b, b < aG A → y 85 b = nI (smT A s i b)) ∧ (0 < i → CDY y 67 (aP A) (smS A s (i - 1)).2 (smD A s (i - 1))) ∧ frK mi y) k ?_ ?_ k 0 (fillR mi 85 8 (fun _ => nI 0)) (by omega) ⟨CI_fr hC (fill_S (by unfold scR; omega)) rfl, fun b hb => fill_at (by omega), fun h => absurd h (by omega), fill_K (by omega)⟩
  · intro i y hi hI hn
    obtain ⟨hyC, hyT, hyD, hyK⟩ := hI
    have key : ∀ u0 : pMI, CI A g u0 ml → (∀ b, b < aG A → u0 84 b = nI ((smS A s i).2 b)) → u0 85 = y 85 → frK mi u0 → XW Γ 60 (20 - 1 - 1) (5000 - 6 - 6) mX11_summer 80 [(7, .int (nI (i))), (6, .int (sumN (smI A s) (i))), (5, .int (sumN (smG A s) (i))), (4, .int (smS A s (i)).1), (0, .ref 0), (1, .int s), (2, .int (nI k)), (3, .int (nI 3))] [] g u0 ml (CQ A (.inl (sumN (fun b => nI ((aP A).2.2.2.2.2.2 b 0 - (smS A s (k - 1)).2 b)) (aG A))) mi ml) := by
      intro u0 h0C h0c h0T h0K
      refine X_aload_n dX11_summer_80 rfl ?_
      refine X_getr (a := 67) dX11_summer_81 fkX11_76 rfl (k_0 hSh) (r_0_10 hSh) ?_
      refine X_iload dX11_summer_84 rfl ?_
      refine X_callVrI dX11_summer_86 mkX11_332 (k_67 hSh) (c_lotK Γ g u0 ml A hA h0C (smS A s i).1) rfl rfl (by decide) (Nat.le_of_ble_eq_true rfl) (fun v3 m3 l3 hm3 => ?_)
      obtain ⟨hv3, hC3, ho3, he3, hl3⟩ := hm3
      rw [hl3] at hC3 ⊢
      refine X_istore dX11_summer_89 (by decide) ?_
      refine X_aload_n dX11_summer_91 rfl ?_
      refine X_getr (a := 67) dX11_summer_92 fkX11_76 rfl (k_0 hSh) (r_0_10 hSh) ?_
      refine X_aload_n dX11_summer_95 rfl ?_
      refine X_getr (a := 84) dX11_summer_96 fkX11_95 rfl (k_0 hSh) (r_0_13 hSh) ?_
      refine X_aload_n dX11_summer_99 rfl ?_
      refine X_getr (a := 3) dX11_summer_100 fkX11_25 rfl (k_0 hSh) (r_0_2 hSh) ?_
      refine X_geti dX11_summer_103 fkX11_178 rfl (k_3 hSh) ?_
      rw [(CI_cl hC3).2.2.2.1]
      refine X_callVrV dX11_summer_106 mkX11_303 (k_67 hSh) (c_tryK Γ g m3 ml A hA hC3 (smS A s i).2 (lDw A (smS A s i).1).2.2 (lDw A (smS A s i).1).2.1 (aP A).2.2.2.1 (lDw_ok hA _) (fun b hb => ⟨(congrFun (he3 84 (by omega)) b).trans (h0c b hb), sm_lt hA hb i⟩) ho3 ⟨hA.1.2.2.2.1, hA.1.2.2.2.2.1⟩) rfl rfl (by decide) (Nat.le_of_ble_eq_true rfl) (fun u1 ul hu1 => ?_)
      obtain ⟨huC, hcd, huT, hul⟩ := hu1
      rw [hul] at huC ⊢
      have hcd : CDY u1 67 (aP A) (smS A s i).2 (smD A s i) := hcd
      refine X_iload dX11_summer_109 rfl ?_
      refine X_aload_n dX11_summer_111 rfl ?_
      refine X_getr (a := 67) dX11_summer_112 fkX11_76 rfl (k_0 hSh) (r_0_10 hSh) ?_
      refine X_iconst (v := nI 3) dX11_summer_115 (by decide) ?_
      refine X_callVI dX11_summer_116 mkX11_224 (k_67 hSh) (c_total Γ g u1 ml hSh 67 (shC_67 hSh) (aG A) (CI_cl huC).2.1 hG8 3 (by decide)) rfl rfl (by decide) (Nat.le_of_ble_eq_true rfl) ?_
      refine X_topi (show _ = smG A s i from sumN_eq _ (fun b hb => (hcd.1 b hb).2.2.2.1)) ?_
      refine X_iadd dX11_summer_119 ?_
      refine X_istore dX11_summer_120 (by decide) ?_
      refine X_iload dX11_summer_122 rfl ?_
      refine X_aload_n dX11_summer_124 rfl ?_
      refine X_getr (a := 67) dX11_summer_125 fkX11_76 rfl (k_0 hSh) (r_0_10 hSh) ?_
      refine X_callVI dX11_summer_128 mkX11_228 (k_67 hSh) (c_idle Γ g u1 ml hSh 67 (shC_67 hSh) (aP A).1 (CI_cl huC).1 hC8) rfl rfl (by decide) (Nat.le_of_ble_eq_true rfl) ?_
      refine X_topi (show _ = smI A s i from sumN_eq _ (fun c hc => (hcd.2.1 c hc).2.1)) ?_
      refine X_iadd dX11_summer_131 ?_
      refine X_istore dX11_summer_132 (by decide) ?_
      refine X_aload_n dX11_summer_134 rfl ?_
      refine X_aload_n dX11_summer_135 rfl ?_
      refine X_getr (a := 67) dX11_summer_136 fkX11_76 rfl (k_0 hSh) (r_0_10 hSh) ?_
      refine X_callVI dX11_summer_139 mkX11_235 (k_67 hSh) (c_seated Γ g u1 ml hSh 67 (shC_67 hSh) (aG A) (CI_cl huC).2.1 hG8) rfl rfl (by decide) (Nat.le_of_ble_eq_true rfl) ?_
      refine X_topi (sea_m hcd) ?_
      refine X_callVrV dX11_summer_142 mkX11_345 (k_0 hSh) (c_tallyS Γ g u1 ml hSh (mkN (seaB (smD A s i)) (aG A))) rfl rfl (by decide) (Nat.le_of_ble_eq_true rfl) (fun t1 tl ht1 => ?_)
      obtain ⟨htT, htF, htl⟩ := ht1
      rw [htl]
      refine X_iinc (v := nI (i + 1)) dX11_summer_145 rfl (nI_1 _) (by decide) ?_
      refine X_goto 31 dX11_summer_148 (by decide) ?_
      refine X_L [(7, .int (nI (i + 1))), (6, .int ((sumN (smI A s) i) + (smI A s i))), (5, .int ((sumN (smG A s) i) + (smG A s i))), (4, .int v3), (0, .ref 0), (1, .int s), (2, .int (nI k)), (3, .int (nI 3))] ⟨rfl, rfl, rfl, rfl, rfl, rfl, rfl, rfl, trivial⟩ ?_
      refine X_L [(7, .int (nI (i + 1))), (6, .int (sumN (smI A s) (i + 1))), (5, .int (sumN (smG A s) (i + 1))), (4, .int (smS A s (i + 1)).1), (0, .ref 0), (1, .int s), (2, .int (nI k)), (3, .int (nI 3))] ⟨rfl, rfl, rfl, by rw [hv3]; rfl, rfl, rfl, rfl, rfl, trivial⟩ ?_
      refine hn t1 ⟨CI_fr huC (fr85_S htF) rfl, fun b hb => tl_s hb hG8 ?_ rfl (htT b (by omega)), fun _ => cdy_row (htF 68 (by omega)) (htF 69 (by omega)) (by rw [htF 67 (by omega)]) (htF 75 (by omega)) (htF 76 (by omega)) hcd, frK_t h0K (frK_t (fun i h1 h2 => he3 i (by omega)) (frK_t (frT_K (Or.inr rfl) huT) (fun i h1 h2 => htF i (by omega))))⟩
      rw [frT_row huT (by omega), he3 85 (by omega), h0T]; exact hyT b hb
    by_cases h00 : i = 0
    · subst h00
      refine X_iload dX11_summer_31 rfl ?_
      refine X_iload_n dX11_summer_33 rfl ?_
      refine X_icmp_geN (a := 0) (b := k) 151 dX11_summer_34 (by decide) (by omega) (by omega) (fun h_1 => ?_) (fun h_1 => ?_)
      · exact absurd h_1 (by omega)
      · refine X_iload dX11_summer_37 rfl ?_
        refine X_if_neN (a := 0) 56 dX11_summer_39 (by decide) (by omega) (fun h_2 => ?_) (fun h_2 => ?_)
        · exact absurd h_2 (by omega)
        · refine X_aload_n dX11_summer_42 rfl ?_
          refine X_getr (a := 3) dX11_summer_43 fkX11_25 rfl (k_0 hSh) (r_0_2 hSh) ?_
          refine X_aload_n dX11_summer_46 rfl ?_
          refine X_getr (a := 84) dX11_summer_47 fkX11_95 rfl (k_0 hSh) (r_0_13 hSh) ?_
          refine X_callVV dX11_summer_50 mkX11_335 (k_3 hSh) (c_tellWaking Γ g y ml hSh 84 (k_84 hSh)) rfl rfl (by decide) (Nat.le_of_ble_eq_true rfl) ?_
          have hE : ∀ a, a ≠ 84 → (fun i j => if i = 84 then va_cpy (y 6) (y 84) 0 0 8 j else y i j) a = y a := fun a ha => by funext j; exact if_neg ha
          refine X_goto 80 dX11_summer_53 (by decide) ?_
          refine X_L [(7, .int (nI 0)), (6, .int (sumN (smI A s) 0)), (5, .int (sumN (smG A s) 0)), (4, .int ((smS A s 0).1)), (0, .ref 0), (1, .int s), (2, .int (nI k)), (3, .int (nI 3))] ⟨rfl, rfl, rfl, rfl, rfl, rfl, rfl, rfl, trivial⟩ ?_
          exact key _ (CI_fr hyC (dg_S hE) rfl) (fun b hb => ((if_pos rfl).trans (cpy_in (by omega))).trans (((CI_cl hyC).2.2.2.2.2.2 b hb).1.trans (congrArg nI (pU_e hb).symm))) (hE 85 (by omega)) (frK_t hyK (dg_K hE))
    · obtain ⟨j, rfl⟩ : ∃ j, i = j + 1 := ⟨i - 1, by omega⟩
      refine X_iload dX11_summer_31 rfl ?_
      refine X_iload_n dX11_summer_33 rfl ?_
      refine X_icmp_geN (a := j + 1) (b := k) 151 dX11_summer_34 (by decide) (by omega) (by omega) (fun h_3 => ?_) (fun h_3 => ?_)
      · exact absurd h_3 (by omega)
      · refine X_iload dX11_summer_37 rfl ?_
        refine X_if_neN (a := j + 1) 56 dX11_summer_39 (by decide) (by omega) (fun h_4 => ?_) (fun h_4 => ?_)
        · refine X_aload_n dX11_summer_56 rfl ?_
          refine X_getr (a := 17) dX11_summer_57 fkX11_35 rfl (k_0 hSh) (r_0_4 hSh) ?_
          refine X_aload_n dX11_summer_60 rfl ?_
          refine X_getr (a := 67) dX11_summer_61 fkX11_76 rfl (k_0 hSh) (r_0_10 hSh) ?_
          refine X_aload_n dX11_summer_64 rfl ?_
          refine X_getr (a := 27) dX11_summer_65 fkX11_60 rfl (k_0 hSh) (r_0_7 hSh) ?_
          refine X_getr (a := 28) dX11_summer_68 fkX11_338 rfl (k_27 hSh) (r_27_3 hSh) ?_
          refine X_iload dX11_summer_71 rfl ?_
          refine X_aload_n dX11_summer_73 rfl ?_
          refine X_getr (a := 84) dX11_summer_74 fkX11_95 rfl (k_0 hSh) (r_0_13 hSh) ?_
          refine X_callVrV dX11_summer_77 mkX11_341 (k_17 hSh) (c_nmK Γ g y ml A hA hyC (smS A s j).2 (smD A s j) (hyD (by omega)) (fun b hb => sm_lt hA hb j) (j + 1)) rfl rfl (by decide) (Nat.le_of_ble_eq_true rfl) (fun n1 nl hn1 => ?_)
          obtain ⟨hnC, hnc, hnT, hnK, hnl⟩ := hn1
          rw [hnl] at hnC ⊢
          refine X_L [(7, .int (nI (j + 1))), (6, .int (sumN (smI A s) (j + 1))), (5, .int (sumN (smG A s) (j + 1))), (4, .int ((smS A s (j + 1)).1)), (0, .ref 0), (1, .int s), (2, .int (nI k)), (3, .int (nI 3))] ⟨rfl, rfl, rfl, rfl, rfl, rfl, rfl, rfl, trivial⟩ ?_
          exact key _ hnC hnc hnT (frK_t hyK hnK)
        · exact absurd h_4 h00
  · intro y hI
    obtain ⟨hyC, hyT, hyD, hyK⟩ := hI
    refine X_iload dX11_summer_31 rfl ?_
    refine X_iload_n dX11_summer_33 rfl ?_
    refine X_icmp_geN (a := k) (b := k) 151 dX11_summer_34 (by decide) (by omega) (by omega) (fun h_5 => ?_) (fun h_5 => ?_)
    · refine X_iload_n dX11_summer_151 rfl ?_
      refine X_tableOut 191 dX11_summer_152 (by decide) (by decide) ?_
      refine X_aload_n dX11_summer_191 rfl ?_
      refine X_getr (a := 67) dX11_summer_192 fkX11_76 rfl (k_0 hSh) (r_0_10 hSh) ?_
      refine X_callVI dX11_summer_195 mkX11_232 (k_67 hSh) (c_sleepLost Γ g y ml hSh 67 (shC_67 hSh) (aG A) (CI_cl hyC).2.1 hG8) rfl rfl (by decide) (Nat.le_of_ble_eq_true rfl) ?_
      exact X_iret dX11_summer_198 rfl ⟨congrArg (fun z => Sum.inl (some (Value.int z))) (sumN_eq _ (fun b hb => lo_k ((CI_cl hyC).2.2.2.2.2.2 b hb).1 ((hyD (by omega)).1 b hb).1 (hP.2.2.2.2.2.2.2 b hb).1 (sm_lt hA hb _))), hyC, hyK, rfl⟩
    · exact absurd h_5 (by omega)
set_option maxRecDepth 100000 in
set_option maxHeartbeats 4000000 in
theorem r_summer_3 (Γ : pTG) (g : pGG) (mi : pMI) (ml : pML) (A : AS) (hA : okAS A) (hSh : Sh g) (hR : RI A mi) (k : Nat) (hka : 1 ≤ k) (hk : k ≤ 60)  (s : Int32) : CT Γ 60 0 0 mX12_summer [.ref 87, .int s, .int (nI k), .int (nI 3)] g mi ml (RQ A (.inl (sumN (fun b => nI ((aP A).2.2.2.2.2.2 b 0 - (smS A s (k - 1)).2 b)) (aG A))) cd1 g mi ml) := by
  refine CT_of (by decide +kernel) (Nat.le_of_ble_eq_true rfl) ?_
  have hP := hA.1
  have hG8 : aG A ≤ 8 := hP.2.1
  have hC8 : (aP A).1 ≤ 8 := hP.1
  refine X_aload_n dX12_summer_0 rfl ?_
  refine X_iconst (v := nI 0) dX12_summer_1 (by decide) ?_
  refine X_puti dX12_summer_2 fkX12_158 rfl rfl (k_87 hSh) ?_
  refine X_aload_n dX12_summer_5 rfl ?_
  refine X_iload_n dX12_summer_6 rfl ?_
  refine X_iconst (v := nI 1) dX12_summer_7 (by decide) ?_
  refine X_bipush (v := nI 60) dX12_summer_8 (by decide) ?_
  refine X_callSI dX12_summer_10 mkX12_192 (c_in Γ g (up2 mi 87 0 (nI 0)) ml (nI k) (nI 1) (nI 60)) rfl rfl (by decide) (Nat.le_of_ble_eq_true rfl) ?_
  refine X_topi (show bI (decide (nI 1 ≤ nI k) && decide (nI k ≤ nI 60)) = nI 1 from congrArg bI (show (decide (nI 1 ≤ nI k) && decide (nI k ≤ nI 60)) = true from by rw [decide_eq_true (nI_le (by omega) (by omega)), decide_eq_true (nI_le (by omega) (by omega))]; rfl)) ?_
  refine X_if_eqN (a := 1) 25 dX12_summer_13 (by decide) (by omega) (fun h_1 => ?_) (fun h_1 => ?_)
  · exact absurd h_1 (by omega)
  · refine X_iload_n dX12_summer_16 rfl ?_
    refine X_iconst (v := nI 0) dX12_summer_17 (by decide) ?_
    refine X_iconst (v := nI 3) dX12_summer_18 (by decide) ?_
    refine X_callSI dX12_summer_19 mkX12_192 (c_in Γ g (up2 mi 87 0 (nI 0)) ml (nI 3) (nI 0) (nI 3)) rfl rfl (by decide) (Nat.le_of_ble_eq_true rfl) ?_
    refine X_topi (show bI (decide (nI 0 ≤ nI 3) && decide (nI 3 ≤ nI 3)) = nI 1 from congrArg bI (show (decide (nI 0 ≤ nI 3) && decide (nI 3 ≤ nI 3)) = true from by decide)) ?_
    refine X_if_neN (a := 1) 29 dX12_summer_22 (by decide) (by omega) (fun h_2 => ?_) (fun h_2 => ?_)
    · refine X_iconst (v := nI 0) dX12_summer_29 (by decide) ?_
      refine X_iconst (v := nI 1) dX12_summer_30 (by decide) ?_
      refine X_iconst (v := nI 1) dX12_summer_31 (by decide) ?_
      refine X_callVI dX12_summer_32 mkX12_228 (k_87 hSh) (c_bad0 Γ g (up2 mi 87 0 (nI 0)) ml hSh 1 1 up2_s) rfl rfl (by decide) (Nat.le_of_ble_eq_true rfl) ?_
      refine X_if_eqN (a := 0) 40 dX12_summer_35 (by decide) (by omega) (fun h_3 => ?_) (fun h_3 => ?_)
      · refine X_iconst (v := nI 0) dX12_summer_40 (by decide) ?_
        refine X_istore dX12_summer_41 (by decide) ?_
        refine X_iconst (v := nI 0) dX12_summer_43 (by decide) ?_
        refine X_istore dX12_summer_44 (by decide) ?_
        refine X_iconst (v := -1) dX12_summer_46 (by decide) ?_
        refine X_istore dX12_summer_47 (by decide) ?_
        refine X_iconst (v := nI 0) dX12_summer_49 (by decide) ?_
        refine X_istore dX12_summer_50 (by decide) ?_
        refine X_L [(7, .int (nI 0)), (6, .int (-1)), (5, .int (nI 0)), (4, .int (nI 0)), (0, .ref 87), (1, .int s), (2, .int (nI k)), (3, .int (nI 3))] ⟨rfl, rfl, rfl, rfl, rfl, rfl, rfl, rfl, trivial⟩ ?_
        refine X_forR (σ := pMI) 52 (fun i y => [(7, .int (nI i)), (6, .int (-1)), (5, .int (nI 0)), (4, .int (nI 0)), (0, .ref 87), (1, .int s), (2, .int (nI k)), (3, .int (nI 3))]) (fun y => y) (fun y => ml) (fun i y => y = fillR (up2 mi 87 0 (nI 0)) 447 i (fun _ => nI 0)) 8 ?_ ?_ 8 0 ((up2 mi 87 0 (nI 0))) (by omega) (fill_0 _ _ _).symm
        · intro i y hi hI hn
          refine X_iload dX12_summer_52 rfl ?_
          refine X_bipush (v := nI 8) dX12_summer_54 (by decide) ?_
          refine X_icmp_geN (a := i) (b := 8) 73 dX12_summer_56 (by decide) (by omega) (by omega) (fun h_4 => ?_) (fun h_4 => ?_)
          · exact absurd hi (by omega)
          · refine X_aload_n dX12_summer_59 rfl ?_
            refine X_getr (a := 447) dX12_summer_60 fkX12_143 rfl (k_87 hSh) (r_87_59 hSh) ?_
            refine X_iload dX12_summer_63 rfl ?_
            refine X_iconst (v := nI 0) dX12_summer_65 (by decide) ?_
            refine X_iast i dX12_summer_66 (k_447 hSh) rfl (by omega) ?_
            refine X_iinc (v := nI (i + 1)) dX12_summer_67 rfl (nI_1 _) (by decide) ?_
            refine X_goto 52 dX12_summer_70 (by decide) ?_
            refine X_L [(7, .int (nI (i + 1))), (6, .int (-1)), (5, .int (nI 0)), (4, .int (nI 0)), (0, .ref 87), (1, .int s), (2, .int (nI k)), (3, .int (nI 3))] ⟨rfl, rfl, rfl, rfl, rfl, rfl, rfl, rfl, trivial⟩ ?_
            refine hn _ ?_
            rw [hI]; exact fill_s _ _ _ _
        · intro y hI
          have hyW : RW mi y := by rw [hI]; exact fill_W RW_0 (by unfold rsR; omega)
          have hyT : ∀ b, b < 8 → y 447 b = nI 0 := fun b hb => by rw [hI]; exact fill_at hb
          refine X_iload dX12_summer_52 rfl ?_
          refine X_bipush (v := nI 8) dX12_summer_54 (by decide) ?_
          refine X_icmp_geN (a := 8) (b := 8) 73 dX12_summer_56 (by decide) (by omega) (by omega) (fun h_5 => ?_) (fun h_5 => ?_)
          · refine X_aload_n dX12_summer_73 rfl ?_
            refine X_callVrV dX12_summer_74 mkX12_347 (k_87 hSh) (r_beg Γ g y ml A hA hSh mi hR hyW) rfl rfl (by decide) (Nat.le_of_ble_eq_true rfl) (fun b1 bl hb1 => ?_)
            obtain ⟨hbS, hbc, hbW, hbB, hbl⟩ := hb1
            rw [hbl]
            refine X_aload_n dX12_summer_77 rfl ?_
            refine X_iload_n dX12_summer_78 rfl ?_
            refine X_puti dX12_summer_79 fkX12_384 rfl rfl (k_87 hSh) ?_
            refine X_iconst (v := nI 0) dX12_summer_82 (by decide) ?_
            refine X_istore dX12_summer_83 (by decide) ?_
            refine X_L [(7, .int (nI 0)), (6, .int (-1)), (5, .int (nI 0)), (4, .int (nI 0)), (0, .ref 87), (1, .int s), (2, .int (nI k)), (3, .int (nI 3))] ⟨rfl, rfl, rfl, rfl, rfl, rfl, rfl, rfl, trivial⟩ ?_
            refine X_L [(7, .int (nI (0))), (6, .int (-1)), (5, .int (sumN (smI A s) (0))), (4, .int (sumN (smG A s) (0))), (0, .ref 87), (1, .int s), (2, .int (nI k)), (3, .int (nI 3))] ⟨rfl, rfl, rfl, rfl, rfl, rfl, rfl, rfl, trivial⟩ ?_
            refine X_forR (σ := pMI) 85 (fun i z => [(7, .int (nI (i))), (6, .int (-1)), (5, .int (sumN (smI A s) (i))), (4, .int (sumN (smG A s) (i))), (0, .ref 87), (1, .int s), (2, .int (nI k)), (3, .int (nI 3))]) (fun z => z) (fun z => ml) (fun i z => RW mi z ∧ z 87 60 = (smS A s i).1 ∧ (∀ b, b < aG A → z 447 b = nI (smT A s i b)) ∧ (∃ rk, rS z (aP A) (aH A) id rk (aP A).2.2.2.1) ∧ (i = 0 → ∀ b, b < aG A → z 194 b = nI ((smS A s 0).2 b) ∧ (smS A s 0).2 b < 24) ∧ (0 < i → RDY z (aP A) (smS A s (i - 1)).2 (smD A s (i - 1)))) k ?_ ?_ k 0 (up2 b1 87 60 s) (by omega) ⟨RW_f hbW (by unfold rsF; omega) (by omega), up2_s, fun b hb => by rw [up2_row (by omega), hbB.1 447 (by omega) (by omega) (by omega) (by omega)]; exact hyT b (by omega), ⟨_, rS_f hA.1 (by omega) hbS⟩, fun _ b hb => by rw [up2_row (by omega)]; exact hbc b hb, fun h => absurd h (by omega)⟩
            · intro i z hi hI hn
              obtain ⟨hzW, hz60, hzT, ⟨rk9, hzS⟩, hz0, hzD⟩ := hI
              have key : ∀ u0 : pMI, RW mi u0 → u0 87 60 = (smS A s i).1 → u0 447 = z 447 → rS u0 (aP A) (aH A) id rk9 (aP A).2.2.2.1 → (∀ b, b < aG A → u0 194 b = nI ((smS A s i).2 b) ∧ (smS A s i).2 b < 24) → XW Γ 60 0 0 mX12_summer 102 [(7, .int (nI (i))), (6, .int (-1)), (5, .int (sumN (smI A s) (i))), (4, .int (sumN (smG A s) (i))), (0, .ref 87), (1, .int s), (2, .int (nI k)), (3, .int (nI 3))] [] g u0 ml (RQ A (.inl (sumN (fun b => nI ((aP A).2.2.2.2.2.2 b 0 - (smS A s (k - 1)).2 b)) (aG A))) cd1 g mi ml) := by
                intro u0 h0W h060 h0T h0S h0c
                refine X_aload_n dX12_summer_102 rfl ?_
                refine X_callVrV dX12_summer_103 mkX12_391 (k_87 hSh) (r_draw Γ g u0 ml A hA hSh mi hR h0W rk9 (aP A).2.2.2.1 h0S) rfl rfl (by decide) (Nat.le_of_ble_eq_true rfl) (fun x1 xl hx1 => ?_)
                obtain ⟨hxS, hxW, hx60, hxF, hxl⟩ := hx1
                rw [hxl]
                rw [h060] at hxS hx60
                refine X_aload_n dX12_summer_106 rfl ?_
                refine X_callVrV dX12_summer_107 mkX12_341 (k_87 hSh) (r_run Γ g x1 ml A hA hSh mi hxW id (lDw A (smS A s i).1).2.2 (lDw A (smS A s i).1).2.1 (smS A s i).2 (aP A).2.2.2.1 ⟨hA.1.2.2.2.1, hA.1.2.2.2.2.1⟩ hxS (lDw_ok hA _) (fun b hb => by rw [hxF 194 (by omega) (by omega) (by omega)]; exact h0c b hb)) rfl rfl (by decide) (Nat.le_of_ble_eq_true rfl) (fun u1 ul hu1 => ?_)
                obtain ⟨huR, huS, huW, huF, hul⟩ := hu1
                rw [hul]
                have huR : RDY u1 (aP A) (smS A s i).2 (smD A s i) := huR
                refine X_iload dX12_summer_110 rfl ?_
                refine X_aload_n dX12_summer_112 rfl ?_
                refine X_callVI dX12_summer_113 mkX12_359 (k_87 hSh) (c_allGot Γ g u1 ml hSh (aG A) (RW_I hA hR huW).1.2.1 hG8) rfl rfl (by decide) (Nat.le_of_ble_eq_true rfl) ?_
                refine X_topi (show _ = smG A s i from sumN_eq _ (fun b hb => (huR.1 b hb).2.2.2.2.1)) ?_
                refine X_iadd dX12_summer_116 ?_
                refine X_istore dX12_summer_117 (by decide) ?_
                refine X_iload dX12_summer_119 rfl ?_
                refine X_aload_n dX12_summer_121 rfl ?_
                refine X_callVI dX12_summer_122 mkX12_362 (k_87 hSh) (c_allIdle Γ g u1 ml hSh (aP A).1 (RW_I hA hR huW).1.1 hC8) rfl rfl (by decide) (Nat.le_of_ble_eq_true rfl) ?_
                refine X_topi (show _ = smI A s i from sumN_eq _ (fun c hc => (huR.2.1 c hc).2.1)) ?_
                refine X_iadd dX12_summer_125 ?_
                refine X_istore dX12_summer_126 (by decide) ?_
                refine X_iconst (v := nI 0) dX12_summer_128 (by decide) ?_
                refine X_istore dX12_summer_129 (by decide) ?_
                refine X_L [(8, .int (nI 0)), (7, .int (nI i)), (6, .int (-1)), (5, .int ((sumN (smI A s) i) + (smI A s i))), (4, .int ((sumN (smG A s) i) + (smG A s i))), (0, .ref 87), (1, .int s), (2, .int (nI k)), (3, .int (nI 3))] ⟨rfl, rfl, rfl, rfl, rfl, rfl, rfl, rfl, rfl, trivial⟩ ?_
                refine X_forR (σ := pMI) 131 (fun j t => [(8, .int (nI j)), (7, .int (nI i)), (6, .int (-1)), (5, .int ((sumN (smI A s) i) + (smI A s i))), (4, .int ((sumN (smG A s) i) + (smG A s i))), (0, .ref 87), (1, .int s), (2, .int (nI k)), (3, .int (nI 3))]) (fun t => t) (fun t => ml) (fun j t => (RDY t (aP A) (smS A s i).2 (smD A s i) ∧ rS t (aP A) (aH A) id (lDw A (smS A s i).1).2.2 (aP A).2.2.2.1 ∧ RW mi t ∧ t 87 60 = (smS A s (i + 1)).1) ∧ (∀ b, b < aG A → t 447 b = nI (smT A s (if b < j then i + 1 else i) b))) (aG A) ?_ ?_ (aG A) 0 u1 (by omega) ⟨⟨huR, huS, huW, by rw [huF 87 (by omega) (by omega) (by omega) (by omega) (by omega)]; exact hx60⟩, fun b hb => by rw [if_neg (by omega), huF 447 (by omega) (by omega) (by omega) (by omega) (by omega), hxF 447 (by omega) (by omega) (by omega), h0T]; exact hzT b hb⟩
                · intro j t hj hJ hn2
                  obtain ⟨⟨htR, htS, htW, ht60⟩, htT⟩ := hJ
                  obtain ⟨n9, hn9, hn8, hse⟩ := sea_r htR hj
                  refine X_iload dX12_summer_131 rfl ?_
                  refine X_aload_n dX12_summer_133 rfl ?_
                  refine X_getr (a := 91) dX12_summer_134 fkX12_23 rfl (k_87 hSh) (r_87_12 hSh) ?_
                  refine X_iconst (v := nI 1) dX12_summer_137 (by decide) ?_
                  refine X_iald 1 dX12_summer_138 (k_91 hSh) rfl (by omega) ?_
                  rw [(RW_I hA hR htW).1.2.1]
                  refine X_icmp_geN (a := j) (b := aG A) 173 dX12_summer_139 (by decide) (by omega) (by omega) (fun h_6 => ?_) (fun h_6 => ?_)
                  · exact absurd h_6 (by omega)
                  · refine X_aload_n dX12_summer_142 rfl ?_
                    refine X_getr (a := 447) dX12_summer_143 fkX12_143 rfl (k_87 hSh) (r_87_59 hSh) ?_
                    refine X_iload dX12_summer_146 rfl ?_
                    refine X_dup2 dX12_summer_148 rfl rfl ?_
                    refine X_iald j dX12_summer_149 (k_447 hSh) rfl (by omega) ?_
                    rw [(show t 447 j = nI (smT A s i j) by rw [htT j hj, if_neg (by omega)])]
                    refine X_aload_n dX12_summer_150 rfl ?_
                    refine X_getr (a := 201) dX12_summer_151 fkX12_92 rfl (k_87 hSh) (r_87_41 hSh) ?_
                    refine X_iload dX12_summer_154 rfl ?_
                    refine X_iald j dX12_summer_156 (k_201 hSh) rfl (by omega) ?_
                    rw [hn8]
                    refine X_if_leN (a := n9) 164 dX12_summer_157 (by decide) (by omega) (fun h_7 => ?_) (fun h_7 => ?_)
                    · refine X_iconst (v := nI 0) dX12_summer_164 (by decide) ?_
                      refine X_iadd dX12_summer_165 ?_
                      refine X_topi (nI_add (smT A s i j) 0) ?_
                      refine X_iast j dX12_summer_166 (k_447 hSh) rfl (by omega) ?_
                      refine X_iinc (v := nI (j + 1)) dX12_summer_167 rfl (nI_1 _) (by decide) ?_
                      refine X_goto 131 dX12_summer_170 (by decide) ?_
                      refine X_L [(8, .int (nI (j + 1))), (7, .int (nI i)), (6, .int (-1)), (5, .int ((sumN (smI A s) i) + (smI A s i))), (4, .int ((sumN (smG A s) i) + (smG A s i))), (0, .ref 87), (1, .int s), (2, .int (nI k)), (3, .int (nI 3))] ⟨rfl, rfl, rfl, rfl, rfl, rfl, rfl, rfl, rfl, trivial⟩ ?_
                      have hsm : ∀ q, q < 230 → (up2 t 447 j (nI ((smT A s i j) + 0))) q = t q := fun q hq => up2_row (by omega)
                      refine hn2 _ ⟨⟨RDY_b hP hsm htR, rS_b hP hsm htS, RW_u htW (by unfold rsR; omega), by rw [up2_row (by omega)]; exact ht60⟩, fun b hb => ?_⟩
                      by_cases q : b = j
                      · subst q; rw [up2_s, if_pos (by omega), smT_s, hse]; first | rw [decide_eq_true (by omega)]; rfl | rw [decide_eq_false (by omega)]; rfl
                      · rw [up2_n q, htT b hb]; by_cases q2 : b < j; (rw [if_pos q2, if_pos (by omega)]); rw [if_neg q2, if_neg (by omega)]
                    · refine X_iconst (v := nI 1) dX12_summer_160 (by decide) ?_
                      refine X_goto 165 dX12_summer_161 (by decide) ?_
                      refine X_iadd dX12_summer_165 ?_
                      refine X_topi (nI_add (smT A s i j) 1) ?_
                      refine X_iast j dX12_summer_166 (k_447 hSh) rfl (by omega) ?_
                      refine X_iinc (v := nI (j + 1)) dX12_summer_167 rfl (nI_1 _) (by decide) ?_
                      refine X_goto 131 dX12_summer_170 (by decide) ?_
                      refine X_L [(8, .int (nI (j + 1))), (7, .int (nI i)), (6, .int (-1)), (5, .int ((sumN (smI A s) i) + (smI A s i))), (4, .int ((sumN (smG A s) i) + (smG A s i))), (0, .ref 87), (1, .int s), (2, .int (nI k)), (3, .int (nI 3))] ⟨rfl, rfl, rfl, rfl, rfl, rfl, rfl, rfl, rfl, trivial⟩ ?_
                      have hsm : ∀ q, q < 230 → (up2 t 447 j (nI ((smT A s i j) + 1))) q = t q := fun q hq => up2_row (by omega)
                      refine hn2 _ ⟨⟨RDY_b hP hsm htR, rS_b hP hsm htS, RW_u htW (by unfold rsR; omega), by rw [up2_row (by omega)]; exact ht60⟩, fun b hb => ?_⟩
                      by_cases q : b = j
                      · subst q; rw [up2_s, if_pos (by omega), smT_s, hse]; first | rw [decide_eq_true (by omega)]; rfl | rw [decide_eq_false (by omega)]; rfl
                      · rw [up2_n q, htT b hb]; by_cases q2 : b < j; (rw [if_pos q2, if_pos (by omega)]); rw [if_neg q2, if_neg (by omega)]
                · intro t hJ
                  obtain ⟨⟨htR, htS, htW, ht60⟩, htT⟩ := hJ
                  refine X_iload dX12_summer_131 rfl ?_
                  refine X_aload_n dX12_summer_133 rfl ?_
                  refine X_getr (a := 91) dX12_summer_134 fkX12_23 rfl (k_87 hSh) (r_87_12 hSh) ?_
                  refine X_iconst (v := nI 1) dX12_summer_137 (by decide) ?_
                  refine X_iald 1 dX12_summer_138 (k_91 hSh) rfl (by omega) ?_
                  rw [(RW_I hA hR htW).1.2.1]
                  refine X_icmp_geN (a := aG A) (b := aG A) 173 dX12_summer_139 (by decide) (by omega) (by omega) (fun h_8 => ?_) (fun h_8 => ?_)
                  · refine X_iinc (v := nI (i + 1)) dX12_summer_173 rfl (nI_1 _) (by decide) ?_
                    refine X_goto 85 dX12_summer_176 (by decide) ?_
                    refine X_L [(7, .int (nI (i + 1))), (6, .int (-1)), (5, .int ((sumN (smI A s) i) + (smI A s i))), (4, .int ((sumN (smG A s) i) + (smG A s i))), (0, .ref 87), (1, .int s), (2, .int (nI k)), (3, .int (nI 3))] ⟨rfl, rfl, rfl, rfl, rfl, rfl, rfl, rfl, trivial⟩ ?_
                    refine X_L [(7, .int (nI (i + 1))), (6, .int (-1)), (5, .int (sumN (smI A s) (i + 1))), (4, .int (sumN (smG A s) (i + 1))), (0, .ref 87), (1, .int s), (2, .int (nI k)), (3, .int (nI 3))] ⟨rfl, rfl, rfl, rfl, rfl, rfl, rfl, rfl, trivial⟩ ?_
                    exact hn t ⟨htW, ht60, fun b hb => by rw [htT b hb, if_pos hb], ⟨_, htS⟩, fun h => absurd h (by omega), fun _ => htR⟩
                  · exact absurd h_8 (by omega)
              by_cases h00 : i = 0
              · subst h00
                refine X_iload dX12_summer_85 rfl ?_
                refine X_iload_n dX12_summer_87 rfl ?_
                refine X_icmp_geN (a := 0) (b := k) 179 dX12_summer_88 (by decide) (by omega) (by omega) (fun h_9 => ?_) (fun h_9 => ?_)
                · exact absurd h_9 (by omega)
                · refine X_iload dX12_summer_91 rfl ?_
                  refine X_if_leN (a := 0) 102 dX12_summer_93 (by decide) (by omega) (fun h_10 => ?_) (fun h_10 => ?_)
                  · refine X_L [(7, .int (nI 0)), (6, .int (-1)), (5, .int (sumN (smI A s) 0)), (4, .int (sumN (smG A s) 0)), (0, .ref 87), (1, .int s), (2, .int (nI k)), (3, .int (nI 3))] ⟨rfl, rfl, rfl, rfl, rfl, rfl, rfl, rfl, trivial⟩ ?_
                    exact key _ hzW hz60 rfl hzS (hz0 rfl)
                  · exact absurd h_10 (by omega)
              · obtain ⟨j, rfl⟩ : ∃ j, i = j + 1 := ⟨i - 1, by omega⟩
                refine X_iload dX12_summer_85 rfl ?_
                refine X_iload_n dX12_summer_87 rfl ?_
                refine X_icmp_geN (a := j + 1) (b := k) 179 dX12_summer_88 (by decide) (by omega) (by omega) (fun h_11 => ?_) (fun h_11 => ?_)
                · exact absurd h_11 (by omega)
                · refine X_iload dX12_summer_91 rfl ?_
                  refine X_if_leN (a := j + 1) 102 dX12_summer_93 (by decide) (by omega) (fun h_12 => ?_) (fun h_12 => ?_)
                  · exact absurd h_12 (by omega)
                  · refine X_aload_n dX12_summer_96 rfl ?_
                    refine X_iload dX12_summer_97 rfl ?_
                    refine X_callVrV dX12_summer_99 mkX12_344 (k_87 hSh) (r_ask Γ g z ml A hA hSh mi hzW id rk9 _ _ (j + 1) _ hzS (hzD (by omega))) rfl rfl (by decide) (Nat.le_of_ble_eq_true rfl) (fun a1 al ha1 => ?_)
                    obtain ⟨hac, haS, haW, haF, hal⟩ := ha1
                    rw [hal]
                    refine X_L [(7, .int (nI (j + 1))), (6, .int (-1)), (5, .int (sumN (smI A s) (j + 1))), (4, .int (sumN (smG A s) (j + 1))), (0, .ref 87), (1, .int s), (2, .int (nI k)), (3, .int (nI 3))] ⟨rfl, rfl, rfl, rfl, rfl, rfl, rfl, rfl, trivial⟩ ?_
                    exact key _ haW ((congrFun (haF 87 (by omega) (by omega) (by omega) (by omega) (by omega)) 60).trans hz60) (haF 447 (by omega) (by omega) (by omega) (by omega) (by omega)) haS hac
            · intro z hI
              obtain ⟨hzW, hz60, hzT, ⟨rk9, hzS⟩, hz0, hzD⟩ := hI
              have hzI := RW_I hA hR hzW
              have hzD := hzD (by omega)
              have hf : ∀ b, b < aG A → z 447 b = nI (smT A s k b) := hzT
              have hfb : ∀ b, smT A s k b ≤ 1000 := fun b => Nat.le_trans (smT_le b) (by omega)
              generalize hsf : smT A s k = f at hf hfb
              refine X_iload dX12_summer_85 rfl ?_
              refine X_iload_n dX12_summer_87 rfl ?_
              refine X_icmp_geN (a := k) (b := k) 179 dX12_summer_88 (by decide) (by omega) (by omega) (fun h_13 => ?_) (fun h_13 => ?_)
              · refine X_iconst (v := nI 0) dX12_summer_179 (by decide) ?_
                refine X_istore dX12_summer_180 (by decide) ?_
                refine X_L [(7, .int (nI 0)), (6, .int (-1)), (5, .int (sumN (smI A s) k)), (4, .int (sumN (smG A s) k)), (0, .ref 87), (1, .int s), (2, .int (nI k)), (3, .int (nI 3))] ⟨rfl, rfl, rfl, rfl, rfl, rfl, rfl, rfl, trivial⟩ ?_
                refine X_L [(7, .int (nI 0)), (6, .int (oI (fmN f 0))), (5, .int (sumN (smI A s) k)), (4, .int (sumN (smG A s) k)), (0, .ref 87), (1, .int s), (2, .int (nI k)), (3, .int (nI 3))] ⟨rfl, rfl, rfl, rfl, rfl, rfl, rfl, rfl, trivial⟩ ?_
                refine X_forR (σ := Unit) 182 (fun i u => [(7, .int (nI i)), (6, .int (oI (fmN f i))), (5, .int (sumN (smI A s) k)), (4, .int (sumN (smG A s) k)), (0, .ref 87), (1, .int s), (2, .int (nI k)), (3, .int (nI 3))]) (fun u => z) (fun u => ml) (fun i u => True) (aG A) ?_ ?_ (aG A) 0 () (by omega) trivial
                · intro i u hi hI hn
                  have hfi := hfb i
                  cases hq : fmN f i with
                  | none =>
                    refine X_iload dX12_summer_182 rfl ?_
                    refine X_aload_n dX12_summer_184 rfl ?_
                    refine X_getr (a := 91) dX12_summer_185 fkX12_23 rfl (k_87 hSh) (r_87_12 hSh) ?_
                    refine X_iconst (v := nI 1) dX12_summer_188 (by decide) ?_
                    refine X_iald 1 dX12_summer_189 (k_91 hSh) rfl (by omega) ?_
                    rw [hzI.1.2.1]
                    refine X_icmp_geN (a := i) (b := aG A) 231 dX12_summer_190 (by decide) (by omega) (by omega) (fun h_14 => ?_) (fun h_14 => ?_)
                    · exact absurd h_14 (by omega)
                    · refine X_iload dX12_summer_193 rfl ?_
                      refine X_iconst (v := -1) dX12_summer_195 (by decide) ?_
                      refine X_icmp_eq 216 dX12_summer_196 (by decide) (fun h_15 => ?_) (fun h_15 => ?_)
                      · refine X_iload dX12_summer_216 rfl ?_
                        refine X_goto 223 dX12_summer_218 (by decide) ?_
                        refine X_istore dX12_summer_223 (by decide) ?_
                        refine X_iinc (v := nI (i + 1)) dX12_summer_225 rfl (nI_1 _) (by decide) ?_
                        refine X_goto 182 dX12_summer_228 (by decide) ?_
                        refine X_L [(7, .int (nI (i + 1))), (6, .int (nI i)), (5, .int (sumN (smI A s) k)), (4, .int (sumN (smG A s) k)), (0, .ref 87), (1, .int s), (2, .int (nI k)), (3, .int (nI 3))] ⟨rfl, rfl, rfl, rfl, rfl, rfl, rfl, rfl, trivial⟩ ?_
                        refine X_L [(7, .int (nI (i + 1))), (6, .int (oI (fmN f (i + 1)))), (5, .int (sumN (smI A s) k)), (4, .int (sumN (smG A s) k)), (0, .ref 87), (1, .int s), (2, .int (nI k)), (3, .int (nI 3))] ⟨rfl, by rw [fm_n hq]; rfl, rfl, rfl, rfl, rfl, rfl, rfl, trivial⟩ ?_
                        exact hn () trivial
                      · exact absurd rfl h_15
                  | some q =>
                    have hqi := fm_lt hq
                    have hfq := hfb q
                    refine X_iload dX12_summer_182 rfl ?_
                    refine X_aload_n dX12_summer_184 rfl ?_
                    refine X_getr (a := 91) dX12_summer_185 fkX12_23 rfl (k_87 hSh) (r_87_12 hSh) ?_
                    refine X_iconst (v := nI 1) dX12_summer_188 (by decide) ?_
                    refine X_iald 1 dX12_summer_189 (k_91 hSh) rfl (by omega) ?_
                    rw [hzI.1.2.1]
                    refine X_icmp_geN (a := i) (b := aG A) 231 dX12_summer_190 (by decide) (by omega) (by omega) (fun h_16 => ?_) (fun h_16 => ?_)
                    · exact absurd h_16 (by omega)
                    · refine X_iload dX12_summer_193 rfl ?_
                      refine X_iconst (v := -1) dX12_summer_195 (by decide) ?_
                      refine X_icmp_eq 216 dX12_summer_196 (by decide) (fun h_17 => ?_) (fun h_17 => ?_)
                      · exact absurd h_17 (nI_m1 (by omega))
                      · refine X_aload_n dX12_summer_199 rfl ?_
                        refine X_getr (a := 447) dX12_summer_200 fkX12_143 rfl (k_87 hSh) (r_87_59 hSh) ?_
                        refine X_iload dX12_summer_203 rfl ?_
                        refine X_iald i dX12_summer_205 (k_447 hSh) rfl (by omega) ?_
                        rw [(hf i hi)]
                        refine X_aload_n dX12_summer_206 rfl ?_
                        refine X_getr (a := 447) dX12_summer_207 fkX12_143 rfl (k_87 hSh) (r_87_59 hSh) ?_
                        refine X_iload dX12_summer_210 rfl ?_
                        refine X_iald q dX12_summer_212 (k_447 hSh) rfl (by omega) ?_
                        rw [(hf q (by omega))]
                        refine X_icmp_leN (a := f i) (b := f q) 221 dX12_summer_213 (by decide) (by omega) (by omega) (fun h_18 => ?_) (fun h_18 => ?_)
                        · refine X_iload dX12_summer_221 rfl ?_
                          refine X_istore dX12_summer_223 (by decide) ?_
                          refine X_iinc (v := nI (i + 1)) dX12_summer_225 rfl (nI_1 _) (by decide) ?_
                          refine X_goto 182 dX12_summer_228 (by decide) ?_
                          refine X_L [(7, .int (nI (i + 1))), (6, .int (nI q)), (5, .int (sumN (smI A s) k)), (4, .int (sumN (smG A s) k)), (0, .ref 87), (1, .int s), (2, .int (nI k)), (3, .int (nI 3))] ⟨rfl, rfl, rfl, rfl, rfl, rfl, rfl, rfl, trivial⟩ ?_
                          refine X_L [(7, .int (nI (i + 1))), (6, .int (oI (fmN f (i + 1)))), (5, .int (sumN (smI A s) k)), (4, .int (sumN (smG A s) k)), (0, .ref 87), (1, .int s), (2, .int (nI k)), (3, .int (nI 3))] ⟨rfl, by rw [(fm_s hq).trans (if_neg (by omega))]; rfl, rfl, rfl, rfl, rfl, rfl, rfl, trivial⟩ ?_
                          exact hn () trivial
                        · refine X_iload dX12_summer_216 rfl ?_
                          refine X_goto 223 dX12_summer_218 (by decide) ?_
                          refine X_istore dX12_summer_223 (by decide) ?_
                          refine X_iinc (v := nI (i + 1)) dX12_summer_225 rfl (nI_1 _) (by decide) ?_
                          refine X_goto 182 dX12_summer_228 (by decide) ?_
                          refine X_L [(7, .int (nI (i + 1))), (6, .int (nI i)), (5, .int (sumN (smI A s) k)), (4, .int (sumN (smG A s) k)), (0, .ref 87), (1, .int s), (2, .int (nI k)), (3, .int (nI 3))] ⟨rfl, rfl, rfl, rfl, rfl, rfl, rfl, rfl, trivial⟩ ?_
                          refine X_L [(7, .int (nI (i + 1))), (6, .int (oI (fmN f (i + 1)))), (5, .int (sumN (smI A s) k)), (4, .int (sumN (smG A s) k)), (0, .ref 87), (1, .int s), (2, .int (nI k)), (3, .int (nI 3))] ⟨rfl, by rw [(fm_s hq).trans (if_pos (by omega))]; rfl, rfl, rfl, rfl, rfl, rfl, rfl, trivial⟩ ?_
                          exact hn () trivial
                · intro u hI
                  refine X_iload dX12_summer_182 rfl ?_
                  refine X_aload_n dX12_summer_184 rfl ?_
                  refine X_getr (a := 91) dX12_summer_185 fkX12_23 rfl (k_87 hSh) (r_87_12 hSh) ?_
                  refine X_iconst (v := nI 1) dX12_summer_188 (by decide) ?_
                  refine X_iald 1 dX12_summer_189 (k_91 hSh) rfl (by omega) ?_
                  rw [hzI.1.2.1]
                  refine X_icmp_geN (a := aG A) (b := aG A) 231 dX12_summer_190 (by decide) (by omega) (by omega) (fun h_19 => ?_) (fun h_19 => ?_)
                  · refine X_iload_n dX12_summer_231 rfl ?_
                    refine X_if_neN (a := 3) 240 dX12_summer_232 (by decide) (by omega) (fun h_20 => ?_) (fun h_20 => ?_)
                    · refine X_iload_n dX12_summer_240 rfl ?_
                      refine X_iconst (v := nI 1) dX12_summer_241 (by decide) ?_
                      refine X_icmp_neN (a := 3) (b := 1) 250 dX12_summer_242 (by decide) (by omega) (by omega) (fun h_21 => ?_) (fun h_21 => ?_)
                      · refine X_iload_n dX12_summer_250 rfl ?_
                        refine X_iconst (v := nI 2) dX12_summer_251 (by decide) ?_
                        refine X_icmp_neN (a := 3) (b := 2) 260 dX12_summer_252 (by decide) (by omega) (by omega) (fun h_22 => ?_) (fun h_22 => ?_)
                        · refine X_aload_n dX12_summer_260 rfl ?_
                          refine X_callVI dX12_summer_261 mkX12_365 (k_87 hSh) (c_allLost Γ g z ml hSh (aG A) hzI.1.2.1 hG8) rfl rfl (by decide) (Nat.le_of_ble_eq_true rfl) ?_
                          exact X_iret dX12_summer_264 rfl ⟨rfl, rfl, RW_I hA hR hzW, hzW.2.1, _, rfl, sumN_eq _ (fun b hb => lo_r (hzI.1.2.2.2.2.2.2 b hb).1 (hzD.1 b hb).1 (hP.2.2.2.2.2.2.2 b hb).1 (sm_lt hA hb _)), hzW.2.2⟩
                        · exact absurd h_22 (by omega)
                      · exact absurd h_21 (by omega)
                    · exact absurd h_20 (by omega)
                  · exact absurd h_19 (by omega)
              · exact absurd h_13 (by omega)
          · exact absurd h_5 (by omega)
      · exact absurd h_3 (by omega)
    · exact absurd h_2 (by omega)
theorem m_summer (A : AS) (hA : okAS A) (s : Int32) (w : Int32) (q : Int32) : MOK mX11_summer mX12_summer cd1 [.int s, .int w, .int q] A := by
  by_cases hg0 : nI 1 ≤ w ∧ w ≤ nI 60
  · obtain ⟨k, hka, hk, rfl⟩ := (wi_iff (by decide) (by decide)).mp hg0
    by_cases hg1 : nI 0 ≤ q ∧ q ≤ nI 3
    · obtain ⟨j, hja, hj, rfl⟩ := (wi_iff (by decide) (by decide)).mp hg1
      have hkk : j < 4 := by omega
      match j, hkk with
      | 0, _ => exact ⟨.inl (sumN (smG A s) k), A, hA, fun j h => (by cases h), fun Γ g m l hC => k_summer_0 Γ g m l A hA hC k hka hk s, fun Γ g m l hSh hR => r_summer_0 Γ g m l A hA hSh hR k hka hk s⟩
      | 1, _ => exact ⟨.inl (sumN (smI A s) k), A, hA, fun j h => (by cases h), fun Γ g m l hC => k_summer_1 Γ g m l A hA hC k hka hk s, fun Γ g m l hSh hR => r_summer_1 Γ g m l A hA hSh hR k hka hk s⟩
      | 2, _ => exact ⟨.inl (oI (fmN (smT A s k) (aG A))), A, hA, fun j h => (by cases h), fun Γ g m l hC => k_summer_2 Γ g m l A hA hC k hka hk s, fun Γ g m l hSh hR => r_summer_2 Γ g m l A hA hSh hR k hka hk s⟩
      | 3, _ => exact ⟨.inl (sumN (fun b => nI ((aP A).2.2.2.2.2.2 b 0 - (smS A s (k - 1)).2 b)) (aG A)), A, hA, fun j h => (by cases h), fun Γ g m l hC => k_summer_3 Γ g m l A hA hC k hka hk s, fun Γ g m l hSh hR => r_summer_3 Γ g m l A hA hSh hR k hka hk s⟩
    · exact ⟨.inr 1, rfA A 1, ok_rf hA, fun j h => by cases h; decide, fun Γ g m l hC => k_summer_f1 Γ g m l A hA hC k hka hk q hg1 s, fun Γ g m l hSh hR => r_summer_f1 Γ g m l A hA hSh hR k hka hk q hg1 s⟩
  · exact ⟨.inr 1, rfA A 1, ok_rf hA, fun j h => by cases h; decide, fun Γ g m l hC => k_summer_f0 Γ g m l A hA hC w hg0 s q, fun Γ g m l hSh hR => r_summer_f0 Γ g m l A hA hSh hR w hg0 s q⟩

/-! ===== the reference's days ===== -/
def kwS (m : pMI) (b : Nat) : pMI := up2 (up2 (up2 (up2 m 131 7 (m (121 + b) 1)) 131 8 (m (121 + b) 0)) 131 9 (m 91 0)) 131 10 (m 91 1)
def cbW (m : pMI) (H : Nat → HBt) (o : Nat) : pMI := if m 129 o = nI 0 then m else (runL 130 (m 131) (fun v => decide (v = nI 1)) (H o).1 (m, 0)).1
theorem cbW_row {m : pMI} {H : Nat → HBt} {o i : Nat} (h : i ≠ 130) : cbW m H o i = m i := by
  unfold cbW; split
  · rfl
  · exact run_row h _ _
theorem c_comesByH (Γ : pTG) (g : pGG) (mi : pMI) (ml : pML) (hSh : Sh g) (H : Nat → HBt) (hH : okH H) (hb : rfHb mi H) (o : Nat) (ho : o < 8) (hu : ∃ u, u < 24 ∧ mi 131 8 = nI u) : cI Γ 3 mX12_comesBy [.ref 87, .int (nI o)] g mi ml (clH ((H o).2 (mi 131))) (cbW mi H o) := by
  rcases hb o ho with ⟨h1, h2⟩ | ⟨h1, h2, h3⟩
  · have e1 : clH ((H o).2 (mi 131)) = mi 131 8 := by
      obtain ⟨u, hu1, hu2⟩ := hu
      rw [h2]; dsimp only; rw [hu2]
      exact clH_3 (nI_le (a := 0) (by omega) (by omega)) (nI_le (by omega) (by omega))
    have e2 : cbW mi H o = mi := if_pos h1
    rw [e1, e2]
    exact c_comesBy0 Γ g mi ml hSh o ho h1
  · obtain ⟨hl, n, d, hV, hd⟩ := hH o ho
    have e2 : cbW mi H o = (runL 130 (mi 131) (fun v => decide (v = nI 1)) (H o).1 (mi, 0)).1 := if_neg (by rw [h2]; exact nI_ne0 h1 (by omega))
    rw [e2]
    exact c_comesBy Γ g mi ml hSh o ho (H o).1 n d (H o).2 hV hd hl h1 h2 h3
def akS (H : Nat → HBt) (wh : Nat → Nat) (f l d : Int32) (b : Nat) (m : pMI) : pMI :=
  (fun m2 : pMI => up2 (cbW m2 H (wh b)) 230 b (clH ((H (wh b)).2 (m2 131)))) (kwS (up2 (up2 (up2 (up2 (up2 (up2 (up2 m 131 0 (m 194 b)) 131 1 f) 131 2 l) 131 3 (g0 (m 201 b))) 131 4 (m 199 b)) 131 5 (g0 (m 202 b))) 131 6 d) b)
def cpS (b : Nat) (m : pMI) : pMI := up2 m 194 b (m 230 b)
theorem kwS_row {m : pMI} {b i : Nat} (h : i ≠ 131) : kwS m b i = m i := by unfold kwS; rw [up2_row h, up2_row h, up2_row h, up2_row h]
theorem akS_row {H : Nat → HBt} {wh : Nat → Nat} {f l d : Int32} {b i : Nat} {m : pMI} (h : i ≠ 130 ∧ i ≠ 131 ∧ i ≠ 230) : akS H wh f l d b m i = m i := by
  unfold akS; dsimp only
  rw [up2_row h.2.2, cbW_row h.1, kwS_row h.2.1, up2_row h.2.1, up2_row h.2.1, up2_row h.2.1, up2_row h.2.1, up2_row h.2.1, up2_row h.2.1, up2_row h.2.1]
theorem ls_s {cm : Nat → Nat} {G : Nat → Bool} {i : Nat} (hc : ∀ b, b ≤ i → cm b < 24) (hG : G i = true) : (if nI (cm i) < oI (lsN cm G i) then oI (lsN cm G i) else nI (cm i)) = oI (lsN cm G (i + 1)) := by
  have e : lsN cm G (i + 1) = some (max ((lsN cm G i).getD 0) (cm i)) := by unfold lsN; rw [if_pos hG]; cases i <;> rfl
  rw [e]
  cases h : lsN cm G i with
  | none =>
    show (if nI (cm i) < -1 then -1 else nI (cm i)) = nI (max 0 (cm i))
    rw [if_neg (show ¬ nI (cm i) < -1 from fun z => absurd (Int32.lt_of_lt_of_le z (by decide : (-1 : Int32) ≤ nI 0)) (nI_nlt (by omega) (by have := hc i (Nat.le_refl _); omega)))]
    rw [Nat.zero_max]
  | some v =>
    have hv : v < 24 := by
      have := (lsN_s (cm := cm) (G := G) (v := 23) (n := i) (fun a ha _ => by have := hc a (by omega); omega)).1
      rw [h, Option.getD_some] at this; omega
    have hci := hc i (Nat.le_refl _)
    show (if nI (cm i) < nI v then nI v else nI (cm i)) = nI (max v (cm i))
    by_cases hz : cm i < v
    · rw [if_pos (nI_lt hz (by omega))]; congr 1; omega
    · rw [if_neg (nI_nlt (by omega) (by omega))]; congr 1; omega
theorem ls_v1 {o : Option Nat} (hb : ∀ v, o = some v → v < 2147483648) (h : oI o = -1) : nI 23 = nI (o.getD 23) := by
  cases o with
  | none => rfl
  | some v => exact absurd h (nI_m1 (hb v rfl))
theorem ls_v2 {o : Option Nat} (h : ¬ oI o = -1) : oI o = nI (o.getD 23) := by
  cases o with
  | none => exact absurd rfl h
  | some v => rfl
theorem ls_n {cm : Nat → Nat} {G : Nat → Bool} {i : Nat} (hG : G i = false) : lsN cm G (i + 1) = lsN cm G i := by
  conv => lhs; unfold lsN
  rw [hG, if_neg (by decide)]
set_option maxRecDepth 100000 in
set_option maxHeartbeats 4000000 in
theorem c_knowsSelf (Γ : pTG) (g : pGG) (mi : pMI) (ml : pML) (hSh : Sh g) (b : Nat) (hb : b < 8) : cV Γ 1 mX12_knowsSelf [.ref 87, .int (nI b)] g mi ml (kwS mi b) ml := by
  refine cV_of (by decide +kernel) (Nat.le_of_ble_eq_true rfl) ?_
  refine X_aload_n dX12_knowsSelf_0 rfl ?_
  refine X_getr (a := 131) dX12_knowsSelf_1 fkX12_46 rfl (k_87 hSh) (r_87_19 hSh) ?_
  refine X_bipush (v := nI 7) dX12_knowsSelf_4 (by decide) ?_
  refine X_aload_n dX12_knowsSelf_6 rfl ?_
  refine X_getr (a := 120) dX12_knowsSelf_7 fkX12_37 rfl (k_87 hSh) (r_87_16 hSh) ?_
  refine X_iload_n dX12_knowsSelf_10 rfl ?_
  refine X_aaldr (b := 121 + b) b dX12_knowsSelf_11 (k_120 hSh) rfl (by omega) (o_120 hSh b (by omega)) ?_
  refine X_iconst (v := nI 1) dX12_knowsSelf_12 (by decide) ?_
  refine X_iald 1 dX12_knowsSelf_13 (kr_120 hSh b (by omega)) rfl (by omega) ?_
  refine X_iast 7 dX12_knowsSelf_14 (k_131 hSh) rfl (by omega) ?_
  refine X_aload_n dX12_knowsSelf_15 rfl ?_
  refine X_getr (a := 131) dX12_knowsSelf_16 fkX12_46 rfl (k_87 hSh) (r_87_19 hSh) ?_
  refine X_bipush (v := nI 8) dX12_knowsSelf_19 (by decide) ?_
  refine X_aload_n dX12_knowsSelf_21 rfl ?_
  refine X_getr (a := 120) dX12_knowsSelf_22 fkX12_37 rfl (k_87 hSh) (r_87_16 hSh) ?_
  refine X_iload_n dX12_knowsSelf_25 rfl ?_
  refine X_aaldr (b := 121 + b) b dX12_knowsSelf_26 (k_120 hSh) rfl (by omega) (o_120 hSh b (by omega)) ?_
  refine X_iconst (v := nI 0) dX12_knowsSelf_27 (by decide) ?_
  refine X_iald 0 dX12_knowsSelf_28 (kr_120 hSh b (by omega)) rfl (by omega) ?_
  refine X_topi (show (up2 mi 131 7 (mi (121 + b) 1)) (121 + b) 0 = mi (121 + b) 0 by rw [up2_row (by omega)]) ?_
  refine X_iast 8 dX12_knowsSelf_29 (k_131 hSh) rfl (by omega) ?_
  refine X_aload_n dX12_knowsSelf_30 rfl ?_
  refine X_getr (a := 131) dX12_knowsSelf_31 fkX12_46 rfl (k_87 hSh) (r_87_19 hSh) ?_
  refine X_bipush (v := nI 9) dX12_knowsSelf_34 (by decide) ?_
  refine X_aload_n dX12_knowsSelf_36 rfl ?_
  refine X_getr (a := 91) dX12_knowsSelf_37 fkX12_23 rfl (k_87 hSh) (r_87_12 hSh) ?_
  refine X_iconst (v := nI 0) dX12_knowsSelf_40 (by decide) ?_
  refine X_iald 0 dX12_knowsSelf_41 (k_91 hSh) rfl (by omega) ?_
  refine X_topi (show (up2 (up2 mi 131 7 (mi (121 + b) 1)) 131 8 (mi (121 + b) 0)) 91 0 = mi 91 0 by rw [up2_row (by omega), up2_row (by omega)]) ?_
  refine X_iast 9 dX12_knowsSelf_42 (k_131 hSh) rfl (by omega) ?_
  refine X_aload_n dX12_knowsSelf_43 rfl ?_
  refine X_getr (a := 131) dX12_knowsSelf_44 fkX12_46 rfl (k_87 hSh) (r_87_19 hSh) ?_
  refine X_bipush (v := nI 10) dX12_knowsSelf_47 (by decide) ?_
  refine X_aload_n dX12_knowsSelf_49 rfl ?_
  refine X_getr (a := 91) dX12_knowsSelf_50 fkX12_23 rfl (k_87 hSh) (r_87_12 hSh) ?_
  refine X_iconst (v := nI 1) dX12_knowsSelf_53 (by decide) ?_
  refine X_iald 1 dX12_knowsSelf_54 (k_91 hSh) rfl (by omega) ?_
  refine X_topi (show (up2 (up2 (up2 mi 131 7 (mi (121 + b) 1)) 131 8 (mi (121 + b) 0)) 131 9 (mi 91 0)) 91 1 = mi 91 1 by rw [up2_row (by omega), up2_row (by omega), up2_row (by omega)]) ?_
  refine X_iast 10 dX12_knowsSelf_55 (k_131 hSh) rfl (by omega) ?_
  exact X_vret dX12_knowsSelf_56 rfl ⟨rfl, rfl, rfl, rfl⟩
set_option maxRecDepth 100000 in
set_option maxHeartbeats 4000000 in
theorem c_asks (Γ : pTG) (g : pGG) (mi : pMI) (ml : pML) (hSh : Sh g) (nG : Nat) (hG : mi 91 1 = nI nG) (h8 : nG ≤ 8) (cm U wh : Nat → Nat) (G : Nat → Bool) (hcm : ∀ b, b < nG → mi 194 b = nI (cm b) ∧ cm b < 24) (hGG : ∀ b, b < nG → mi 228 b = bI (G b)) (hU : ∀ b, b < nG → mi (121 + b) 0 = nI (U b) ∧ U b < 24) (hw : ∀ b, b < nG → mi 229 b = nI (wh b) ∧ wh b < 8) (H : Nat → HBt) (hH : okH H) (hHb : rfHb mi H) (dd : Int32) : cV Γ 4 mX12_asks [.ref 87, .int dd] g mi ml (lpS cpS 0 nG (lpS (akS H wh (nI (fcN cm nG)) (nI ((lsN cm G nG).getD 23)) dd) 0 nG mi)) ml := by
  refine cV_of (by decide +kernel) (Nat.le_of_ble_eq_true rfl) ?_
  have hlb : ∀ v, lsN cm G nG = some v → v < 2147483648 := fun v hv => by have := (lsN_s (cm := cm) (G := G) (v := 23) (n := nG) (fun a ha _ => by have := (hcm a ha).2; omega)).1; rw [hv, Option.getD_some] at this; omega
  refine X_bipush (v := nI 23) dX12_asks_0 (by decide) ?_
  refine X_istore_n dX12_asks_2 (by decide) ?_
  refine X_iconst (v := -1) dX12_asks_3 (by decide) ?_
  refine X_istore_n dX12_asks_4 (by decide) ?_
  refine X_iconst (v := nI 0) dX12_asks_5 (by decide) ?_
  refine X_istore dX12_asks_6 (by decide) ?_
  refine X_L [(4, .int (nI 0)), (3, .int (-1)), (2, .int (nI 23)), (0, .ref 87), (1, .int dd)] ⟨rfl, rfl, rfl, rfl, rfl, trivial⟩ ?_
  refine X_for2 (σ := Unit) 8 (fun i x => [(4, .int (nI i)), (3, .int (oI (lsN cm G i))), (2, .int (nI (fcN cm i))), (0, .ref 87), (1, .int dd)]) (fun x => mi) (fun x => ml) (fun _ x => x) (fun _ _ => True) nG ?_ nG 0 () (by first | omega | (have := fcN_lt cm i; have := (hcm i (by assumption)).2; omega)) trivial ?_
  · intro i x hi hI
    refine ⟨trivial, fun hn => ?_⟩
    cases hGi : G i with
    | false =>
      refine X_iload dX12_asks_8 rfl ?_
      refine X_aload_n dX12_asks_10 rfl ?_
      refine X_getr (a := 91) dX12_asks_11 fkX12_23 rfl (k_87 hSh) (r_87_12 hSh) ?_
      refine X_iconst (v := nI 1) dX12_asks_14 (by decide) ?_
      refine X_iald 1 dX12_asks_15 (k_91 hSh) rfl (by first | omega | (have := fcN_lt cm i; have := (hcm i (by assumption)).2; omega)) ?_
      rw [hG]
      refine X_icmp_geN (a := i) (b := nG) 63 dX12_asks_16 (by decide) (by first | omega | (have := fcN_lt cm i; have := (hcm i (by assumption)).2; omega)) (by first | omega | (have := fcN_lt cm i; have := (hcm i (by assumption)).2; omega)) (fun h_1 => ?_) (fun h_1 => ?_)
      · exact absurd hi (by omega)
      · refine X_iload_n dX12_asks_19 rfl ?_
        refine X_aload_n dX12_asks_20 rfl ?_
        refine X_getr (a := 194) dX12_asks_21 fkX12_71 rfl (k_87 hSh) (r_87_34 hSh) ?_
        refine X_iload dX12_asks_24 rfl ?_
        refine X_iald i dX12_asks_26 (k_194 hSh) rfl (by first | omega | (have := fcN_lt cm i; have := (hcm i (by assumption)).2; omega)) ?_
        rw [(hcm i (by omega)).1]
        refine X_callSI dX12_asks_27 mkX12_288 (c_less Γ g mi ml (nI (fcN cm i)) (nI (cm i))) rfl rfl (by decide) (Nat.le_of_ble_eq_true rfl) ?_
        refine X_topi (nI_min (by first | omega | (have := fcN_lt cm i; have := (hcm i (by assumption)).2; omega)) (by first | omega | (have := fcN_lt cm i; have := (hcm i (by assumption)).2; omega))) ?_
        refine X_istore_n dX12_asks_30 (by decide) ?_
        refine X_aload_n dX12_asks_31 rfl ?_
        refine X_getr (a := 228) dX12_asks_32 fkX12_125 rfl (k_87 hSh) (r_87_52 hSh) ?_
        refine X_iload dX12_asks_35 rfl ?_
        refine X_zald i dX12_asks_37 (k_228 hSh) rfl (by first | omega | (have := fcN_lt cm i; have := (hcm i (by assumption)).2; omega)) ?_
        rw [((hGG i (by omega)).trans (by rw [hGi]))]
        refine X_if_eq 55 dX12_asks_38 (by decide) (fun h_2 => ?_) (fun h_2 => ?_)
        · refine X_iload_n dX12_asks_55 rfl ?_
          refine X_istore_n dX12_asks_56 (by decide) ?_
          refine X_iinc (v := nI (i + 1)) dX12_asks_57 rfl (nI_1 _) (by decide) ?_
          refine X_goto 8 dX12_asks_60 (by decide) ?_
          refine X_L [(4, .int (nI (i + 1))), (3, .int (oI (lsN cm G i))), (2, .int (nI (min (fcN cm i) (cm i)))), (0, .ref 87), (1, .int dd)] ⟨rfl, rfl, rfl, rfl, rfl, trivial⟩ ?_
          rw [show nI (fcN cm (i + 1)) = nI (min (fcN cm i) (cm i)) from rfl] at hn
          rw [ls_n hGi] at hn
          exact hn
        · exact absurd rfl h_2
    | true =>
      refine X_iload dX12_asks_8 rfl ?_
      refine X_aload_n dX12_asks_10 rfl ?_
      refine X_getr (a := 91) dX12_asks_11 fkX12_23 rfl (k_87 hSh) (r_87_12 hSh) ?_
      refine X_iconst (v := nI 1) dX12_asks_14 (by decide) ?_
      refine X_iald 1 dX12_asks_15 (k_91 hSh) rfl (by first | omega | (have := fcN_lt cm i; have := (hcm i (by assumption)).2; omega)) ?_
      rw [hG]
      refine X_icmp_geN (a := i) (b := nG) 63 dX12_asks_16 (by decide) (by first | omega | (have := fcN_lt cm i; have := (hcm i (by assumption)).2; omega)) (by first | omega | (have := fcN_lt cm i; have := (hcm i (by assumption)).2; omega)) (fun h_3 => ?_) (fun h_3 => ?_)
      · exact absurd hi (by omega)
      · refine X_iload_n dX12_asks_19 rfl ?_
        refine X_aload_n dX12_asks_20 rfl ?_
        refine X_getr (a := 194) dX12_asks_21 fkX12_71 rfl (k_87 hSh) (r_87_34 hSh) ?_
        refine X_iload dX12_asks_24 rfl ?_
        refine X_iald i dX12_asks_26 (k_194 hSh) rfl (by first | omega | (have := fcN_lt cm i; have := (hcm i (by assumption)).2; omega)) ?_
        rw [(hcm i (by omega)).1]
        refine X_callSI dX12_asks_27 mkX12_288 (c_less Γ g mi ml (nI (fcN cm i)) (nI (cm i))) rfl rfl (by decide) (Nat.le_of_ble_eq_true rfl) ?_
        refine X_topi (nI_min (by first | omega | (have := fcN_lt cm i; have := (hcm i (by assumption)).2; omega)) (by first | omega | (have := fcN_lt cm i; have := (hcm i (by assumption)).2; omega))) ?_
        refine X_istore_n dX12_asks_30 (by decide) ?_
        refine X_aload_n dX12_asks_31 rfl ?_
        refine X_getr (a := 228) dX12_asks_32 fkX12_125 rfl (k_87 hSh) (r_87_52 hSh) ?_
        refine X_iload dX12_asks_35 rfl ?_
        refine X_zald i dX12_asks_37 (k_228 hSh) rfl (by first | omega | (have := fcN_lt cm i; have := (hcm i (by assumption)).2; omega)) ?_
        rw [((hGG i (by omega)).trans (by rw [hGi]))]
        refine X_if_eq 55 dX12_asks_38 (by decide) (fun h_4 => ?_) (fun h_4 => ?_)
        · exact absurd h_4 (by decide)
        · refine X_iload_n dX12_asks_41 rfl ?_
          refine X_aload_n dX12_asks_42 rfl ?_
          refine X_getr (a := 194) dX12_asks_43 fkX12_71 rfl (k_87 hSh) (r_87_34 hSh) ?_
          refine X_iload dX12_asks_46 rfl ?_
          refine X_iald i dX12_asks_48 (k_194 hSh) rfl (by first | omega | (have := fcN_lt cm i; have := (hcm i (by assumption)).2; omega)) ?_
          rw [(hcm i (by omega)).1]
          refine X_callSI dX12_asks_49 mkX12_291 (c_greater Γ g mi ml (oI (lsN cm G i)) (nI (cm i))) rfl rfl (by decide) (Nat.le_of_ble_eq_true rfl) ?_
          refine X_goto 56 dX12_asks_52 (by decide) ?_
          refine X_istore_n dX12_asks_56 (by decide) ?_
          refine X_iinc (v := nI (i + 1)) dX12_asks_57 rfl (nI_1 _) (by decide) ?_
          refine X_goto 8 dX12_asks_60 (by decide) ?_
          refine X_L [(4, .int (nI (i + 1))), (3, .int (if nI (cm i) < oI (lsN cm G i) then oI (lsN cm G i) else nI (cm i))), (2, .int (nI (min (fcN cm i) (cm i)))), (0, .ref 87), (1, .int dd)] ⟨rfl, rfl, rfl, rfl, rfl, trivial⟩ ?_
          rw [show nI (fcN cm (i + 1)) = nI (min (fcN cm i) (cm i)) from rfl] at hn
          rw [← ls_s (fun b hb => (hcm b (by omega)).2) hGi] at hn
          exact hn
  · intro x hI
    refine X_iload dX12_asks_8 rfl ?_
    refine X_aload_n dX12_asks_10 rfl ?_
    refine X_getr (a := 91) dX12_asks_11 fkX12_23 rfl (k_87 hSh) (r_87_12 hSh) ?_
    refine X_iconst (v := nI 1) dX12_asks_14 (by decide) ?_
    refine X_iald 1 dX12_asks_15 (k_91 hSh) rfl (by first | omega | (have := fcN_lt cm i; have := (hcm i (by assumption)).2; omega)) ?_
    rw [hG]
    refine X_icmp_geN (a := nG) (b := nG) 63 dX12_asks_16 (by decide) (by first | omega | (have := fcN_lt cm i; have := (hcm i (by assumption)).2; omega)) (by first | omega | (have := fcN_lt cm i; have := (hcm i (by assumption)).2; omega)) (fun h_5 => ?_) (fun h_5 => ?_)
    · refine X_iconst (v := nI 0) dX12_asks_63 (by decide) ?_
      refine X_istore dX12_asks_64 (by decide) ?_
      refine X_L [(4, .int (nI 0)), (3, .int (oI (lsN cm G nG))), (2, .int (nI (fcN cm nG))), (0, .ref 87), (1, .int dd)] ⟨rfl, rfl, rfl, rfl, rfl, trivial⟩ ?_
      refine X_for2 (σ := pMI) 66 (fun i x => [(4, .int (nI i)), (3, .int (oI (lsN cm G nG))), (2, .int (nI (fcN cm nG))), (0, .ref 87), (1, .int dd)]) (fun x => x) (fun x => ml) (fun i x => akS H wh (nI (fcN cm nG)) (nI ((lsN cm G nG).getD 23)) dd i x) (fun i x => (∀ q, q ≠ 130 ∧ q ≠ 131 ∧ q ≠ 230 → x q = mi q) ∧ x = lpS (akS H wh (nI (fcN cm nG)) (nI ((lsN cm G nG).getD 23)) dd) 0 i mi) nG ?_ nG 0 mi (by first | omega | (have := fcN_lt cm i; have := (hcm i (by assumption)).2; omega)) ⟨fun _ _ => rfl, rfl⟩ ?_
      · intro i x hi hI
        have hG3 : x 91 1 = nI nG := by rw [hI.1 91 (by omega)]; exact hG
        obtain ⟨hwi, hwl⟩ := hw i hi
        have hHx : rfHb x H := fun o ho => by rw [hI.1 129 (by omega), hI.1 (134 + o) (by omega)]; exact hHb o ho
        refine ⟨⟨fun q h9 => (akS_row h9).trans (hI.1 q h9), by rw [lpS_snoc, ← hI.2, Nat.zero_add]⟩, fun hn => ?_⟩
        refine X_iload dX12_asks_66 rfl ?_
        refine X_aload_n dX12_asks_68 rfl ?_
        refine X_getr (a := 91) dX12_asks_69 fkX12_23 rfl (k_87 hSh) (r_87_12 hSh) ?_
        refine X_iconst (v := nI 1) dX12_asks_72 (by decide) ?_
        refine X_iald 1 dX12_asks_73 (k_91 hSh) rfl (by first | omega | (have := fcN_lt cm i; have := (hcm i (by assumption)).2; omega)) ?_
        rw [hG3]
        refine X_icmp_geN (a := i) (b := nG) 207 dX12_asks_74 (by decide) (by first | omega | (have := fcN_lt cm i; have := (hcm i (by assumption)).2; omega)) (by first | omega | (have := fcN_lt cm i; have := (hcm i (by assumption)).2; omega)) (fun h_6 => ?_) (fun h_6 => ?_)
        · exact absurd hi (by omega)
        · refine X_aload_n dX12_asks_77 rfl ?_
          refine X_getr (a := 131) dX12_asks_78 fkX12_46 rfl (k_87 hSh) (r_87_19 hSh) ?_
          refine X_iconst (v := nI 0) dX12_asks_81 (by decide) ?_
          refine X_aload_n dX12_asks_82 rfl ?_
          refine X_getr (a := 194) dX12_asks_83 fkX12_71 rfl (k_87 hSh) (r_87_34 hSh) ?_
          refine X_iload dX12_asks_86 rfl ?_
          refine X_iald i dX12_asks_88 (k_194 hSh) rfl (by first | omega | (have := fcN_lt cm i; have := (hcm i (by assumption)).2; omega)) ?_
          refine X_iast 0 dX12_asks_89 (k_131 hSh) rfl (by first | omega | (have := fcN_lt cm i; have := (hcm i (by assumption)).2; omega)) ?_
          refine X_aload_n dX12_asks_90 rfl ?_
          refine X_getr (a := 131) dX12_asks_91 fkX12_46 rfl (k_87 hSh) (r_87_19 hSh) ?_
          refine X_iconst (v := nI 1) dX12_asks_94 (by decide) ?_
          refine X_iload_n dX12_asks_95 rfl ?_
          refine X_iast 1 dX12_asks_96 (k_131 hSh) rfl (by first | omega | (have := fcN_lt cm i; have := (hcm i (by assumption)).2; omega)) ?_
          refine X_aload_n dX12_asks_97 rfl ?_
          refine X_getr (a := 131) dX12_asks_98 fkX12_46 rfl (k_87 hSh) (r_87_19 hSh) ?_
          refine X_iconst (v := nI 2) dX12_asks_101 (by decide) ?_
          refine X_iload_n dX12_asks_102 rfl ?_
          refine X_iconst (v := -1) dX12_asks_103 (by decide) ?_
          refine X_join (S := [.int (nI 2), .ref 131]) 113 (fun v => v = nI ((lsN cm G nG).getD 23)) (fun vJ hvJ => ?_) (fun hJ_7 => ?_)
          · rw [hvJ]
            refine X_iast 2 dX12_asks_113 (k_131 hSh) rfl (by first | omega | (have := fcN_lt cm i; have := (hcm i (by assumption)).2; omega)) ?_
            refine X_aload_n dX12_asks_114 rfl ?_
            refine X_getr (a := 131) dX12_asks_115 fkX12_46 rfl (k_87 hSh) (r_87_19 hSh) ?_
            refine X_iconst (v := nI 3) dX12_asks_118 (by decide) ?_
            refine X_aload_n dX12_asks_119 rfl ?_
            refine X_getr (a := 201) dX12_asks_120 fkX12_92 rfl (k_87 hSh) (r_87_41 hSh) ?_
            refine X_iload dX12_asks_123 rfl ?_
            refine X_iald i dX12_asks_125 (k_201 hSh) rfl (by first | omega | (have := fcN_lt cm i; have := (hcm i (by assumption)).2; omega)) ?_
            refine X_topi (show (up2 (up2 (up2 x 131 0 (x 194 i)) 131 1 (nI (fcN cm nG))) 131 2 (nI ((lsN cm G nG).getD 23))) 201 i = x 201 i by rw [up2_row (by first | omega | (have := fcN_lt cm i; have := (hcm i (by assumption)).2; omega)), up2_row (by first | omega | (have := fcN_lt cm i; have := (hcm i (by assumption)).2; omega)), up2_row (by first | omega | (have := fcN_lt cm i; have := (hcm i (by assumption)).2; omega))]) ?_
            refine X_join (S := [.int (nI 3), .ref 131]) 134 (fun v => v = g0 (x 201 i)) (fun vJ hvJ => ?_) (fun hJ_8 => ?_)
            · rw [hvJ]
              refine X_iast 3 dX12_asks_134 (k_131 hSh) rfl (by first | omega | (have := fcN_lt cm i; have := (hcm i (by assumption)).2; omega)) ?_
              refine X_aload_n dX12_asks_135 rfl ?_
              refine X_getr (a := 131) dX12_asks_136 fkX12_46 rfl (k_87 hSh) (r_87_19 hSh) ?_
              refine X_iconst (v := nI 4) dX12_asks_139 (by decide) ?_
              refine X_aload_n dX12_asks_140 rfl ?_
              refine X_getr (a := 199) dX12_asks_141 fkX12_86 rfl (k_87 hSh) (r_87_39 hSh) ?_
              refine X_iload dX12_asks_144 rfl ?_
              refine X_iald i dX12_asks_146 (k_199 hSh) rfl (by first | omega | (have := fcN_lt cm i; have := (hcm i (by assumption)).2; omega)) ?_
              refine X_topi (show (up2 (up2 (up2 (up2 x 131 0 (x 194 i)) 131 1 (nI (fcN cm nG))) 131 2 (nI ((lsN cm G nG).getD 23))) 131 3 (g0 (x 201 i))) 199 i = x 199 i by rw [up2_row (by first | omega | (have := fcN_lt cm i; have := (hcm i (by assumption)).2; omega)), up2_row (by first | omega | (have := fcN_lt cm i; have := (hcm i (by assumption)).2; omega)), up2_row (by first | omega | (have := fcN_lt cm i; have := (hcm i (by assumption)).2; omega)), up2_row (by first | omega | (have := fcN_lt cm i; have := (hcm i (by assumption)).2; omega))]) ?_
              refine X_iast 4 dX12_asks_147 (k_131 hSh) rfl (by first | omega | (have := fcN_lt cm i; have := (hcm i (by assumption)).2; omega)) ?_
              refine X_aload_n dX12_asks_148 rfl ?_
              refine X_getr (a := 131) dX12_asks_149 fkX12_46 rfl (k_87 hSh) (r_87_19 hSh) ?_
              refine X_iconst (v := nI 5) dX12_asks_152 (by decide) ?_
              refine X_aload_n dX12_asks_153 rfl ?_
              refine X_getr (a := 202) dX12_asks_154 fkX12_95 rfl (k_87 hSh) (r_87_42 hSh) ?_
              refine X_iload dX12_asks_157 rfl ?_
              refine X_iald i dX12_asks_159 (k_202 hSh) rfl (by first | omega | (have := fcN_lt cm i; have := (hcm i (by assumption)).2; omega)) ?_
              refine X_topi (show (up2 (up2 (up2 (up2 (up2 x 131 0 (x 194 i)) 131 1 (nI (fcN cm nG))) 131 2 (nI ((lsN cm G nG).getD 23))) 131 3 (g0 (x 201 i))) 131 4 (x 199 i)) 202 i = x 202 i by rw [up2_row (by first | omega | (have := fcN_lt cm i; have := (hcm i (by assumption)).2; omega)), up2_row (by first | omega | (have := fcN_lt cm i; have := (hcm i (by assumption)).2; omega)), up2_row (by first | omega | (have := fcN_lt cm i; have := (hcm i (by assumption)).2; omega)), up2_row (by first | omega | (have := fcN_lt cm i; have := (hcm i (by assumption)).2; omega)), up2_row (by first | omega | (have := fcN_lt cm i; have := (hcm i (by assumption)).2; omega))]) ?_
              refine X_join (S := [.int (nI 5), .ref 131]) 168 (fun v => v = g0 (x 202 i)) (fun vJ hvJ => ?_) (fun hJ_9 => ?_)
              · rw [hvJ]
                refine X_iast 5 dX12_asks_168 (k_131 hSh) rfl (by first | omega | (have := fcN_lt cm i; have := (hcm i (by assumption)).2; omega)) ?_
                refine X_aload_n dX12_asks_169 rfl ?_
                refine X_getr (a := 131) dX12_asks_170 fkX12_46 rfl (k_87 hSh) (r_87_19 hSh) ?_
                refine X_bipush (v := nI 6) dX12_asks_173 (by decide) ?_
                refine X_iload_n dX12_asks_175 rfl ?_
                refine X_iast 6 dX12_asks_176 (k_131 hSh) rfl (by first | omega | (have := fcN_lt cm i; have := (hcm i (by assumption)).2; omega)) ?_
                refine X_aload_n dX12_asks_177 rfl ?_
                refine X_iload dX12_asks_178 rfl ?_
                refine X_callVV dX12_asks_180 mkX12_301 (k_87 hSh) (c_knowsSelf Γ g (up2 (up2 (up2 (up2 (up2 (up2 (up2 x 131 0 (x 194 i)) 131 1 (nI (fcN cm nG))) 131 2 (nI ((lsN cm G nG).getD 23))) 131 3 (g0 (x 201 i))) 131 4 (x 199 i)) 131 5 (g0 (x 202 i))) 131 6 dd) ml hSh i (by omega)) rfl rfl (by decide) (Nat.le_of_ble_eq_true rfl) ?_
                refine X_aload_n dX12_asks_183 rfl ?_
                refine X_getr (a := 230) dX12_asks_184 fkX12_131 rfl (k_87 hSh) (r_87_55 hSh) ?_
                refine X_iload dX12_asks_187 rfl ?_
                refine X_aload_n dX12_asks_189 rfl ?_
                refine X_aload_n dX12_asks_190 rfl ?_
                have hw9 : (kwS (up2 (up2 (up2 (up2 (up2 (up2 (up2 x 131 0 (x 194 i)) 131 1 (nI (fcN cm nG))) 131 2 (nI ((lsN cm G nG).getD 23))) 131 3 (g0 (x 201 i))) 131 4 (x 199 i)) 131 5 (g0 (x 202 i))) 131 6 dd) i) 229 i = nI (wh i) := by rw [kwS_row (by omega), up2_row (by omega), up2_row (by omega), up2_row (by omega), up2_row (by omega), up2_row (by omega), up2_row (by omega), up2_row (by omega), hI.1 229 (by omega)]; exact hwi
                refine X_getr (a := 229) dX12_asks_191 fkX12_128 rfl (k_87 hSh) (r_87_54 hSh) ?_
                refine X_iload dX12_asks_194 rfl ?_
                refine X_iald i dX12_asks_196 (k_229 hSh) rfl (by first | omega | (have := fcN_lt cm i; have := (hcm i (by assumption)).2; omega)) ?_
                rw [hw9]
                have hr9 : ∀ q, q ≠ 131 → (kwS (up2 (up2 (up2 (up2 (up2 (up2 (up2 x 131 0 (x 194 i)) 131 1 (nI (fcN cm nG))) 131 2 (nI ((lsN cm G nG).getD 23))) 131 3 (g0 (x 201 i))) 131 4 (x 199 i)) 131 5 (g0 (x 202 i))) 131 6 dd) i) q = x q := fun q h9 => by rw [kwS_row h9, up2_row h9, up2_row h9, up2_row h9, up2_row h9, up2_row h9, up2_row h9, up2_row h9]
                have hb9 : rfHb (kwS (up2 (up2 (up2 (up2 (up2 (up2 (up2 x 131 0 (x 194 i)) 131 1 (nI (fcN cm nG))) 131 2 (nI ((lsN cm G nG).getD 23))) 131 3 (g0 (x 201 i))) 131 4 (x 199 i)) 131 5 (g0 (x 202 i))) 131 6 dd) i) H := fun o ho => by rw [hr9 129 (by omega), hr9 (134 + o) (by omega)]; exact hHx o ho
                have hu9 : ∃ u, u < 24 ∧ (kwS (up2 (up2 (up2 (up2 (up2 (up2 (up2 x 131 0 (x 194 i)) 131 1 (nI (fcN cm nG))) 131 2 (nI ((lsN cm G nG).getD 23))) 131 3 (g0 (x 201 i))) 131 4 (x 199 i)) 131 5 (g0 (x 202 i))) 131 6 dd) i) 131 8 = nI u := ⟨U i, (hU i hi).2, by unfold kwS; rw [up2_n (by omega), up2_n (by omega), up2_s, up2_row (by omega), up2_row (by omega), up2_row (by omega), up2_row (by omega), up2_row (by omega), up2_row (by omega), up2_row (by omega), hI.1 (121 + i) (by omega)]; exact (hU i hi).1⟩
                refine X_callVI dX12_asks_197 mkX12_304 (k_87 hSh) (c_comesByH Γ g (kwS (up2 (up2 (up2 (up2 (up2 (up2 (up2 x 131 0 (x 194 i)) 131 1 (nI (fcN cm nG))) 131 2 (nI ((lsN cm G nG).getD 23))) 131 3 (g0 (x 201 i))) 131 4 (x 199 i)) 131 5 (g0 (x 202 i))) 131 6 dd) i) ml hSh H hH hb9 (wh i) hwl hu9) rfl rfl (by decide) (Nat.le_of_ble_eq_true rfl) ?_
                refine X_iast i dX12_asks_200 (k_230 hSh) rfl (by first | omega | (have := fcN_lt cm i; have := (hcm i (by assumption)).2; omega)) ?_
                refine X_iinc (v := nI (i + 1)) dX12_asks_201 rfl (nI_1 _) (by decide) ?_
                refine X_goto 66 dX12_asks_204 (by decide) ?_
                refine X_L [(4, .int (nI (i + 1))), (3, .int (oI (lsN cm G nG))), (2, .int (nI (fcN cm nG))), (0, .ref 87), (1, .int dd)] ⟨rfl, rfl, rfl, rfl, rfl, trivial⟩ ?_
                exact hn
              · refine X_if_le 167 dX12_asks_160 (by decide) (fun h_10 => ?_) (fun h_10 => ?_)
                · refine X_iconst (v := nI 0) dX12_asks_167 (by decide) ?_
                  exact hJ_9 _ (by unfold g0; first | rw [if_pos (by assumption)] | rw [if_neg (by assumption)])
                · refine X_iconst (v := nI 1) dX12_asks_163 (by decide) ?_
                  refine X_goto 168 dX12_asks_164 (by decide) ?_
                  exact hJ_9 _ (by unfold g0; first | rw [if_pos (by assumption)] | rw [if_neg (by assumption)])
            · refine X_if_le 133 dX12_asks_126 (by decide) (fun h_11 => ?_) (fun h_11 => ?_)
              · refine X_iconst (v := nI 0) dX12_asks_133 (by decide) ?_
                exact hJ_8 _ (by unfold g0; first | rw [if_pos (by assumption)] | rw [if_neg (by assumption)])
              · refine X_iconst (v := nI 1) dX12_asks_129 (by decide) ?_
                refine X_goto 134 dX12_asks_130 (by decide) ?_
                exact hJ_8 _ (by unfold g0; first | rw [if_pos (by assumption)] | rw [if_neg (by assumption)])
          · refine X_icmp_ne 112 dX12_asks_104 (by decide) (fun h_12 => ?_) (fun h_12 => ?_)
            · refine X_iload_n dX12_asks_112 rfl ?_
              exact hJ_7 _ (by first | exact ls_v1 hlb (by assumption) | exact ls_v2 (by assumption))
            · refine X_bipush (v := nI 23) dX12_asks_107 (by decide) ?_
              refine X_goto 113 dX12_asks_109 (by decide) ?_
              exact hJ_7 _ (by first | exact ls_v1 hlb (by assumption) | exact ls_v2 (by assumption))
      · intro x hI
        have hG3 : x 91 1 = nI nG := by rw [hI.1 91 (by omega)]; exact hG
        refine X_iload dX12_asks_66 rfl ?_
        refine X_aload_n dX12_asks_68 rfl ?_
        refine X_getr (a := 91) dX12_asks_69 fkX12_23 rfl (k_87 hSh) (r_87_12 hSh) ?_
        refine X_iconst (v := nI 1) dX12_asks_72 (by decide) ?_
        refine X_iald 1 dX12_asks_73 (k_91 hSh) rfl (by first | omega | (have := fcN_lt cm i; have := (hcm i (by assumption)).2; omega)) ?_
        rw [hG3]
        refine X_icmp_geN (a := nG) (b := nG) 207 dX12_asks_74 (by decide) (by first | omega | (have := fcN_lt cm i; have := (hcm i (by assumption)).2; omega)) (by first | omega | (have := fcN_lt cm i; have := (hcm i (by assumption)).2; omega)) (fun h_13 => ?_) (fun h_13 => ?_)
        · refine X_iconst (v := nI 0) dX12_asks_207 (by decide) ?_
          refine X_istore dX12_asks_208 (by decide) ?_
          refine X_L [(4, .int (nI 0)), (3, .int (oI (lsN cm G nG))), (2, .int (nI (fcN cm nG))), (0, .ref 87), (1, .int dd)] ⟨rfl, rfl, rfl, rfl, rfl, trivial⟩ ?_
          refine X_for2 (σ := pMI) 210 (fun i x => [(4, .int (nI i)), (3, .int (oI (lsN cm G nG))), (2, .int (nI (fcN cm nG))), (0, .ref 87), (1, .int dd)]) (fun x => x) (fun x => ml) (fun i x => cpS i x) (fun i x => x 91 = mi 91 ∧ x = lpS cpS 0 i (lpS (akS H wh (nI (fcN cm nG)) (nI ((lsN cm G nG).getD 23)) dd) 0 nG mi)) nG ?_ nG 0 x (by first | omega | (have := fcN_lt cm i; have := (hcm i (by assumption)).2; omega)) ⟨hI.1 91 (by omega), by rw [← hI.2]; rfl⟩ ?_
          · intro i x hi hI
            have hG3 : x 91 1 = nI nG := by rw [hI.1]; exact hG
            refine ⟨⟨(up2_row (by omega)).trans hI.1, by rw [lpS_snoc, ← hI.2, Nat.zero_add]⟩, fun hn => ?_⟩
            refine X_iload dX12_asks_210 rfl ?_
            refine X_aload_n dX12_asks_212 rfl ?_
            refine X_getr (a := 91) dX12_asks_213 fkX12_23 rfl (k_87 hSh) (r_87_12 hSh) ?_
            refine X_iconst (v := nI 1) dX12_asks_216 (by decide) ?_
            refine X_iald 1 dX12_asks_217 (k_91 hSh) rfl (by first | omega | (have := fcN_lt cm i; have := (hcm i (by assumption)).2; omega)) ?_
            rw [hG3]
            refine X_icmp_geN (a := i) (b := nG) 241 dX12_asks_218 (by decide) (by first | omega | (have := fcN_lt cm i; have := (hcm i (by assumption)).2; omega)) (by first | omega | (have := fcN_lt cm i; have := (hcm i (by assumption)).2; omega)) (fun h_14 => ?_) (fun h_14 => ?_)
            · exact absurd hi (by omega)
            · refine X_aload_n dX12_asks_221 rfl ?_
              refine X_getr (a := 194) dX12_asks_222 fkX12_71 rfl (k_87 hSh) (r_87_34 hSh) ?_
              refine X_iload dX12_asks_225 rfl ?_
              refine X_aload_n dX12_asks_227 rfl ?_
              refine X_getr (a := 230) dX12_asks_228 fkX12_131 rfl (k_87 hSh) (r_87_55 hSh) ?_
              refine X_iload dX12_asks_231 rfl ?_
              refine X_iald i dX12_asks_233 (k_230 hSh) rfl (by first | omega | (have := fcN_lt cm i; have := (hcm i (by assumption)).2; omega)) ?_
              refine X_iast i dX12_asks_234 (k_194 hSh) rfl (by first | omega | (have := fcN_lt cm i; have := (hcm i (by assumption)).2; omega)) ?_
              refine X_iinc (v := nI (i + 1)) dX12_asks_235 rfl (nI_1 _) (by decide) ?_
              refine X_goto 210 dX12_asks_238 (by decide) ?_
              refine X_L [(4, .int (nI (i + 1))), (3, .int (oI (lsN cm G nG))), (2, .int (nI (fcN cm nG))), (0, .ref 87), (1, .int dd)] ⟨rfl, rfl, rfl, rfl, rfl, trivial⟩ ?_
              exact hn
          · intro x hI
            have hG3 : x 91 1 = nI nG := by rw [hI.1]; exact hG
            refine X_iload dX12_asks_210 rfl ?_
            refine X_aload_n dX12_asks_212 rfl ?_
            refine X_getr (a := 91) dX12_asks_213 fkX12_23 rfl (k_87 hSh) (r_87_12 hSh) ?_
            refine X_iconst (v := nI 1) dX12_asks_216 (by decide) ?_
            refine X_iald 1 dX12_asks_217 (k_91 hSh) rfl (by first | omega | (have := fcN_lt cm i; have := (hcm i (by assumption)).2; omega)) ?_
            rw [hG3]
            refine X_icmp_geN (a := nG) (b := nG) 241 dX12_asks_218 (by decide) (by first | omega | (have := fcN_lt cm i; have := (hcm i (by assumption)).2; omega)) (by first | omega | (have := fcN_lt cm i; have := (hcm i (by assumption)).2; omega)) (fun h_15 => ?_) (fun h_15 => ?_)
            · exact X_vret dX12_asks_241 rfl ⟨rfl, rfl, hI.2, rfl⟩
            · exact absurd h_15 (by omega)
        · exact absurd h_13 (by omega)
    · exact absurd h_5 (by omega)

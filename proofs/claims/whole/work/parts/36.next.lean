/-- who waits by h and hasn't tried -/
def elig (w : Nat → Option Nat) (tr : Nat → Bool) (h b : Nat) : Bool := match w b with
  | none => false
  | some v => decide (v ≤ h) && !tr b
def wvl (w : Nat → Option Nat) (b : Nat) : Nat := (w b).getD 0
def ahead (w : Nat → Option Nat) (rk : Nat → Nat) (a b : Nat) : Bool := decide (wvl w a < wvl w b) || (decide (wvl w a = wvl w b) && decide (rk a < rk b))
/-- of the first n the one who is first -/
def nwM (w : Nat → Option Nat) (rk : Nat → Nat) (tr : Nat → Bool) (h : Nat) : Nat → Option Nat
  | 0 => none
  | n + 1 => match nwM w rk tr h n with
    | none => if elig w tr h n then some n else none
    | some b => if elig w tr h n && ahead w rk n b then some n else some b
theorem nwM_some {w : Nat → Option Nat} {rk : Nat → Nat} {tr : Nat → Bool} {h : Nat} : ∀ {n b : Nat}, nwM w rk tr h n = some b → b < n ∧ elig w tr h b = true
  | 0, b, q => by cases q
  | n + 1, b, q => by
    unfold nwM at q
    cases hq : nwM w rk tr h n with
    | none =>
      rw [hq] at q
      by_cases z : elig w tr h n = true
      · simp only [z, if_true] at q; cases q; exact ⟨by omega, z⟩
      · simp only [z] at q; cases q
    | some a =>
      rw [hq] at q
      have := nwM_some hq
      by_cases z : (elig w tr h n && ahead w rk n a) = true
      · simp only [z, if_true] at q; cases q; simp only [Bool.and_eq_true] at z; exact ⟨by omega, z.1⟩
      · simp only [z] at q; cases q; exact ⟨by omega, this.2⟩
theorem nwM_no {w : Nat → Option Nat} {rk : Nat → Nat} {tr : Nat → Bool} {h n : Nat} (he : elig w tr h n = false) : nwM w rk tr h (n + 1) = nwM w rk tr h n := by
  show (match nwM w rk tr h n with
    | none => if elig w tr h n then some n else none
    | some b => if elig w tr h n && ahead w rk n b then some n else some b) = _
  cases nwM w rk tr h n <;> simp [he]
def okW (x : pMI) (w : Nat → Option Nat) : Prop := ∀ b, b < 8 → x 196 b = oI (w b) ∧ ∀ v, w b = some v → v < 24
set_option maxRecDepth 100000 in
set_option maxHeartbeats 4000000 in
theorem c_nextWaiting (Γ : pTG) (g : pGG) (mi : pMI) (ml : pML) (hSh : Sh g) (nC nG : Nat) (F T : Nat → Nat) (hP : PoolM mi nC nG F T) (rk ord : Nat → Nat) (hR : okR mi rk ord) (w : Nat → Option Nat) (hW : okW mi w) (td : Int32) (tr : Nat → Bool) (htr : ∀ b, b < 8 → bt td b = tr b) (h : Nat) (hh : h < 24) : cI Γ 1 mX12_nextWaiting [.ref 87, .int (nI h), .int td] g mi ml (oI (nwM w rk tr h nG)) mi := by
  refine cI_of (by decide +kernel) (Nat.le_of_ble_eq_true rfl) ?_
  have hnG : nG ≤ 8 := hP.2.2.2.1
  refine X_iconst (v := -1) dX12_nextWaiting_0 (by decide) ?_
  refine X_istore_n dX12_nextWaiting_1 (by decide) ?_
  refine X_iconst (v := nI 0) dX12_nextWaiting_2 (by decide) ?_
  refine X_istore dX12_nextWaiting_3 (by decide) ?_
  refine X_L [(4, .int (nI 0)), (3, .int (-1)), (0, .ref 87), (1, .int (nI h)), (2, .int td)] ⟨rfl, rfl, rfl, rfl, rfl, trivial⟩ ?_
  refine X_for2 (σ := Unit) 5 (fun i x => [(4, .int (nI i)), (3, .int (oI (nwM w rk tr h i))), (0, .ref 87), (1, .int (nI h)), (2, .int td)]) (fun x => mi) (fun x => ml) (fun _ x => x) (fun _ _ => True) nG ?_ nG 0 () (by first | omega | (have h1 := (hR.1 i (by omega)).2.1; omega) | (have h1 := (hR.1 b (by omega)).2.1; omega)) trivial ?_
  · intro i x hi hI
    refine ⟨trivial, fun hn => ?_⟩
    have hwi := (hW i (by omega)).1
    cases hwv : w i with
    | none =>
      rw [hwv] at hwi
      refine X_iload dX12_nextWaiting_5 rfl ?_
      refine X_aload_n dX12_nextWaiting_7 rfl ?_
      refine X_getr (a := 91) dX12_nextWaiting_8 fkX12_23 rfl (k_87 hSh) (r_87_12 hSh) ?_
      refine X_iconst (v := nI 1) dX12_nextWaiting_11 (by decide) ?_
      refine X_iald 1 dX12_nextWaiting_12 (k_91 hSh) rfl (by first | omega | (have h1 := (hR.1 i (by omega)).2.1; omega) | (have h1 := (hR.1 b (by omega)).2.1; omega)) ?_
      rw [hP.2.1]
      refine X_icmp_geN (a := i) (b := nG) 109 dX12_nextWaiting_13 (by decide) (by first | omega | (have h1 := (hR.1 i (by omega)).2.1; omega) | (have h1 := (hR.1 b (by omega)).2.1; omega)) (by first | omega | (have h1 := (hR.1 i (by omega)).2.1; omega) | (have h1 := (hR.1 b (by omega)).2.1; omega)) (fun h_1 => ?_) (fun h_1 => ?_)
      · exact absurd hi (by omega)
      · refine X_aload_n dX12_nextWaiting_16 rfl ?_
        refine X_getr (a := 196) dX12_nextWaiting_17 fkX12_77 rfl (k_87 hSh) (r_87_36 hSh) ?_
        refine X_iload dX12_nextWaiting_20 rfl ?_
        refine X_iald i dX12_nextWaiting_22 (k_196 hSh) rfl (by first | omega | (have h1 := (hR.1 i (by omega)).2.1; omega) | (have h1 := (hR.1 b (by omega)).2.1; omega)) ?_
        rw [show mi 196 i = -1 from hwi]
        refine X_iconst (v := -1) dX12_nextWaiting_23 (by decide) ?_
        refine X_icmp_eq 103 dX12_nextWaiting_24 (by decide) (fun h_2 => ?_) (fun h_2 => ?_)
        · refine X_iinc (v := nI (i + 1)) dX12_nextWaiting_103 rfl (nI_1 _) (by decide) ?_
          refine X_goto 5 dX12_nextWaiting_106 (by decide) ?_
          refine X_L [(4, .int (nI (i + 1))), (3, .int (oI (nwM w rk tr h i))), (0, .ref 87), (1, .int (nI h)), (2, .int td)] ⟨rfl, rfl, rfl, rfl, rfl, trivial⟩ ?_
          have e9 : nwM w rk tr h (i + 1) = nwM w rk tr h i := nwM_no (by simp [elig, hwv])
          rw [e9] at hn
          exact hn
        · exact absurd rfl h_2
    | some v =>
      rw [hwv] at hwi
      have hv := (hW i (by omega)).2 v hwv
      cases hb : nwM w rk tr h i with
      | none =>
        refine X_iload dX12_nextWaiting_5 rfl ?_
        refine X_aload_n dX12_nextWaiting_7 rfl ?_
        refine X_getr (a := 91) dX12_nextWaiting_8 fkX12_23 rfl (k_87 hSh) (r_87_12 hSh) ?_
        refine X_iconst (v := nI 1) dX12_nextWaiting_11 (by decide) ?_
        refine X_iald 1 dX12_nextWaiting_12 (k_91 hSh) rfl (by first | omega | (have h1 := (hR.1 i (by omega)).2.1; omega) | (have h1 := (hR.1 b (by omega)).2.1; omega)) ?_
        rw [hP.2.1]
        refine X_icmp_geN (a := i) (b := nG) 109 dX12_nextWaiting_13 (by decide) (by first | omega | (have h1 := (hR.1 i (by omega)).2.1; omega) | (have h1 := (hR.1 b (by omega)).2.1; omega)) (by first | omega | (have h1 := (hR.1 i (by omega)).2.1; omega) | (have h1 := (hR.1 b (by omega)).2.1; omega)) (fun h_3 => ?_) (fun h_3 => ?_)
        · exact absurd hi (by omega)
        · refine X_aload_n dX12_nextWaiting_16 rfl ?_
          refine X_getr (a := 196) dX12_nextWaiting_17 fkX12_77 rfl (k_87 hSh) (r_87_36 hSh) ?_
          refine X_iload dX12_nextWaiting_20 rfl ?_
          refine X_iald i dX12_nextWaiting_22 (k_196 hSh) rfl (by first | omega | (have h1 := (hR.1 i (by omega)).2.1; omega) | (have h1 := (hR.1 b (by omega)).2.1; omega)) ?_
          rw [show mi 196 i = nI v from hwi]
          refine X_iconst (v := -1) dX12_nextWaiting_23 (by decide) ?_
          refine X_icmp_eq 103 dX12_nextWaiting_24 (by decide) (fun h_4 => ?_) (fun h_4 => ?_)
          · exact absurd h_4 (nI_m1 (by omega))
          · refine X_aload_n dX12_nextWaiting_27 rfl ?_
            refine X_getr (a := 196) dX12_nextWaiting_28 fkX12_77 rfl (k_87 hSh) (r_87_36 hSh) ?_
            refine X_iload dX12_nextWaiting_31 rfl ?_
            refine X_iald i dX12_nextWaiting_33 (k_196 hSh) rfl (by first | omega | (have h1 := (hR.1 i (by omega)).2.1; omega) | (have h1 := (hR.1 b (by omega)).2.1; omega)) ?_
            rw [show mi 196 i = nI v from hwi]
            refine X_iload_n dX12_nextWaiting_34 rfl ?_
            refine X_icmp_gtN (a := v) (b := h) 103 dX12_nextWaiting_35 (by decide) (by first | omega | (have h1 := (hR.1 i (by omega)).2.1; omega) | (have h1 := (hR.1 b (by omega)).2.1; omega)) (by first | omega | (have h1 := (hR.1 i (by omega)).2.1; omega) | (have h1 := (hR.1 b (by omega)).2.1; omega)) (fun h_5 => ?_) (fun h_5 => ?_)
            · refine X_iinc (v := nI (i + 1)) dX12_nextWaiting_103 rfl (nI_1 _) (by decide) ?_
              refine X_goto 5 dX12_nextWaiting_106 (by decide) ?_
              refine X_L [(4, .int (nI (i + 1))), (3, .int (-1)), (0, .ref 87), (1, .int (nI h)), (2, .int td)] ⟨rfl, rfl, rfl, rfl, rfl, trivial⟩ ?_
              have e9 : nwM w rk tr h (i + 1) = none := by unfold nwM; rw [hb]; simp_all [elig, ahead, wvl, bI_0, bI_n0] <;> omega
              rw [e9] at hn
              exact hn
            · refine X_iload_n dX12_nextWaiting_38 rfl ?_
              refine X_iload dX12_nextWaiting_39 rfl ?_
              refine X_ishr dX12_nextWaiting_41 ?_
              refine X_iconst (v := nI 1) dX12_nextWaiting_42 (by decide) ?_
              refine X_iand dX12_nextWaiting_43 ?_
              refine X_topi ((bit_ask (by omega)).trans (congrArg bI (htr i (by omega)))) ?_
              refine X_if_ne 103 dX12_nextWaiting_44 (by decide) (fun h_6 => ?_) (fun h_6 => ?_)
              · refine X_iinc (v := nI (i + 1)) dX12_nextWaiting_103 rfl (nI_1 _) (by decide) ?_
                refine X_goto 5 dX12_nextWaiting_106 (by decide) ?_
                refine X_L [(4, .int (nI (i + 1))), (3, .int (-1)), (0, .ref 87), (1, .int (nI h)), (2, .int td)] ⟨rfl, rfl, rfl, rfl, rfl, trivial⟩ ?_
                have e9 : nwM w rk tr h (i + 1) = none := by unfold nwM; rw [hb]; simp_all [elig, ahead, wvl, bI_0, bI_n0] <;> omega
                rw [e9] at hn
                exact hn
              · refine X_iload_n dX12_nextWaiting_47 rfl ?_
                refine X_iconst (v := -1) dX12_nextWaiting_48 (by decide) ?_
                refine X_icmp_eq 100 dX12_nextWaiting_49 (by decide) (fun h_7 => ?_) (fun h_7 => ?_)
                · refine X_iload dX12_nextWaiting_100 rfl ?_
                  refine X_istore_n dX12_nextWaiting_102 (by decide) ?_
                  refine X_iinc (v := nI (i + 1)) dX12_nextWaiting_103 rfl (nI_1 _) (by decide) ?_
                  refine X_goto 5 dX12_nextWaiting_106 (by decide) ?_
                  refine X_L [(4, .int (nI (i + 1))), (3, .int (nI i)), (0, .ref 87), (1, .int (nI h)), (2, .int td)] ⟨rfl, rfl, rfl, rfl, rfl, trivial⟩ ?_
                  have e9 : nwM w rk tr h (i + 1) = some i := by unfold nwM; rw [hb]; simp_all [elig, ahead, wvl, bI_0, bI_n0] <;> omega
                  rw [e9] at hn
                  exact hn
                · exact absurd rfl h_7
      | some b =>
        obtain ⟨hbi, hel⟩ := nwM_some hb
        obtain ⟨u, hwb⟩ : ∃ u, w b = some u := by unfold elig at hel; cases q : w b with | none => rw [q] at hel; cases hel | some u => exact ⟨u, rfl⟩
        have hu := (hW b (by omega)).2 u hwb
        have hwb2 := (hW b (by omega)).1
        rw [hwb] at hwb2
        refine X_iload dX12_nextWaiting_5 rfl ?_
        refine X_aload_n dX12_nextWaiting_7 rfl ?_
        refine X_getr (a := 91) dX12_nextWaiting_8 fkX12_23 rfl (k_87 hSh) (r_87_12 hSh) ?_
        refine X_iconst (v := nI 1) dX12_nextWaiting_11 (by decide) ?_
        refine X_iald 1 dX12_nextWaiting_12 (k_91 hSh) rfl (by first | omega | (have h1 := (hR.1 i (by omega)).2.1; omega) | (have h1 := (hR.1 b (by omega)).2.1; omega)) ?_
        rw [hP.2.1]
        refine X_icmp_geN (a := i) (b := nG) 109 dX12_nextWaiting_13 (by decide) (by first | omega | (have h1 := (hR.1 i (by omega)).2.1; omega) | (have h1 := (hR.1 b (by omega)).2.1; omega)) (by first | omega | (have h1 := (hR.1 i (by omega)).2.1; omega) | (have h1 := (hR.1 b (by omega)).2.1; omega)) (fun h_8 => ?_) (fun h_8 => ?_)
        · exact absurd hi (by omega)
        · refine X_aload_n dX12_nextWaiting_16 rfl ?_
          refine X_getr (a := 196) dX12_nextWaiting_17 fkX12_77 rfl (k_87 hSh) (r_87_36 hSh) ?_
          refine X_iload dX12_nextWaiting_20 rfl ?_
          refine X_iald i dX12_nextWaiting_22 (k_196 hSh) rfl (by first | omega | (have h1 := (hR.1 i (by omega)).2.1; omega) | (have h1 := (hR.1 b (by omega)).2.1; omega)) ?_
          rw [show mi 196 i = nI v from hwi]
          refine X_iconst (v := -1) dX12_nextWaiting_23 (by decide) ?_
          refine X_icmp_eq 103 dX12_nextWaiting_24 (by decide) (fun h_9 => ?_) (fun h_9 => ?_)
          · exact absurd h_9 (nI_m1 (by omega))
          · refine X_aload_n dX12_nextWaiting_27 rfl ?_
            refine X_getr (a := 196) dX12_nextWaiting_28 fkX12_77 rfl (k_87 hSh) (r_87_36 hSh) ?_
            refine X_iload dX12_nextWaiting_31 rfl ?_
            refine X_iald i dX12_nextWaiting_33 (k_196 hSh) rfl (by first | omega | (have h1 := (hR.1 i (by omega)).2.1; omega) | (have h1 := (hR.1 b (by omega)).2.1; omega)) ?_
            rw [show mi 196 i = nI v from hwi]
            refine X_iload_n dX12_nextWaiting_34 rfl ?_
            refine X_icmp_gtN (a := v) (b := h) 103 dX12_nextWaiting_35 (by decide) (by first | omega | (have h1 := (hR.1 i (by omega)).2.1; omega) | (have h1 := (hR.1 b (by omega)).2.1; omega)) (by first | omega | (have h1 := (hR.1 i (by omega)).2.1; omega) | (have h1 := (hR.1 b (by omega)).2.1; omega)) (fun h_10 => ?_) (fun h_10 => ?_)
            · refine X_iinc (v := nI (i + 1)) dX12_nextWaiting_103 rfl (nI_1 _) (by decide) ?_
              refine X_goto 5 dX12_nextWaiting_106 (by decide) ?_
              refine X_L [(4, .int (nI (i + 1))), (3, .int (nI b)), (0, .ref 87), (1, .int (nI h)), (2, .int td)] ⟨rfl, rfl, rfl, rfl, rfl, trivial⟩ ?_
              have e9 : nwM w rk tr h (i + 1) = some b := by unfold nwM; rw [hb]; simp_all [elig, ahead, wvl, bI_0, bI_n0] <;> omega
              rw [e9] at hn
              exact hn
            · refine X_iload_n dX12_nextWaiting_38 rfl ?_
              refine X_iload dX12_nextWaiting_39 rfl ?_
              refine X_ishr dX12_nextWaiting_41 ?_
              refine X_iconst (v := nI 1) dX12_nextWaiting_42 (by decide) ?_
              refine X_iand dX12_nextWaiting_43 ?_
              refine X_topi ((bit_ask (by omega)).trans (congrArg bI (htr i (by omega)))) ?_
              refine X_if_ne 103 dX12_nextWaiting_44 (by decide) (fun h_11 => ?_) (fun h_11 => ?_)
              · refine X_iinc (v := nI (i + 1)) dX12_nextWaiting_103 rfl (nI_1 _) (by decide) ?_
                refine X_goto 5 dX12_nextWaiting_106 (by decide) ?_
                refine X_L [(4, .int (nI (i + 1))), (3, .int (nI b)), (0, .ref 87), (1, .int (nI h)), (2, .int td)] ⟨rfl, rfl, rfl, rfl, rfl, trivial⟩ ?_
                have e9 : nwM w rk tr h (i + 1) = some b := by unfold nwM; rw [hb]; simp_all [elig, ahead, wvl, bI_0, bI_n0] <;> omega
                rw [e9] at hn
                exact hn
              · refine X_iload_n dX12_nextWaiting_47 rfl ?_
                refine X_iconst (v := -1) dX12_nextWaiting_48 (by decide) ?_
                refine X_icmp_eq 100 dX12_nextWaiting_49 (by decide) (fun h_12 => ?_) (fun h_12 => ?_)
                · exact absurd h_12 (nI_m1 (by omega))
                · refine X_aload_n dX12_nextWaiting_52 rfl ?_
                  refine X_getr (a := 196) dX12_nextWaiting_53 fkX12_77 rfl (k_87 hSh) (r_87_36 hSh) ?_
                  refine X_iload dX12_nextWaiting_56 rfl ?_
                  refine X_iald i dX12_nextWaiting_58 (k_196 hSh) rfl (by first | omega | (have h1 := (hR.1 i (by omega)).2.1; omega) | (have h1 := (hR.1 b (by omega)).2.1; omega)) ?_
                  rw [show mi 196 i = nI v from hwi]
                  refine X_aload_n dX12_nextWaiting_59 rfl ?_
                  refine X_getr (a := 196) dX12_nextWaiting_60 fkX12_77 rfl (k_87 hSh) (r_87_36 hSh) ?_
                  refine X_iload_n dX12_nextWaiting_63 rfl ?_
                  refine X_iald b dX12_nextWaiting_64 (k_196 hSh) rfl (by first | omega | (have h1 := (hR.1 i (by omega)).2.1; omega) | (have h1 := (hR.1 b (by omega)).2.1; omega)) ?_
                  rw [show mi 196 b = nI u from hwb2]
                  refine X_icmp_ltN (a := v) (b := u) 100 dX12_nextWaiting_65 (by decide) (by first | omega | (have h1 := (hR.1 i (by omega)).2.1; omega) | (have h1 := (hR.1 b (by omega)).2.1; omega)) (by first | omega | (have h1 := (hR.1 i (by omega)).2.1; omega) | (have h1 := (hR.1 b (by omega)).2.1; omega)) (fun h_13 => ?_) (fun h_13 => ?_)
                  · refine X_iload dX12_nextWaiting_100 rfl ?_
                    refine X_istore_n dX12_nextWaiting_102 (by decide) ?_
                    refine X_iinc (v := nI (i + 1)) dX12_nextWaiting_103 rfl (nI_1 _) (by decide) ?_
                    refine X_goto 5 dX12_nextWaiting_106 (by decide) ?_
                    refine X_L [(4, .int (nI (i + 1))), (3, .int (nI i)), (0, .ref 87), (1, .int (nI h)), (2, .int td)] ⟨rfl, rfl, rfl, rfl, rfl, trivial⟩ ?_
                    have e9 : nwM w rk tr h (i + 1) = some i := by unfold nwM; rw [hb]; simp_all [elig, ahead, wvl, bI_0, bI_n0] <;> omega
                    rw [e9] at hn
                    exact hn
                  · refine X_aload_n dX12_nextWaiting_68 rfl ?_
                    refine X_getr (a := 196) dX12_nextWaiting_69 fkX12_77 rfl (k_87 hSh) (r_87_36 hSh) ?_
                    refine X_iload dX12_nextWaiting_72 rfl ?_
                    refine X_iald i dX12_nextWaiting_74 (k_196 hSh) rfl (by first | omega | (have h1 := (hR.1 i (by omega)).2.1; omega) | (have h1 := (hR.1 b (by omega)).2.1; omega)) ?_
                    rw [show mi 196 i = nI v from hwi]
                    refine X_aload_n dX12_nextWaiting_75 rfl ?_
                    refine X_getr (a := 196) dX12_nextWaiting_76 fkX12_77 rfl (k_87 hSh) (r_87_36 hSh) ?_
                    refine X_iload_n dX12_nextWaiting_79 rfl ?_
                    refine X_iald b dX12_nextWaiting_80 (k_196 hSh) rfl (by first | omega | (have h1 := (hR.1 i (by omega)).2.1; omega) | (have h1 := (hR.1 b (by omega)).2.1; omega)) ?_
                    rw [show mi 196 b = nI u from hwb2]
                    refine X_icmp_neN (a := v) (b := u) 103 dX12_nextWaiting_81 (by decide) (by first | omega | (have h1 := (hR.1 i (by omega)).2.1; omega) | (have h1 := (hR.1 b (by omega)).2.1; omega)) (by first | omega | (have h1 := (hR.1 i (by omega)).2.1; omega) | (have h1 := (hR.1 b (by omega)).2.1; omega)) (fun h_14 => ?_) (fun h_14 => ?_)
                    · refine X_iinc (v := nI (i + 1)) dX12_nextWaiting_103 rfl (nI_1 _) (by decide) ?_
                      refine X_goto 5 dX12_nextWaiting_106 (by decide) ?_
                      refine X_L [(4, .int (nI (i + 1))), (3, .int (nI b)), (0, .ref 87), (1, .int (nI h)), (2, .int td)] ⟨rfl, rfl, rfl, rfl, rfl, trivial⟩ ?_
                      have e9 : nwM w rk tr h (i + 1) = some b := by unfold nwM; rw [hb]; simp_all [elig, ahead, wvl, bI_0, bI_n0] <;> omega
                      rw [e9] at hn
                      exact hn
                    · refine X_aload_n dX12_nextWaiting_84 rfl ?_
                      refine X_getr (a := 197) dX12_nextWaiting_85 fkX12_80 rfl (k_87 hSh) (r_87_37 hSh) ?_
                      refine X_iload dX12_nextWaiting_88 rfl ?_
                      refine X_iald i dX12_nextWaiting_90 (k_197 hSh) rfl (by first | omega | (have h1 := (hR.1 i (by omega)).2.1; omega) | (have h1 := (hR.1 b (by omega)).2.1; omega)) ?_
                      rw [(hR.1 i (by omega)).1]
                      refine X_aload_n dX12_nextWaiting_91 rfl ?_
                      refine X_getr (a := 197) dX12_nextWaiting_92 fkX12_80 rfl (k_87 hSh) (r_87_37 hSh) ?_
                      refine X_iload_n dX12_nextWaiting_95 rfl ?_
                      refine X_iald b dX12_nextWaiting_96 (k_197 hSh) rfl (by first | omega | (have h1 := (hR.1 i (by omega)).2.1; omega) | (have h1 := (hR.1 b (by omega)).2.1; omega)) ?_
                      rw [(hR.1 b (by omega)).1]
                      refine X_icmp_geN (a := rk i) (b := rk b) 103 dX12_nextWaiting_97 (by decide) (by first | omega | (have h1 := (hR.1 i (by omega)).2.1; omega) | (have h1 := (hR.1 b (by omega)).2.1; omega)) (by first | omega | (have h1 := (hR.1 i (by omega)).2.1; omega) | (have h1 := (hR.1 b (by omega)).2.1; omega)) (fun h_15 => ?_) (fun h_15 => ?_)
                      · refine X_iinc (v := nI (i + 1)) dX12_nextWaiting_103 rfl (nI_1 _) (by decide) ?_
                        refine X_goto 5 dX12_nextWaiting_106 (by decide) ?_
                        refine X_L [(4, .int (nI (i + 1))), (3, .int (nI b)), (0, .ref 87), (1, .int (nI h)), (2, .int td)] ⟨rfl, rfl, rfl, rfl, rfl, trivial⟩ ?_
                        have e9 : nwM w rk tr h (i + 1) = some b := by unfold nwM; rw [hb]; simp_all [elig, ahead, wvl, bI_0, bI_n0] <;> omega
                        rw [e9] at hn
                        exact hn
                      · refine X_iload dX12_nextWaiting_100 rfl ?_
                        refine X_istore_n dX12_nextWaiting_102 (by decide) ?_
                        refine X_iinc (v := nI (i + 1)) dX12_nextWaiting_103 rfl (nI_1 _) (by decide) ?_
                        refine X_goto 5 dX12_nextWaiting_106 (by decide) ?_
                        refine X_L [(4, .int (nI (i + 1))), (3, .int (nI i)), (0, .ref 87), (1, .int (nI h)), (2, .int td)] ⟨rfl, rfl, rfl, rfl, rfl, trivial⟩ ?_
                        have e9 : nwM w rk tr h (i + 1) = some i := by unfold nwM; rw [hb]; simp_all [elig, ahead, wvl, bI_0, bI_n0] <;> omega
                        rw [e9] at hn
                        exact hn
  · intro x hI
    refine X_iload dX12_nextWaiting_5 rfl ?_
    refine X_aload_n dX12_nextWaiting_7 rfl ?_
    refine X_getr (a := 91) dX12_nextWaiting_8 fkX12_23 rfl (k_87 hSh) (r_87_12 hSh) ?_
    refine X_iconst (v := nI 1) dX12_nextWaiting_11 (by decide) ?_
    refine X_iald 1 dX12_nextWaiting_12 (k_91 hSh) rfl (by first | omega | (have h1 := (hR.1 i (by omega)).2.1; omega) | (have h1 := (hR.1 b (by omega)).2.1; omega)) ?_
    rw [hP.2.1]
    refine X_icmp_geN (a := nG) (b := nG) 109 dX12_nextWaiting_13 (by decide) (by first | omega | (have h1 := (hR.1 i (by omega)).2.1; omega) | (have h1 := (hR.1 b (by omega)).2.1; omega)) (by first | omega | (have h1 := (hR.1 i (by omega)).2.1; omega) | (have h1 := (hR.1 b (by omega)).2.1; omega)) (fun h_16 => ?_) (fun h_16 => ?_)
    · refine X_iload_n dX12_nextWaiting_109 rfl ?_
      exact X_iret dX12_nextWaiting_110 rfl ⟨by rfl, rfl, rfl, rfl⟩
    · exact absurd h_16 (by omega)

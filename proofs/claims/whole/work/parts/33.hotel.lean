def dI (x : Int32) : Option Nat := if x = -1 then none else some x.toNatClampNeg
theorem dI_n : dI (oI none) = none := rfl
theorem dI_s {b : Nat} (h : b < 2147483648) : dI (oI (some b)) = some b := by
  unfold dI
  rw [if_neg (show ¬ oI (some b) = -1 from nI_m1 h)]
  show some (nI b).toNatClampNeg = some b
  rw [nI_clamp h]
theorem dI_o {o : Option Nat} (h : ∀ b, o = some b → b < 100) : dI (oI o) = o := by
  cases o with
  | none => rfl
  | some b => exact dI_s (by have := h b rfl; omega)
/-- chairs' guests and guests' chairs are such, or none -/
def okO (x : pMI) (nG : Nat) : Prop := (∀ c, c < 8 → ∃ o : Option Nat, x 204 c = oI o ∧ ∀ b, o = some b → b < nG) ∧ (∀ b, b < 8 → ∃ o : Option Nat, x 195 b = oI o ∧ ∀ c, o = some c → c < 8)
def simOK (x : pMI) (nC nG : Nat) (F T : Nat → Nat) (ob : Int32) (go : Nat) : Prop := PoolM x nC nG F T ∧ okO x nG ∧ x 87 53 = ob ∧ x 91 2 = nI go ∧ go < 24
theorem freesF_row {m : pMI} {gi : Nat} {s : Option Nat} {a : Nat} (h1 : a ≠ 204) (h2 : a ≠ 195) : freesF m gi s a = m a := by
  cases s with
  | none => rfl
  | some b => show up2 (up2 m 204 b (-1)) 195 gi (-1) a = m a; rw [up2_row h2, up2_row h1]
theorem oI_n : (-1 : Int32) = oI none := rfl
theorem oI_s (c : Nat) : nI c = oI (some c) := rfl
/-- a change of rows that simOK doesn't speak of -/
theorem simOK_row {x y : pMI} {nC nG : Nat} {F T : Nat → Nat} {ob : Int32} {go : Nat} (h : simOK x nC nG F T ob go) (h1 : y 91 = x 91) (h2 : ∀ b, b < 8 → y (121 + b) = x (121 + b)) (h3 : y 87 53 = x 87 53) (h4 : okO y nG) : simOK y nC nG F T ob go := by
  obtain ⟨⟨a1, a2, a3, a4, a5⟩, b, c, d, e⟩ := h
  refine ⟨⟨by rw [h1]; exact a1, by rw [h1]; exact a2, a3, a4, fun q hq => ?_⟩, h4, by rw [h3]; exact c, by rw [h1]; exact d, e⟩
  rw [h2 q (by omega)]
  exact a5 q hq
theorem okO_same {x y : pMI} {nG : Nat} (h : okO x nG) (h1 : y 204 = x 204) (h2 : y 195 = x 195) : okO y nG := by
  unfold okO; rw [h1, h2]; exact h
theorem okO_set {x : pMI} {nG a b : Nat} {o : Option Nat} (h : okO x nG) (hb : (a = 204 ∧ ∀ q, o = some q → q < nG) ∨ (a = 195 ∧ ∀ q, o = some q → q < 8)) : okO (up2 x a b (oI o)) nG := by
  refine ⟨fun c hc => ?_, fun c hc => ?_⟩
  · rcases hb with ⟨rfl, hb⟩ | ⟨rfl, hb⟩
    · by_cases e : c = b
      · subst e; exact ⟨o, up2_s, hb⟩
      · rw [up2_n e]; exact h.1 c hc
    · rw [up2_row (by decide)]; exact h.1 c hc
  · rcases hb with ⟨rfl, hb⟩ | ⟨rfl, hb⟩
    · rw [up2_row (by decide)]; exact h.2 c hc
    · by_cases e : c = b
      · subst e; exact ⟨o, up2_s, hb⟩
      · rw [up2_n e]; exact h.2 c hc
theorem okO_frees {x : pMI} {nG gi : Nat} {s : Option Nat} (h : okO x nG) : okO (freesF x gi s) nG := by
  cases s with
  | none => exact h
  | some b => exact okO_set (o := none) (okO_set (o := none) h (Or.inl ⟨rfl, fun q hq => by cases hq⟩)) (Or.inr ⟨rfl, fun q hq => by cases hq⟩)
/-- the hotel at a chair -/
def hotS (F : Nat → Nat) (h : Nat) (ob : Int32) (c : Nat) (x : pMI) : pMI := match dI (x 204 c) with
  | none => x
  | some b => if nI h - x 205 c < ob then x else up2 (up2 (freesF x b (dI (x 195 b))) 202 b (x 202 b + nI 1)) 196 b (nI (max (F b) h))
theorem hotS_ok {x : pMI} {nC nG : Nat} {F T : Nat → Nat} {ob : Int32} {go h c : Nat} (hx : simOK x nC nG F T ob go) : simOK (hotS F h ob c x) nC nG F T ob go := by
  unfold hotS
  cases dI (x 204 c) with
  | none => exact hx
  | some b =>
    dsimp only
    split
    · exact hx
    · refine simOK_row hx ?_ (fun q hq => ?_) ?_ ?_
      · rw [up2_row (by decide), up2_row (by decide), freesF_row (by decide) (by decide)]
      · rw [up2_row (by omega), up2_row (by omega), freesF_row (by omega) (by omega)]
      · rw [up2_row (by decide), up2_row (by decide), freesF_row (by decide) (by decide)]
      · exact okO_same (okO_frees hx.2.1) (by rw [up2_row (by decide), up2_row (by decide)]) (by rw [up2_row (by decide), up2_row (by decide)])
def hotF (F : Nat → Nat) (h : Nat) (ob : Int32) (nC go : Nat) (x : pMI) : pMI := if gB go h then lpS (hotS F h ob) 0 nC x else x
set_option maxRecDepth 100000 in
set_option maxHeartbeats 4000000 in
theorem c_hotelGoes (Γ : pTG) (g : pGG) (mi : pMI) (ml : pML) (hSh : Sh g) (nC nG : Nat) (F T : Nat → Nat) (ob : Int32) (go h : Nat) (hS : simOK mi nC nG F T ob go) (hh : h < 24) : cV Γ 2 mX12_hotelGoes [.ref 87, .int (nI h)] g mi ml (hotF F h ob nC go mi) ml := by
  refine cV_of (by decide +kernel) (Nat.le_of_ble_eq_true rfl) ?_
  have hnC : nC ≤ 8 := hS.1.2.2.1
  have hnG : nG ≤ 8 := hS.1.2.2.2.1
  have hgo : go < 24 := hS.2.2.2.2
  refine X_aload_n dX12_hotelGoes_0 rfl ?_
  refine X_getr (a := 91) dX12_hotelGoes_1 fkX12_23 rfl (k_87 hSh) (r_87_12 hSh) ?_
  refine X_iconst (v := nI 2) dX12_hotelGoes_4 (by decide) ?_
  refine X_iald 2 dX12_hotelGoes_5 (k_91 hSh) rfl (by first | omega | exact Nat.lt_trans (Nat.mod_lt _ (by omega)) (by omega)) ?_
  rw [hS.2.2.2.1]
  refine X_if_eqN (a := go) 24 dX12_hotelGoes_6 (by decide) (by first | omega | exact Nat.lt_trans (Nat.mod_lt _ (by omega)) (by omega)) (fun h_1 => ?_) (fun h_1 => ?_)
  · exact X_vret dX12_hotelGoes_24 rfl ⟨rfl, rfl, by unfold hotF; rw [if_neg (by simp_all [gB])], rfl⟩
  · refine X_iload_n dX12_hotelGoes_9 rfl ?_
    refine X_if_eqN (a := h) 24 dX12_hotelGoes_10 (by decide) (by first | omega | exact Nat.lt_trans (Nat.mod_lt _ (by omega)) (by omega)) (fun h_2 => ?_) (fun h_2 => ?_)
    · exact X_vret dX12_hotelGoes_24 rfl ⟨rfl, rfl, by unfold hotF; rw [if_neg (by simp_all [gB])], rfl⟩
    · refine X_iload_n dX12_hotelGoes_13 rfl ?_
      refine X_aload_n dX12_hotelGoes_14 rfl ?_
      refine X_getr (a := 91) dX12_hotelGoes_15 fkX12_23 rfl (k_87 hSh) (r_87_12 hSh) ?_
      refine X_iconst (v := nI 2) dX12_hotelGoes_18 (by decide) ?_
      refine X_iald 2 dX12_hotelGoes_19 (k_91 hSh) rfl (by first | omega | exact Nat.lt_trans (Nat.mod_lt _ (by omega)) (by omega)) ?_
      rw [hS.2.2.2.1]
      refine X_irem dX12_hotelGoes_20 (nI_ne0 (by first | omega | exact Nat.lt_trans (Nat.mod_lt _ (by omega)) (by omega)) (by first | omega | exact Nat.lt_trans (Nat.mod_lt _ (by omega)) (by omega))) ?_
      refine X_topi (pk_rem (a := h) (d := go) (by first | omega | exact Nat.lt_trans (Nat.mod_lt _ (by omega)) (by omega)) (by first | omega | exact Nat.lt_trans (Nat.mod_lt _ (by omega)) (by omega)) (by first | omega | exact Nat.lt_trans (Nat.mod_lt _ (by omega)) (by omega))) ?_
      refine X_if_eqN (a := h % go) 25 dX12_hotelGoes_21 (by decide) (by first | omega | exact Nat.lt_trans (Nat.mod_lt _ (by omega)) (by omega)) (fun h_3 => ?_) (fun h_3 => ?_)
      · refine X_iconst (v := nI 0) dX12_hotelGoes_25 (by decide) ?_
        refine X_istore_n dX12_hotelGoes_26 (by decide) ?_
        refine X_L [(2, .int (nI 0)), (0, .ref 87), (1, .int (nI h))] ⟨rfl, rfl, rfl, trivial⟩ ?_
        refine X_for2 (σ := pMI) 27 (fun i x => [(2, .int (nI i)), (0, .ref 87), (1, .int (nI h))]) (fun x => x) (fun x => ml) (fun i x => hotS F h ob i x) (fun i x => simOK x nC nG F T ob go ∧ x = lpS (hotS F h ob) 0 i mi) nC ?_ nC 0 mi (by first | omega | exact Nat.lt_trans (Nat.mod_lt _ (by omega)) (by omega)) ⟨hS, rfl⟩ ?_
        · intro i x hi hI
          refine ⟨⟨hotS_ok hI.1, by rw [lpS_snoc, Nat.zero_add, ← hI.2]⟩, fun hn => ?_⟩
          obtain ⟨o, ho, hol⟩ := hI.1.2.1.1 i (by omega)
          cases o with
          | none =>
            refine X_iload_n dX12_hotelGoes_27 rfl ?_
            refine X_aload_n dX12_hotelGoes_28 rfl ?_
            refine X_getr (a := 91) dX12_hotelGoes_29 fkX12_23 rfl (k_87 hSh) (r_87_12 hSh) ?_
            refine X_iconst (v := nI 0) dX12_hotelGoes_32 (by decide) ?_
            refine X_iald 0 dX12_hotelGoes_33 (k_91 hSh) rfl (by first | omega | exact Nat.lt_trans (Nat.mod_lt _ (by omega)) (by omega)) ?_
            rw [hI.1.1.1]
            refine X_icmp_geN (a := i) (b := nC) 106 dX12_hotelGoes_34 (by decide) (by first | omega | exact Nat.lt_trans (Nat.mod_lt _ (by omega)) (by omega)) (by first | omega | exact Nat.lt_trans (Nat.mod_lt _ (by omega)) (by omega)) (fun h_4 => ?_) (fun h_4 => ?_)
            · exact absurd hi (by omega)
            · refine X_aload_n dX12_hotelGoes_37 rfl ?_
              refine X_getr (a := 204) dX12_hotelGoes_38 fkX12_101 rfl (k_87 hSh) (r_87_44 hSh) ?_
              refine X_iload_n dX12_hotelGoes_41 rfl ?_
              refine X_iald i dX12_hotelGoes_42 (k_204 hSh) rfl (by first | omega | exact Nat.lt_trans (Nat.mod_lt _ (by omega)) (by omega)) ?_
              rw [show x 204 i = -1 from ho]
              refine X_istore_n dX12_hotelGoes_43 (by decide) ?_
              refine X_iload_n dX12_hotelGoes_44 rfl ?_
              refine X_iconst (v := -1) dX12_hotelGoes_45 (by decide) ?_
              refine X_icmp_eq 100 dX12_hotelGoes_46 (by decide) (fun h_5 => ?_) (fun h_5 => ?_)
              · refine X_iinc (v := nI (i + 1)) dX12_hotelGoes_100 rfl (nI_1 _) (by decide) ?_
                refine X_goto 27 dX12_hotelGoes_103 (by decide) ?_
                refine X_L [(2, .int (nI (i + 1))), (0, .ref 87), (1, .int (nI h))] ⟨rfl, rfl, rfl, trivial⟩ ?_
                have e9 : hotS F h ob i x = x := by unfold hotS; rw [ho]; rfl
                rw [e9] at hn
                exact hn
              · exact absurd rfl h_5
          | some b =>
            have hb : b < nG := hol b rfl
            obtain ⟨s, hs, hsl⟩ := hI.1.2.1.2 b (by omega)
            obtain ⟨hF, -, hF1, -⟩ := hI.1.1.2.2.2.2 b hb
            refine X_iload_n dX12_hotelGoes_27 rfl ?_
            refine X_aload_n dX12_hotelGoes_28 rfl ?_
            refine X_getr (a := 91) dX12_hotelGoes_29 fkX12_23 rfl (k_87 hSh) (r_87_12 hSh) ?_
            refine X_iconst (v := nI 0) dX12_hotelGoes_32 (by decide) ?_
            refine X_iald 0 dX12_hotelGoes_33 (k_91 hSh) rfl (by first | omega | exact Nat.lt_trans (Nat.mod_lt _ (by omega)) (by omega)) ?_
            rw [hI.1.1.1]
            refine X_icmp_geN (a := i) (b := nC) 106 dX12_hotelGoes_34 (by decide) (by first | omega | exact Nat.lt_trans (Nat.mod_lt _ (by omega)) (by omega)) (by first | omega | exact Nat.lt_trans (Nat.mod_lt _ (by omega)) (by omega)) (fun h_6 => ?_) (fun h_6 => ?_)
            · exact absurd hi (by omega)
            · refine X_aload_n dX12_hotelGoes_37 rfl ?_
              refine X_getr (a := 204) dX12_hotelGoes_38 fkX12_101 rfl (k_87 hSh) (r_87_44 hSh) ?_
              refine X_iload_n dX12_hotelGoes_41 rfl ?_
              refine X_iald i dX12_hotelGoes_42 (k_204 hSh) rfl (by first | omega | exact Nat.lt_trans (Nat.mod_lt _ (by omega)) (by omega)) ?_
              rw [show x 204 i = nI b from ho]
              refine X_istore_n dX12_hotelGoes_43 (by decide) ?_
              refine X_iload_n dX12_hotelGoes_44 rfl ?_
              refine X_iconst (v := -1) dX12_hotelGoes_45 (by decide) ?_
              refine X_icmp_eq 100 dX12_hotelGoes_46 (by decide) (fun h_7 => ?_) (fun h_7 => ?_)
              · exact absurd h_7 (nI_m1 (by omega))
              · refine X_iload_n dX12_hotelGoes_49 rfl ?_
                refine X_aload_n dX12_hotelGoes_50 rfl ?_
                refine X_getr (a := 205) dX12_hotelGoes_51 fkX12_104 rfl (k_87 hSh) (r_87_45 hSh) ?_
                refine X_iload_n dX12_hotelGoes_54 rfl ?_
                refine X_iald i dX12_hotelGoes_55 (k_205 hSh) rfl (by first | omega | exact Nat.lt_trans (Nat.mod_lt _ (by omega)) (by omega)) ?_
                refine X_isub dX12_hotelGoes_56 ?_
                refine X_aload_n dX12_hotelGoes_57 rfl ?_
                refine X_geti dX12_hotelGoes_58 fkX12_313 rfl (k_87 hSh) ?_
                rw [hI.1.2.2.1]
                refine X_icmp_ge 67 dX12_hotelGoes_61 (by decide) (fun h_8 => ?_) (fun h_8 => ?_)
                · refine X_aload_n dX12_hotelGoes_67 rfl ?_
                  refine X_iload_n dX12_hotelGoes_68 rfl ?_
                  refine X_callVV dX12_hotelGoes_69 mkX12_316 (k_87 hSh) (c_frees Γ g x ml hSh b (by omega) s hs hsl) rfl rfl (by decide) (Nat.le_of_ble_eq_true rfl) ?_
                  refine X_aload_n dX12_hotelGoes_72 rfl ?_
                  refine X_getr (a := 202) dX12_hotelGoes_73 fkX12_95 rfl (k_87 hSh) (r_87_42 hSh) ?_
                  refine X_iload_n dX12_hotelGoes_76 rfl ?_
                  refine X_dup2 dX12_hotelGoes_77 rfl rfl ?_
                  refine X_iald b dX12_hotelGoes_78 (k_202 hSh) rfl (by first | omega | exact Nat.lt_trans (Nat.mod_lt _ (by omega)) (by omega)) ?_
                  refine X_topi (show (freesF x b s) 202 b = x 202 b by rw [freesF_row (by decide) (by decide)]) ?_
                  refine X_iconst (v := nI 1) dX12_hotelGoes_79 (by decide) ?_
                  refine X_iadd dX12_hotelGoes_80 ?_
                  refine X_iast b dX12_hotelGoes_81 (k_202 hSh) rfl (by first | omega | exact Nat.lt_trans (Nat.mod_lt _ (by omega)) (by omega)) ?_
                  refine X_aload_n dX12_hotelGoes_82 rfl ?_
                  refine X_getr (a := 196) dX12_hotelGoes_83 fkX12_77 rfl (k_87 hSh) (r_87_36 hSh) ?_
                  refine X_iload_n dX12_hotelGoes_86 rfl ?_
                  refine X_aload_n dX12_hotelGoes_87 rfl ?_
                  refine X_getr (a := 120) dX12_hotelGoes_88 fkX12_37 rfl (k_87 hSh) (r_87_16 hSh) ?_
                  refine X_iload_n dX12_hotelGoes_91 rfl ?_
                  refine X_aaldr (b := 121 + b) b dX12_hotelGoes_92 (k_120 hSh) rfl (by first | omega | exact Nat.lt_trans (Nat.mod_lt _ (by omega)) (by omega)) (o_120 hSh b (by first | omega | exact Nat.lt_trans (Nat.mod_lt _ (by omega)) (by omega))) ?_
                  refine X_iconst (v := nI 1) dX12_hotelGoes_93 (by decide) ?_
                  refine X_iald 1 dX12_hotelGoes_94 (kr_120 hSh b (by first | omega | exact Nat.lt_trans (Nat.mod_lt _ (by omega)) (by omega))) rfl (by first | omega | exact Nat.lt_trans (Nat.mod_lt _ (by omega)) (by omega)) ?_
                  refine X_topi (show (up2 (freesF x b s) 202 b ((x 202 b) + (nI 1))) (121 + b) 1 = nI (F b) by (rw [up2_row (by omega), freesF_row (by omega) (by omega)]; exact hF)) ?_
                  refine X_iload_n dX12_hotelGoes_95 rfl ?_
                  refine X_callSI dX12_hotelGoes_96 mkX12_291 (c_greater Γ g (up2 (freesF x b s) 202 b ((x 202 b) + (nI 1))) ml (nI (F b)) (nI h)) rfl rfl (by decide) (Nat.le_of_ble_eq_true rfl) ?_
                  refine X_topi (nI_max (by first | omega | exact Nat.lt_trans (Nat.mod_lt _ (by omega)) (by omega)) (by first | omega | exact Nat.lt_trans (Nat.mod_lt _ (by omega)) (by omega))) ?_
                  refine X_iast b dX12_hotelGoes_99 (k_196 hSh) rfl (by first | omega | exact Nat.lt_trans (Nat.mod_lt _ (by omega)) (by omega)) ?_
                  refine X_iinc (v := nI (i + 1)) dX12_hotelGoes_100 rfl (nI_1 _) (by decide) ?_
                  refine X_goto 27 dX12_hotelGoes_103 (by decide) ?_
                  refine X_L [(2, .int (nI (i + 1))), (0, .ref 87), (1, .int (nI h))] ⟨rfl, rfl, rfl, trivial⟩ ?_
                  have e9 : hotS F h ob i x = (up2 (up2 (freesF x b s) 202 b ((x 202 b) + (nI 1))) 196 b (nI (max (F b) h))) := by unfold hotS; rw [ho, dI_s (by omega)]; dsimp only; rw [if_neg (by simp_all [← Int32.not_lt]), hs, dI_o (fun q hq => by have := hsl q hq; omega)]
                  rw [e9] at hn
                  exact hn
                · refine X_goto 100 dX12_hotelGoes_64 (by decide) ?_
                  refine X_iinc (v := nI (i + 1)) dX12_hotelGoes_100 rfl (nI_1 _) (by decide) ?_
                  refine X_goto 27 dX12_hotelGoes_103 (by decide) ?_
                  refine X_L [(2, .int (nI (i + 1))), (0, .ref 87), (1, .int (nI h))] ⟨rfl, rfl, rfl, trivial⟩ ?_
                  have e9 : hotS F h ob i x = x := by unfold hotS; rw [ho, dI_s (by omega)]; simp_all [← Int32.not_lt]
                  rw [e9] at hn
                  exact hn
        · intro x hI
          refine X_iload_n dX12_hotelGoes_27 rfl ?_
          refine X_aload_n dX12_hotelGoes_28 rfl ?_
          refine X_getr (a := 91) dX12_hotelGoes_29 fkX12_23 rfl (k_87 hSh) (r_87_12 hSh) ?_
          refine X_iconst (v := nI 0) dX12_hotelGoes_32 (by decide) ?_
          refine X_iald 0 dX12_hotelGoes_33 (k_91 hSh) rfl (by first | omega | exact Nat.lt_trans (Nat.mod_lt _ (by omega)) (by omega)) ?_
          rw [hI.1.1.1]
          refine X_icmp_geN (a := nC) (b := nC) 106 dX12_hotelGoes_34 (by decide) (by first | omega | exact Nat.lt_trans (Nat.mod_lt _ (by omega)) (by omega)) (by first | omega | exact Nat.lt_trans (Nat.mod_lt _ (by omega)) (by omega)) (fun h_9 => ?_) (fun h_9 => ?_)
          · exact X_vret dX12_hotelGoes_106 rfl ⟨rfl, rfl, by rw [hI.2]; unfold hotF; rw [if_pos (by simp_all [gB]; omega)], rfl⟩
          · exact absurd h_9 (by omega)
      · exact X_vret dX12_hotelGoes_24 rfl ⟨rfl, rfl, by unfold hotF; rw [if_neg (by simp_all [gB])], rfl⟩

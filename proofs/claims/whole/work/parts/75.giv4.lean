theorem bfN_eq2 {V W R S : Nat → Int32} {gone : Nat} (h0 : R gone = S gone) : ∀ n, (∀ i, i < n → V i = W i) → (∀ i, i < n → R (gone ||| 2 ^ i) = S (gone ||| 2 ^ i)) → bfN V R gone n = bfN W S gone n
  | 0, _, _ => h0
  | n + 1, h1, h2 => by
    unfold bfN
    rw [bfN_eq2 h0 n (fun i hi => h1 i (by omega)) (fun i hi => h2 i (by omega)), h1 n (by omega), h2 n (by omega)]
/-- worths with one chair more -/
def vQ (P : PD) (a b : Int32) (g c : Nat) : Int32 := if c < P.1 then vP P g c else sW a b (P.2.2.2.2.2.2 g 1) (P.2.2.2.2.2.2 g 2)
def frM (m x : pMI) : Prop := ∀ i, i ≠ 78 → i ≠ 79 → x i = m i
theorem frM_G {m x : pMI} (h : frM m x) : frG m x := ⟨fun i h1 h2 h3 h4 => h i h2 h3, fun j hj => by rw [h 77 (by omega) (by omega)]⟩
theorem frM_u {m x : pMI} {a j : Nat} {v : Int32} (h : frM m x) (ha : a = 78 ∨ a = 79) : frM m (up2 x a j v) := fun i h1 h2 => by rw [up2_row (by omega)]; exact h i h1 h2
def boN (V : Nat → Int32) : Nat → Int32
  | 0 => -1
  | n + 1 => if V n ≤ boN V n then boN V n else V n
theorem boN_an {V : Nat → Int32} {p : Int32} (hp : -1 < p) : ∀ n, p ≤ boN V n ↔ anB (fun c => decide (p ≤ V c)) n = true
  | 0 => ⟨fun h => (Int32.lt_irrefl (Int32.lt_of_lt_of_le hp h)).elim, fun h => (by cases h)⟩
  | n + 1 => by
    have ih := boN_an hp n (V := V)
    unfold boN anB
    rw [Bool.or_eq_true, ← ih, decide_eq_true_eq]
    by_cases h : V n ≤ boN V n
    · rw [if_pos h]
      exact ⟨fun q => Or.inl q, fun q => q.elim id (fun z => Int32.le_trans z h)⟩
    · rw [if_neg h]
      exact ⟨fun q => Or.inr q, fun q => q.elim (fun z => Int32.le_trans z (Int32.le_of_lt (Int32.not_le.mp h))) id⟩
/-- how many p is true of -/
def cN (p : Nat → Bool) : Nat → Nat
  | 0 => 0
  | n + 1 => cN p n + (if p n then 1 else 0)
theorem cN_le (p : Nat → Bool) : ∀ n, cN p n ≤ n
  | 0 => Nat.le_refl _
  | n + 1 => by have := cN_le p n; unfold cN; split <;> omega
theorem cN_eq {p q : Nat → Bool} : ∀ {n : Nat}, (∀ b, b < n → p b = q b) → cN p n = cN q n
  | 0, _ => rfl
  | n + 1, h => by unfold cN; rw [cN_eq (fun b hb => h b (by omega)), h n (by omega)]
def wantN (P : PD) (p : Int32) : Nat := cN (fun b => anB (fun c => decide (p ≤ vP P b c)) P.1) P.2.1
set_option maxRecDepth 100000 in
set_option maxHeartbeats 4000000 in
theorem c_bestOf (Γ : pTG) (g : pGG) (mi : pMI) (ml : pML) (hSh : Sh g) (nC : Nat) (hC : mi 3 9 = nI nC) (hC8 : nC ≤ 8) (b : Nat) (hb : b < 8) : cI Γ 1 mX4_bestOf [.ref 77, .int (nI b)] g mi ml (boN (fun c => mi 78 (b * 9 + c)) nC) mi := by
  refine cI_of (by decide +kernel) (Nat.le_of_ble_eq_true rfl) ?_
  refine X_iconst (v := -1) dX4_bestOf_0 (by decide) ?_
  refine X_istore_n dX4_bestOf_1 (by decide) ?_
  refine X_iconst (v := nI 0) dX4_bestOf_2 (by decide) ?_
  refine X_istore_n dX4_bestOf_3 (by decide) ?_
  refine X_L [(3, .int (nI 0)), (2, .int (-1)), (0, .ref 77), (1, .int (nI b))] ⟨rfl, rfl, rfl, rfl, trivial⟩ ?_
  refine X_for2 (σ := Unit) 4 (fun i x => [(3, .int (nI i)), (2, .int (boN (fun c => mi 78 (b * 9 + c)) i)), (0, .ref 77), (1, .int (nI b))]) (fun x => mi) (fun x => ml) (fun _ x => x) (fun _ _ => True) nC ?_ nC 0 () (by omega) trivial ?_
  · intro i x hi hI
    refine ⟨trivial, fun hn => ?_⟩
    refine X_iload_n dX4_bestOf_4 rfl ?_
    refine X_aload_n dX4_bestOf_5 rfl ?_
    refine X_getr (a := 3) dX4_bestOf_6 fkX4_21 rfl (k_77 hSh) (r_77_0 hSh) ?_
    refine X_geti dX4_bestOf_9 fkX4_35 rfl (k_3 hSh) ?_
    rw [hC]
    refine X_icmp_geN (a := i) (b := nC) 48 dX4_bestOf_12 (by decide) (by omega) (by omega) (fun h_1 => ?_) (fun h_1 => ?_)
    · exact absurd hi (by omega)
    · refine X_aload_n dX4_bestOf_15 rfl ?_
      refine X_getr (a := 78) dX4_bestOf_16 fkX4_11 rfl (k_77 hSh) (r_77_1 hSh) ?_
      refine X_iload_n dX4_bestOf_19 rfl ?_
      refine X_bipush (v := nI 9) dX4_bestOf_20 (by decide) ?_
      refine X_imul dX4_bestOf_22 ?_
      refine X_topi (pk_mul b 9) ?_
      refine X_iload_n dX4_bestOf_23 rfl ?_
      refine X_iadd dX4_bestOf_24 ?_
      refine X_topi (nI_add (b * 9) i) ?_
      refine X_iald ((b * 9) + i) dX4_bestOf_25 (k_78 hSh) rfl (by omega) ?_
      refine X_iload_n dX4_bestOf_26 rfl ?_
      refine X_icmp_le 42 dX4_bestOf_27 (by decide) (fun h_2 => ?_) (fun h_2 => ?_)
      · refine X_iinc (v := nI (i + 1)) dX4_bestOf_42 rfl (nI_1 _) (by decide) ?_
        refine X_goto 4 dX4_bestOf_45 (by decide) ?_
        refine X_L [(3, .int (nI (i + 1))), (2, .int (boN (fun c => mi 78 (b * 9 + c)) i)), (0, .ref 77), (1, .int (nI b))] ⟨rfl, rfl, rfl, rfl, trivial⟩ ?_
        rw [show boN (fun c => mi 78 (b * 9 + c)) (i + 1) = boN (fun c => mi 78 (b * 9 + c)) i from if_pos (by assumption)] at hn
        exact hn
      · refine X_aload_n dX4_bestOf_30 rfl ?_
        refine X_getr (a := 78) dX4_bestOf_31 fkX4_11 rfl (k_77 hSh) (r_77_1 hSh) ?_
        refine X_iload_n dX4_bestOf_34 rfl ?_
        refine X_bipush (v := nI 9) dX4_bestOf_35 (by decide) ?_
        refine X_imul dX4_bestOf_37 ?_
        refine X_topi (pk_mul b 9) ?_
        refine X_iload_n dX4_bestOf_38 rfl ?_
        refine X_iadd dX4_bestOf_39 ?_
        refine X_topi (nI_add (b * 9) i) ?_
        refine X_iald ((b * 9) + i) dX4_bestOf_40 (k_78 hSh) rfl (by omega) ?_
        refine X_istore_n dX4_bestOf_41 (by decide) ?_
        refine X_iinc (v := nI (i + 1)) dX4_bestOf_42 rfl (nI_1 _) (by decide) ?_
        refine X_goto 4 dX4_bestOf_45 (by decide) ?_
        refine X_L [(3, .int (nI (i + 1))), (2, .int (mi 78 ((b * 9) + i))), (0, .ref 77), (1, .int (nI b))] ⟨rfl, rfl, rfl, rfl, trivial⟩ ?_
        rw [show boN (fun c => mi 78 (b * 9 + c)) (i + 1) = mi 78 ((b * 9) + i) from if_neg (by assumption)] at hn
        exact hn
  · intro x hI
    refine X_iload_n dX4_bestOf_4 rfl ?_
    refine X_aload_n dX4_bestOf_5 rfl ?_
    refine X_getr (a := 3) dX4_bestOf_6 fkX4_21 rfl (k_77 hSh) (r_77_0 hSh) ?_
    refine X_geti dX4_bestOf_9 fkX4_35 rfl (k_3 hSh) ?_
    rw [hC]
    refine X_icmp_geN (a := nC) (b := nC) 48 dX4_bestOf_12 (by decide) (by omega) (by omega) (fun h_3 => ?_) (fun h_3 => ?_)
    · refine X_iload_n dX4_bestOf_48 rfl ?_
      exact X_iret dX4_bestOf_49 rfl ⟨by rfl, rfl, rfl, rfl⟩
    · exact absurd h_3 (by omega)
theorem anB_eq {p q : Nat → Bool} : ∀ {n : Nat}, (∀ b, b < n → p b = q b) → anB p n = anB q n
  | 0, _ => rfl
  | n + 1, h => by unfold anB; rw [anB_eq (fun b hb => h b (by omega)), h n (by omega)]
set_option maxRecDepth 100000 in
set_option maxHeartbeats 4000000 in
theorem c_takersAt (Γ : pTG) (g : pGG) (mi : pMI) (ml : pML) (hSh : Sh g) (P : PD) (hP : okPD P) (hc : clP mi P) (hv : vlG P mi) (p : Int32) (hp : -1 < p) : cI Γ 2 mX4_takersAt [.ref 77, .int p] g mi ml (nI (wantN P p)) mi := by
  refine cI_of (by decide +kernel) (Nat.le_of_ble_eq_true rfl) ?_
  have hC8 := hP.1
  have hG8 := hP.2.1
  have h256 := p8 hP.1
  refine X_iconst (v := nI 0) dX4_takersAt_0 (by decide) ?_
  refine X_istore_n dX4_takersAt_1 (by decide) ?_
  refine X_iconst (v := nI 0) dX4_takersAt_2 (by decide) ?_
  refine X_istore_n dX4_takersAt_3 (by decide) ?_
  refine X_L [(3, .int (nI 0)), (2, .int (nI 0)), (0, .ref 77), (1, .int p)] ⟨rfl, rfl, rfl, rfl, trivial⟩ ?_
  refine X_for2 (σ := Unit) 4 (fun i x => [(3, .int (nI i)), (2, .int (nI (cN (fun b => anB (fun c => decide (p ≤ vP P b c)) P.1) i))), (0, .ref 77), (1, .int p)]) (fun x => mi) (fun x => ml) (fun _ x => x) (fun _ _ => True) P.2.1 ?_ P.2.1 0 () (by first | omega | (have := cN_le (fun b => anB (fun c => decide (p ≤ vP P b c)) P.1) i; omega)) trivial ?_
  · intro i x hi hI
    have hbo : p ≤ boN (fun c => mi 78 (i * 9 + c)) P.1 ↔ anB (fun c => decide (p ≤ vP P i c)) P.1 = true := by rw [boN_an hp, anB_eq (fun c hcc => by rw [hv i hi c hcc])]
    refine ⟨trivial, fun hn => ?_⟩
    refine X_iload_n dX4_takersAt_4 rfl ?_
    refine X_aload_n dX4_takersAt_5 rfl ?_
    refine X_getr (a := 3) dX4_takersAt_6 fkX4_21 rfl (k_77 hSh) (r_77_0 hSh) ?_
    refine X_geti dX4_takersAt_9 fkX4_29 rfl (k_3 hSh) ?_
    rw [hc.2.1]
    refine X_icmp_geN (a := i) (b := P.2.1) 33 dX4_takersAt_12 (by decide) (by first | omega | (have := cN_le (fun b => anB (fun c => decide (p ≤ vP P b c)) P.1) i; omega)) (by first | omega | (have := cN_le (fun b => anB (fun c => decide (p ≤ vP P b c)) P.1) i; omega)) (fun h_1 => ?_) (fun h_1 => ?_)
    · exact absurd hi (by omega)
    · refine X_aload_n dX4_takersAt_15 rfl ?_
      refine X_iload_n dX4_takersAt_16 rfl ?_
      refine X_callVI dX4_takersAt_17 mkX4_65 (k_77 hSh) (c_bestOf Γ g mi ml hSh P.1 hc.1 hP.1 i (by omega)) rfl rfl (by decide) (Nat.le_of_ble_eq_true rfl) ?_
      refine X_iload_n dX4_takersAt_20 rfl ?_
      refine X_icmp_lt 27 dX4_takersAt_21 (by decide) (fun h_2 => ?_) (fun h_2 => ?_)
      · refine X_iinc (v := nI (i + 1)) dX4_takersAt_27 rfl (nI_1 _) (by decide) ?_
        refine X_goto 4 dX4_takersAt_30 (by decide) ?_
        refine X_L [(3, .int (nI (i + 1))), (2, .int (nI (cN (fun b => anB (fun c => decide (p ≤ vP P b c)) P.1) i))), (0, .ref 77), (1, .int p)] ⟨rfl, rfl, rfl, rfl, trivial⟩ ?_
        rw [show cN (fun b => anB (fun c => decide (p ≤ vP P b c)) P.1) (i + 1) = cN (fun b => anB (fun c => decide (p ≤ vP P b c)) P.1) i from congrArg (cN (fun b => anB (fun c => decide (p ≤ vP P b c)) P.1) i + ·) (if_neg (fun q => absurd (hbo.mpr q) (Int32.not_le.mpr (by assumption))))] at hn
        exact hn
      · refine X_iinc (v := nI (cN (fun b => anB (fun c => decide (p ≤ vP P b c)) P.1) i + 1)) dX4_takersAt_24 rfl (nI_1 _) (by decide) ?_
        refine X_iinc (v := nI (i + 1)) dX4_takersAt_27 rfl (nI_1 _) (by decide) ?_
        refine X_goto 4 dX4_takersAt_30 (by decide) ?_
        refine X_L [(3, .int (nI (i + 1))), (2, .int (nI (cN (fun b => anB (fun c => decide (p ≤ vP P b c)) P.1) i + 1))), (0, .ref 77), (1, .int p)] ⟨rfl, rfl, rfl, rfl, trivial⟩ ?_
        rw [show cN (fun b => anB (fun c => decide (p ≤ vP P b c)) P.1) (i + 1) = cN (fun b => anB (fun c => decide (p ≤ vP P b c)) P.1) i + 1 from congrArg (cN (fun b => anB (fun c => decide (p ≤ vP P b c)) P.1) i + ·) (if_pos (hbo.mp (Int32.not_lt.mp (by assumption))))] at hn
        exact hn
  · intro x hI
    refine X_iload_n dX4_takersAt_4 rfl ?_
    refine X_aload_n dX4_takersAt_5 rfl ?_
    refine X_getr (a := 3) dX4_takersAt_6 fkX4_21 rfl (k_77 hSh) (r_77_0 hSh) ?_
    refine X_geti dX4_takersAt_9 fkX4_29 rfl (k_3 hSh) ?_
    rw [hc.2.1]
    refine X_icmp_geN (a := P.2.1) (b := P.2.1) 33 dX4_takersAt_12 (by decide) (by first | omega | (have := cN_le (fun b => anB (fun c => decide (p ≤ vP P b c)) P.1) i; omega)) (by first | omega | (have := cN_le (fun b => anB (fun c => decide (p ≤ vP P b c)) P.1) i; omega)) (fun h_3 => ?_) (fun h_3 => ?_)
    · refine X_iload_n dX4_takersAt_33 rfl ?_
      exact X_iret dX4_takersAt_34 rfl ⟨by rfl, rfl, rfl, rfl⟩
    · exact absurd h_3 (by omega)
set_option maxRecDepth 100000 in
set_option maxHeartbeats 4000000 in
theorem c_mostWith (Γ : pTG) (g : pGG) (mi : pMI) (ml : pML) (hSh : Sh g) (P : PD) (hP : okPD P) (hc : clP mi P) (hv : vlG P mi) (a b : Int32) : rI Γ 2 mX4_mostWith [.ref 77, .int a, .int b] g mi ml (fun v m l => v = gtR (vQ P a b) P.2.1 (P.1 + 1) P.2.1 0 ∧ frM mi m ∧ vlG P m ∧ l = ml) := by
  refine rI_of (by decide +kernel) (Nat.le_of_ble_eq_true rfl) ?_
  have hC8 := hP.1
  have hG8 := hP.2.1
  have h256 := p8 hP.1
  have h512 := p9 (show P.1 + 1 ≤ 9 by omega)
  refine X_aload_n dX4_mostWith_0 rfl ?_
  refine X_getr (a := 3) dX4_mostWith_1 fkX4_21 rfl (k_77 hSh) (r_77_0 hSh) ?_
  refine X_geti dX4_mostWith_4 fkX4_35 rfl (k_3 hSh) ?_
  rw [hc.1]
  refine X_iconst (v := nI 1) dX4_mostWith_7 (by decide) ?_
  refine X_iadd dX4_mostWith_8 ?_
  refine X_topi (nI_add P.1 1) ?_
  refine X_istore_n dX4_mostWith_9 (by decide) ?_
  refine X_iconst (v := nI 1) dX4_mostWith_10 (by decide) ?_
  refine X_iload_n dX4_mostWith_11 rfl ?_
  refine X_ishl dX4_mostWith_12 ?_
  refine X_topi (nb_sh (P.1 + 1) (by omega)) ?_
  refine X_istore dX4_mostWith_13 (by decide) ?_
  refine X_iconst (v := nI 0) dX4_mostWith_15 (by decide) ?_
  refine X_istore dX4_mostWith_16 (by decide) ?_
  refine X_L [(5, .int (nI 0)), (4, .int (nI (2 ^ (P.1 + 1)))), (3, .int (nI (P.1 + 1))), (0, .ref 77), (1, .int a), (2, .int b)] ⟨rfl, rfl, rfl, rfl, rfl, rfl, trivial⟩ ?_
  refine X_forR (σ := pMI) 18 (fun j z => [(5, .int (nI j)), (4, .int (nI (2 ^ (P.1 + 1)))), (3, .int (nI (P.1 + 1))), (0, .ref 77), (1, .int a), (2, .int b)]) (fun z => z) (fun z => ml) (fun j z => frM mi z ∧ vlG P z ∧ ∀ q, q < j → z 79 q = nI 0) (2 ^ (P.1 + 1)) ?_ ?_ (2 ^ (P.1 + 1)) 0 mi (by omega) ⟨fun _ _ _ => rfl, hv, fun q hq => absurd hq (by omega)⟩
  · intro j z hj hJ hn2
    refine X_iload dX4_mostWith_18 rfl ?_
    refine X_iload dX4_mostWith_20 rfl ?_
    refine X_icmp_geN (a := j) (b := 2 ^ (P.1 + 1)) 39 dX4_mostWith_22 (by decide) (by omega) (by omega) (fun h_1 => ?_) (fun h_1 => ?_)
    · exact absurd hj (by omega)
    · refine X_aload_n dX4_mostWith_25 rfl ?_
      refine X_getr (a := 79) dX4_mostWith_26 fkX4_15 rfl (k_77 hSh) (r_77_2 hSh) ?_
      refine X_iload dX4_mostWith_29 rfl ?_
      refine X_iconst (v := nI 0) dX4_mostWith_31 (by decide) ?_
      refine X_iast j dX4_mostWith_32 (k_79 hSh) rfl (by omega) ?_
      refine X_iinc (v := nI (j + 1)) dX4_mostWith_33 rfl (nI_1 _) (by decide) ?_
      refine X_goto 18 dX4_mostWith_36 (by decide) ?_
      refine X_L [(5, .int (nI (j + 1))), (4, .int (nI (2 ^ (P.1 + 1)))), (3, .int (nI (P.1 + 1))), (0, .ref 77), (1, .int a), (2, .int b)] ⟨rfl, rfl, rfl, rfl, rfl, rfl, trivial⟩ ?_
      refine hn2 _ ⟨frM_u hJ.1 (by omega), fun b hb c hcc => by rw [up2_row (by omega)]; exact hJ.2.1 b hb c hcc, fun q hq => ?_⟩
      by_cases hz : q = j
      · subst hz; exact up2_s
      · rw [up2_n (by omega)]; exact hJ.2.2 q (by omega)
  · intro z hJ
    have hcy := frG_cl (frM_G hJ.1) hc
    refine X_iload dX4_mostWith_18 rfl ?_
    refine X_iload dX4_mostWith_20 rfl ?_
    refine X_icmp_geN (a := 2 ^ (P.1 + 1)) (b := 2 ^ (P.1 + 1)) 39 dX4_mostWith_22 (by decide) (by omega) (by omega) (fun h_2 => ?_) (fun h_2 => ?_)
    · refine X_aload_n dX4_mostWith_39 rfl ?_
      refine X_getr (a := 3) dX4_mostWith_40 fkX4_21 rfl (k_77 hSh) (r_77_0 hSh) ?_
      refine X_geti dX4_mostWith_43 fkX4_29 rfl (k_3 hSh) ?_
      rw [hcy.2.1]
      refine X_iconst (v := nI 1) dX4_mostWith_46 (by decide) ?_
      refine X_isub dX4_mostWith_47 ?_
      refine X_topi dn_0 ?_
      refine X_istore dX4_mostWith_48 (by decide) ?_
      refine X_L [(5, .int (dnI P.2.1 0)), (4, .int (nI (2 ^ (P.1 + 1)))), (3, .int (nI (P.1 + 1))), (0, .ref 77), (1, .int a), (2, .int b)] ⟨rfl, rfl, rfl, rfl, rfl, rfl, trivial⟩ ?_
      refine X_forR (σ := pMI) 50 (fun i y => [(5, .int (dnI P.2.1 i)), (4, .int (nI (2 ^ (P.1 + 1)))), (3, .int (nI (P.1 + 1))), (0, .ref 77), (1, .int a), (2, .int b)]) (fun y => y) (fun y => ml) (fun i y => frM mi y ∧ vlG P y ∧ ∀ q, q < 2 ^ (P.1 + 1) → y 79 q = gtR (vQ P a b) P.2.1 (P.1 + 1) i q) P.2.1 ?_ ?_ P.2.1 0 z (by omega) ⟨hJ.1, hJ.2.1, hJ.2.2⟩
      · intro i y hi hI hn
        have hcy := frG_cl (frM_G hI.1) hc
        refine X_L [(5, .int (nI (P.2.1 - 1 - i))), (4, .int (nI (2 ^ (P.1 + 1)))), (3, .int (nI (P.1 + 1))), (0, .ref 77), (1, .int a), (2, .int b)] ⟨by rw [← dn_i hi]; rfl, rfl, rfl, rfl, rfl, rfl, trivial⟩ ?_
        refine X_iload dX4_mostWith_50 rfl ?_
        refine X_if_ltN (a := P.2.1 - 1 - i) 137 dX4_mostWith_52 (by decide) (by omega) (fun h_3 => ?_) (fun h_3 => ?_)
        · exact False.elim h_3
        · refine X_aload_n dX4_mostWith_55 rfl ?_
          refine X_getr (a := 78) dX4_mostWith_56 fkX4_11 rfl (k_77 hSh) (r_77_1 hSh) ?_
          refine X_iload dX4_mostWith_59 rfl ?_
          refine X_bipush (v := nI 9) dX4_mostWith_61 (by decide) ?_
          refine X_imul dX4_mostWith_63 ?_
          refine X_topi (pk_mul (P.2.1 - 1 - i) 9) ?_
          refine X_aload_n dX4_mostWith_64 rfl ?_
          refine X_getr (a := 3) dX4_mostWith_65 fkX4_21 rfl (k_77 hSh) (r_77_0 hSh) ?_
          refine X_geti dX4_mostWith_68 fkX4_35 rfl (k_3 hSh) ?_
          rw [hcy.1]
          refine X_iadd dX4_mostWith_71 ?_
          refine X_topi (nI_add ((P.2.1 - 1 - i) * 9) P.1) ?_
          refine X_iload_n dX4_mostWith_72 rfl ?_
          refine X_iload_n dX4_mostWith_73 rfl ?_
          refine X_aload_n dX4_mostWith_74 rfl ?_
          refine X_getr (a := 3) dX4_mostWith_75 fkX4_21 rfl (k_77 hSh) (r_77_0 hSh) ?_
          refine X_getr (a := 7) dX4_mostWith_78 fkX4_56 rfl (k_3 hSh) (r_3_3 hSh) ?_
          refine X_iload dX4_mostWith_81 rfl ?_
          refine X_iald (P.2.1 - 1 - i) dX4_mostWith_83 (k_7 hSh) rfl (by omega) ?_
          rw [(hcy.2.2.2.2.2.2 (P.2.1 - 1 - i) (by omega)).2.1]
          refine X_aload_n dX4_mostWith_84 rfl ?_
          refine X_getr (a := 3) dX4_mostWith_85 fkX4_21 rfl (k_77 hSh) (r_77_0 hSh) ?_
          refine X_getr (a := 8) dX4_mostWith_88 fkX4_59 rfl (k_3 hSh) (r_3_4 hSh) ?_
          refine X_iload dX4_mostWith_91 rfl ?_
          refine X_iald (P.2.1 - 1 - i) dX4_mostWith_93 (k_8 hSh) rfl (by omega) ?_
          rw [(hcy.2.2.2.2.2.2 (P.2.1 - 1 - i) (by omega)).2.2.1]
          refine X_callSI dX4_mostWith_94 mkX4_62 (c_stretch Γ g y ml a b (P.2.2.2.2.2.2 (P.2.1 - 1 - i) 1) (P.2.2.2.2.2.2 (P.2.1 - 1 - i) 2) (by have := hP.2.2.2.2.2.2.2 (P.2.1 - 1 - i) (by omega); omega) (by have := hP.2.2.2.2.2.2.2 (P.2.1 - 1 - i) (by omega); omega)) rfl rfl (by decide) (Nat.le_of_ble_eq_true rfl) ?_
          refine X_iast (((P.2.1 - 1 - i) * 9) + P.1) dX4_mostWith_97 (k_78 hSh) rfl (by omega) ?_
          refine X_iconst (v := nI 0) dX4_mostWith_98 (by decide) ?_
          refine X_istore dX4_mostWith_99 (by decide) ?_
          refine X_L [(6, .int (nI 0)), (5, .int (nI (P.2.1 - 1 - i))), (4, .int (nI (2 ^ (P.1 + 1)))), (3, .int (nI (P.1 + 1))), (0, .ref 77), (1, .int a), (2, .int b)] ⟨rfl, rfl, rfl, rfl, rfl, rfl, rfl, trivial⟩ ?_
          refine X_forR (σ := pMI) 101 (fun j z => [(6, .int (nI j)), (5, .int (nI (P.2.1 - 1 - i))), (4, .int (nI (2 ^ (P.1 + 1)))), (3, .int (nI (P.1 + 1))), (0, .ref 77), (1, .int a), (2, .int b)]) (fun z => z) (fun z => ml) (fun j z => frM mi z ∧ vlG P z ∧ z 78 ((P.2.1 - 1 - i) * 9 + P.1) = vQ P a b (P.2.1 - 1 - i) P.1 ∧ (∀ q, q < j → z 79 q = gtR (vQ P a b) P.2.1 (P.1 + 1) (i + 1) q) ∧ ∀ q, j ≤ q → q < 2 ^ (P.1 + 1) → z 79 q = gtR (vQ P a b) P.2.1 (P.1 + 1) i q) (2 ^ (P.1 + 1)) ?_ ?_ (2 ^ (P.1 + 1)) 0 ((up2 y 78 (((P.2.1 - 1 - i) * 9) + P.1) (sW a b (P.2.2.2.2.2.2 (P.2.1 - 1 - i) 1) (P.2.2.2.2.2.2 (P.2.1 - 1 - i) 2)))) (by omega) ⟨frM_u hI.1 (by omega), fun b hb c hcc => by rw [up2_n (by omega)]; exact hI.2.1 b hb c hcc, by rw [up2_s]; unfold vQ; rw [if_neg (by omega)], fun q hq => absurd hq (by omega), fun q _ hq => by rw [up2_row (by omega)]; exact hI.2.2 q hq⟩
          · intro j z hj hJ hn2
            have hcz := frG_cl (frM_G hJ.1) hc
            have hbf : bfN (fun c => z 78 ((P.2.1 - 1 - i) * 9 + c)) (fun k => z 79 (0 + k)) j (P.1 + 1) = gtR (vQ P a b) P.2.1 (P.1 + 1) (i + 1) j := by
              have e1 := bfN_eq2 (V := fun c => z 78 ((P.2.1 - 1 - i) * 9 + c)) (W := vQ P a b (P.2.1 - (i + 1))) (R := fun k => z 79 (0 + k)) (S := gtR (vQ P a b) P.2.1 (P.1 + 1) i) (gone := j) (by rw [Nat.zero_add]; exact hJ.2.2.2.2 j (Nat.le_refl _) hj) (P.1 + 1) (fun c hcc => ?_) (fun q hq => by rw [Nat.zero_add]; exact hJ.2.2.2.2 _ Nat.left_le_or (or_lt hj hq))
              · exact e1
              · rw [show P.2.1 - (i + 1) = P.2.1 - 1 - i by omega]
                by_cases h9 : c = P.1
                · subst h9; exact hJ.2.2.1
                · unfold vQ; rw [if_pos (by omega)]; exact hJ.2.1 _ (by omega) c (by omega)
            refine X_iload dX4_mostWith_101 rfl ?_
            refine X_iload dX4_mostWith_103 rfl ?_
            refine X_icmp_geN (a := j) (b := 2 ^ (P.1 + 1)) 131 dX4_mostWith_105 (by decide) (by omega) (by omega) (fun h_4 => ?_) (fun h_4 => ?_)
            · exact absurd hj (by omega)
            · refine X_aload_n dX4_mostWith_108 rfl ?_
              refine X_getr (a := 79) dX4_mostWith_109 fkX4_15 rfl (k_77 hSh) (r_77_2 hSh) ?_
              refine X_iload dX4_mostWith_112 rfl ?_
              refine X_aload_n dX4_mostWith_114 rfl ?_
              refine X_iload dX4_mostWith_115 rfl ?_
              refine X_iload dX4_mostWith_117 rfl ?_
              refine X_iconst (v := nI 0) dX4_mostWith_119 (by decide) ?_
              refine X_iload_n dX4_mostWith_120 rfl ?_
              refine X_callVI dX4_mostWith_121 mkX4_42 (k_77 hSh) (c_bestFrom Γ g z ml hSh (P.2.1 - 1 - i) j 0 (P.1 + 1) (by omega) (by omega) hj (by omega)) rfl rfl (by decide) (Nat.le_of_ble_eq_true rfl) ?_
              refine X_topi hbf ?_
              refine X_iast j dX4_mostWith_124 (k_79 hSh) rfl (by omega) ?_
              refine X_iinc (v := nI (j + 1)) dX4_mostWith_125 rfl (nI_1 _) (by decide) ?_
              refine X_goto 101 dX4_mostWith_128 (by decide) ?_
              refine X_L [(6, .int (nI (j + 1))), (5, .int (nI (P.2.1 - 1 - i))), (4, .int (nI (2 ^ (P.1 + 1)))), (3, .int (nI (P.1 + 1))), (0, .ref 77), (1, .int a), (2, .int b)] ⟨rfl, rfl, rfl, rfl, rfl, rfl, rfl, trivial⟩ ?_
              refine hn2 _ ⟨frM_u hJ.1 (by omega), fun b hb c hcc => by rw [up2_row (by omega)]; exact hJ.2.1 b hb c hcc, by rw [up2_row (by omega)]; exact hJ.2.2.1, fun q hq => ?_, fun q hq hq2 => by rw [up2_n (by omega)]; exact hJ.2.2.2.2 q (by omega) hq2⟩
              by_cases hz : q = j
              · subst hz; exact up2_s
              · rw [up2_n (by omega)]; exact hJ.2.2.2.1 q (by omega)
          · intro z hJ
            have hcz := frG_cl (frM_G hJ.1) hc
            have hK : frM mi z ∧ vlG P z ∧ ∀ q, q < 2 ^ (P.1 + 1) → z 79 q = gtR (vQ P a b) P.2.1 (P.1 + 1) (i + 1) q := ⟨hJ.1, hJ.2.1, hJ.2.2.2.1⟩
            refine X_iload dX4_mostWith_101 rfl ?_
            refine X_iload dX4_mostWith_103 rfl ?_
            refine X_icmp_geN (a := 2 ^ (P.1 + 1)) (b := 2 ^ (P.1 + 1)) 131 dX4_mostWith_105 (by decide) (by omega) (by omega) (fun h_5 => ?_) (fun h_5 => ?_)
            · refine X_iinc dX4_mostWith_131 rfl rfl (by decide) ?_
              refine X_goto 50 dX4_mostWith_134 (by decide) ?_
              refine X_L [(5, .int ((nI (P.2.1 - 1 - i)) + Int32.ofInt (-1))), (4, .int (nI (2 ^ (P.1 + 1)))), (3, .int (nI (P.1 + 1))), (0, .ref 77), (1, .int a), (2, .int b)] ⟨rfl, rfl, rfl, rfl, rfl, rfl, trivial⟩ ?_
              refine X_L [(5, .int (dnI P.2.1 (i + 1))), (4, .int (nI (2 ^ (P.1 + 1)))), (3, .int (nI (P.1 + 1))), (0, .ref 77), (1, .int a), (2, .int b)] ⟨by rw [← dn_s hi]; rfl, rfl, rfl, rfl, rfl, rfl, trivial⟩ ?_
              exact hn _ hK
            · exact absurd h_5 (by omega)
      · intro y hI
        have hcy := frG_cl (frM_G hI.1) hc
        refine X_L [(5, .int (-1)), (4, .int (nI (2 ^ (P.1 + 1)))), (3, .int (nI (P.1 + 1))), (0, .ref 77), (1, .int a), (2, .int b)] ⟨by rw [← dn_e (n := P.2.1)]; rfl, rfl, rfl, rfl, rfl, rfl, trivial⟩ ?_
        have h790 : y 79 0 = gtR (vQ P a b) P.2.1 (P.1 + 1) P.2.1 0 := hI.2.2 0 (Nat.pow_pos (by omega))
        refine X_iload dX4_mostWith_50 rfl ?_
        refine X_if_lt 137 dX4_mostWith_52 (by decide) (fun h_6 => ?_) (fun h_6 => ?_)
        · refine X_aload_n dX4_mostWith_137 rfl ?_
          refine X_getr (a := 79) dX4_mostWith_138 fkX4_15 rfl (k_77 hSh) (r_77_2 hSh) ?_
          refine X_iconst (v := nI 0) dX4_mostWith_141 (by decide) ?_
          refine X_iald 0 dX4_mostWith_142 (k_79 hSh) rfl (by omega) ?_
          rw [h790]
          exact X_iret dX4_mostWith_143 rfl ⟨rfl, _, rfl, rfl, hI.1, hI.2.1, rfl⟩
        · exact absurd (by decide : (-1 : Int32) < 0) h_6
    · exact absurd h_2 (by omega)

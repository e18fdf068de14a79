/-! ===== turns ===== -/
def tuP (x nG b c : Nat) : Bool := decide ((x + c) % nG = b)
def TU (nC nG k b : Nat) : Nat := cN (fun t => anB (tuP (t * nC) nG b) nC) k
theorem tu_z {nG c : Nat} (h0 : 0 < nG) : (c % nG) < nG ∧ c % nG ≤ c := ⟨Nat.mod_lt _ h0, Nat.mod_le _ _⟩
theorem tu_d {x nG c c' : Nat} (hc : c < c') (hc' : c' < nG) : (x + c) % nG ≠ (x + c') % nG := fun h => by
  have h1 := Nat.div_add_mod (x + c) nG
  have h2 := Nat.div_add_mod (x + c') nG
  by_cases q : (x + c') / nG ≤ (x + c) / nG
  · have := Nat.mul_le_mul_left nG q; omega
  · have := Nat.mul_le_mul_left nG (show (x + c) / nG + 1 ≤ (x + c') / nG by omega)
    rw [Nat.mul_add] at this
    omega
theorem tu_min {x nG nC b : Nat} (h0 : 0 < nG) : anB (tuP x nG b) (min nC nG) = anB (tuP x nG b) nC := by
  cases h : anB (tuP x nG b) (min nC nG) with
  | true =>
    cases h2 : anB (tuP x nG b) nC with
    | true => rfl
    | false => rw [anB_f.mpr (fun c hc => anB_f.mp h2 c (by omega))] at h; cases h
  | false =>
    refine (anB_f.mpr (fun c hc => ?_)).symm
    have hz := tu_z (c := c) h0
    have := anB_f.mp h (c % nG) (by omega)
    unfold tuP at this ⊢
    rw [← this]
    congr 1
    rw [Nat.add_mod x (c % nG), Nat.mod_mod, ← Nat.add_mod]
theorem tu_in {m y : pMI} {R nG x j : Nat} {f : Nat → Nat} (h8 : nG ≤ 8) (hj : j < nG) (hy : y = fillR m R 8 (fun b => nI (f b + (anB (tuP x nG b) j).toNat))) : y R ((x + j) % nG) = nI (f ((x + j) % nG)) ∧ up2 y R ((x + j) % nG) (nI (f ((x + j) % nG) + 1)) = fillR m R 8 (fun b => nI (f b + (anB (tuP x nG b) (j + 1)).toNat)) := by
  have hr : (x + j) % nG < 8 := by have := Nat.mod_lt (x + j) (show 0 < nG by omega); omega
  have hno : anB (tuP x nG ((x + j) % nG)) j = false := anB_f.mpr (fun c hc => decide_eq_false (tu_d hc hj))
  subst hy
  refine ⟨(fill_at hr).trans (by rw [hno]; rfl), ?_⟩
  funext i k
  unfold up2 fillR
  by_cases hi : i = R
  · by_cases hk : k = (x + j) % nG
    · rw [if_pos ⟨hi, hk⟩, if_pos ⟨hi, by omega⟩, hk]
      show nI _ = nI (f _ + (anB _ j || _).toNat)
      rw [hno, show tuP x nG ((x + j) % nG) j = true from decide_eq_true rfl]
      rfl
    · rw [if_neg (fun z => hk z.2)]
      by_cases h9 : k < 8
      · rw [if_pos ⟨hi, h9⟩, if_pos ⟨hi, h9⟩]
        show nI _ = nI (f k + (anB (tuP x nG k) j || tuP x nG k j).toNat)
        rw [show tuP x nG k j = false from decide_eq_false (fun z => hk z.symm), Bool.or_false]
      · rw [if_neg (fun z => h9 z.2), if_neg (fun z => h9 z.2)]
  · rw [if_neg (fun z => hi z.1), if_neg (fun z => hi z.1), if_neg (fun z => hi z.1)]
theorem tu_g {m z : pMI} {R j : Nat} {f h : Nat → Nat} (hj : j < 8) (hz : z = fillR m R 8 (fun b => nI (if b < j then h b else f b))) : z R j = nI (f j) ∧ up2 z R j (nI (h j)) = fillR m R 8 (fun b => nI (if b < j + 1 then h b else f b)) := by
  subst hz
  refine ⟨(fill_at hj).trans (by rw [if_neg (by omega)]), ?_⟩
  funext a b
  unfold up2 fillR
  dsimp only
  by_cases qa : a = R
  · by_cases qb : b = j
    · rw [if_pos ⟨qa, qb⟩, if_pos ⟨qa, by omega⟩, if_pos (by omega), qb]
    · rw [if_neg (fun q => qb q.2)]
      by_cases q8 : b < 8
      · rw [if_pos (show a = R ∧ b < 8 from ⟨qa, q8⟩), if_pos (show a = R ∧ b < 8 from ⟨qa, q8⟩)]
        by_cases q7 : b < j
        · rw [if_pos q7, if_pos (by omega)]
        · rw [if_neg q7, if_neg (by omega)]
      · rw [if_neg (fun q => q8 q.2), if_neg (fun q => q8 q.2)]
  · rw [if_neg (fun q => qa q.1), if_neg (fun q => qa q.1), if_neg (fun q => qa q.1)]
theorem tu_gE {m z : pMI} {R nG : Nat} {f h : Nat → Nat} (hh : ∀ b, nG ≤ b → h b = f b) (hz : z = fillR m R 8 (fun b => nI (if b < nG then h b else f b))) : z = fillR m R 8 (fun b => nI (h b)) := by
  rw [hz]
  congr 1
  funext b
  by_cases q : b < nG
  · rw [if_pos q]
  · rw [if_neg q, hh b (by omega)]
theorem tu_f {m : pMI} {R : Nat} {f h : Nat → Nat} : fillR m R 8 (fun b => nI (f b)) = fillR m R 8 (fun b => nI (if b < 0 then h b else f b)) := rfl
theorem cN_s (p : Nat → Bool) (n : Nat) : cN p (n + 1) = cN p n + (p n).toNat := by
  show cN p n + _ = _
  cases p n <;> rfl
theorem TU_s {nC nG k b : Nat} : TU nC nG (k + 1) b = TU nC nG k b + (anB (tuP (k * nC) nG b) nC).toNat := cN_s _ _
theorem TU_b {nC nG i b : Nat} (h0 : 0 < nG) (hb : nG ≤ b) : TU nC nG (i + 1) b = TU nC nG i b := by
  rw [TU_s, show anB (tuP (i * nC) nG b) nC = false from anB_f.mpr (fun c _ => decide_eq_false (by have := Nat.mod_lt (i * nC + c) h0; omega))]
  rfl
def mxF (f : Nat → Nat) : Nat → Nat
  | 0 => f 0
  | n + 1 => max (mxF f n) (f n)
def mnF (f : Nat → Nat) : Nat → Nat
  | 0 => f 0
  | n + 1 => min (mnF f n) (f n)
theorem mxF_1 (f : Nat → Nat) : mxF f 1 = f 0 := Nat.max_self _
theorem mnF_1 (f : Nat → Nat) : mnF f 1 = f 0 := Nat.min_self _
theorem mxF_le {f : Nat → Nat} {k : Nat} (h : ∀ b, f b ≤ k) : ∀ n, mxF f n ≤ k
  | 0 => h 0
  | n + 1 => Nat.max_le.mpr ⟨mxF_le h n, h n⟩
theorem mnF_le {f : Nat → Nat} {k : Nat} (h : ∀ b, f b ≤ k) : ∀ n, mnF f n ≤ k
  | 0 => h 0
  | n + 1 => Nat.le_trans (Nat.min_le_right _ _) (h n)
theorem TU_le {nC nG k : Nat} (b : Nat) : TU nC nG k b ≤ k := cN_le _ _
theorem nI_lsJ {a b : Nat} (ha : a < 2147483648) (hb : b < 2147483648) : (if nI a < nI b then nI a else nI b) = nI (min a b) := by
  by_cases h : a < b
  · rw [if_pos ((nI_ltI ha hb).mpr h), Nat.min_eq_left (by omega)]
  · rw [if_neg (fun q => h ((nI_ltI ha hb).mp q)), Nat.min_eq_right (by omega)]
theorem nI_grJ {a b : Nat} (ha : a < 2147483648) (hb : b < 2147483648) : (if nI b < nI a then nI a else nI b) = nI (max a b) := by
  by_cases h : b < a
  · rw [if_pos ((nI_ltI hb ha).mpr h), Nat.max_eq_left (by omega)]
  · rw [if_neg (fun q => h ((nI_ltI hb ha).mp q)), Nat.max_eq_right (by omega)]
def tnV (A : AS) (k : Nat) : Int32 := if aG A = 0 then nI 0 else nI (mxF (TU (aP A).1 (aG A) k) (aG A)) - nI (mnF (TU (aP A).1 (aG A) k) (aG A))
theorem fill_fill {m : pMI} {a n : Nat} {v v' : Nat → Int32} : fillR (fillR m a n v) a n v' = fillR m a n v' := by
  funext i j
  unfold fillR
  by_cases h : i = a ∧ j < n
  · rw [if_pos h, if_pos h]
  · rw [if_neg h, if_neg h, if_neg h]
theorem fill_S {m : pMI} {a n : Nat} {v : Nat → Int32} (ha : scR a) : frS m (fillR m a n v) := by
  have e : ∀ i, i ≠ a → fillR m a n v i = m i := fun i hi => by funext j; exact fill_row hi
  unfold scR at ha
  exact ⟨fun i h1 h2 h3 h4 h5 h6 => e i (by rintro rfl; exact h2 ha), fun j hj => by rw [e 17 (by omega)], by rw [e 2 (by omega)], by rw [e 47 (by omega)], by rw [e 67 (by omega)]⟩
theorem fill_K {m : pMI} {a n : Nat} {v : Nat → Int32} (ha : a < 87) : frK m (fillR m a n v) := fun i h1 h2 => by funext j; exact fill_row (by omega)
theorem fill_W {m x : pMI} {a n : Nat} {v : Nat → Int32} (h : RW m x) (ha : rsR a) : RW m (fillR x a n v) := by
  have h8 : 88 ≤ a ∧ a < 450 := by unfold rsR at ha; omega
  have e : ∀ i, i ≠ a → fillR x a n v i = x i := fun i hi => by funext j; exact fill_row hi
  exact ⟨frW_t h.1 ⟨fun i h1 h2 h3 => e i (by rintro rfl; exact h3 ha), fun j hj => by rw [e 87 (by omega)]⟩, frM2_t h.2.1 (fun i hi => e i (by omega)), by rw [e 87 (by omega)]; exact h.2.2⟩
set_option maxRecDepth 100000 in
set_option maxHeartbeats 4000000 in
theorem c_clearTally (Γ : pTG) (g : pGG) (mi : pMI) (ml : pML) (hSh : Sh g)  : cV Γ 1 mX11_clearTally [.ref 0] g mi ml (fillR mi 85 8 (fun _ => nI 0)) ml := by
  refine cV_of (by decide +kernel) (Nat.le_of_ble_eq_true rfl) ?_
  refine X_iconst (v := nI 0) dX11_clearTally_0 (by decide) ?_
  refine X_istore_n dX11_clearTally_1 (by decide) ?_
  refine X_L [(1, .int (nI 0)), (0, .ref 0)] ⟨rfl, rfl, trivial⟩ ?_
  refine X_forR (σ := pMI) 2 (fun i y => [(1, .int (nI i)), (0, .ref 0)]) (fun y => y) (fun y => ml) (fun i y => y = fillR mi 85 i (fun _ => nI 0)) 8 ?_ ?_ 8 0 mi (by omega) (fill_0 _ _ _).symm
  · intro i y hi hI hn
    refine X_iload_n dX11_clearTally_2 rfl ?_
    refine X_bipush (v := nI 8) dX11_clearTally_3 (by decide) ?_
    refine X_icmp_geN (a := i) (b := 8) 21 dX11_clearTally_5 (by decide) (by omega) (by omega) (fun h_1 => ?_) (fun h_1 => ?_)
    · exact absurd hi (by omega)
    · refine X_aload_n dX11_clearTally_8 rfl ?_
      refine X_getr (a := 85) dX11_clearTally_9 fkX11_98 rfl (k_0 hSh) (r_0_14 hSh) ?_
      refine X_iload_n dX11_clearTally_12 rfl ?_
      refine X_iconst (v := nI 0) dX11_clearTally_13 (by decide) ?_
      refine X_iast i dX11_clearTally_14 (k_85 hSh) rfl (by omega) ?_
      refine X_iinc (v := nI (i + 1)) dX11_clearTally_15 rfl (nI_1 _) (by decide) ?_
      refine X_goto 2 dX11_clearTally_18 (by decide) ?_
      refine X_L [(1, .int (nI (i + 1))), (0, .ref 0)] ⟨rfl, rfl, trivial⟩ ?_
      refine hn _ ?_
      rw [hI]; exact fill_s _ _ _ _
  · intro y hI
    refine X_iload_n dX11_clearTally_2 rfl ?_
    refine X_bipush (v := nI 8) dX11_clearTally_3 (by decide) ?_
    refine X_icmp_geN (a := 8) (b := 8) 21 dX11_clearTally_5 (by decide) (by omega) (by omega) (fun h_2 => ?_) (fun h_2 => ?_)
    · exact X_vret dX11_clearTally_21 rfl ⟨rfl, rfl, hI, rfl⟩
    · exact absurd h_2 (by omega)
set_option maxRecDepth 100000 in
set_option maxHeartbeats 4000000 in
theorem k_turnsOf_f0 (Γ : pTG) (g : pGG) (mi : pMI) (ml : pML) (A : AS) (hA : okAS A) (hC : CI A g mi ml) (w : Int32) (hf : ¬ (nI 1 ≤ w ∧ w ≤ nI 99)) : CT Γ 60 20 5000 mX11_turnsOf [.ref 0, .int w] g mi ml (CQ (rfA A 1) (.inr 1) mi ml) := by
  refine CT_of (by decide +kernel) (Nat.le_of_ble_eq_true rfl) ?_
  have hSh := CI_Sh hC
  have hcl := CI_cl hC
  have hP := hA.1
  have hG8 : aG A ≤ 8 := hP.2.1
  have hC8 : (aP A).1 ≤ 8 := hP.1
  refine X_aload_n dX11_turnsOf_0 rfl ?_
  refine X_iload_n dX11_turnsOf_1 rfl ?_
  refine X_iconst (v := nI 1) dX11_turnsOf_2 (by decide) ?_
  refine X_bipush (v := nI 99) dX11_turnsOf_3 (by decide) ?_
  exact X_need dX11_turnsOf_5 mkX11_116 (k_0 hSh) (c_needWithin Γ g mi ml hSh w (nI 1) (nI 99)) rfl rfl (by decide) (by decide) (by decide) (by decide) (fun _ => ⟨rfl, CI_rf (by decide) hC, frK_86, rfl⟩) (fun h => absurd h hf)
set_option maxRecDepth 100000 in
set_option maxHeartbeats 4000000 in
theorem r_turnsOf_f0 (Γ : pTG) (g : pGG) (mi : pMI) (ml : pML) (A : AS) (hA : okAS A) (hSh : Sh g) (hR : RI A mi) (w : Int32) (hf : ¬ (nI 1 ≤ w ∧ w ≤ nI 99)) : CT Γ 60 0 0 mX12_turnsOf [.ref 87, .int w] g mi ml (RQ (rfA A 1) (.inr 1) cd1 g mi ml) := by
  refine CT_of (by decide +kernel) (Nat.le_of_ble_eq_true rfl) ?_
  have hP := hA.1
  have hG8 : aG A ≤ 8 := hP.2.1
  have hC8 : (aP A).1 ≤ 8 := hP.1
  refine X_aload_n dX12_turnsOf_0 rfl ?_
  refine X_iconst (v := nI 0) dX12_turnsOf_1 (by decide) ?_
  refine X_puti dX12_turnsOf_2 fkX12_158 rfl rfl (k_87 hSh) ?_
  refine X_aload_n dX12_turnsOf_5 rfl ?_
  refine X_iload_n dX12_turnsOf_6 rfl ?_
  refine X_iconst (v := nI 1) dX12_turnsOf_7 (by decide) ?_
  refine X_bipush (v := nI 99) dX12_turnsOf_8 (by decide) ?_
  refine X_callSI dX12_turnsOf_10 mkX12_192 (c_in Γ g (up2 mi 87 0 (nI 0)) ml w (nI 1) (nI 99)) rfl rfl (by decide) (Nat.le_of_ble_eq_true rfl) ?_
  refine X_topi (show bI (decide (nI 1 ≤ w) && decide (w ≤ nI 99)) = nI 0 from congrArg bI (show (decide (nI 1 ≤ w) && decide (w ≤ nI 99)) = false from Bool.eq_false_iff.mpr (fun q => hf (by rw [Bool.and_eq_true, decide_eq_true_eq, decide_eq_true_eq] at q; exact q)))) ?_
  refine X_if_neN (a := 0) 20 dX12_turnsOf_13 (by decide) (by omega) (fun h_1 => ?_) (fun h_1 => ?_)
  · exact absurd h_1 (by omega)
  · refine X_iconst (v := nI 1) dX12_turnsOf_16 (by decide) ?_
    refine X_goto 21 dX12_turnsOf_17 (by decide) ?_
    refine X_iconst (v := nI 1) dX12_turnsOf_21 (by decide) ?_
    refine X_iconst (v := nI 1) dX12_turnsOf_22 (by decide) ?_
    refine X_callVI dX12_turnsOf_23 mkX12_228 (k_87 hSh) (c_bad1 Γ g (up2 mi 87 0 (nI 0)) ml hSh 1 1 (by decide) (by decide) (by decide) up2_s) rfl rfl (by decide) (Nat.le_of_ble_eq_true rfl) ?_
    refine X_mi (show _ = mB mi 1 1 from rfl) ?_
    refine X_if_eqN (a := 1) 31 dX12_turnsOf_26 (by decide) (by omega) (fun h_2 => ?_) (fun h_2 => ?_)
    · exact absurd h_2 (by omega)
    · refine X_iconst (v := nI 0) dX12_turnsOf_29 (by decide) ?_
      exact X_iret dX12_turnsOf_30 rfl ⟨rfl, rfl, RI_rf hA (by decide) hR, fr2_B, _, rfl, mB_0⟩
set_option maxRecDepth 100000 in
set_option maxHeartbeats 4000000 in
theorem k_turnsOf (Γ : pTG) (g : pGG) (mi : pMI) (ml : pML) (A : AS) (hA : okAS A) (hC : CI A g mi ml) (k : Nat) (hka : 1 ≤ k) (hk : k ≤ 99) : CT Γ 60 20 5000 mX11_turnsOf [.ref 0, .int (nI k)] g mi ml (CQ A (.inl (tnV A k)) mi ml) := by
  refine CT_of (by decide +kernel) (Nat.le_of_ble_eq_true rfl) ?_
  have hSh := CI_Sh hC
  have hcl := CI_cl hC
  have hP := hA.1
  have hG8 : aG A ≤ 8 := hP.2.1
  have hC8 : (aP A).1 ≤ 8 := hP.1
  refine X_aload_n dX11_turnsOf_0 rfl ?_
  refine X_iload_n dX11_turnsOf_1 rfl ?_
  refine X_iconst (v := nI 1) dX11_turnsOf_2 (by decide) ?_
  refine X_bipush (v := nI 99) dX11_turnsOf_3 (by decide) ?_
  refine X_need dX11_turnsOf_5 mkX11_116 (k_0 hSh) (c_needWithin Γ g mi ml hSh (nI k) (nI 1) (nI 99)) rfl rfl (by decide) (by decide) (by decide) (by decide) (fun h => absurd (⟨nI_le (by omega) (by omega), nI_le (by omega) (by omega)⟩) h) (fun _ => ?_)
  refine X_aload_n dX11_turnsOf_8 rfl ?_
  refine X_getr (a := 3) dX11_turnsOf_9 fkX11_25 rfl (k_0 hSh) (r_0_2 hSh) ?_
  refine X_geti dX11_turnsOf_12 fkX11_144 rfl (k_3 hSh) ?_
  rw [hcl.2.1]
  refine X_istore_n dX11_turnsOf_15 (by decide) ?_
  refine X_iload_n dX11_turnsOf_16 rfl ?_
  refine X_if_neN (a := aG A) 22 dX11_turnsOf_17 (by decide) (by first | omega | (have q5 := hC8; omega) | (have q9 : i * (aP A).1 ≤ 99 * 8 := Nat.mul_le_mul (by omega) (by omega); have q8 := Nat.mod_lt (i * (aP A).1 + j) h00; omega)) (fun h_1 => ?_) (fun h_1 => ?_)
  · refine X_aload_n dX11_turnsOf_22 rfl ?_
    refine X_callVV dX11_turnsOf_23 mkX11_326 (k_0 hSh) (c_clearTally Γ g mi ml hSh) rfl rfl (by decide) (Nat.le_of_ble_eq_true rfl) ?_
    have h00 : 0 < aG A := by omega
    refine X_aload_n dX11_turnsOf_26 rfl ?_
    refine X_getr (a := 3) dX11_turnsOf_27 fkX11_25 rfl (k_0 hSh) (r_0_2 hSh) ?_
    refine X_geti dX11_turnsOf_30 fkX11_172 rfl (k_3 hSh) ?_
    rw [((fill_row (by omega)).trans hcl.1)]
    refine X_iload_n dX11_turnsOf_33 rfl ?_
    refine X_min dX11_turnsOf_34 mkX11_150 (by decide) (by decide) ?_
    refine X_topi (nI_minJ (a := (aP A).1) (b := aG A) (by first | omega | (have q5 := hC8; omega) | (have q9 : i * (aP A).1 ≤ 99 * 8 := Nat.mul_le_mul (by omega) (by omega); have q8 := Nat.mod_lt (i * (aP A).1 + j) h00; omega)) (by first | omega | (have q5 := hC8; omega) | (have q9 : i * (aP A).1 ≤ 99 * 8 := Nat.mul_le_mul (by omega) (by omega); have q8 := Nat.mod_lt (i * (aP A).1 + j) h00; omega))) ?_
    refine X_istore_n dX11_turnsOf_37 (by decide) ?_
    refine X_iconst (v := nI 0) dX11_turnsOf_38 (by decide) ?_
    refine X_istore dX11_turnsOf_39 (by decide) ?_
    refine X_L [(4, .int (nI 0)), (3, .int (nI (min ((aP A).1) (aG A)))), (2, .int (nI (aG A))), (0, .ref 0), (1, .int (nI k))] ⟨rfl, rfl, rfl, rfl, rfl, trivial⟩ ?_
    refine X_forR (σ := pMI) 41 (fun i y => [(4, .int (nI i)), (3, .int (nI (min (aP A).1 (aG A)))), (2, .int (nI (aG A))), (0, .ref 0), (1, .int (nI k))]) (fun y => y) (fun y => ml) (fun i y => y = fillR mi 85 8 (fun b => nI (TU (aP A).1 (aG A) i b))) k ?_ ?_ k 0 ((fillR mi 85 8 (fun _ => nI 0))) (by first | omega | (have q5 := hC8; omega) | (have q9 : i * (aP A).1 ≤ 99 * 8 := Nat.mul_le_mul (by omega) (by omega); have q8 := Nat.mod_lt (i * (aP A).1 + j) h00; omega)) rfl
    · intro i y hi hI hn
      refine X_iload dX11_turnsOf_41 rfl ?_
      refine X_iload_n dX11_turnsOf_43 rfl ?_
      refine X_icmp_geN (a := i) (b := k) 92 dX11_turnsOf_44 (by decide) (by first | omega | (have q5 := hC8; omega) | (have q9 : i * (aP A).1 ≤ 99 * 8 := Nat.mul_le_mul (by omega) (by omega); have q8 := Nat.mod_lt (i * (aP A).1 + j) h00; omega)) (by first | omega | (have q5 := hC8; omega) | (have q9 : i * (aP A).1 ≤ 99 * 8 := Nat.mul_le_mul (by omega) (by omega); have q8 := Nat.mod_lt (i * (aP A).1 + j) h00; omega)) (fun h_2 => ?_) (fun h_2 => ?_)
      · exact absurd hi (by omega)
      · refine X_iconst (v := nI 0) dX11_turnsOf_47 (by decide) ?_
        refine X_istore dX11_turnsOf_48 (by decide) ?_
        refine X_L [(5, .int (nI 0)), (4, .int (nI i)), (3, .int (nI (min (aP A).1 (aG A)))), (2, .int (nI (aG A))), (0, .ref 0), (1, .int (nI k))] ⟨rfl, rfl, rfl, rfl, rfl, rfl, trivial⟩ ?_
        refine X_forR (σ := pMI) 50 (fun j z => [(5, .int (nI j)), (4, .int (nI i)), (3, .int (nI (min (aP A).1 (aG A)))), (2, .int (nI (aG A))), (0, .ref 0), (1, .int (nI k))]) (fun z => z) (fun z => ml) (fun j z => z = fillR mi 85 8 (fun b => nI (TU (aP A).1 (aG A) i b + (anB (tuP (i * (aP A).1) (aG A) b) j).toNat))) (min (aP A).1 (aG A)) ?_ ?_ (min (aP A).1 (aG A)) 0 y (by first | omega | (have q5 := hC8; omega) | (have q9 : i * (aP A).1 ≤ 99 * 8 := Nat.mul_le_mul (by omega) (by omega); have q8 := Nat.mod_lt (i * (aP A).1 + j) h00; omega)) hI
        · intro j z hj hJ hn2
          refine X_iload dX11_turnsOf_50 rfl ?_
          refine X_iload_n dX11_turnsOf_52 rfl ?_
          refine X_icmp_geN (a := j) (b := min (aP A).1 (aG A)) 86 dX11_turnsOf_53 (by decide) (by first | omega | (have q5 := hC8; omega) | (have q9 : i * (aP A).1 ≤ 99 * 8 := Nat.mul_le_mul (by omega) (by omega); have q8 := Nat.mod_lt (i * (aP A).1 + j) h00; omega)) (by first | omega | (have q5 := hC8; omega) | (have q9 : i * (aP A).1 ≤ 99 * 8 := Nat.mul_le_mul (by omega) (by omega); have q8 := Nat.mod_lt (i * (aP A).1 + j) h00; omega)) (fun h_3 => ?_) (fun h_3 => ?_)
          · exact absurd hj (by omega)
          · refine X_aload_n dX11_turnsOf_56 rfl ?_
            refine X_getr (a := 85) dX11_turnsOf_57 fkX11_98 rfl (k_0 hSh) (r_0_14 hSh) ?_
            refine X_iload dX11_turnsOf_60 rfl ?_
            refine X_aload_n dX11_turnsOf_62 rfl ?_
            refine X_getr (a := 3) dX11_turnsOf_63 fkX11_25 rfl (k_0 hSh) (r_0_2 hSh) ?_
            refine X_geti dX11_turnsOf_66 fkX11_172 rfl (k_3 hSh) ?_
            rw [(show z 3 9 = nI (aP A).1 by rw [hJ]; exact (fill_row (by omega)).trans hcl.1)]
            refine X_imul dX11_turnsOf_69 ?_
            refine X_topi (pk_mul i ((aP A).1)) ?_
            refine X_iload dX11_turnsOf_70 rfl ?_
            refine X_iadd dX11_turnsOf_72 ?_
            refine X_topi (nI_add (i * ((aP A).1)) j) ?_
            refine X_iload_n dX11_turnsOf_73 rfl ?_
            refine X_irem dX11_turnsOf_74 (nI_ne0 (by first | omega | (have q5 := hC8; omega) | (have q9 : i * (aP A).1 ≤ 99 * 8 := Nat.mul_le_mul (by omega) (by omega); have q8 := Nat.mod_lt (i * (aP A).1 + j) h00; omega)) (by first | omega | (have q5 := hC8; omega) | (have q9 : i * (aP A).1 ≤ 99 * 8 := Nat.mul_le_mul (by omega) (by omega); have q8 := Nat.mod_lt (i * (aP A).1 + j) h00; omega))) ?_
            refine X_topi (pk_rem (a := (i * ((aP A).1)) + j) (d := aG A) (by first | omega | (have q5 := hC8; omega) | (have q9 : i * (aP A).1 ≤ 99 * 8 := Nat.mul_le_mul (by omega) (by omega); have q8 := Nat.mod_lt (i * (aP A).1 + j) h00; omega)) (by first | omega | (have q5 := hC8; omega) | (have q9 : i * (aP A).1 ≤ 99 * 8 := Nat.mul_le_mul (by omega) (by omega); have q8 := Nat.mod_lt (i * (aP A).1 + j) h00; omega)) (by first | omega | (have q5 := hC8; omega) | (have q9 : i * (aP A).1 ≤ 99 * 8 := Nat.mul_le_mul (by omega) (by omega); have q8 := Nat.mod_lt (i * (aP A).1 + j) h00; omega))) ?_
            refine X_dup2 dX11_turnsOf_75 rfl rfl ?_
            refine X_iald (((i * ((aP A).1)) + j) % (aG A)) dX11_turnsOf_76 (k_85 hSh) rfl (by first | omega | (have q5 := hC8; omega) | (have q9 : i * (aP A).1 ≤ 99 * 8 := Nat.mul_le_mul (by omega) (by omega); have q8 := Nat.mod_lt (i * (aP A).1 + j) h00; omega)) ?_
            rw [(tu_in hG8 (by omega) hJ).1]
            refine X_iconst (v := nI 1) dX11_turnsOf_77 (by decide) ?_
            refine X_iadd dX11_turnsOf_78 ?_
            refine X_topi (nI_add (TU (aP A).1 (aG A) i (((i * ((aP A).1)) + j) % (aG A))) 1) ?_
            refine X_iast (((i * ((aP A).1)) + j) % (aG A)) dX11_turnsOf_79 (k_85 hSh) rfl (by first | omega | (have q5 := hC8; omega) | (have q9 : i * (aP A).1 ≤ 99 * 8 := Nat.mul_le_mul (by omega) (by omega); have q8 := Nat.mod_lt (i * (aP A).1 + j) h00; omega)) ?_
            refine X_iinc (v := nI (j + 1)) dX11_turnsOf_80 rfl (nI_1 _) (by decide) ?_
            refine X_goto 50 dX11_turnsOf_83 (by decide) ?_
            refine X_L [(5, .int (nI (j + 1))), (4, .int (nI i)), (3, .int (nI (min (aP A).1 (aG A)))), (2, .int (nI (aG A))), (0, .ref 0), (1, .int (nI k))] ⟨rfl, rfl, rfl, rfl, rfl, rfl, trivial⟩ ?_
            exact hn2 _ (tu_in hG8 (by omega) hJ).2
        · intro z hJ
          refine X_iload dX11_turnsOf_50 rfl ?_
          refine X_iload_n dX11_turnsOf_52 rfl ?_
          refine X_icmp_geN (a := (min (aP A).1 (aG A))) (b := min (aP A).1 (aG A)) 86 dX11_turnsOf_53 (by decide) (by first | omega | (have q5 := hC8; omega) | (have q9 : i * (aP A).1 ≤ 99 * 8 := Nat.mul_le_mul (by omega) (by omega); have q8 := Nat.mod_lt (i * (aP A).1 + j) h00; omega)) (by first | omega | (have q5 := hC8; omega) | (have q9 : i * (aP A).1 ≤ 99 * 8 := Nat.mul_le_mul (by omega) (by omega); have q8 := Nat.mod_lt (i * (aP A).1 + j) h00; omega)) (fun h_4 => ?_) (fun h_4 => ?_)
          · refine X_iinc (v := nI (i + 1)) dX11_turnsOf_86 rfl (nI_1 _) (by decide) ?_
            refine X_goto 41 dX11_turnsOf_89 (by decide) ?_
            refine X_L [(4, .int (nI (i + 1))), (3, .int (nI (min (aP A).1 (aG A)))), (2, .int (nI (aG A))), (0, .ref 0), (1, .int (nI k))] ⟨rfl, rfl, rfl, rfl, rfl, trivial⟩ ?_
            refine hn z ?_
            rw [hJ]
            congr 1; funext b; rw [TU_s, tu_min h00]
          · exact absurd h_4 (by omega)
    · intro y hI
      have hI0 := hI
      have hyB : ∀ b, b < 8 → y 85 b = nI (TU (aP A).1 (aG A) k b) := fun b hb => by rw [hI]; exact fill_at hb
      refine X_iload dX11_turnsOf_41 rfl ?_
      refine X_iload_n dX11_turnsOf_43 rfl ?_
      refine X_icmp_geN (a := k) (b := k) 92 dX11_turnsOf_44 (by decide) (by first | omega | (have q5 := hC8; omega) | (have q9 : i * (aP A).1 ≤ 99 * 8 := Nat.mul_le_mul (by omega) (by omega); have q8 := Nat.mod_lt (i * (aP A).1 + j) h00; omega)) (by first | omega | (have q5 := hC8; omega) | (have q9 : i * (aP A).1 ≤ 99 * 8 := Nat.mul_le_mul (by omega) (by omega); have q8 := Nat.mod_lt (i * (aP A).1 + j) h00; omega)) (fun h_5 => ?_) (fun h_5 => ?_)
      · refine X_aload_n dX11_turnsOf_92 rfl ?_
        refine X_getr (a := 85) dX11_turnsOf_93 fkX11_98 rfl (k_0 hSh) (r_0_14 hSh) ?_
        refine X_iconst (v := nI 0) dX11_turnsOf_96 (by decide) ?_
        refine X_iald 0 dX11_turnsOf_97 (k_85 hSh) rfl (by first | omega | (have q5 := hC8; omega) | (have q9 : i * (aP A).1 ≤ 99 * 8 := Nat.mul_le_mul (by omega) (by omega); have q8 := Nat.mod_lt (i * (aP A).1 + j) h00; omega)) ?_
        rw [(hyB 0 (by omega))]
        refine X_istore dX11_turnsOf_98 (by decide) ?_
        refine X_aload_n dX11_turnsOf_100 rfl ?_
        refine X_getr (a := 85) dX11_turnsOf_101 fkX11_98 rfl (k_0 hSh) (r_0_14 hSh) ?_
        refine X_iconst (v := nI 0) dX11_turnsOf_104 (by decide) ?_
        refine X_iald 0 dX11_turnsOf_105 (k_85 hSh) rfl (by first | omega | (have q5 := hC8; omega) | (have q9 : i * (aP A).1 ≤ 99 * 8 := Nat.mul_le_mul (by omega) (by omega); have q8 := Nat.mod_lt (i * (aP A).1 + j) h00; omega)) ?_
        rw [(hyB 0 (by omega))]
        refine X_istore dX11_turnsOf_106 (by decide) ?_
        refine X_iconst (v := nI 1) dX11_turnsOf_108 (by decide) ?_
        refine X_istore dX11_turnsOf_109 (by decide) ?_
        refine X_L [(6, .int (nI 1)), (5, .int (nI (mnF (TU (aP A).1 (aG A) k) 1))), (4, .int (nI (mxF (TU (aP A).1 (aG A) k) 1))), (3, .int (nI (min (aP A).1 (aG A)))), (2, .int (nI (aG A))), (0, .ref 0), (1, .int (nI k))] ⟨rfl, (by rw [mnF_1]; rfl), (by rw [mxF_1]; rfl), rfl, rfl, rfl, rfl, trivial⟩ ?_
        refine X_L [(6, .int (nI 1)), (5, .int (nI (mnF (TU (aP A).1 (aG A) k) 1))), (4, .int (nI (mxF (TU (aP A).1 (aG A) k) 1))), (3, .int (nI (min (aP A).1 (aG A)))), (2, .int (nI (aG A))), (0, .ref 0), (1, .int (nI k))] ⟨rfl, rfl, rfl, rfl, rfl, rfl, rfl, trivial⟩ ?_
        refine X_forR (σ := Unit) 111 (fun i u => [(6, .int (nI i)), (5, .int (nI (mnF (TU (aP A).1 (aG A) k) i))), (4, .int (nI (mxF (TU (aP A).1 (aG A) k) i))), (3, .int (nI (min (aP A).1 (aG A)))), (2, .int (nI (aG A))), (0, .ref 0), (1, .int (nI k))]) (fun u => y) (fun u => ml) (fun i u => 1 ≤ i) (aG A) ?_ ?_ (aG A - 1) 1 (()) (by first | omega | (have q1 := mxF_le (f := (TU (aP A).1 (aG A) k)) TU_le i; have q2 := mnF_le (f := (TU (aP A).1 (aG A) k)) TU_le i; have q3 := TU_le (nC := (aP A).1) (nG := aG A) (k := k) i; omega)) (Nat.le_refl _)
        · intro i u hi hI hn
          refine X_iload dX11_turnsOf_111 rfl ?_
          refine X_iload_n dX11_turnsOf_113 rfl ?_
          refine X_icmp_geN (a := i) (b := aG A) 151 dX11_turnsOf_114 (by decide) (by first | omega | (have q1 := mxF_le (f := (TU (aP A).1 (aG A) k)) TU_le i; have q2 := mnF_le (f := (TU (aP A).1 (aG A) k)) TU_le i; have q3 := TU_le (nC := (aP A).1) (nG := aG A) (k := k) i; omega)) (by first | omega | (have q1 := mxF_le (f := (TU (aP A).1 (aG A) k)) TU_le i; have q2 := mnF_le (f := (TU (aP A).1 (aG A) k)) TU_le i; have q3 := TU_le (nC := (aP A).1) (nG := aG A) (k := k) i; omega)) (fun h_6 => ?_) (fun h_6 => ?_)
          · exact absurd hi (by omega)
          · refine X_iload dX11_turnsOf_117 rfl ?_
            refine X_aload_n dX11_turnsOf_119 rfl ?_
            refine X_getr (a := 85) dX11_turnsOf_120 fkX11_98 rfl (k_0 hSh) (r_0_14 hSh) ?_
            refine X_iload dX11_turnsOf_123 rfl ?_
            refine X_iald i dX11_turnsOf_125 (k_85 hSh) rfl (by first | omega | (have q1 := mxF_le (f := (TU (aP A).1 (aG A) k)) TU_le i; have q2 := mnF_le (f := (TU (aP A).1 (aG A) k)) TU_le i; have q3 := TU_le (nC := (aP A).1) (nG := aG A) (k := k) i; omega)) ?_
            rw [(hyB i (by omega))]
            refine X_max dX11_turnsOf_126 mkX11_329 (by decide) (by decide) ?_
            refine X_topi (nI_maxJ (a := mxF (TU (aP A).1 (aG A) k) i) (b := TU (aP A).1 (aG A) k i) (by first | omega | (have q1 := mxF_le (f := (TU (aP A).1 (aG A) k)) TU_le i; have q2 := mnF_le (f := (TU (aP A).1 (aG A) k)) TU_le i; have q3 := TU_le (nC := (aP A).1) (nG := aG A) (k := k) i; omega)) (by first | omega | (have q1 := mxF_le (f := (TU (aP A).1 (aG A) k)) TU_le i; have q2 := mnF_le (f := (TU (aP A).1 (aG A) k)) TU_le i; have q3 := TU_le (nC := (aP A).1) (nG := aG A) (k := k) i; omega))) ?_
            refine X_istore dX11_turnsOf_129 (by decide) ?_
            refine X_iload dX11_turnsOf_131 rfl ?_
            refine X_aload_n dX11_turnsOf_133 rfl ?_
            refine X_getr (a := 85) dX11_turnsOf_134 fkX11_98 rfl (k_0 hSh) (r_0_14 hSh) ?_
            refine X_iload dX11_turnsOf_137 rfl ?_
            refine X_iald i dX11_turnsOf_139 (k_85 hSh) rfl (by first | omega | (have q1 := mxF_le (f := (TU (aP A).1 (aG A) k)) TU_le i; have q2 := mnF_le (f := (TU (aP A).1 (aG A) k)) TU_le i; have q3 := TU_le (nC := (aP A).1) (nG := aG A) (k := k) i; omega)) ?_
            rw [(hyB i (by omega))]
            refine X_min dX11_turnsOf_140 mkX11_150 (by decide) (by decide) ?_
            refine X_topi (nI_minJ (a := mnF (TU (aP A).1 (aG A) k) i) (b := TU (aP A).1 (aG A) k i) (by first | omega | (have q1 := mxF_le (f := (TU (aP A).1 (aG A) k)) TU_le i; have q2 := mnF_le (f := (TU (aP A).1 (aG A) k)) TU_le i; have q3 := TU_le (nC := (aP A).1) (nG := aG A) (k := k) i; omega)) (by first | omega | (have q1 := mxF_le (f := (TU (aP A).1 (aG A) k)) TU_le i; have q2 := mnF_le (f := (TU (aP A).1 (aG A) k)) TU_le i; have q3 := TU_le (nC := (aP A).1) (nG := aG A) (k := k) i; omega))) ?_
            refine X_istore dX11_turnsOf_143 (by decide) ?_
            refine X_iinc (v := nI (i + 1)) dX11_turnsOf_145 rfl (nI_1 _) (by decide) ?_
            refine X_goto 111 dX11_turnsOf_148 (by decide) ?_
            refine X_L [(6, .int (nI (i + 1))), (5, .int (nI (min (mnF (TU (aP A).1 (aG A) k) i) (TU (aP A).1 (aG A) k i)))), (4, .int (nI (max (mxF (TU (aP A).1 (aG A) k) i) (TU (aP A).1 (aG A) k i)))), (3, .int (nI (min (aP A).1 (aG A)))), (2, .int (nI (aG A))), (0, .ref 0), (1, .int (nI k))] ⟨rfl, rfl, rfl, rfl, rfl, rfl, rfl, trivial⟩ ?_
            exact hn () (by omega)
        · intro u hI
          refine X_iload dX11_turnsOf_111 rfl ?_
          refine X_iload_n dX11_turnsOf_113 rfl ?_
          refine X_icmp_geN (a := (aG A)) (b := aG A) 151 dX11_turnsOf_114 (by decide) (by first | omega | (have q1 := mxF_le (f := (TU (aP A).1 (aG A) k)) TU_le i; have q2 := mnF_le (f := (TU (aP A).1 (aG A) k)) TU_le i; have q3 := TU_le (nC := (aP A).1) (nG := aG A) (k := k) i; omega)) (by first | omega | (have q1 := mxF_le (f := (TU (aP A).1 (aG A) k)) TU_le i; have q2 := mnF_le (f := (TU (aP A).1 (aG A) k)) TU_le i; have q3 := TU_le (nC := (aP A).1) (nG := aG A) (k := k) i; omega)) (fun h_7 => ?_) (fun h_7 => ?_)
          · refine X_iload dX11_turnsOf_151 rfl ?_
            refine X_iload dX11_turnsOf_153 rfl ?_
            refine X_isub dX11_turnsOf_155 ?_
            exact X_iret dX11_turnsOf_156 rfl ⟨congrArg (fun z => Sum.inl (some (Value.int z))) ((if_neg (by omega)).symm), CI_fr hC (by rw [hI0]; exact fill_S (by unfold scR; omega)) rfl, (by rw [hI0]; exact fill_K (by omega)), rfl⟩
          · exact absurd h_7 (by omega)
      · exact absurd h_5 (by omega)
  · refine X_iconst (v := nI 0) dX11_turnsOf_20 (by decide) ?_
    exact X_iret dX11_turnsOf_21 rfl ⟨congrArg (fun z => Sum.inl (some (Value.int z))) ((if_pos (by assumption)).symm), hC, frK_r, rfl⟩
set_option maxRecDepth 100000 in
set_option maxHeartbeats 4000000 in
theorem r_turnsOf (Γ : pTG) (g : pGG) (mi : pMI) (ml : pML) (A : AS) (hA : okAS A) (hSh : Sh g) (hR : RI A mi) (k : Nat) (hka : 1 ≤ k) (hk : k ≤ 99) : CT Γ 60 0 0 mX12_turnsOf [.ref 87, .int (nI k)] g mi ml (RQ A (.inl (tnV A k)) cd1 g mi ml) := by
  refine CT_of (by decide +kernel) (Nat.le_of_ble_eq_true rfl) ?_
  have hP := hA.1
  have hG8 : aG A ≤ 8 := hP.2.1
  have hC8 : (aP A).1 ≤ 8 := hP.1
  refine X_aload_n dX12_turnsOf_0 rfl ?_
  refine X_iconst (v := nI 0) dX12_turnsOf_1 (by decide) ?_
  refine X_puti dX12_turnsOf_2 fkX12_158 rfl rfl (k_87 hSh) ?_
  refine X_aload_n dX12_turnsOf_5 rfl ?_
  refine X_iload_n dX12_turnsOf_6 rfl ?_
  refine X_iconst (v := nI 1) dX12_turnsOf_7 (by decide) ?_
  refine X_bipush (v := nI 99) dX12_turnsOf_8 (by decide) ?_
  refine X_callSI dX12_turnsOf_10 mkX12_192 (c_in Γ g (up2 mi 87 0 (nI 0)) ml (nI k) (nI 1) (nI 99)) rfl rfl (by decide) (Nat.le_of_ble_eq_true rfl) ?_
  refine X_topi (show bI (decide (nI 1 ≤ nI k) && decide (nI k ≤ nI 99)) = nI 1 from congrArg bI (show (decide (nI 1 ≤ nI k) && decide (nI k ≤ nI 99)) = true from by rw [decide_eq_true (nI_le (by omega) (by omega)), decide_eq_true (nI_le (by omega) (by omega))]; rfl)) ?_
  refine X_if_neN (a := 1) 20 dX12_turnsOf_13 (by decide) (by first | omega | (have q5 := hC8; omega) | (have q9 : i * (aP A).1 ≤ 99 * 8 := Nat.mul_le_mul (by omega) (by omega); have q8 := Nat.mod_lt (i * (aP A).1 + j) h00; omega)) (fun h_1 => ?_) (fun h_1 => ?_)
  · refine X_iconst (v := nI 0) dX12_turnsOf_20 (by decide) ?_
    refine X_iconst (v := nI 1) dX12_turnsOf_21 (by decide) ?_
    refine X_iconst (v := nI 1) dX12_turnsOf_22 (by decide) ?_
    refine X_callVI dX12_turnsOf_23 mkX12_228 (k_87 hSh) (c_bad0 Γ g (up2 mi 87 0 (nI 0)) ml hSh 1 1 up2_s) rfl rfl (by decide) (Nat.le_of_ble_eq_true rfl) ?_
    refine X_if_eqN (a := 0) 31 dX12_turnsOf_26 (by decide) (by first | omega | (have q5 := hC8; omega) | (have q9 : i * (aP A).1 ≤ 99 * 8 := Nat.mul_le_mul (by omega) (by omega); have q8 := Nat.mod_lt (i * (aP A).1 + j) h00; omega)) (fun h_2 => ?_) (fun h_2 => ?_)
    · refine X_aload_n dX12_turnsOf_31 rfl ?_
      refine X_getr (a := 91) dX12_turnsOf_32 fkX12_23 rfl (k_87 hSh) (r_87_12 hSh) ?_
      refine X_iconst (v := nI 1) dX12_turnsOf_35 (by decide) ?_
      refine X_iald 1 dX12_turnsOf_36 (k_91 hSh) rfl (by first | omega | (have q5 := hC8; omega) | (have q9 : i * (aP A).1 ≤ 99 * 8 := Nat.mul_le_mul (by omega) (by omega); have q8 := Nat.mod_lt (i * (aP A).1 + j) h00; omega)) ?_
      rw [((congrFun (up2_row (by omega)) _).trans hR.1.2.1)]
      refine X_if_neN (a := aG A) 42 dX12_turnsOf_37 (by decide) (by first | omega | (have q5 := hC8; omega) | (have q9 : i * (aP A).1 ≤ 99 * 8 := Nat.mul_le_mul (by omega) (by omega); have q8 := Nat.mod_lt (i * (aP A).1 + j) h00; omega)) (fun h_3 => ?_) (fun h_3 => ?_)
      · refine X_iconst (v := nI 0) dX12_turnsOf_42 (by decide) ?_
        refine X_istore_n dX12_turnsOf_43 (by decide) ?_
        refine X_L [(2, .int (nI 0)), (0, .ref 87), (1, .int (nI k))] ⟨rfl, rfl, rfl, trivial⟩ ?_
        refine X_forR (σ := pMI) 44 (fun i y => [(2, .int (nI i)), (0, .ref 87), (1, .int (nI k))]) (fun y => y) (fun y => ml) (fun i y => y = fillR (up2 mi 87 0 (nI 0)) 447 i (fun _ => nI 0)) 8 ?_ ?_ 8 0 ((up2 mi 87 0 (nI 0))) (by first | omega | (have q5 := hC8; omega) | (have q9 : i * (aP A).1 ≤ 99 * 8 := Nat.mul_le_mul (by omega) (by omega); have q8 := Nat.mod_lt (i * (aP A).1 + j) h00; omega)) (fill_0 _ _ _).symm
        · intro i y hi hI hn
          refine X_iload_n dX12_turnsOf_44 rfl ?_
          refine X_bipush (v := nI 8) dX12_turnsOf_45 (by decide) ?_
          refine X_icmp_geN (a := i) (b := 8) 63 dX12_turnsOf_47 (by decide) (by first | omega | (have q5 := hC8; omega) | (have q9 : i * (aP A).1 ≤ 99 * 8 := Nat.mul_le_mul (by omega) (by omega); have q8 := Nat.mod_lt (i * (aP A).1 + j) h00; omega)) (by first | omega | (have q5 := hC8; omega) | (have q9 : i * (aP A).1 ≤ 99 * 8 := Nat.mul_le_mul (by omega) (by omega); have q8 := Nat.mod_lt (i * (aP A).1 + j) h00; omega)) (fun h_4 => ?_) (fun h_4 => ?_)
          · exact absurd hi (by omega)
          · refine X_aload_n dX12_turnsOf_50 rfl ?_
            refine X_getr (a := 447) dX12_turnsOf_51 fkX12_143 rfl (k_87 hSh) (r_87_59 hSh) ?_
            refine X_iload_n dX12_turnsOf_54 rfl ?_
            refine X_iconst (v := nI 0) dX12_turnsOf_55 (by decide) ?_
            refine X_iast i dX12_turnsOf_56 (k_447 hSh) rfl (by first | omega | (have q5 := hC8; omega) | (have q9 : i * (aP A).1 ≤ 99 * 8 := Nat.mul_le_mul (by omega) (by omega); have q8 := Nat.mod_lt (i * (aP A).1 + j) h00; omega)) ?_
            refine X_iinc (v := nI (i + 1)) dX12_turnsOf_57 rfl (nI_1 _) (by decide) ?_
            refine X_goto 44 dX12_turnsOf_60 (by decide) ?_
            refine X_L [(2, .int (nI (i + 1))), (0, .ref 87), (1, .int (nI k))] ⟨rfl, rfl, rfl, trivial⟩ ?_
            refine hn _ ?_
            rw [hI]; exact fill_s _ _ _ _
        · intro y hI
          subst hI
          have h00 : 0 < aG A := by omega
          refine X_iload_n dX12_turnsOf_44 rfl ?_
          refine X_bipush (v := nI 8) dX12_turnsOf_45 (by decide) ?_
          refine X_icmp_geN (a := 8) (b := 8) 63 dX12_turnsOf_47 (by decide) (by first | omega | (have q5 := hC8; omega) | (have q9 : i * (aP A).1 ≤ 99 * 8 := Nat.mul_le_mul (by omega) (by omega); have q8 := Nat.mod_lt (i * (aP A).1 + j) h00; omega)) (by first | omega | (have q5 := hC8; omega) | (have q9 : i * (aP A).1 ≤ 99 * 8 := Nat.mul_le_mul (by omega) (by omega); have q8 := Nat.mod_lt (i * (aP A).1 + j) h00; omega)) (fun h_5 => ?_) (fun h_5 => ?_)
          · refine X_iconst (v := nI 0) dX12_turnsOf_63 (by decide) ?_
            refine X_istore_n dX12_turnsOf_64 (by decide) ?_
            refine X_L [(2, .int (nI 0)), (0, .ref 87), (1, .int (nI k))] ⟨rfl, rfl, rfl, trivial⟩ ?_
            refine X_forR (σ := pMI) 65 (fun i y => [(2, .int (nI i)), (0, .ref 87), (1, .int (nI k))]) (fun y => y) (fun y => ml) (fun i y => y = fillR (up2 mi 87 0 (nI 0)) 447 8 (fun b => nI (TU (aP A).1 (aG A) i b))) k ?_ ?_ k 0 ((fillR (up2 mi 87 0 (nI 0)) 447 8 (fun _ => nI 0))) (by first | omega | (have q5 := hC8; omega) | (have q9 : i * (aP A).1 ≤ 99 * 8 := Nat.mul_le_mul (by omega) (by omega); have q8 := Nat.mod_lt (i * (aP A).1 + j) h00; omega)) rfl
            · intro i y hi hI hn
              refine X_iload_n dX12_turnsOf_65 rfl ?_
              refine X_iload_n dX12_turnsOf_66 rfl ?_
              refine X_icmp_geN (a := i) (b := k) 157 dX12_turnsOf_67 (by decide) (by first | omega | (have q5 := hC8; omega) | (have q9 : i * (aP A).1 ≤ 99 * 8 := Nat.mul_le_mul (by omega) (by omega); have q8 := Nat.mod_lt (i * (aP A).1 + j) h00; omega)) (by first | omega | (have q5 := hC8; omega) | (have q9 : i * (aP A).1 ≤ 99 * 8 := Nat.mul_le_mul (by omega) (by omega); have q8 := Nat.mod_lt (i * (aP A).1 + j) h00; omega)) (fun h_6 => ?_) (fun h_6 => ?_)
              · exact absurd hi (by omega)
              · refine X_iconst (v := nI 0) dX12_turnsOf_70 (by decide) ?_
                refine X_istore_n dX12_turnsOf_71 (by decide) ?_
                refine X_iconst (v := nI 0) dX12_turnsOf_72 (by decide) ?_
                refine X_istore dX12_turnsOf_73 (by decide) ?_
                refine X_L [(4, .int (nI 0)), (3, .int (nI 0)), (2, .int (nI i)), (0, .ref 87), (1, .int (nI k))] ⟨rfl, rfl, rfl, rfl, rfl, trivial⟩ ?_
                refine X_forR (σ := Int32) 75 (fun j x => [(4, .int (nI j)), (3, .int x), (2, .int (nI i)), (0, .ref 87), (1, .int (nI k))]) (fun x => y) (fun x => ml) (fun j x => ∀ b, b < 8 → bt x b = anB (tuP (i * (aP A).1) (aG A) b) j) ((aP A).1) ?_ ?_ ((aP A).1) 0 ((nI 0)) (by first | omega | (have q5 := hC8; omega) | (have q9 : i * (aP A).1 ≤ 99 * 8 := Nat.mul_le_mul (by omega) (by omega); have q8 := Nat.mod_lt (i * (aP A).1 + j) h00; omega)) (fun b hb => b_0 b)
                · intro j x hj hJ hn2
                  refine X_iload dX12_turnsOf_75 rfl ?_
                  refine X_aload_n dX12_turnsOf_77 rfl ?_
                  refine X_getr (a := 91) dX12_turnsOf_78 fkX12_23 rfl (k_87 hSh) (r_87_12 hSh) ?_
                  refine X_iconst (v := nI 0) dX12_turnsOf_81 (by decide) ?_
                  refine X_iald 0 dX12_turnsOf_82 (k_91 hSh) rfl (by first | omega | (have q5 := hC8; omega) | (have q9 : i * (aP A).1 ≤ 99 * 8 := Nat.mul_le_mul (by omega) (by omega); have q8 := Nat.mod_lt (i * (aP A).1 + j) h00; omega)) ?_
                  rw [(show y 91 0 = nI (aP A).1 by rw [hI]; exact (fill_row (by omega)).trans ((congrFun (up2_row (by omega)) _).trans hR.1.1))]
                  refine X_icmp_geN (a := j) (b := (aP A).1) 115 dX12_turnsOf_83 (by decide) (by first | omega | (have q5 := hC8; omega) | (have q9 : i * (aP A).1 ≤ 99 * 8 := Nat.mul_le_mul (by omega) (by omega); have q8 := Nat.mod_lt (i * (aP A).1 + j) h00; omega)) (by first | omega | (have q5 := hC8; omega) | (have q9 : i * (aP A).1 ≤ 99 * 8 := Nat.mul_le_mul (by omega) (by omega); have q8 := Nat.mod_lt (i * (aP A).1 + j) h00; omega)) (fun h_7 => ?_) (fun h_7 => ?_)
                  · exact absurd hj (by omega)
                  · refine X_iload_n dX12_turnsOf_86 rfl ?_
                    refine X_iconst (v := nI 1) dX12_turnsOf_87 (by decide) ?_
                    refine X_iload_n dX12_turnsOf_88 rfl ?_
                    refine X_aload_n dX12_turnsOf_89 rfl ?_
                    refine X_getr (a := 91) dX12_turnsOf_90 fkX12_23 rfl (k_87 hSh) (r_87_12 hSh) ?_
                    refine X_iconst (v := nI 0) dX12_turnsOf_93 (by decide) ?_
                    refine X_iald 0 dX12_turnsOf_94 (k_91 hSh) rfl (by first | omega | (have q5 := hC8; omega) | (have q9 : i * (aP A).1 ≤ 99 * 8 := Nat.mul_le_mul (by omega) (by omega); have q8 := Nat.mod_lt (i * (aP A).1 + j) h00; omega)) ?_
                    rw [(show y 91 0 = nI (aP A).1 by rw [hI]; exact (fill_row (by omega)).trans ((congrFun (up2_row (by omega)) _).trans hR.1.1))]
                    refine X_imul dX12_turnsOf_95 ?_
                    refine X_topi (pk_mul i ((aP A).1)) ?_
                    refine X_iload dX12_turnsOf_96 rfl ?_
                    refine X_iadd dX12_turnsOf_98 ?_
                    refine X_topi (nI_add (i * ((aP A).1)) j) ?_
                    refine X_aload_n dX12_turnsOf_99 rfl ?_
                    refine X_getr (a := 91) dX12_turnsOf_100 fkX12_23 rfl (k_87 hSh) (r_87_12 hSh) ?_
                    refine X_iconst (v := nI 1) dX12_turnsOf_103 (by decide) ?_
                    refine X_iald 1 dX12_turnsOf_104 (k_91 hSh) rfl (by first | omega | (have q5 := hC8; omega) | (have q9 : i * (aP A).1 ≤ 99 * 8 := Nat.mul_le_mul (by omega) (by omega); have q8 := Nat.mod_lt (i * (aP A).1 + j) h00; omega)) ?_
                    rw [(show y 91 1 = nI (aG A) by rw [hI]; exact (fill_row (by omega)).trans ((congrFun (up2_row (by omega)) _).trans hR.1.2.1))]
                    refine X_irem dX12_turnsOf_105 (nI_ne0 (by first | omega | (have q5 := hC8; omega) | (have q9 : i * (aP A).1 ≤ 99 * 8 := Nat.mul_le_mul (by omega) (by omega); have q8 := Nat.mod_lt (i * (aP A).1 + j) h00; omega)) (by first | omega | (have q5 := hC8; omega) | (have q9 : i * (aP A).1 ≤ 99 * 8 := Nat.mul_le_mul (by omega) (by omega); have q8 := Nat.mod_lt (i * (aP A).1 + j) h00; omega))) ?_
                    refine X_topi (pk_rem (a := (i * ((aP A).1)) + j) (d := aG A) (by first | omega | (have q5 := hC8; omega) | (have q9 : i * (aP A).1 ≤ 99 * 8 := Nat.mul_le_mul (by omega) (by omega); have q8 := Nat.mod_lt (i * (aP A).1 + j) h00; omega)) (by first | omega | (have q5 := hC8; omega) | (have q9 : i * (aP A).1 ≤ 99 * 8 := Nat.mul_le_mul (by omega) (by omega); have q8 := Nat.mod_lt (i * (aP A).1 + j) h00; omega)) (by first | omega | (have q5 := hC8; omega) | (have q9 : i * (aP A).1 ≤ 99 * 8 := Nat.mul_le_mul (by omega) (by omega); have q8 := Nat.mod_lt (i * (aP A).1 + j) h00; omega))) ?_
                    refine X_ishl dX12_turnsOf_106 ?_
                    refine X_ior dX12_turnsOf_107 ?_
                    refine X_istore_n dX12_turnsOf_108 (by decide) ?_
                    refine X_iinc (v := nI (j + 1)) dX12_turnsOf_109 rfl (nI_1 _) (by decide) ?_
                    refine X_goto 75 dX12_turnsOf_112 (by decide) ?_
                    refine X_L [(4, .int (nI (j + 1))), (3, .int (x ||| ((nI 1) <<< ((nI (((i * ((aP A).1)) + j) % (aG A))) &&& 31)))), (2, .int (nI i)), (0, .ref 87), (1, .int (nI k))] ⟨rfl, rfl, rfl, rfl, rfl, trivial⟩ ?_
                    refine hn2 _ (fun b hb => ?_)
                    rw [bit_set (by have q8 := Nat.mod_lt (i * (aP A).1 + j) h00; omega) (by omega), hJ b hb]
                    show (anB (tuP (i * (aP A).1) (aG A) b) j || _) = (anB (tuP (i * (aP A).1) (aG A) b) j || decide ((i * (aP A).1 + j) % aG A = b))
                    congr 1; exact decide_eq_decide.mpr ⟨fun q => q.symm, fun q => q.symm⟩
                · intro x hJ
                  refine X_iload dX12_turnsOf_75 rfl ?_
                  refine X_aload_n dX12_turnsOf_77 rfl ?_
                  refine X_getr (a := 91) dX12_turnsOf_78 fkX12_23 rfl (k_87 hSh) (r_87_12 hSh) ?_
                  refine X_iconst (v := nI 0) dX12_turnsOf_81 (by decide) ?_
                  refine X_iald 0 dX12_turnsOf_82 (k_91 hSh) rfl (by first | omega | (have q5 := hC8; omega) | (have q9 : i * (aP A).1 ≤ 99 * 8 := Nat.mul_le_mul (by omega) (by omega); have q8 := Nat.mod_lt (i * (aP A).1 + j) h00; omega)) ?_
                  rw [(show y 91 0 = nI (aP A).1 by rw [hI]; exact (fill_row (by omega)).trans ((congrFun (up2_row (by omega)) _).trans hR.1.1))]
                  refine X_icmp_geN (a := ((aP A).1)) (b := (aP A).1) 115 dX12_turnsOf_83 (by decide) (by first | omega | (have q5 := hC8; omega) | (have q9 : i * (aP A).1 ≤ 99 * 8 := Nat.mul_le_mul (by omega) (by omega); have q8 := Nat.mod_lt (i * (aP A).1 + j) h00; omega)) (by first | omega | (have q5 := hC8; omega) | (have q9 : i * (aP A).1 ≤ 99 * 8 := Nat.mul_le_mul (by omega) (by omega); have q8 := Nat.mod_lt (i * (aP A).1 + j) h00; omega)) (fun h_8 => ?_) (fun h_8 => ?_)
                  · refine X_iconst (v := nI 0) dX12_turnsOf_115 (by decide) ?_
                    refine X_istore dX12_turnsOf_116 (by decide) ?_
                    refine X_L [(4, .int (nI 0)), (3, .int x), (2, .int (nI i)), (0, .ref 87), (1, .int (nI k))] ⟨rfl, rfl, rfl, rfl, rfl, trivial⟩ ?_
                    refine X_forR (σ := pMI) 118 (fun j z => [(4, .int (nI j)), (3, .int x), (2, .int (nI i)), (0, .ref 87), (1, .int (nI k))]) (fun z => z) (fun z => ml) (fun j z => z = fillR (up2 mi 87 0 (nI 0)) 447 8 (fun b => nI (if b < j then TU (aP A).1 (aG A) (i + 1) b else TU (aP A).1 (aG A) i b))) (aG A) ?_ ?_ (aG A) 0 y (by first | omega | (have q5 := hC8; omega) | (have q9 : i * (aP A).1 ≤ 99 * 8 := Nat.mul_le_mul (by omega) (by omega); have q8 := Nat.mod_lt (i * (aP A).1 + j) h00; omega)) (hI.trans tu_f)
                    · intro j z hj hK hn3
                      refine X_iload dX12_turnsOf_118 rfl ?_
                      refine X_aload_n dX12_turnsOf_120 rfl ?_
                      refine X_getr (a := 91) dX12_turnsOf_121 fkX12_23 rfl (k_87 hSh) (r_87_12 hSh) ?_
                      refine X_iconst (v := nI 1) dX12_turnsOf_124 (by decide) ?_
                      refine X_iald 1 dX12_turnsOf_125 (k_91 hSh) rfl (by first | omega | (have q5 := hC8; omega) | (have q9 : i * (aP A).1 ≤ 99 * 8 := Nat.mul_le_mul (by omega) (by omega); have q8 := Nat.mod_lt (i * (aP A).1 + j) h00; omega)) ?_
                      rw [(show z 91 1 = nI (aG A) by rw [hK]; exact (fill_row (by omega)).trans ((congrFun (up2_row (by omega)) _).trans hR.1.2.1))]
                      refine X_icmp_geN (a := j) (b := aG A) 151 dX12_turnsOf_126 (by decide) (by first | omega | (have q5 := hC8; omega) | (have q9 : i * (aP A).1 ≤ 99 * 8 := Nat.mul_le_mul (by omega) (by omega); have q8 := Nat.mod_lt (i * (aP A).1 + j) h00; omega)) (by first | omega | (have q5 := hC8; omega) | (have q9 : i * (aP A).1 ≤ 99 * 8 := Nat.mul_le_mul (by omega) (by omega); have q8 := Nat.mod_lt (i * (aP A).1 + j) h00; omega)) (fun h_9 => ?_) (fun h_9 => ?_)
                      · exact absurd hj (by omega)
                      · refine X_aload_n dX12_turnsOf_129 rfl ?_
                        refine X_getr (a := 447) dX12_turnsOf_130 fkX12_143 rfl (k_87 hSh) (r_87_59 hSh) ?_
                        refine X_iload dX12_turnsOf_133 rfl ?_
                        refine X_dup2 dX12_turnsOf_135 rfl rfl ?_
                        refine X_iald j dX12_turnsOf_136 (k_447 hSh) rfl (by first | omega | (have q5 := hC8; omega) | (have q9 : i * (aP A).1 ≤ 99 * 8 := Nat.mul_le_mul (by omega) (by omega); have q8 := Nat.mod_lt (i * (aP A).1 + j) h00; omega)) ?_
                        rw [(tu_g (by omega) hK).1]
                        refine X_iload_n dX12_turnsOf_137 rfl ?_
                        refine X_iload dX12_turnsOf_138 rfl ?_
                        refine X_ishr dX12_turnsOf_140 ?_
                        refine X_iconst (v := nI 1) dX12_turnsOf_141 (by decide) ?_
                        refine X_iand dX12_turnsOf_142 ?_
                        refine X_iadd dX12_turnsOf_143 ?_
                        refine X_iast j dX12_turnsOf_144 (k_447 hSh) rfl (by first | omega | (have q5 := hC8; omega) | (have q9 : i * (aP A).1 ≤ 99 * 8 := Nat.mul_le_mul (by omega) (by omega); have q8 := Nat.mod_lt (i * (aP A).1 + j) h00; omega)) ?_
                        refine X_iinc (v := nI (j + 1)) dX12_turnsOf_145 rfl (nI_1 _) (by decide) ?_
                        refine X_goto 118 dX12_turnsOf_148 (by decide) ?_
                        refine X_L [(4, .int (nI (j + 1))), (3, .int x), (2, .int (nI i)), (0, .ref 87), (1, .int (nI k))] ⟨rfl, rfl, rfl, rfl, rfl, trivial⟩ ?_
                        refine hn3 _ ((congrArg (up2 z 447 j) (show _ = nI (TU (aP A).1 (aG A) (i + 1) j) by rw [bit_ask (by omega), hJ j (by omega), TU_s, ← nI_add]; cases anB (tuP (i * (aP A).1) (aG A) j) (aP A).1 <;> rfl)).trans ?_)
                        exact (tu_g (by omega) hK).2
                    · intro z hK
                      refine X_iload dX12_turnsOf_118 rfl ?_
                      refine X_aload_n dX12_turnsOf_120 rfl ?_
                      refine X_getr (a := 91) dX12_turnsOf_121 fkX12_23 rfl (k_87 hSh) (r_87_12 hSh) ?_
                      refine X_iconst (v := nI 1) dX12_turnsOf_124 (by decide) ?_
                      refine X_iald 1 dX12_turnsOf_125 (k_91 hSh) rfl (by first | omega | (have q5 := hC8; omega) | (have q9 : i * (aP A).1 ≤ 99 * 8 := Nat.mul_le_mul (by omega) (by omega); have q8 := Nat.mod_lt (i * (aP A).1 + j) h00; omega)) ?_
                      rw [(show z 91 1 = nI (aG A) by rw [hK]; exact (fill_row (by omega)).trans ((congrFun (up2_row (by omega)) _).trans hR.1.2.1))]
                      refine X_icmp_geN (a := (aG A)) (b := aG A) 151 dX12_turnsOf_126 (by decide) (by first | omega | (have q5 := hC8; omega) | (have q9 : i * (aP A).1 ≤ 99 * 8 := Nat.mul_le_mul (by omega) (by omega); have q8 := Nat.mod_lt (i * (aP A).1 + j) h00; omega)) (by first | omega | (have q5 := hC8; omega) | (have q9 : i * (aP A).1 ≤ 99 * 8 := Nat.mul_le_mul (by omega) (by omega); have q8 := Nat.mod_lt (i * (aP A).1 + j) h00; omega)) (fun h_10 => ?_) (fun h_10 => ?_)
                      · refine X_iinc (v := nI (i + 1)) dX12_turnsOf_151 rfl (nI_1 _) (by decide) ?_
                        refine X_goto 65 dX12_turnsOf_154 (by decide) ?_
                        refine X_L [(2, .int (nI (i + 1))), (0, .ref 87), (1, .int (nI k))] ⟨rfl, rfl, rfl, trivial⟩ ?_
                        exact hn z (tu_gE (fun b hb => TU_b h00 hb) hK)
                      · exact absurd h_10 (by omega)
                  · exact absurd h_8 (by omega)
            · intro y hI
              have hI0 := hI
              have hyB : ∀ b, b < 8 → y 447 b = nI (TU (aP A).1 (aG A) k b) := fun b hb => by rw [hI]; exact fill_at hb
              refine X_iload_n dX12_turnsOf_65 rfl ?_
              refine X_iload_n dX12_turnsOf_66 rfl ?_
              refine X_icmp_geN (a := k) (b := k) 157 dX12_turnsOf_67 (by decide) (by first | omega | (have q5 := hC8; omega) | (have q9 : i * (aP A).1 ≤ 99 * 8 := Nat.mul_le_mul (by omega) (by omega); have q8 := Nat.mod_lt (i * (aP A).1 + j) h00; omega)) (by first | omega | (have q5 := hC8; omega) | (have q9 : i * (aP A).1 ≤ 99 * 8 := Nat.mul_le_mul (by omega) (by omega); have q8 := Nat.mod_lt (i * (aP A).1 + j) h00; omega)) (fun h_11 => ?_) (fun h_11 => ?_)
              · refine X_aload_n dX12_turnsOf_157 rfl ?_
                refine X_getr (a := 447) dX12_turnsOf_158 fkX12_143 rfl (k_87 hSh) (r_87_59 hSh) ?_
                refine X_iconst (v := nI 0) dX12_turnsOf_161 (by decide) ?_
                refine X_iald 0 dX12_turnsOf_162 (k_447 hSh) rfl (by first | omega | (have q5 := hC8; omega) | (have q9 : i * (aP A).1 ≤ 99 * 8 := Nat.mul_le_mul (by omega) (by omega); have q8 := Nat.mod_lt (i * (aP A).1 + j) h00; omega)) ?_
                rw [(hyB 0 (by omega))]
                refine X_istore_n dX12_turnsOf_163 (by decide) ?_
                refine X_aload_n dX12_turnsOf_164 rfl ?_
                refine X_getr (a := 447) dX12_turnsOf_165 fkX12_143 rfl (k_87 hSh) (r_87_59 hSh) ?_
                refine X_iconst (v := nI 0) dX12_turnsOf_168 (by decide) ?_
                refine X_iald 0 dX12_turnsOf_169 (k_447 hSh) rfl (by first | omega | (have q5 := hC8; omega) | (have q9 : i * (aP A).1 ≤ 99 * 8 := Nat.mul_le_mul (by omega) (by omega); have q8 := Nat.mod_lt (i * (aP A).1 + j) h00; omega)) ?_
                rw [(hyB 0 (by omega))]
                refine X_istore_n dX12_turnsOf_170 (by decide) ?_
                refine X_iconst (v := nI 1) dX12_turnsOf_171 (by decide) ?_
                refine X_istore dX12_turnsOf_172 (by decide) ?_
                refine X_L [(4, .int (nI 1)), (3, .int (nI (mxF (TU (aP A).1 (aG A) k) 1))), (2, .int (nI (mnF (TU (aP A).1 (aG A) k) 1))), (0, .ref 87), (1, .int (nI k))] ⟨rfl, (by rw [mxF_1]; rfl), (by rw [mnF_1]; rfl), rfl, rfl, trivial⟩ ?_
                refine X_L [(4, .int (nI 1)), (3, .int (nI (mxF (TU (aP A).1 (aG A) k) 1))), (2, .int (nI (mnF (TU (aP A).1 (aG A) k) 1))), (0, .ref 87), (1, .int (nI k))] ⟨rfl, rfl, rfl, rfl, rfl, trivial⟩ ?_
                refine X_forR (σ := Unit) 174 (fun i u => [(4, .int (nI i)), (3, .int (nI (mxF (TU (aP A).1 (aG A) k) i))), (2, .int (nI (mnF (TU (aP A).1 (aG A) k) i))), (0, .ref 87), (1, .int (nI k))]) (fun u => y) (fun u => ml) (fun i u => 1 ≤ i) (aG A) ?_ ?_ (aG A - 1) 1 (()) (by first | omega | (have q1 := mxF_le (f := (TU (aP A).1 (aG A) k)) TU_le i; have q2 := mnF_le (f := (TU (aP A).1 (aG A) k)) TU_le i; have q3 := TU_le (nC := (aP A).1) (nG := aG A) (k := k) i; omega)) (Nat.le_refl _)
                · intro i u hi hI hn
                  refine X_iload dX12_turnsOf_174 rfl ?_
                  refine X_aload_n dX12_turnsOf_176 rfl ?_
                  refine X_getr (a := 91) dX12_turnsOf_177 fkX12_23 rfl (k_87 hSh) (r_87_12 hSh) ?_
                  refine X_iconst (v := nI 1) dX12_turnsOf_180 (by decide) ?_
                  refine X_iald 1 dX12_turnsOf_181 (k_91 hSh) rfl (by first | omega | (have q1 := mxF_le (f := (TU (aP A).1 (aG A) k)) TU_le i; have q2 := mnF_le (f := (TU (aP A).1 (aG A) k)) TU_le i; have q3 := TU_le (nC := (aP A).1) (nG := aG A) (k := k) i; omega)) ?_
                  rw [(show y 91 1 = nI (aG A) by rw [hI0]; exact (fill_row (by omega)).trans ((congrFun (up2_row (by omega)) _).trans hR.1.2.1))]
                  refine X_icmp_geN (a := i) (b := aG A) 215 dX12_turnsOf_182 (by decide) (by first | omega | (have q1 := mxF_le (f := (TU (aP A).1 (aG A) k)) TU_le i; have q2 := mnF_le (f := (TU (aP A).1 (aG A) k)) TU_le i; have q3 := TU_le (nC := (aP A).1) (nG := aG A) (k := k) i; omega)) (by first | omega | (have q1 := mxF_le (f := (TU (aP A).1 (aG A) k)) TU_le i; have q2 := mnF_le (f := (TU (aP A).1 (aG A) k)) TU_le i; have q3 := TU_le (nC := (aP A).1) (nG := aG A) (k := k) i; omega)) (fun h_12 => ?_) (fun h_12 => ?_)
                  · exact absurd hi (by omega)
                  · refine X_iload_n dX12_turnsOf_185 rfl ?_
                    refine X_aload_n dX12_turnsOf_186 rfl ?_
                    refine X_getr (a := 447) dX12_turnsOf_187 fkX12_143 rfl (k_87 hSh) (r_87_59 hSh) ?_
                    refine X_iload dX12_turnsOf_190 rfl ?_
                    refine X_iald i dX12_turnsOf_192 (k_447 hSh) rfl (by first | omega | (have q1 := mxF_le (f := (TU (aP A).1 (aG A) k)) TU_le i; have q2 := mnF_le (f := (TU (aP A).1 (aG A) k)) TU_le i; have q3 := TU_le (nC := (aP A).1) (nG := aG A) (k := k) i; omega)) ?_
                    rw [(hyB i (by omega))]
                    refine X_callSI dX12_turnsOf_193 mkX12_288 (c_less Γ g y ml (nI (mnF (TU (aP A).1 (aG A) k) i)) (nI (TU (aP A).1 (aG A) k i))) rfl rfl (by decide) (Nat.le_of_ble_eq_true rfl) ?_
                    refine X_topi (nI_lsJ (a := mnF (TU (aP A).1 (aG A) k) i) (b := TU (aP A).1 (aG A) k i) (by first | omega | (have q1 := mxF_le (f := (TU (aP A).1 (aG A) k)) TU_le i; have q2 := mnF_le (f := (TU (aP A).1 (aG A) k)) TU_le i; have q3 := TU_le (nC := (aP A).1) (nG := aG A) (k := k) i; omega)) (by first | omega | (have q1 := mxF_le (f := (TU (aP A).1 (aG A) k)) TU_le i; have q2 := mnF_le (f := (TU (aP A).1 (aG A) k)) TU_le i; have q3 := TU_le (nC := (aP A).1) (nG := aG A) (k := k) i; omega))) ?_
                    refine X_istore_n dX12_turnsOf_196 (by decide) ?_
                    refine X_iload_n dX12_turnsOf_197 rfl ?_
                    refine X_aload_n dX12_turnsOf_198 rfl ?_
                    refine X_getr (a := 447) dX12_turnsOf_199 fkX12_143 rfl (k_87 hSh) (r_87_59 hSh) ?_
                    refine X_iload dX12_turnsOf_202 rfl ?_
                    refine X_iald i dX12_turnsOf_204 (k_447 hSh) rfl (by first | omega | (have q1 := mxF_le (f := (TU (aP A).1 (aG A) k)) TU_le i; have q2 := mnF_le (f := (TU (aP A).1 (aG A) k)) TU_le i; have q3 := TU_le (nC := (aP A).1) (nG := aG A) (k := k) i; omega)) ?_
                    rw [(hyB i (by omega))]
                    refine X_callSI dX12_turnsOf_205 mkX12_291 (c_greater Γ g y ml (nI (mxF (TU (aP A).1 (aG A) k) i)) (nI (TU (aP A).1 (aG A) k i))) rfl rfl (by decide) (Nat.le_of_ble_eq_true rfl) ?_
                    refine X_topi (nI_grJ (a := mxF (TU (aP A).1 (aG A) k) i) (b := TU (aP A).1 (aG A) k i) (by first | omega | (have q1 := mxF_le (f := (TU (aP A).1 (aG A) k)) TU_le i; have q2 := mnF_le (f := (TU (aP A).1 (aG A) k)) TU_le i; have q3 := TU_le (nC := (aP A).1) (nG := aG A) (k := k) i; omega)) (by first | omega | (have q1 := mxF_le (f := (TU (aP A).1 (aG A) k)) TU_le i; have q2 := mnF_le (f := (TU (aP A).1 (aG A) k)) TU_le i; have q3 := TU_le (nC := (aP A).1) (nG := aG A) (k := k) i; omega))) ?_
                    refine X_istore_n dX12_turnsOf_208 (by decide) ?_
                    refine X_iinc (v := nI (i + 1)) dX12_turnsOf_209 rfl (nI_1 _) (by decide) ?_
                    refine X_goto 174 dX12_turnsOf_212 (by decide) ?_
                    refine X_L [(4, .int (nI (i + 1))), (3, .int (nI (max (mxF (TU (aP A).1 (aG A) k) i) (TU (aP A).1 (aG A) k i)))), (2, .int (nI (min (mnF (TU (aP A).1 (aG A) k) i) (TU (aP A).1 (aG A) k i)))), (0, .ref 87), (1, .int (nI k))] ⟨rfl, rfl, rfl, rfl, rfl, trivial⟩ ?_
                    exact hn () (by omega)
                · intro u hI
                  refine X_iload dX12_turnsOf_174 rfl ?_
                  refine X_aload_n dX12_turnsOf_176 rfl ?_
                  refine X_getr (a := 91) dX12_turnsOf_177 fkX12_23 rfl (k_87 hSh) (r_87_12 hSh) ?_
                  refine X_iconst (v := nI 1) dX12_turnsOf_180 (by decide) ?_
                  refine X_iald 1 dX12_turnsOf_181 (k_91 hSh) rfl (by first | omega | (have q1 := mxF_le (f := (TU (aP A).1 (aG A) k)) TU_le i; have q2 := mnF_le (f := (TU (aP A).1 (aG A) k)) TU_le i; have q3 := TU_le (nC := (aP A).1) (nG := aG A) (k := k) i; omega)) ?_
                  rw [(show y 91 1 = nI (aG A) by rw [hI0]; exact (fill_row (by omega)).trans ((congrFun (up2_row (by omega)) _).trans hR.1.2.1))]
                  refine X_icmp_geN (a := (aG A)) (b := aG A) 215 dX12_turnsOf_182 (by decide) (by first | omega | (have q1 := mxF_le (f := (TU (aP A).1 (aG A) k)) TU_le i; have q2 := mnF_le (f := (TU (aP A).1 (aG A) k)) TU_le i; have q3 := TU_le (nC := (aP A).1) (nG := aG A) (k := k) i; omega)) (by first | omega | (have q1 := mxF_le (f := (TU (aP A).1 (aG A) k)) TU_le i; have q2 := mnF_le (f := (TU (aP A).1 (aG A) k)) TU_le i; have q3 := TU_le (nC := (aP A).1) (nG := aG A) (k := k) i; omega)) (fun h_13 => ?_) (fun h_13 => ?_)
                  · refine X_iload_n dX12_turnsOf_215 rfl ?_
                    refine X_iload_n dX12_turnsOf_216 rfl ?_
                    refine X_isub dX12_turnsOf_217 ?_
                    exact X_iret dX12_turnsOf_218 rfl ⟨rfl, rfl, RW_I hA hR (show RW mi y by rw [hI0]; exact fill_W RW_0 (by unfold rsR; omega)), (show RW mi y by rw [hI0]; exact fill_W RW_0 (by unfold rsR; omega)).2.1, _, rfl, (if_neg (by omega)).symm, (show RW mi y by rw [hI0]; exact fill_W RW_0 (by unfold rsR; omega)).2.2⟩
                  · exact absurd h_13 (by omega)
              · exact absurd h_11 (by omega)
          · exact absurd h_5 (by omega)
      · refine X_iconst (v := nI 0) dX12_turnsOf_40 (by decide) ?_
        exact X_iret dX12_turnsOf_41 rfl ⟨rfl, rfl, RI_fr hA hR (frW_u frW_r (by unfold rsF rsR; omega)), (frM2_u frM2_r (by omega)), _, rfl, (if_pos (by assumption)).symm, (show (up2 mi 87 0 (nI 0)) 87 0 = nI 0 by rw [up2_s])⟩
    · exact absurd h_2 (by omega)
  · exact absurd h_1 (by omega)
theorem m_turnsOf (A : AS) (hA : okAS A) (w : Int32) : MOK mX11_turnsOf mX12_turnsOf cd1 [.int w] A := by
  by_cases hg0 : nI 1 ≤ w ∧ w ≤ nI 99
  · obtain ⟨k, hka, hk, rfl⟩ := (wi_iff (by decide) (by decide)).mp hg0
    exact ⟨.inl (tnV A k), A, hA, fun j h => (by cases h), fun Γ g m l hC => k_turnsOf Γ g m l A hA hC k hka hk, fun Γ g m l hSh hR => r_turnsOf Γ g m l A hA hSh hR k hka hk⟩
  · exact ⟨.inr 1, rfA A 1, ok_rf hA, fun j h => by cases h; decide, fun Γ g m l hC => k_turnsOf_f0 Γ g m l A hA hC w hg0, fun Γ g m l hSh hR => r_turnsOf_f0 Γ g m l A hA hSh hR w hg0⟩

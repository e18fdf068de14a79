/-! ===== texts, as the reference reads them ===== -/
def RTX (mi : pMI) (B : Nat → Int32) (n i : Nat) : Prop := n ≤ 600 ∧ i ≤ n ∧ (∀ k, k < n → mi 88 k = B k) ∧ mi 87 2 = nI n ∧ mi 87 4 = nI i
theorem RTX_at {mi : pMI} {B : Nat → Int32} {n i j : Nat} (h : RTX mi B n i) (hj : j ≤ n) : RTX (up2 mi 87 4 (nI j)) B n j := ⟨h.1, hj, fun k hk => by rw [up2_row (by omega)]; exact h.2.2.1 k hk, (up2_n (by omega)).trans h.2.2.2.1, up2_s⟩
theorem RTX_row {mi x : pMI} {B : Nat → Int32} {n i : Nat} (h : RTX mi B n i) (h1 : x 88 = mi 88) (h2 : x 87 2 = mi 87 2) (h3 : x 87 4 = mi 87 4) : RTX x B n i := ⟨h.1, h.2.1, fun k hk => by rw [h1]; exact h.2.2.1 k hk, h2.trans h.2.2.2.1, h3.trans h.2.2.2.2⟩
theorem scF_end {p : Nat → Bool} {N : Nat} (hp : ∀ i, p i = true → i < N) : ∀ f i, N ≤ i + f → p (scF p f i) = false
  | 0, i, h => by
    show p i = false
    cases hz : p i with
    | false => rfl
    | true => have := hp i hz; omega
  | f + 1, i, h => by
    unfold scF
    cases hz : p i with
    | true => rw [if_pos rfl]; exact scF_end hp f (i + 1) (by omega)
    | false => rw [if_neg (by decide)]; exact hz
theorem scF_id {p : Nat → Bool} {i : Nat} (h : p i = false) : ∀ f, scF p f i = i
  | 0 => rfl
  | f + 1 => by unfold scF; rw [if_neg (by rw [h]; decide)]
theorem skT_f {B : Nat → Int32} {n i : Nat} : bkP B n (skT B n i) = false := scF_end (fun i h => bkP_n h) _ _ (by omega)
theorem skT_id {B : Nat → Int32} {n i : Nat} (h : bkP B n i = false) : skT B n i = i := scF_id h _
theorem skT_sk {B : Nat → Int32} {n i : Nat} : skT B n (skT B n i) = skT B n i := skT_id skT_f
theorem skT_le {B : Nat → Int32} {n i : Nat} (h : i ≤ n) : skT B n i ≤ n := scF_le (fun i h => bkP_n h) _ _ h
theorem skT_ge {B : Nat → Int32} {n i : Nat} : i ≤ skT B n i := scF_ge _ _ _
theorem wdT_le {B : Nat → Int32} {n i : Nat} (h : i ≤ n) : wdT B n i ≤ n := scF_le (fun i h => smP_n h) _ _ h
theorem wdT_ge {B : Nat → Int32} {n i : Nat} : i ≤ wdT B n i := scF_ge _ _ _
theorem dgT_le {B : Nat → Int32} {n i : Nat} (h : i ≤ n) : dgT B n i ≤ n := scF_le (fun i h => dgP_n h) _ _ h
theorem byT_bk {B : Nat → Int32} {n i : Nat} : byT B n i = nI 32 ↔ bkP B n i = true := by
  unfold byT bkP
  by_cases h : i < n
  · rw [if_pos h, decide_eq_true h, Bool.true_and, decide_eq_true_eq]
  · rw [if_neg h, decide_eq_false h, Bool.false_and]; decide
theorem byT_sm {B : Nat → Int32} {n i : Nat} : (decide (nI 97 ≤ byT B n i) && decide (byT B n i ≤ nI 122)) = smP B n i := by
  unfold byT smP
  by_cases h : i < n
  · rw [if_pos h, decide_eq_true h, Bool.true_and]
  · rw [if_neg h, decide_eq_false h, Bool.false_and]; decide
theorem byT_in {B : Nat → Int32} {n i : Nat} (h : i < n) : byT B n i = B i := if_pos h
theorem c_byteT (Γ : pTG) (g : pGG) (mi : pMI) (ml : pML) (hSh : Sh g) (B : Nat → Int32) (n i0 : Nat) (hR : RTX mi B n i0) (k : Nat) (hk : k ≤ 100000) : cI Γ 1 mX12_byteAt [.ref 87, .int (nI k)] g mi ml (byT B n k) mi := by
  have hn6 := hR.1
  have h := c_byteAt Γ g mi ml hSh k (by rw [hR.2.2.2.1]; by_cases h : k < n; exact Or.inl (by omega); exact Or.inr (nI_le (by omega) (by omega)))
  have e : byM mi k = byT B n k := by
    unfold byM byT
    rw [hR.2.2.2.1]
    by_cases h : k < n
    · rw [if_neg (nI_ge h (by omega)), if_pos h]; exact hR.2.2.1 k h
    · rw [if_pos (nI_le (by omega) (by omega)), if_neg h]
  rw [e] at h
  exact h
set_option maxRecDepth 100000 in
set_option maxHeartbeats 4000000 in
theorem c_blanks (Γ : pTG) (g : pGG) (mi : pMI) (ml : pML) (hSh : Sh g) (B : Nat → Int32) (n i0 : Nat) (hR : RTX mi B n i0) : cV Γ 2 mX12_blanks [.ref 87] g mi ml (up2 mi 87 4 (nI (skT B n i0))) ml := by
  refine cV_of (by decide +kernel) (Nat.le_of_ble_eq_true rfl) ?_
  have hn6 := hR.1
  have hin0 := hR.2.1
  have hke : skT B n i0 ≤ n := scF_le (fun i h => bkP_n h) _ _ hR.2.1
  refine X_mi (up2_val hR.2.2.2.2).symm ?_
  refine X_scan 0 (fun i => [(0, .ref 87)]) (fun i => (up2 mi 87 4 (nI i))) (bkP B n) n (skT B n i0) (fun i h => bkP_n h) ?_ ?_ (n - i0) i0 (by omega) rfl
  · intro i hp hk
    have hin := bkP_n hp
    have hRi := RTX_at (j := i) hR (by omega)
    refine X_aload_n dX12_blanks_0 rfl ?_
    refine X_aload_n dX12_blanks_1 rfl ?_
    refine X_geti dX12_blanks_2 fkX12_167 rfl (k_87 hSh) ?_
    rw [up2_s]
    refine X_callVI dX12_blanks_5 mkX12_170 (k_87 hSh) (c_byteT Γ g (up2 mi 87 4 (nI i)) ml hSh B n _ hRi i (by omega)) rfl rfl (by decide) (Nat.le_of_ble_eq_true rfl) ?_
    refine X_bipush (v := nI 32) dX12_blanks_8 (by decide) ?_
    refine X_icmp_ne 26 dX12_blanks_10 (by decide) (fun h_1 => ?_) (fun h_1 => ?_)
    · exact absurd (byT_bk.mpr hp) h_1
    · refine X_aload_n dX12_blanks_13 rfl ?_
      refine X_dup dX12_blanks_14 rfl ?_
      refine X_geti dX12_blanks_15 fkX12_167 rfl (k_87 hSh) ?_
      rw [up2_s]
      refine X_iconst (v := nI 1) dX12_blanks_18 (by decide) ?_
      refine X_iadd dX12_blanks_19 ?_
      refine X_topi (nI_add i 1) ?_
      refine X_puti dX12_blanks_20 fkX12_167 rfl rfl (k_87 hSh) ?_
      refine X_goto 0 dX12_blanks_23 (by decide) ?_
      refine X_L [(0, .ref 87)] ⟨rfl, trivial⟩ ?_
      rw [up2_up2]
      exact hk
  · intro hp
    have hRi := RTX_at (j := skT B n i0) hR (by omega)
    refine X_aload_n dX12_blanks_0 rfl ?_
    refine X_aload_n dX12_blanks_1 rfl ?_
    refine X_geti dX12_blanks_2 fkX12_167 rfl (k_87 hSh) ?_
    rw [up2_s]
    refine X_callVI dX12_blanks_5 mkX12_170 (k_87 hSh) (c_byteT Γ g (up2 mi 87 4 (nI (skT B n i0))) ml hSh B n _ hRi (skT B n i0) (by omega)) rfl rfl (by decide) (Nat.le_of_ble_eq_true rfl) ?_
    refine X_bipush (v := nI 32) dX12_blanks_8 (by decide) ?_
    refine X_icmp_ne 26 dX12_blanks_10 (by decide) (fun h_2 => ?_) (fun h_2 => ?_)
    · exact X_vret dX12_blanks_26 rfl ⟨rfl, rfl, rfl, rfl⟩
    · exact absurd (byT_bk.mp h_2) (by rw [hp]; decide)
set_option maxRecDepth 100000 in
set_option maxHeartbeats 4000000 in
theorem c_skipWord (Γ : pTG) (g : pGG) (mi : pMI) (ml : pML) (hSh : Sh g) (B : Nat → Int32) (n i0 : Nat) (hR : RTX mi B n i0) : cV Γ 2 mX12_skipWord [.ref 87] g mi ml (up2 mi 87 4 (nI (wdT B n i0))) ml := by
  refine cV_of (by decide +kernel) (Nat.le_of_ble_eq_true rfl) ?_
  have hn6 := hR.1
  have hin0 := hR.2.1
  have hke : wdT B n i0 ≤ n := scF_le (fun i h => smP_n h) _ _ hR.2.1
  refine X_mi (up2_val hR.2.2.2.2).symm ?_
  refine X_scan 0 (fun i => [(0, .ref 87)]) (fun i => (up2 mi 87 4 (nI i))) (smP B n) n (wdT B n i0) (fun i h => smP_n h) ?_ ?_ (n - i0) i0 (by omega) rfl
  · intro i hp hk
    have hin := smP_n hp
    have hRi := RTX_at (j := i) hR (by omega)
    refine X_aload_n dX12_skipWord_0 rfl ?_
    refine X_aload_n dX12_skipWord_1 rfl ?_
    refine X_geti dX12_skipWord_2 fkX12_167 rfl (k_87 hSh) ?_
    rw [up2_s]
    refine X_callVI dX12_skipWord_5 mkX12_170 (k_87 hSh) (c_byteT Γ g (up2 mi 87 4 (nI i)) ml hSh B n _ hRi i (by omega)) rfl rfl (by decide) (Nat.le_of_ble_eq_true rfl) ?_
    refine X_callSI dX12_skipWord_8 mkX12_196 (c_isSmall Γ g (up2 mi 87 4 (nI i)) ml (byT B n i)) rfl rfl (by decide) (Nat.le_of_ble_eq_true rfl) ?_
    refine X_if_eq 27 dX12_skipWord_11 (by decide) (fun h_1 => ?_) (fun h_1 => ?_)
    · exact absurd (bI_0.mp h_1) (by rw [byT_sm, hp]; decide)
    · refine X_aload_n dX12_skipWord_14 rfl ?_
      refine X_dup dX12_skipWord_15 rfl ?_
      refine X_geti dX12_skipWord_16 fkX12_167 rfl (k_87 hSh) ?_
      rw [up2_s]
      refine X_iconst (v := nI 1) dX12_skipWord_19 (by decide) ?_
      refine X_iadd dX12_skipWord_20 ?_
      refine X_topi (nI_add i 1) ?_
      refine X_puti dX12_skipWord_21 fkX12_167 rfl rfl (k_87 hSh) ?_
      refine X_goto 0 dX12_skipWord_24 (by decide) ?_
      refine X_L [(0, .ref 87)] ⟨rfl, trivial⟩ ?_
      rw [up2_up2]
      exact hk
  · intro hp
    have hRi := RTX_at (j := wdT B n i0) hR (by omega)
    refine X_aload_n dX12_skipWord_0 rfl ?_
    refine X_aload_n dX12_skipWord_1 rfl ?_
    refine X_geti dX12_skipWord_2 fkX12_167 rfl (k_87 hSh) ?_
    rw [up2_s]
    refine X_callVI dX12_skipWord_5 mkX12_170 (k_87 hSh) (c_byteT Γ g (up2 mi 87 4 (nI (wdT B n i0))) ml hSh B n _ hRi (wdT B n i0) (by omega)) rfl rfl (by decide) (Nat.le_of_ble_eq_true rfl) ?_
    refine X_callSI dX12_skipWord_8 mkX12_196 (c_isSmall Γ g (up2 mi 87 4 (nI (wdT B n i0))) ml (byT B n (wdT B n i0))) rfl rfl (by decide) (Nat.le_of_ble_eq_true rfl) ?_
    refine X_if_eq 27 dX12_skipWord_11 (by decide) (fun h_2 => ?_) (fun h_2 => ?_)
    · exact X_vret dX12_skipWord_27 rfl ⟨rfl, rfl, rfl, rfl⟩
    · exact absurd (bI_0.mpr (byT_sm.trans hp)) h_2
set_option maxRecDepth 100000 in
set_option maxHeartbeats 4000000 in
theorem c_wrong0 (Γ : pTG) (g : pGG) (mi : pMI) (ml : pML) (hSh : Sh g) (hf : mi 87 5 = nI 0) (a b : Int32) : cV Γ 1 mX12_wrong [.ref 87, .int a, .int b] g mi ml (up2 (up2 mi 87 5 a) 87 6 b) ml := by
  refine cV_of (by decide +kernel) (Nat.le_of_ble_eq_true rfl) ?_
  refine X_aload_n dX12_wrong_0 rfl ?_
  refine X_geti dX12_wrong_1 fkX12_174 rfl (k_87 hSh) ?_
  refine X_if_ne 17 dX12_wrong_4 (by decide) (fun h_1 => ?_) (fun h_1 => ?_)
  · exact absurd hf h_1
  · refine X_aload_n dX12_wrong_7 rfl ?_
    refine X_iload_n dX12_wrong_8 rfl ?_
    refine X_puti dX12_wrong_9 fkX12_174 rfl rfl (k_87 hSh) ?_
    refine X_aload_n dX12_wrong_12 rfl ?_
    refine X_iload_n dX12_wrong_13 rfl ?_
    refine X_puti dX12_wrong_14 fkX12_177 rfl rfl (k_87 hSh) ?_
    exact X_vret dX12_wrong_17 rfl ⟨rfl, rfl, rfl, rfl⟩
set_option maxRecDepth 100000 in
set_option maxHeartbeats 4000000 in
theorem c_wrongF (Γ : pTG) (g : pGG) (mi : pMI) (ml : pML) (hSh : Sh g) (hf : ¬ mi 87 5 = 0) (a b : Int32) : cV Γ 1 mX12_wrong [.ref 87, .int a, .int b] g mi ml mi ml := by
  refine cV_of (by decide +kernel) (Nat.le_of_ble_eq_true rfl) ?_
  refine X_aload_n dX12_wrong_0 rfl ?_
  refine X_geti dX12_wrong_1 fkX12_174 rfl (k_87 hSh) ?_
  refine X_if_ne 17 dX12_wrong_4 (by decide) (fun h_1 => ?_) (fun h_1 => ?_)
  · exact X_vret dX12_wrong_17 rfl ⟨rfl, rfl, rfl, rfl⟩
  · exact absurd h_1 hf
set_option maxRecDepth 100000 in
set_option maxHeartbeats 4000000 in
theorem c_numberF (Γ : pTG) (g : pGG) (mi : pMI) (ml : pML) (hSh : Sh g) (hf : ¬ mi 87 5 = 0) (a b : Int32) : cI Γ 1 mX12_number [.ref 87, .int a, .int b] g mi ml (nI 0) mi := by
  refine cI_of (by decide +kernel) (Nat.le_of_ble_eq_true rfl) ?_
  refine X_aload_n dX12_number_0 rfl ?_
  refine X_geti dX12_number_1 fkX12_174 rfl (k_87 hSh) ?_
  refine X_if_eq 9 dX12_number_4 (by decide) (fun h_1 => ?_) (fun h_1 => ?_)
  · exact absurd h_1 hf
  · refine X_iconst (v := nI 0) dX12_number_7 (by decide) ?_
    exact X_iret dX12_number_8 rfl ⟨by rfl, rfl, rfl, rfl⟩
set_option maxRecDepth 100000 in
set_option maxHeartbeats 4000000 in
theorem c_isWordF (Γ : pTG) (g : pGG) (mi : pMI) (ml : pML) (hSh : Sh g) (hf : ¬ mi 87 5 = 0) (a b c d e f : Int32) : cI Γ 1 mX12_isWord [.ref 87, .int a, .int b, .int c, .int d, .int e, .int f] g mi ml (nI 0) mi := by
  refine cI_of (by decide +kernel) (Nat.le_of_ble_eq_true rfl) ?_
  refine X_aload_n dX12_isWord_0 rfl ?_
  refine X_geti dX12_isWord_1 fkX12_174 rfl (k_87 hSh) ?_
  refine X_if_ne 30 dX12_isWord_4 (by decide) (fun h_1 => ?_) (fun h_1 => ?_)
  · refine X_iconst (v := nI 0) dX12_isWord_30 (by decide) ?_
    exact X_zret (ty := .boolean) dX12_isWord_31 rfl (by first | decide | (rcases bI_01 _ with q | q <;> rw [q] <;> decide)) ⟨by rfl, rfl, rfl, rfl⟩
  · exact absurd h_1 hf
set_option maxRecDepth 100000 in
set_option maxHeartbeats 4000000 in
theorem c_takesF (Γ : pTG) (g : pGG) (mi : pMI) (ml : pML) (hSh : Sh g) (hf : ¬ mi 87 5 = 0) (a b c d e f : Int32) : cI Γ 2 mX12_takes [.ref 87, .int a, .int b, .int c, .int d, .int e, .int f] g mi ml (nI 0) mi := by
  refine cI_of (by decide +kernel) (Nat.le_of_ble_eq_true rfl) ?_
  refine X_aload_n dX12_takes_0 rfl ?_
  refine X_iload_n dX12_takes_1 rfl ?_
  refine X_iload_n dX12_takes_2 rfl ?_
  refine X_iload_n dX12_takes_3 rfl ?_
  refine X_iload dX12_takes_4 rfl ?_
  refine X_iload dX12_takes_6 rfl ?_
  refine X_iload dX12_takes_8 rfl ?_
  refine X_callVI dX12_takes_10 mkX12_207 (k_87 hSh) (c_isWordF Γ g mi ml hSh hf a b c d e f) rfl rfl (by decide) (Nat.le_of_ble_eq_true rfl) ?_
  refine X_istore dX12_takes_13 (by decide) ?_
  refine X_iload dX12_takes_15 rfl ?_
  refine X_if_eqN (a := 0) 24 dX12_takes_17 (by decide) (by omega) (fun h_1 => ?_) (fun h_1 => ?_)
  · refine X_iload dX12_takes_24 rfl ?_
    exact X_zret (ty := .boolean) dX12_takes_26 rfl (by first | decide | (rcases bI_01 _ with q | q <;> rw [q] <;> decide)) ⟨by rfl, rfl, rfl, rfl⟩
  · exact absurd rfl h_1
set_option maxRecDepth 100000 in
set_option maxHeartbeats 4000000 in
theorem c_signF (Γ : pTG) (g : pGG) (mi : pMI) (ml : pML) (hSh : Sh g) (hf : ¬ mi 87 5 = 0) (a : Int32) : cV Γ 1 mX12_sign [.ref 87, .int a] g mi ml mi ml := by
  refine cV_of (by decide +kernel) (Nat.le_of_ble_eq_true rfl) ?_
  refine X_aload_n dX12_sign_0 rfl ?_
  refine X_geti dX12_sign_1 fkX12_174 rfl (k_87 hSh) ?_
  refine X_if_eq 8 dX12_sign_4 (by decide) (fun h_1 => ?_) (fun h_1 => ?_)
  · exact absurd h_1 hf
  · exact X_vret dX12_sign_7 rfl ⟨rfl, rfl, rfl, rfl⟩
set_option maxRecDepth 100000 in
set_option maxHeartbeats 4000000 in
theorem c_takesSignF (Γ : pTG) (g : pGG) (mi : pMI) (ml : pML) (hSh : Sh g) (hf : ¬ mi 87 5 = 0) (a : Int32) : cI Γ 1 mX12_takesSign [.ref 87, .int a] g mi ml (nI 0) mi := by
  refine cI_of (by decide +kernel) (Nat.le_of_ble_eq_true rfl) ?_
  refine X_aload_n dX12_takesSign_0 rfl ?_
  refine X_geti dX12_takesSign_1 fkX12_174 rfl (k_87 hSh) ?_
  refine X_if_eq 9 dX12_takesSign_4 (by decide) (fun h_1 => ?_) (fun h_1 => ?_)
  · exact absurd h_1 hf
  · refine X_iconst (v := nI 0) dX12_takesSign_7 (by decide) ?_
    exact X_zret (ty := .boolean) dX12_takesSign_8 rfl (by first | decide | (rcases bI_01 _ with q | q <;> rw [q] <;> decide)) ⟨by rfl, rfl, rfl, rfl⟩
set_option maxRecDepth 100000 in
set_option maxHeartbeats 4000000 in
theorem c_rnum1 (Γ : pTG) (g : pGG) (mi : pMI) (ml : pML) (hSh : Sh g) (B : Nat → Int32) (n i0 : Nat) (hR : RTX mi B n i0) (hf : mi 87 5 = nI 0) (lo hx : Nat) (hi : Int32) (hlo : lo ≤ 1000) (hx1 : hx ≤ 1000) (hH : ∀ v, v ≤ 100000 → (nI v ≤ hi ↔ v < hx)) (hd : dgP B n (skT B n i0) = false) : cI Γ 3 mX12_number [.ref 87, .int (nI lo), .int hi] g mi ml (nI 0) (up2 (up2 (up2 mi 87 4 (nI (skT B n i0))) 87 5 (nI 1)) 87 6 (nI (skT B n i0))) := by
  refine cI_of (by decide +kernel) (Nat.le_of_ble_eq_true rfl) ?_
  have hn6 := hR.1
  have hk2 : skT B n i0 ≤ n := skT_le hR.2.1
  have hk3 : dgT B n (skT B n i0) ≤ n := dgT_le hk2
  have hR1 := RTX_at hR hk2
  have hf1 : (up2 mi 87 4 (nI (skT B n i0))) 87 5 = nI 0 := (up2_n (by omega)).trans hf
  have hR2 : RTX (up2 (up2 (up2 mi 87 4 (nI (skT B n i0))) 87 5 (nI 1)) 87 6 (nI (skT B n i0))) B n (skT B n i0) := RTX_row hR1 (by rw [up2_row (by omega), up2_row (by omega)]) ((up2_n (by omega)).trans (up2_n (by omega))) ((up2_n (by omega)).trans (up2_n (by omega)))
  have hf2 : ¬ (up2 (up2 (up2 mi 87 4 (nI (skT B n i0))) 87 5 (nI 1)) 87 6 (nI (skT B n i0))) 87 5 = 0 := by rw [(up2_n (by omega)).trans up2_s]; decide
  refine X_aload_n dX12_number_0 rfl ?_
  refine X_geti dX12_number_1 fkX12_174 rfl (k_87 hSh) ?_
  refine X_if_eq 9 dX12_number_4 (by decide) (fun h_1 => ?_) (fun h_1 => ?_)
  · refine X_aload_n dX12_number_9 rfl ?_
    refine X_callVV dX12_number_10 mkX12_180 (k_87 hSh) (c_blanks Γ g mi ml hSh B n i0 hR) rfl rfl (by decide) (Nat.le_of_ble_eq_true rfl) ?_
    refine X_aload_n dX12_number_13 rfl ?_
    refine X_geti dX12_number_14 fkX12_167 rfl (k_87 hSh) ?_
    rw [up2_s]
    refine X_istore_n dX12_number_17 (by decide) ?_
    refine X_iconst (v := nI 0) dX12_number_18 (by decide) ?_
    refine X_istore dX12_number_19 (by decide) ?_
    refine X_aload_n dX12_number_21 rfl ?_
    refine X_aload_n dX12_number_22 rfl ?_
    refine X_geti dX12_number_23 fkX12_167 rfl (k_87 hSh) ?_
    rw [up2_s]
    refine X_callVI dX12_number_26 mkX12_170 (k_87 hSh) (c_byteT Γ g (up2 mi 87 4 (nI (skT B n i0))) ml hSh B n _ hR1 (skT B n i0) (by omega)) rfl rfl (by decide) (Nat.le_of_ble_eq_true rfl) ?_
    refine X_callSI dX12_number_29 mkX12_183 (c_isDigit Γ g (up2 mi 87 4 (nI (skT B n i0))) ml (byT B n (skT B n i0))) rfl rfl (by decide) (Nat.le_of_ble_eq_true rfl) ?_
    refine X_if_ne 44 dX12_number_32 (by decide) (fun h_2 => ?_) (fun h_2 => ?_)
    · exact absurd (bI_0.mpr ((byT_dg (B := B) (n := n)).trans hd)) h_2
    · refine X_aload_n dX12_number_35 rfl ?_
      refine X_iconst (v := nI 1) dX12_number_36 (by decide) ?_
      refine X_aload_n dX12_number_37 rfl ?_
      refine X_geti dX12_number_38 fkX12_167 rfl (k_87 hSh) ?_
      rw [up2_s]
      refine X_callVV dX12_number_41 mkX12_187 (k_87 hSh) (c_wrong0 Γ g (up2 mi 87 4 (nI (skT B n i0))) ml hSh hf1 (nI 1) (nI (skT B n i0))) rfl rfl (by decide) (Nat.le_of_ble_eq_true rfl) ?_
      refine X_aload_n dX12_number_44 rfl ?_
      refine X_aload_n dX12_number_45 rfl ?_
      refine X_geti dX12_number_46 fkX12_167 rfl (k_87 hSh) ?_
      rw [((up2_n (by omega)).trans ((up2_n (by omega)).trans up2_s))]
      refine X_callVI dX12_number_49 mkX12_170 (k_87 hSh) (c_byteT Γ g (up2 (up2 (up2 mi 87 4 (nI (skT B n i0))) 87 5 (nI 1)) 87 6 (nI (skT B n i0))) ml hSh B n _ hR2 (skT B n i0) (by omega)) rfl rfl (by decide) (Nat.le_of_ble_eq_true rfl) ?_
      refine X_callSI dX12_number_52 mkX12_183 (c_isDigit Γ g (up2 (up2 (up2 mi 87 4 (nI (skT B n i0))) 87 5 (nI 1)) 87 6 (nI (skT B n i0))) ml (byT B n (skT B n i0))) rfl rfl (by decide) (Nat.le_of_ble_eq_true rfl) ?_
      refine X_if_eq 106 dX12_number_55 (by decide) (fun h_3 => ?_) (fun h_3 => ?_)
      · refine X_iload dX12_number_106 rfl ?_
        refine X_iload_n dX12_number_108 rfl ?_
        refine X_iload_n dX12_number_109 rfl ?_
        refine X_callSI dX12_number_110 mkX12_192 (c_in Γ g (up2 (up2 (up2 mi 87 4 (nI (skT B n i0))) 87 5 (nI 1)) 87 6 (nI (skT B n i0))) ml (nI 0) (nI lo) hi) rfl rfl (by decide) (Nat.le_of_ble_eq_true rfl) ?_
        refine X_if_ne 122 dX12_number_113 (by decide) (fun h_4 => ?_) (fun h_4 => ?_)
        · refine X_aload_n dX12_number_122 rfl ?_
          refine X_geti dX12_number_123 fkX12_174 rfl (k_87 hSh) ?_
          rw [((up2_n (by omega)).trans up2_s)]
          refine X_if_neN (a := 1) 134 dX12_number_126 (by decide) (by omega) (fun h_5 => ?_) (fun h_5 => ?_)
          · refine X_iconst (v := nI 0) dX12_number_134 (by decide) ?_
            exact X_iret dX12_number_135 rfl ⟨by first | rfl | (rw [Nat.min_eq_left (by omega)]), rfl, rfl, rfl⟩
          · exact absurd h_5 (by omega)
        · refine X_aload_n dX12_number_116 rfl ?_
          refine X_iconst (v := nI 2) dX12_number_117 (by decide) ?_
          refine X_iload_n dX12_number_118 rfl ?_
          refine X_callVV dX12_number_119 mkX12_187 (k_87 hSh) (c_wrongF Γ g (up2 (up2 (up2 mi 87 4 (nI (skT B n i0))) 87 5 (nI 1)) 87 6 (nI (skT B n i0))) ml hSh hf2 (nI 2) (nI (skT B n i0))) rfl rfl (by decide) (Nat.le_of_ble_eq_true rfl) ?_
          refine X_aload_n dX12_number_122 rfl ?_
          refine X_geti dX12_number_123 fkX12_174 rfl (k_87 hSh) ?_
          rw [((up2_n (by omega)).trans up2_s)]
          refine X_if_neN (a := 1) 134 dX12_number_126 (by decide) (by omega) (fun h_6 => ?_) (fun h_6 => ?_)
          · refine X_iconst (v := nI 0) dX12_number_134 (by decide) ?_
            exact X_iret dX12_number_135 rfl ⟨by first | rfl | (rw [Nat.min_eq_left (by omega)]), rfl, rfl, rfl⟩
          · exact absurd h_6 (by omega)
      · exact absurd (bI_0.mpr ((byT_dg (B := B) (n := n)).trans hd)) h_3
  · exact absurd hf h_1
set_option maxRecDepth 100000 in
set_option maxHeartbeats 4000000 in
theorem c_rnum2 (Γ : pTG) (g : pGG) (mi : pMI) (ml : pML) (hSh : Sh g) (B : Nat → Int32) (n i0 : Nat) (hR : RTX mi B n i0) (hf : mi 87 5 = nI 0) (lo hx : Nat) (hi : Int32) (hlo : lo ≤ 1000) (hx1 : hx ≤ 1000) (hH : ∀ v, v ≤ 100000 → (nI v ≤ hi ↔ v < hx)) (hd : dgP B n (skT B n i0) = true) (hv : ¬ (lo ≤ dvN B (skT B n i0) (dgT B n (skT B n i0) - skT B n i0) ∧ dvN B (skT B n i0) (dgT B n (skT B n i0) - skT B n i0) < hx)) : cI Γ 3 mX12_number [.ref 87, .int (nI lo), .int hi] g mi ml (nI 0) (up2 (up2 (up2 mi 87 4 (nI (dgT B n (skT B n i0)))) 87 5 (nI 2)) 87 6 (nI (skT B n i0))) := by
  refine cI_of (by decide +kernel) (Nat.le_of_ble_eq_true rfl) ?_
  have hn6 := hR.1
  have hk2 : skT B n i0 ≤ n := skT_le hR.2.1
  have hk3 : dgT B n (skT B n i0) ≤ n := dgT_le hk2
  have hR1 := RTX_at hR hk2
  refine X_aload_n dX12_number_0 rfl ?_
  refine X_geti dX12_number_1 fkX12_174 rfl (k_87 hSh) ?_
  refine X_if_eq 9 dX12_number_4 (by decide) (fun h_1 => ?_) (fun h_1 => ?_)
  · refine X_aload_n dX12_number_9 rfl ?_
    refine X_callVV dX12_number_10 mkX12_180 (k_87 hSh) (c_blanks Γ g mi ml hSh B n i0 hR) rfl rfl (by decide) (Nat.le_of_ble_eq_true rfl) ?_
    refine X_aload_n dX12_number_13 rfl ?_
    refine X_geti dX12_number_14 fkX12_167 rfl (k_87 hSh) ?_
    rw [up2_s]
    refine X_istore_n dX12_number_17 (by decide) ?_
    refine X_iconst (v := nI 0) dX12_number_18 (by decide) ?_
    refine X_istore dX12_number_19 (by decide) ?_
    refine X_aload_n dX12_number_21 rfl ?_
    refine X_aload_n dX12_number_22 rfl ?_
    refine X_geti dX12_number_23 fkX12_167 rfl (k_87 hSh) ?_
    rw [up2_s]
    refine X_callVI dX12_number_26 mkX12_170 (k_87 hSh) (c_byteT Γ g (up2 mi 87 4 (nI (skT B n i0))) ml hSh B n _ hR1 (skT B n i0) (by omega)) rfl rfl (by decide) (Nat.le_of_ble_eq_true rfl) ?_
    refine X_callSI dX12_number_29 mkX12_183 (c_isDigit Γ g (up2 mi 87 4 (nI (skT B n i0))) ml (byT B n (skT B n i0))) rfl rfl (by decide) (Nat.le_of_ble_eq_true rfl) ?_
    refine X_if_ne 44 dX12_number_32 (by decide) (fun h_2 => ?_) (fun h_2 => ?_)
    · refine X_L [(4, .int (nI 0)), (3, .int (nI (skT B n i0))), (0, .ref 87), (1, .int (nI lo)), (2, .int hi)] ⟨rfl, rfl, rfl, rfl, rfl, trivial⟩ ?_
      refine X_L [(4, .int (nI (min (dvN B (skT B n i0) (skT B n i0 - skT B n i0)) 100000))), (3, .int (nI (skT B n i0))), (0, .ref 87), (1, .int (nI lo)), (2, .int hi)] ⟨by rw [Nat.sub_self]; rfl, rfl, rfl, rfl, rfl, trivial⟩ ?_
      refine X_scanL 44 (fun i => [(4, .int (nI (min (dvN B (skT B n i0) (i - skT B n i0)) 100000))), (3, .int (nI (skT B n i0))), (0, .ref 87), (1, .int (nI lo)), (2, .int hi)]) (fun i => (up2 mi 87 4 (nI i))) (dgP B n) n (dgT B n (skT B n i0)) (skT B n i0) (fun i h => dgP_n h) ?_ ?_ (n - skT B n i0) (skT B n i0) (Nat.le_refl _) (by omega) rfl
      · intro i hsi hp hk
        obtain ⟨hin, hb1, hb2⟩ := dgP_t hp
        obtain ⟨hd9, hdE⟩ := dgN_of hb1 hb2
        have hRi := RTX_at (j := i) hR (by omega)
        refine X_aload_n dX12_number_44 rfl ?_
        refine X_aload_n dX12_number_45 rfl ?_
        refine X_geti dX12_number_46 fkX12_167 rfl (k_87 hSh) ?_
        rw [up2_s]
        refine X_callVI dX12_number_49 mkX12_170 (k_87 hSh) (c_byteT Γ g (up2 mi 87 4 (nI i)) ml hSh B n _ hRi i (by omega)) rfl rfl (by decide) (Nat.le_of_ble_eq_true rfl) ?_
        refine X_callSI dX12_number_52 mkX12_183 (c_isDigit Γ g (up2 mi 87 4 (nI i)) ml (byT B n i)) rfl rfl (by decide) (Nat.le_of_ble_eq_true rfl) ?_
        refine X_if_eq 106 dX12_number_55 (by decide) (fun h_3 => ?_) (fun h_3 => ?_)
        · exact absurd (bI_0.mp h_3) (by rw [byT_dg, hp]; decide)
        · refine X_bipush (v := nI 10) dX12_number_58 (by decide) ?_
          refine X_iload dX12_number_60 rfl ?_
          refine X_imul dX12_number_62 ?_
          refine X_topi (pk_mul 10 (min (dvN B (skT B n i0) (i - skT B n i0)) 100000)) ?_
          refine X_aload_n dX12_number_63 rfl ?_
          refine X_aload_n dX12_number_64 rfl ?_
          refine X_geti dX12_number_65 fkX12_167 rfl (k_87 hSh) ?_
          rw [up2_s]
          refine X_callVI dX12_number_68 mkX12_170 (k_87 hSh) (c_byteT Γ g (up2 mi 87 4 (nI i)) ml hSh B n _ hRi i (by omega)) rfl rfl (by decide) (Nat.le_of_ble_eq_true rfl) ?_
          refine X_topi (show byT B n i = nI (48 + dgN (B i)) by rw [byT_in hin]; exact hdE) ?_
          refine X_iadd dX12_number_71 ?_
          refine X_topi (nI_add (10 * (min (dvN B (skT B n i0) (i - skT B n i0)) 100000)) (48 + dgN (B i))) ?_
          refine X_bipush (v := nI 48) dX12_number_72 (by decide) ?_
          refine X_isub dX12_number_74 ?_
          refine X_topi (pk_sub (a := (10 * (min (dvN B (skT B n i0) (i - skT B n i0)) 100000)) + (48 + dgN (B i))) (b := 48) (by omega)) ?_
          refine X_istore dX12_number_75 (by decide) ?_
          refine X_iload dX12_number_77 rfl ?_
          refine X_ldc (v := nI 100000) dX12_number_79 lc_X12b ?_
          refine X_join (S := []) 91 (fun v => v = nI (min (10 * (min (dvN B (skT B n i0) (i - skT B n i0)) 100000) + (48 + dgN (B i)) - 48) 100000)) (fun vJ hvJ => ?_) (fun hJ_4 => ?_)
          · rw [hvJ]
            refine X_istore dX12_number_91 (by decide) ?_
            refine X_aload_n dX12_number_93 rfl ?_
            refine X_dup dX12_number_94 rfl ?_
            refine X_geti dX12_number_95 fkX12_167 rfl (k_87 hSh) ?_
            rw [up2_s]
            refine X_iconst (v := nI 1) dX12_number_98 (by decide) ?_
            refine X_iadd dX12_number_99 ?_
            refine X_topi (nI_add i 1) ?_
            refine X_puti dX12_number_100 fkX12_167 rfl rfl (k_87 hSh) ?_
            refine X_goto 44 dX12_number_103 (by decide) ?_
            refine X_L [(4, .int (nI (min (10 * (min (dvN B (skT B n i0) (i - skT B n i0)) 100000) + (48 + dgN (B i)) - 48) 100000))), (3, .int (nI (skT B n i0))), (0, .ref 87), (1, .int (nI lo)), (2, .int hi)] ⟨rfl, rfl, rfl, rfl, rfl, trivial⟩ ?_
            rw [up2_up2]
            rw [dvN_s hsi] at hk
            rw [show min (10 * (min (dvN B (skT B n i0) (i - skT B n i0)) 100000) + (48 + dgN (B i)) - 48) 100000 = min ((dvN B (skT B n i0) (i - skT B n i0)) * 10 + dgN (B i)) 100000 by omega]
            exact hk
          · refine X_icmp_leN (a := ((10 * (min (dvN B (skT B n i0) (i - skT B n i0)) 100000)) + (48 + dgN (B i))) - 48) (b := 100000) 89 dX12_number_81 (by decide) (by omega) (by omega) (fun h_5 => ?_) (fun h_5 => ?_)
            · refine X_iload dX12_number_89 rfl ?_
              exact hJ_4 _ (by exact congrArg nI (by omega))
            · refine X_ldc (v := nI 100000) dX12_number_84 lc_X12b ?_
              refine X_goto 91 dX12_number_86 (by decide) ?_
              exact hJ_4 _ (by exact congrArg nI (by omega))
      · intro hp
        have hRi := RTX_at (j := dgT B n (skT B n i0)) hR (by omega)
        refine X_aload_n dX12_number_44 rfl ?_
        refine X_aload_n dX12_number_45 rfl ?_
        refine X_geti dX12_number_46 fkX12_167 rfl (k_87 hSh) ?_
        rw [up2_s]
        refine X_callVI dX12_number_49 mkX12_170 (k_87 hSh) (c_byteT Γ g (up2 mi 87 4 (nI (dgT B n (skT B n i0)))) ml hSh B n _ hRi (dgT B n (skT B n i0)) (by omega)) rfl rfl (by decide) (Nat.le_of_ble_eq_true rfl) ?_
        refine X_callSI dX12_number_52 mkX12_183 (c_isDigit Γ g (up2 mi 87 4 (nI (dgT B n (skT B n i0)))) ml (byT B n (dgT B n (skT B n i0)))) rfl rfl (by decide) (Nat.le_of_ble_eq_true rfl) ?_
        refine X_if_eq 106 dX12_number_55 (by decide) (fun h_6 => ?_) (fun h_6 => ?_)
        · refine X_iload dX12_number_106 rfl ?_
          refine X_iload_n dX12_number_108 rfl ?_
          refine X_iload_n dX12_number_109 rfl ?_
          refine X_callSI dX12_number_110 mkX12_192 (c_in Γ g (up2 mi 87 4 (nI (dgT B n (skT B n i0)))) ml (nI (min (dvN B (skT B n i0) (dgT B n (skT B n i0) - skT B n i0)) 100000)) (nI lo) hi) rfl rfl (by decide) (Nat.le_of_ble_eq_true rfl) ?_
          refine X_if_ne 122 dX12_number_113 (by decide) (fun h_7 => ?_) (fun h_7 => ?_)
          · exact absurd h_7 (by rw [Classical.not_not, bI_0, Bool.and_eq_false_iff]; by_cases hq : lo ≤ min (dvN B (skT B n i0) (dgT B n (skT B n i0) - skT B n i0)) 100000; exact Or.inr (decide_eq_false (fun z => hv ⟨by omega, by have := (hH _ (by omega)).mp z; omega⟩)); exact Or.inl (decide_eq_false (fun z => hq ((nI_leI (by omega) (by omega)).mp z))))
          · refine X_aload_n dX12_number_116 rfl ?_
            refine X_iconst (v := nI 2) dX12_number_117 (by decide) ?_
            refine X_iload_n dX12_number_118 rfl ?_
            refine X_callVV dX12_number_119 mkX12_187 (k_87 hSh) (c_wrong0 Γ g (up2 mi 87 4 (nI (dgT B n (skT B n i0)))) ml hSh ((up2_n (by omega)).trans hf) (nI 2) (nI (skT B n i0))) rfl rfl (by decide) (Nat.le_of_ble_eq_true rfl) ?_
            refine X_aload_n dX12_number_122 rfl ?_
            refine X_geti dX12_number_123 fkX12_174 rfl (k_87 hSh) ?_
            rw [((up2_n (by omega)).trans up2_s)]
            refine X_if_neN (a := 2) 134 dX12_number_126 (by decide) (by omega) (fun h_8 => ?_) (fun h_8 => ?_)
            · refine X_iconst (v := nI 0) dX12_number_134 (by decide) ?_
              exact X_iret dX12_number_135 rfl ⟨by first | rfl | (rw [Nat.min_eq_left (by omega)]), rfl, rfl, rfl⟩
            · exact absurd h_8 (by omega)
        · exact absurd (bI_0.mpr (byT_dg.trans hp)) h_6
    · exact absurd (bI_0.mp h_2) (by rw [byT_dg, hd]; decide)
  · exact absurd hf h_1
set_option maxRecDepth 100000 in
set_option maxHeartbeats 4000000 in
theorem c_rnum0 (Γ : pTG) (g : pGG) (mi : pMI) (ml : pML) (hSh : Sh g) (B : Nat → Int32) (n i0 : Nat) (hR : RTX mi B n i0) (hf : mi 87 5 = nI 0) (lo hx : Nat) (hi : Int32) (hlo : lo ≤ 1000) (hx1 : hx ≤ 1000) (hH : ∀ v, v ≤ 100000 → (nI v ≤ hi ↔ v < hx)) (hd : dgP B n (skT B n i0) = true) (hv : lo ≤ dvN B (skT B n i0) (dgT B n (skT B n i0) - skT B n i0) ∧ dvN B (skT B n i0) (dgT B n (skT B n i0) - skT B n i0) < hx) : cI Γ 3 mX12_number [.ref 87, .int (nI lo), .int hi] g mi ml (nI (dvN B (skT B n i0) (dgT B n (skT B n i0) - skT B n i0))) (up2 mi 87 4 (nI (dgT B n (skT B n i0)))) := by
  refine cI_of (by decide +kernel) (Nat.le_of_ble_eq_true rfl) ?_
  have hn6 := hR.1
  have hk2 : skT B n i0 ≤ n := skT_le hR.2.1
  have hk3 : dgT B n (skT B n i0) ≤ n := dgT_le hk2
  have hR1 := RTX_at hR hk2
  refine X_aload_n dX12_number_0 rfl ?_
  refine X_geti dX12_number_1 fkX12_174 rfl (k_87 hSh) ?_
  refine X_if_eq 9 dX12_number_4 (by decide) (fun h_1 => ?_) (fun h_1 => ?_)
  · refine X_aload_n dX12_number_9 rfl ?_
    refine X_callVV dX12_number_10 mkX12_180 (k_87 hSh) (c_blanks Γ g mi ml hSh B n i0 hR) rfl rfl (by decide) (Nat.le_of_ble_eq_true rfl) ?_
    refine X_aload_n dX12_number_13 rfl ?_
    refine X_geti dX12_number_14 fkX12_167 rfl (k_87 hSh) ?_
    rw [up2_s]
    refine X_istore_n dX12_number_17 (by decide) ?_
    refine X_iconst (v := nI 0) dX12_number_18 (by decide) ?_
    refine X_istore dX12_number_19 (by decide) ?_
    refine X_aload_n dX12_number_21 rfl ?_
    refine X_aload_n dX12_number_22 rfl ?_
    refine X_geti dX12_number_23 fkX12_167 rfl (k_87 hSh) ?_
    rw [up2_s]
    refine X_callVI dX12_number_26 mkX12_170 (k_87 hSh) (c_byteT Γ g (up2 mi 87 4 (nI (skT B n i0))) ml hSh B n _ hR1 (skT B n i0) (by omega)) rfl rfl (by decide) (Nat.le_of_ble_eq_true rfl) ?_
    refine X_callSI dX12_number_29 mkX12_183 (c_isDigit Γ g (up2 mi 87 4 (nI (skT B n i0))) ml (byT B n (skT B n i0))) rfl rfl (by decide) (Nat.le_of_ble_eq_true rfl) ?_
    refine X_if_ne 44 dX12_number_32 (by decide) (fun h_2 => ?_) (fun h_2 => ?_)
    · refine X_L [(4, .int (nI 0)), (3, .int (nI (skT B n i0))), (0, .ref 87), (1, .int (nI lo)), (2, .int hi)] ⟨rfl, rfl, rfl, rfl, rfl, trivial⟩ ?_
      refine X_L [(4, .int (nI (min (dvN B (skT B n i0) (skT B n i0 - skT B n i0)) 100000))), (3, .int (nI (skT B n i0))), (0, .ref 87), (1, .int (nI lo)), (2, .int hi)] ⟨by rw [Nat.sub_self]; rfl, rfl, rfl, rfl, rfl, trivial⟩ ?_
      refine X_scanL 44 (fun i => [(4, .int (nI (min (dvN B (skT B n i0) (i - skT B n i0)) 100000))), (3, .int (nI (skT B n i0))), (0, .ref 87), (1, .int (nI lo)), (2, .int hi)]) (fun i => (up2 mi 87 4 (nI i))) (dgP B n) n (dgT B n (skT B n i0)) (skT B n i0) (fun i h => dgP_n h) ?_ ?_ (n - skT B n i0) (skT B n i0) (Nat.le_refl _) (by omega) rfl
      · intro i hsi hp hk
        obtain ⟨hin, hb1, hb2⟩ := dgP_t hp
        obtain ⟨hd9, hdE⟩ := dgN_of hb1 hb2
        have hRi := RTX_at (j := i) hR (by omega)
        refine X_aload_n dX12_number_44 rfl ?_
        refine X_aload_n dX12_number_45 rfl ?_
        refine X_geti dX12_number_46 fkX12_167 rfl (k_87 hSh) ?_
        rw [up2_s]
        refine X_callVI dX12_number_49 mkX12_170 (k_87 hSh) (c_byteT Γ g (up2 mi 87 4 (nI i)) ml hSh B n _ hRi i (by omega)) rfl rfl (by decide) (Nat.le_of_ble_eq_true rfl) ?_
        refine X_callSI dX12_number_52 mkX12_183 (c_isDigit Γ g (up2 mi 87 4 (nI i)) ml (byT B n i)) rfl rfl (by decide) (Nat.le_of_ble_eq_true rfl) ?_
        refine X_if_eq 106 dX12_number_55 (by decide) (fun h_3 => ?_) (fun h_3 => ?_)
        · exact absurd (bI_0.mp h_3) (by rw [byT_dg, hp]; decide)
        · refine X_bipush (v := nI 10) dX12_number_58 (by decide) ?_
          refine X_iload dX12_number_60 rfl ?_
          refine X_imul dX12_number_62 ?_
          refine X_topi (pk_mul 10 (min (dvN B (skT B n i0) (i - skT B n i0)) 100000)) ?_
          refine X_aload_n dX12_number_63 rfl ?_
          refine X_aload_n dX12_number_64 rfl ?_
          refine X_geti dX12_number_65 fkX12_167 rfl (k_87 hSh) ?_
          rw [up2_s]
          refine X_callVI dX12_number_68 mkX12_170 (k_87 hSh) (c_byteT Γ g (up2 mi 87 4 (nI i)) ml hSh B n _ hRi i (by omega)) rfl rfl (by decide) (Nat.le_of_ble_eq_true rfl) ?_
          refine X_topi (show byT B n i = nI (48 + dgN (B i)) by rw [byT_in hin]; exact hdE) ?_
          refine X_iadd dX12_number_71 ?_
          refine X_topi (nI_add (10 * (min (dvN B (skT B n i0) (i - skT B n i0)) 100000)) (48 + dgN (B i))) ?_
          refine X_bipush (v := nI 48) dX12_number_72 (by decide) ?_
          refine X_isub dX12_number_74 ?_
          refine X_topi (pk_sub (a := (10 * (min (dvN B (skT B n i0) (i - skT B n i0)) 100000)) + (48 + dgN (B i))) (b := 48) (by omega)) ?_
          refine X_istore dX12_number_75 (by decide) ?_
          refine X_iload dX12_number_77 rfl ?_
          refine X_ldc (v := nI 100000) dX12_number_79 lc_X12b ?_
          refine X_join (S := []) 91 (fun v => v = nI (min (10 * (min (dvN B (skT B n i0) (i - skT B n i0)) 100000) + (48 + dgN (B i)) - 48) 100000)) (fun vJ hvJ => ?_) (fun hJ_4 => ?_)
          · rw [hvJ]
            refine X_istore dX12_number_91 (by decide) ?_
            refine X_aload_n dX12_number_93 rfl ?_
            refine X_dup dX12_number_94 rfl ?_
            refine X_geti dX12_number_95 fkX12_167 rfl (k_87 hSh) ?_
            rw [up2_s]
            refine X_iconst (v := nI 1) dX12_number_98 (by decide) ?_
            refine X_iadd dX12_number_99 ?_
            refine X_topi (nI_add i 1) ?_
            refine X_puti dX12_number_100 fkX12_167 rfl rfl (k_87 hSh) ?_
            refine X_goto 44 dX12_number_103 (by decide) ?_
            refine X_L [(4, .int (nI (min (10 * (min (dvN B (skT B n i0) (i - skT B n i0)) 100000) + (48 + dgN (B i)) - 48) 100000))), (3, .int (nI (skT B n i0))), (0, .ref 87), (1, .int (nI lo)), (2, .int hi)] ⟨rfl, rfl, rfl, rfl, rfl, trivial⟩ ?_
            rw [up2_up2]
            rw [dvN_s hsi] at hk
            rw [show min (10 * (min (dvN B (skT B n i0) (i - skT B n i0)) 100000) + (48 + dgN (B i)) - 48) 100000 = min ((dvN B (skT B n i0) (i - skT B n i0)) * 10 + dgN (B i)) 100000 by omega]
            exact hk
          · refine X_icmp_leN (a := ((10 * (min (dvN B (skT B n i0) (i - skT B n i0)) 100000)) + (48 + dgN (B i))) - 48) (b := 100000) 89 dX12_number_81 (by decide) (by omega) (by omega) (fun h_5 => ?_) (fun h_5 => ?_)
            · refine X_iload dX12_number_89 rfl ?_
              exact hJ_4 _ (by exact congrArg nI (by omega))
            · refine X_ldc (v := nI 100000) dX12_number_84 lc_X12b ?_
              refine X_goto 91 dX12_number_86 (by decide) ?_
              exact hJ_4 _ (by exact congrArg nI (by omega))
      · intro hp
        have hRi := RTX_at (j := dgT B n (skT B n i0)) hR (by omega)
        refine X_aload_n dX12_number_44 rfl ?_
        refine X_aload_n dX12_number_45 rfl ?_
        refine X_geti dX12_number_46 fkX12_167 rfl (k_87 hSh) ?_
        rw [up2_s]
        refine X_callVI dX12_number_49 mkX12_170 (k_87 hSh) (c_byteT Γ g (up2 mi 87 4 (nI (dgT B n (skT B n i0)))) ml hSh B n _ hRi (dgT B n (skT B n i0)) (by omega)) rfl rfl (by decide) (Nat.le_of_ble_eq_true rfl) ?_
        refine X_callSI dX12_number_52 mkX12_183 (c_isDigit Γ g (up2 mi 87 4 (nI (dgT B n (skT B n i0)))) ml (byT B n (dgT B n (skT B n i0)))) rfl rfl (by decide) (Nat.le_of_ble_eq_true rfl) ?_
        refine X_if_eq 106 dX12_number_55 (by decide) (fun h_6 => ?_) (fun h_6 => ?_)
        · refine X_iload dX12_number_106 rfl ?_
          refine X_iload_n dX12_number_108 rfl ?_
          refine X_iload_n dX12_number_109 rfl ?_
          refine X_callSI dX12_number_110 mkX12_192 (c_in Γ g (up2 mi 87 4 (nI (dgT B n (skT B n i0)))) ml (nI (min (dvN B (skT B n i0) (dgT B n (skT B n i0) - skT B n i0)) 100000)) (nI lo) hi) rfl rfl (by decide) (Nat.le_of_ble_eq_true rfl) ?_
          refine X_if_ne 122 dX12_number_113 (by decide) (fun h_7 => ?_) (fun h_7 => ?_)
          · refine X_aload_n dX12_number_122 rfl ?_
            refine X_geti dX12_number_123 fkX12_174 rfl (k_87 hSh) ?_
            rw [((up2_n (by omega)).trans hf)]
            refine X_if_neN (a := 0) 134 dX12_number_126 (by decide) (by omega) (fun h_8 => ?_) (fun h_8 => ?_)
            · exact absurd rfl h_8
            · refine X_iload dX12_number_129 rfl ?_
              refine X_goto 135 dX12_number_131 (by decide) ?_
              exact X_iret dX12_number_135 rfl ⟨by first | rfl | (rw [Nat.min_eq_left (by omega)]), rfl, rfl, rfl⟩
          · exact absurd (bI_0.mp h_7) (by rw [decide_eq_true (nI_le (by omega) (by omega)), decide_eq_true ((hH _ (by omega)).mpr (by omega))]; decide)
        · exact absurd (bI_0.mpr (byT_dg.trans hp)) h_6
    · exact absurd (bI_0.mp h_2) (by rw [byT_dg, hd]; decide)
  · exact absurd hf h_1
theorem c_rnumOK (Γ : pTG) (g : pGG) (mi : pMI) (ml : pML) (hSh : Sh g) (B : Nat → Int32) (n i0 : Nat) (hR : RTX mi B n i0) (hf : mi 87 5 = nI 0) (lo hx : Nat) (hi : Int32) (hlo : lo ≤ 1000) (hx1 : hx ≤ 1000) (hH : ∀ v, v ≤ 100000 → (nI v ≤ hi ↔ v < hx)) {v e : Nat} (h : numR B n i0 lo hx = .ok (v, e)) : cI Γ 3 mX12_number [.ref 87, .int (nI lo), .int hi] g mi ml (nI v) (up2 mi 87 4 (nI e)) := by
  unfold numR at h
  by_cases hd : dgP B n (skT B n i0) = true
  · rw [if_pos hd] at h
    by_cases hv : lo ≤ dvN B (skT B n i0) (dgT B n (skT B n i0) - skT B n i0) ∧ dvN B (skT B n i0) (dgT B n (skT B n i0) - skT B n i0) < hx
    · rw [if_pos hv] at h
      cases h
      exact c_rnum0 Γ g mi ml hSh B n i0 hR hf lo hx hi hlo hx1 hH hd hv
    · rw [if_neg hv] at h; cases h
  · rw [if_neg hd] at h; cases h
theorem c_rnumE (Γ : pTG) (g : pGG) (mi : pMI) (ml : pML) (hSh : Sh g) (B : Nat → Int32) (n i0 : Nat) (hR : RTX mi B n i0) (hf : mi 87 5 = nI 0) (lo hx : Nat) (hi : Int32) (hlo : lo ≤ 1000) (hx1 : hx ≤ 1000) (hH : ∀ v, v ≤ 100000 → (nI v ≤ hi ↔ v < hx)) {k p : Nat} (h : numR B n i0 lo hx = .error (k, p)) : ∃ q, q ≤ n ∧ cI Γ 3 mX12_number [.ref 87, .int (nI lo), .int hi] g mi ml (nI 0) (up2 (up2 (up2 mi 87 4 (nI q)) 87 5 (nI k)) 87 6 (nI p)) := by
  have hk2 : skT B n i0 ≤ n := skT_le hR.2.1
  unfold numR at h
  by_cases hd : dgP B n (skT B n i0) = true
  · rw [if_pos hd] at h
    by_cases hv : lo ≤ dvN B (skT B n i0) (dgT B n (skT B n i0) - skT B n i0) ∧ dvN B (skT B n i0) (dgT B n (skT B n i0) - skT B n i0) < hx
    · rw [if_pos hv] at h; cases h
    · rw [if_neg hv] at h
      cases h
      exact ⟨_, dgT_le hk2, c_rnum2 Γ g mi ml hSh B n i0 hR hf lo hx hi hlo hx1 hH hd hv⟩
  · rw [if_neg hd] at h
    cases h
    exact ⟨_, hk2, c_rnum1 Γ g mi ml hSh B n i0 hR hf lo hx hi hlo hx1 hH (by simpa using hd)⟩
def ltN (x : Int32) : Nat := x.toBitVec.toNat - 96
theorem ltN_of {x : Int32} (h1 : nI 97 ≤ x) (h2 : x ≤ nI 122) : 1 ≤ ltN x ∧ ltN x ≤ 26 ∧ x = nI (96 + ltN x) := by
  obtain ⟨j, hj, rfl⟩ := nI_of (x := x) (fun h => absurd (Int32.lt_of_le_of_lt h1 h) (by decide))
  have a1 := (nI_leI (by omega) hj).mp h1
  have a2 := (nI_leI hj (by omega)).mp h2
  have e : (nI j).toBitVec.toNat = j := by
    show (Int32.ofNat j).toBitVec.toNat = j
    rw [Int32.toBitVec_ofNat']
    rw [BitVec.toNat_ofNat, Nat.mod_eq_of_lt (by omega)]
  unfold ltN
  rw [e]
  refine ⟨by omega, by omega, ?_⟩
  rw [show 96 + (j - 96) = j by omega]
theorem smP_t {B : Nat → Int32} {n i : Nat} (h : smP B n i = true) : i < n ∧ nI 97 ≤ B i ∧ B i ≤ nI 122 := by unfold smP at h; simp at h; exact h
def wcN (B : Nat → Int32) (s : Nat) : Nat → Nat
  | 0 => 0
  | k + 1 => 27 * wcN B s k + ltN (B (s + k))
theorem wcN_s {B : Nat → Int32} {s i : Nat} (h : s ≤ i) : wcN B s (i + 1 - s) = 27 * wcN B s (i - s) + ltN (B i) := by
  rw [show i + 1 - s = (i - s) + 1 by omega]
  show 27 * wcN B s (i - s) + ltN (B (s + (i - s))) = _
  rw [show s + (i - s) = i by omega]
def wcV (B : Nat → Int32) (n s : Nat) : Int32 := if wdT B n s - s ≤ 6 then nI (wcN B s (wdT B n s - s)) else -1
set_option maxRecDepth 100000 in
set_option maxHeartbeats 4000000 in
theorem c_wordHere (Γ : pTG) (g : pGG) (mi : pMI) (ml : pML) (hSh : Sh g) (B : Nat → Int32) (n i0 : Nat) (hR : RTX mi B n i0) : cI Γ 3 mX12_wordHere [.ref 87] g mi ml (wcV B n (skT B n i0)) (up2 mi 87 4 (nI (skT B n i0))) := by
  refine cI_of (by decide +kernel) (Nat.le_of_ble_eq_true rfl) ?_
  have hn6 := hR.1
  have hk2 : skT B n i0 ≤ n := skT_le hR.2.1
  have hk3 : wdT B n (skT B n i0) ≤ n := wdT_le hk2
  have hk4 : skT B n i0 ≤ wdT B n (skT B n i0) := wdT_ge
  have hR1 := RTX_at hR hk2
  refine X_aload_n dX12_wordHere_0 rfl ?_
  refine X_callVV dX12_wordHere_1 mkX12_180 (k_87 hSh) (c_blanks Γ g mi ml hSh B n i0 hR) rfl rfl (by decide) (Nat.le_of_ble_eq_true rfl) ?_
  refine X_iconst (v := nI 0) dX12_wordHere_4 (by decide) ?_
  refine X_istore_n dX12_wordHere_5 (by decide) ?_
  refine X_iconst (v := nI 0) dX12_wordHere_6 (by decide) ?_
  refine X_istore_n dX12_wordHere_7 (by decide) ?_
  refine X_L [(2, .int (nI 0)), (1, .int (nI 0)), (0, .ref 87)] ⟨rfl, rfl, rfl, trivial⟩ ?_
  refine X_L [(2, .int (nI (skT B n i0 - skT B n i0))), (1, .int (nI (wcN B (skT B n i0) (min (skT B n i0 - skT B n i0) 6)))), (0, .ref 87)] ⟨by rw [Nat.sub_self]; rfl, by rw [Nat.sub_self]; rfl, rfl, trivial⟩ ?_
  refine X_scanL 8 (fun i => [(2, .int (nI (i - skT B n i0))), (1, .int (nI (wcN B (skT B n i0) (min (i - skT B n i0) 6)))), (0, .ref 87)]) (fun i => (up2 mi 87 4 (nI (skT B n i0)))) (smP B n) n (wdT B n (skT B n i0)) (skT B n i0) (fun i h => smP_n h) ?_ ?_ (n - skT B n i0) (skT B n i0) (Nat.le_refl _) (by omega) rfl
  · intro i hsi hp hk
    obtain ⟨hin, hb1, hb2⟩ := smP_t hp
    obtain ⟨hl1, hl2, hlE⟩ := ltN_of hb1 hb2
    refine X_aload_n dX12_wordHere_8 rfl ?_
    refine X_aload_n dX12_wordHere_9 rfl ?_
    refine X_geti dX12_wordHere_10 fkX12_167 rfl (k_87 hSh) ?_
    rw [up2_s]
    refine X_iload_n dX12_wordHere_13 rfl ?_
    refine X_iadd dX12_wordHere_14 ?_
    refine X_topi (nI_add (skT B n i0) (i - skT B n i0)) ?_
    refine X_topi (show nI (skT B n i0 + (i - skT B n i0)) = nI i by rw [Nat.add_sub_of_le (by omega)]) ?_
    refine X_callVI dX12_wordHere_15 mkX12_170 (k_87 hSh) (c_byteT Γ g (up2 mi 87 4 (nI (skT B n i0))) ml hSh B n _ hR1 i (by omega)) rfl rfl (by decide) (Nat.le_of_ble_eq_true rfl) ?_
    refine X_callSI dX12_wordHere_18 mkX12_196 (c_isSmall Γ g (up2 mi 87 4 (nI (skT B n i0))) ml (byT B n i)) rfl rfl (by decide) (Nat.le_of_ble_eq_true rfl) ?_
    refine X_if_eq 61 dX12_wordHere_21 (by decide) (fun h_1 => ?_) (fun h_1 => ?_)
    · exact absurd (bI_0.mp h_1) (by rw [byT_sm, hp]; decide)
    · refine X_iload_n dX12_wordHere_24 rfl ?_
      refine X_bipush (v := nI 6) dX12_wordHere_25 (by decide) ?_
      refine X_icmp_geN (a := i - skT B n i0) (b := 6) 53 dX12_wordHere_27 (by decide) (by omega) (by omega) (fun h_2 => ?_) (fun h_2 => ?_)
      · refine X_iload_n dX12_wordHere_53 rfl ?_
        refine X_istore_n dX12_wordHere_54 (by decide) ?_
        refine X_iinc (v := nI (i - skT B n i0 + 1)) dX12_wordHere_55 rfl (nI_1 _) (by decide) ?_
        refine X_goto 8 dX12_wordHere_58 (by decide) ?_
        refine X_L [(2, .int (nI (i - skT B n i0 + 1))), (1, .int (nI (wcN B (skT B n i0) (min (i - skT B n i0) 6)))), (0, .ref 87)] ⟨rfl, rfl, rfl, trivial⟩ ?_
        have e1 : i + 1 - (skT B n i0) = i - (skT B n i0) + 1 := by omega
        rw [show min (i + 1 - (skT B n i0)) 6 = min (i - (skT B n i0)) 6 by omega, e1] at hk
        exact hk
      · refine X_bipush (v := nI 27) dX12_wordHere_30 (by decide) ?_
        refine X_iload_n dX12_wordHere_32 rfl ?_
        refine X_imul dX12_wordHere_33 ?_
        refine X_topi (pk_mul 27 (wcN B (skT B n i0) (min (i - skT B n i0) 6))) ?_
        refine X_aload_n dX12_wordHere_34 rfl ?_
        refine X_aload_n dX12_wordHere_35 rfl ?_
        refine X_geti dX12_wordHere_36 fkX12_167 rfl (k_87 hSh) ?_
        rw [up2_s]
        refine X_iload_n dX12_wordHere_39 rfl ?_
        refine X_iadd dX12_wordHere_40 ?_
        refine X_topi (nI_add (skT B n i0) (i - skT B n i0)) ?_
        refine X_topi (show nI (skT B n i0 + (i - skT B n i0)) = nI i by rw [Nat.add_sub_of_le (by omega)]) ?_
        refine X_callVI dX12_wordHere_41 mkX12_170 (k_87 hSh) (c_byteT Γ g (up2 mi 87 4 (nI (skT B n i0))) ml hSh B n _ hR1 i (by omega)) rfl rfl (by decide) (Nat.le_of_ble_eq_true rfl) ?_
        refine X_topi (show byT B n i = nI (96 + ltN (B i)) by rw [byT_in hin]; exact hlE) ?_
        refine X_iadd dX12_wordHere_44 ?_
        refine X_topi (nI_add (27 * (wcN B (skT B n i0) (min (i - skT B n i0) 6))) (96 + ltN (B i))) ?_
        refine X_bipush (v := nI 97) dX12_wordHere_45 (by decide) ?_
        refine X_isub dX12_wordHere_47 ?_
        refine X_topi (pk_sub (a := (27 * (wcN B (skT B n i0) (min (i - skT B n i0) 6))) + (96 + ltN (B i))) (b := 97) (by omega)) ?_
        refine X_iconst (v := nI 1) dX12_wordHere_48 (by decide) ?_
        refine X_iadd dX12_wordHere_49 ?_
        refine X_topi (nI_add (((27 * (wcN B (skT B n i0) (min (i - skT B n i0) 6))) + (96 + ltN (B i))) - 97) 1) ?_
        refine X_goto 54 dX12_wordHere_50 (by decide) ?_
        refine X_istore_n dX12_wordHere_54 (by decide) ?_
        refine X_iinc (v := nI (i - skT B n i0 + 1)) dX12_wordHere_55 rfl (nI_1 _) (by decide) ?_
        refine X_goto 8 dX12_wordHere_58 (by decide) ?_
        refine X_L [(2, .int (nI (i - skT B n i0 + 1))), (1, .int (nI ((((27 * (wcN B (skT B n i0) (min (i - skT B n i0) 6))) + (96 + ltN (B i))) - 97) + 1))), (0, .ref 87)] ⟨rfl, rfl, rfl, trivial⟩ ?_
        have e1 : i + 1 - (skT B n i0) = i - (skT B n i0) + 1 := by omega
        rw [show wcN B (skT B n i0) (min (i + 1 - skT B n i0) 6) = (((27 * (wcN B (skT B n i0) (min (i - skT B n i0) 6))) + (96 + ltN (B i))) - 97) + 1 from by
          rw [show min (i + 1 - (skT B n i0)) 6 = i + 1 - (skT B n i0) by omega, wcN_s hsi, show min (i - (skT B n i0)) 6 = i - (skT B n i0) by omega]; omega, e1] at hk
        exact hk
  · intro hp
    refine X_aload_n dX12_wordHere_8 rfl ?_
    refine X_aload_n dX12_wordHere_9 rfl ?_
    refine X_geti dX12_wordHere_10 fkX12_167 rfl (k_87 hSh) ?_
    rw [up2_s]
    refine X_iload_n dX12_wordHere_13 rfl ?_
    refine X_iadd dX12_wordHere_14 ?_
    refine X_topi (nI_add (skT B n i0) (wdT B n (skT B n i0) - skT B n i0)) ?_
    refine X_topi (show nI (skT B n i0 + (wdT B n (skT B n i0) - skT B n i0)) = nI (wdT B n (skT B n i0)) by rw [Nat.add_sub_of_le (by omega)]) ?_
    refine X_callVI dX12_wordHere_15 mkX12_170 (k_87 hSh) (c_byteT Γ g (up2 mi 87 4 (nI (skT B n i0))) ml hSh B n _ hR1 (wdT B n (skT B n i0)) (by omega)) rfl rfl (by decide) (Nat.le_of_ble_eq_true rfl) ?_
    refine X_callSI dX12_wordHere_18 mkX12_196 (c_isSmall Γ g (up2 mi 87 4 (nI (skT B n i0))) ml (byT B n (wdT B n (skT B n i0)))) rfl rfl (by decide) (Nat.le_of_ble_eq_true rfl) ?_
    refine X_if_eq 61 dX12_wordHere_21 (by decide) (fun h_3 => ?_) (fun h_3 => ?_)
    · refine X_iload_n dX12_wordHere_61 rfl ?_
      refine X_bipush (v := nI 6) dX12_wordHere_62 (by decide) ?_
      refine X_icmp_leN (a := wdT B n (skT B n i0) - skT B n i0) (b := 6) 71 dX12_wordHere_64 (by decide) (by omega) (by omega) (fun h_4 => ?_) (fun h_4 => ?_)
      · refine X_iload_n dX12_wordHere_71 rfl ?_
        exact X_iret dX12_wordHere_72 rfl ⟨by unfold wcV; first | (rw [if_neg (by omega)]; done) | (rw [if_pos (by omega), Nat.min_eq_left (by omega)]), rfl, rfl, rfl⟩
      · refine X_iconst (v := -1) dX12_wordHere_67 (by decide) ?_
        refine X_goto 72 dX12_wordHere_68 (by decide) ?_
        exact X_iret dX12_wordHere_72 rfl ⟨by unfold wcV; first | (rw [if_neg (by omega)]; done) | (rw [if_pos (by omega), Nat.min_eq_left (by omega)]), rfl, rfl, rfl⟩
    · exact absurd (bI_0.mpr (byT_sm.trans hp)) h_3
def sx (v c : Nat) : Nat := if c = 0 then v else 27 * v + c
theorem sx_p {v c : Nat} (h : c = 0) : sx v c = v := if_pos h
theorem sx_n {v c : Nat} (h : ¬ c = 0) : sx v c = 27 * v + c := if_neg h
def sixN (a b c d e f : Nat) : Nat := sx (sx (sx (sx (27 * a + b) c) d) e) f
set_option maxRecDepth 100000 in
set_option maxHeartbeats 4000000 in
theorem c_six (Γ : pTG) (g : pGG) (mi : pMI) (ml : pML) (a b c d e f : Nat) (hc : c < 27) (hd : d < 27) (he : e < 27) (hf : f < 27) : cI Γ 1 mX12_six [.int (nI a), .int (nI b), .int (nI c), .int (nI d), .int (nI e), .int (nI f)] g mi ml (nI (sixN a b c d e f)) mi := by
  refine cI_of (by decide +kernel) (Nat.le_of_ble_eq_true rfl) ?_
  refine X_bipush (v := nI 27) dX12_six_0 (by decide) ?_
  refine X_iload_n dX12_six_2 rfl ?_
  refine X_imul dX12_six_3 ?_
  refine X_topi (pk_mul 27 a) ?_
  refine X_iload_n dX12_six_4 rfl ?_
  refine X_iadd dX12_six_5 ?_
  refine X_topi (nI_add (27 * a) b) ?_
  refine X_istore dX12_six_6 (by decide) ?_
  refine X_iload_n dX12_six_8 rfl ?_
  refine X_join (S := []) 24 (fun v => v = nI (sx (27 * a + b) c)) (fun vJ hvJ => ?_) (fun hJ_1 => ?_)
  · rw [hvJ]
    refine X_istore dX12_six_24 (by decide) ?_
    refine X_iload_n dX12_six_26 rfl ?_
    refine X_join (S := []) 42 (fun v => v = nI (sx (sx (27 * a + b) c) d)) (fun vJ hvJ => ?_) (fun hJ_2 => ?_)
    · rw [hvJ]
      refine X_istore dX12_six_42 (by decide) ?_
      refine X_iload dX12_six_44 rfl ?_
      refine X_join (S := []) 62 (fun v => v = nI (sx (sx (sx (27 * a + b) c) d) e)) (fun vJ hvJ => ?_) (fun hJ_3 => ?_)
      · rw [hvJ]
        refine X_istore dX12_six_62 (by decide) ?_
        refine X_iload dX12_six_64 rfl ?_
        refine X_join (S := []) 82 (fun v => v = nI (sx (sx (sx (sx (27 * a + b) c) d) e) f)) (fun vJ hvJ => ?_) (fun hJ_4 => ?_)
        · rw [hvJ]
          exact X_iret dX12_six_82 rfl ⟨by rfl, rfl, rfl, rfl⟩
        · refine X_if_neN (a := f) 74 dX12_six_66 (by decide) (by omega) (fun h_5 => ?_) (fun h_5 => ?_)
          · refine X_bipush (v := nI 27) dX12_six_74 (by decide) ?_
            refine X_iload dX12_six_76 rfl ?_
            refine X_imul dX12_six_78 ?_
            refine X_topi (pk_mul 27 (sx (sx (sx (27 * a + b) c) d) e)) ?_
            refine X_iload dX12_six_79 rfl ?_
            refine X_iadd dX12_six_81 ?_
            refine X_topi (nI_add (27 * (sx (sx (sx (27 * a + b) c) d) e)) f) ?_
            exact hJ_4 _ (by first | exact congrArg nI (sx_p (by assumption)).symm | exact congrArg nI (sx_n (by assumption)).symm)
          · refine X_iload dX12_six_69 rfl ?_
            refine X_goto 82 dX12_six_71 (by decide) ?_
            exact hJ_4 _ (by first | exact congrArg nI (sx_p (by assumption)).symm | exact congrArg nI (sx_n (by assumption)).symm)
      · refine X_if_neN (a := e) 54 dX12_six_46 (by decide) (by omega) (fun h_6 => ?_) (fun h_6 => ?_)
        · refine X_bipush (v := nI 27) dX12_six_54 (by decide) ?_
          refine X_iload dX12_six_56 rfl ?_
          refine X_imul dX12_six_58 ?_
          refine X_topi (pk_mul 27 (sx (sx (27 * a + b) c) d)) ?_
          refine X_iload dX12_six_59 rfl ?_
          refine X_iadd dX12_six_61 ?_
          refine X_topi (nI_add (27 * (sx (sx (27 * a + b) c) d)) e) ?_
          exact hJ_3 _ (by first | exact congrArg nI (sx_p (by assumption)).symm | exact congrArg nI (sx_n (by assumption)).symm)
        · refine X_iload dX12_six_49 rfl ?_
          refine X_goto 62 dX12_six_51 (by decide) ?_
          exact hJ_3 _ (by first | exact congrArg nI (sx_p (by assumption)).symm | exact congrArg nI (sx_n (by assumption)).symm)
    · refine X_if_neN (a := d) 35 dX12_six_27 (by decide) (by omega) (fun h_7 => ?_) (fun h_7 => ?_)
      · refine X_bipush (v := nI 27) dX12_six_35 (by decide) ?_
        refine X_iload dX12_six_37 rfl ?_
        refine X_imul dX12_six_39 ?_
        refine X_topi (pk_mul 27 (sx (27 * a + b) c)) ?_
        refine X_iload_n dX12_six_40 rfl ?_
        refine X_iadd dX12_six_41 ?_
        refine X_topi (nI_add (27 * (sx (27 * a + b) c)) d) ?_
        exact hJ_2 _ (by first | exact congrArg nI (sx_p (by assumption)).symm | exact congrArg nI (sx_n (by assumption)).symm)
      · refine X_iload dX12_six_30 rfl ?_
        refine X_goto 42 dX12_six_32 (by decide) ?_
        exact hJ_2 _ (by first | exact congrArg nI (sx_p (by assumption)).symm | exact congrArg nI (sx_n (by assumption)).symm)
  · refine X_if_neN (a := c) 17 dX12_six_9 (by decide) (by omega) (fun h_8 => ?_) (fun h_8 => ?_)
    · refine X_bipush (v := nI 27) dX12_six_17 (by decide) ?_
      refine X_iload dX12_six_19 rfl ?_
      refine X_imul dX12_six_21 ?_
      refine X_topi (pk_mul 27 ((27 * a) + b)) ?_
      refine X_iload_n dX12_six_22 rfl ?_
      refine X_iadd dX12_six_23 ?_
      refine X_topi (nI_add (27 * ((27 * a) + b)) c) ?_
      exact hJ_1 _ (by first | exact congrArg nI (sx_p (by assumption)).symm | exact congrArg nI (sx_n (by assumption)).symm)
    · refine X_iload dX12_six_12 rfl ?_
      refine X_goto 24 dX12_six_14 (by decide) ?_
      exact hJ_1 _ (by first | exact congrArg nI (sx_p (by assumption)).symm | exact congrArg nI (sx_n (by assumption)).symm)
set_option maxRecDepth 100000 in
set_option maxHeartbeats 4000000 in
theorem c_isWord1 (Γ : pTG) (g : pGG) (mi : pMI) (ml : pML) (hSh : Sh g) (B : Nat → Int32) (n i0 : Nat) (hR : RTX mi B n i0) (hf : mi 87 5 = nI 0) (a b c d e f : Nat) (hc : c < 27) (hd : d < 27) (he : e < 27) (hff : f < 27) (hw : wcV B n (skT B n i0) = nI (sixN a b c d e f)) : cI Γ 4 mX12_isWord [.ref 87, .int (nI a), .int (nI b), .int (nI c), .int (nI d), .int (nI e), .int (nI f)] g mi ml (nI 1) (up2 mi 87 4 (nI (skT B n i0))) := by
  refine cI_of (by decide +kernel) (Nat.le_of_ble_eq_true rfl) ?_
  refine X_aload_n dX12_isWord_0 rfl ?_
  refine X_geti dX12_isWord_1 fkX12_174 rfl (k_87 hSh) ?_
  refine X_if_ne 30 dX12_isWord_4 (by decide) (fun h_1 => ?_) (fun h_1 => ?_)
  · exact absurd hf h_1
  · refine X_aload_n dX12_isWord_7 rfl ?_
    refine X_callVI dX12_isWord_8 mkX12_199 (k_87 hSh) (c_wordHere Γ g mi ml hSh B n i0 hR) rfl rfl (by decide) (Nat.le_of_ble_eq_true rfl) ?_
    refine X_iload_n dX12_isWord_11 rfl ?_
    refine X_iload_n dX12_isWord_12 rfl ?_
    refine X_iload_n dX12_isWord_13 rfl ?_
    refine X_iload dX12_isWord_14 rfl ?_
    refine X_iload dX12_isWord_16 rfl ?_
    refine X_iload dX12_isWord_18 rfl ?_
    refine X_callSI dX12_isWord_20 mkX12_203 (c_six Γ g (up2 mi 87 4 (nI (skT B n i0))) ml a b c d e f hc hd he hff) rfl rfl (by decide) (Nat.le_of_ble_eq_true rfl) ?_
    refine X_icmp_ne 30 dX12_isWord_23 (by decide) (fun h_2 => ?_) (fun h_2 => ?_)
    · exact absurd hw h_2
    · refine X_iconst (v := nI 1) dX12_isWord_26 (by decide) ?_
      refine X_goto 31 dX12_isWord_27 (by decide) ?_
      exact X_zret (ty := .boolean) dX12_isWord_31 rfl (by first | decide | (rcases bI_01 _ with q | q <;> rw [q] <;> decide)) ⟨by rfl, rfl, rfl, rfl⟩
set_option maxRecDepth 100000 in
set_option maxHeartbeats 4000000 in
theorem c_isWord0 (Γ : pTG) (g : pGG) (mi : pMI) (ml : pML) (hSh : Sh g) (B : Nat → Int32) (n i0 : Nat) (hR : RTX mi B n i0) (hf : mi 87 5 = nI 0) (a b c d e f : Nat) (hc : c < 27) (hd : d < 27) (he : e < 27) (hff : f < 27) (hw : ¬ wcV B n (skT B n i0) = nI (sixN a b c d e f)) : cI Γ 4 mX12_isWord [.ref 87, .int (nI a), .int (nI b), .int (nI c), .int (nI d), .int (nI e), .int (nI f)] g mi ml (nI 0) (up2 mi 87 4 (nI (skT B n i0))) := by
  refine cI_of (by decide +kernel) (Nat.le_of_ble_eq_true rfl) ?_
  refine X_aload_n dX12_isWord_0 rfl ?_
  refine X_geti dX12_isWord_1 fkX12_174 rfl (k_87 hSh) ?_
  refine X_if_ne 30 dX12_isWord_4 (by decide) (fun h_1 => ?_) (fun h_1 => ?_)
  · exact absurd hf h_1
  · refine X_aload_n dX12_isWord_7 rfl ?_
    refine X_callVI dX12_isWord_8 mkX12_199 (k_87 hSh) (c_wordHere Γ g mi ml hSh B n i0 hR) rfl rfl (by decide) (Nat.le_of_ble_eq_true rfl) ?_
    refine X_iload_n dX12_isWord_11 rfl ?_
    refine X_iload_n dX12_isWord_12 rfl ?_
    refine X_iload_n dX12_isWord_13 rfl ?_
    refine X_iload dX12_isWord_14 rfl ?_
    refine X_iload dX12_isWord_16 rfl ?_
    refine X_iload dX12_isWord_18 rfl ?_
    refine X_callSI dX12_isWord_20 mkX12_203 (c_six Γ g (up2 mi 87 4 (nI (skT B n i0))) ml a b c d e f hc hd he hff) rfl rfl (by decide) (Nat.le_of_ble_eq_true rfl) ?_
    refine X_icmp_ne 30 dX12_isWord_23 (by decide) (fun h_2 => ?_) (fun h_2 => ?_)
    · refine X_iconst (v := nI 0) dX12_isWord_30 (by decide) ?_
      exact X_zret (ty := .boolean) dX12_isWord_31 rfl (by first | decide | (rcases bI_01 _ with q | q <;> rw [q] <;> decide)) ⟨by rfl, rfl, rfl, rfl⟩
    · exact absurd h_2 hw
set_option maxRecDepth 100000 in
set_option maxHeartbeats 4000000 in
theorem c_takes1 (Γ : pTG) (g : pGG) (mi : pMI) (ml : pML) (hSh : Sh g) (B : Nat → Int32) (n i0 : Nat) (hR : RTX mi B n i0) (hf : mi 87 5 = nI 0) (a b c d e f : Nat) (hc : c < 27) (hd : d < 27) (he : e < 27) (hff : f < 27) (hw : wcV B n (skT B n i0) = nI (sixN a b c d e f)) : cI Γ 5 mX12_takes [.ref 87, .int (nI a), .int (nI b), .int (nI c), .int (nI d), .int (nI e), .int (nI f)] g mi ml (nI 1) (up2 mi 87 4 (nI (wdT B n (skT B n i0)))) := by
  refine cI_of (by decide +kernel) (Nat.le_of_ble_eq_true rfl) ?_
  refine X_aload_n dX12_takes_0 rfl ?_
  refine X_iload_n dX12_takes_1 rfl ?_
  refine X_iload_n dX12_takes_2 rfl ?_
  refine X_iload_n dX12_takes_3 rfl ?_
  refine X_iload dX12_takes_4 rfl ?_
  refine X_iload dX12_takes_6 rfl ?_
  refine X_iload dX12_takes_8 rfl ?_
  refine X_callVI dX12_takes_10 mkX12_207 (k_87 hSh) (c_isWord1 Γ g mi ml hSh B n i0 hR hf a b c d e f hc hd he hff hw) rfl rfl (by decide) (Nat.le_of_ble_eq_true rfl) ?_
  refine X_istore dX12_takes_13 (by decide) ?_
  refine X_iload dX12_takes_15 rfl ?_
  refine X_if_eqN (a := 1) 24 dX12_takes_17 (by decide) (by omega) (fun h_1 => ?_) (fun h_1 => ?_)
  · exact absurd h_1 (by omega)
  · refine X_aload_n dX12_takes_20 rfl ?_
    refine X_callVV dX12_takes_21 mkX12_211 (k_87 hSh) (c_skipWord Γ g (up2 mi 87 4 (nI (skT B n i0))) ml hSh B n (skT B n i0) (RTX_at hR (skT_le hR.2.1))) rfl rfl (by decide) (Nat.le_of_ble_eq_true rfl) ?_
    refine X_iload dX12_takes_24 rfl ?_
    exact X_zret (ty := .boolean) dX12_takes_26 rfl (by first | decide | (rcases bI_01 _ with q | q <;> rw [q] <;> decide)) ⟨rfl, rfl, by first | rfl | exact up2_up2, rfl⟩
set_option maxRecDepth 100000 in
set_option maxHeartbeats 4000000 in
theorem c_takes0 (Γ : pTG) (g : pGG) (mi : pMI) (ml : pML) (hSh : Sh g) (B : Nat → Int32) (n i0 : Nat) (hR : RTX mi B n i0) (hf : mi 87 5 = nI 0) (a b c d e f : Nat) (hc : c < 27) (hd : d < 27) (he : e < 27) (hff : f < 27) (hw : ¬ wcV B n (skT B n i0) = nI (sixN a b c d e f)) : cI Γ 5 mX12_takes [.ref 87, .int (nI a), .int (nI b), .int (nI c), .int (nI d), .int (nI e), .int (nI f)] g mi ml (nI 0) (up2 mi 87 4 (nI (skT B n i0))) := by
  refine cI_of (by decide +kernel) (Nat.le_of_ble_eq_true rfl) ?_
  refine X_aload_n dX12_takes_0 rfl ?_
  refine X_iload_n dX12_takes_1 rfl ?_
  refine X_iload_n dX12_takes_2 rfl ?_
  refine X_iload_n dX12_takes_3 rfl ?_
  refine X_iload dX12_takes_4 rfl ?_
  refine X_iload dX12_takes_6 rfl ?_
  refine X_iload dX12_takes_8 rfl ?_
  refine X_callVI dX12_takes_10 mkX12_207 (k_87 hSh) (c_isWord0 Γ g mi ml hSh B n i0 hR hf a b c d e f hc hd he hff hw) rfl rfl (by decide) (Nat.le_of_ble_eq_true rfl) ?_
  refine X_istore dX12_takes_13 (by decide) ?_
  refine X_iload dX12_takes_15 rfl ?_
  refine X_if_eqN (a := 0) 24 dX12_takes_17 (by decide) (by omega) (fun h_1 => ?_) (fun h_1 => ?_)
  · refine X_iload dX12_takes_24 rfl ?_
    exact X_zret (ty := .boolean) dX12_takes_26 rfl (by first | decide | (rcases bI_01 _ with q | q <;> rw [q] <;> decide)) ⟨rfl, rfl, by first | rfl | exact up2_up2, rfl⟩
  · exact absurd rfl h_1
set_option maxRecDepth 100000 in
set_option maxHeartbeats 4000000 in
theorem c_sign1 (Γ : pTG) (g : pGG) (mi : pMI) (ml : pML) (hSh : Sh g) (B : Nat → Int32) (n i0 : Nat) (hR : RTX mi B n i0) (hf : mi 87 5 = nI 0) (c : Int32) (hc : byT B n (skT B n i0) = c) : cV Γ 3 mX12_sign [.ref 87, .int c] g mi ml (up2 mi 87 4 (nI (skT B n i0 + 1))) ml := by
  refine cV_of (by decide +kernel) (Nat.le_of_ble_eq_true rfl) ?_
  have hn6 := hR.1
  have hk2 : skT B n i0 ≤ n := skT_le hR.2.1
  have hR1 := RTX_at hR hk2
  refine X_aload_n dX12_sign_0 rfl ?_
  refine X_geti dX12_sign_1 fkX12_174 rfl (k_87 hSh) ?_
  refine X_if_eq 8 dX12_sign_4 (by decide) (fun h_1 => ?_) (fun h_1 => ?_)
  · refine X_aload_n dX12_sign_8 rfl ?_
    refine X_callVV dX12_sign_9 mkX12_180 (k_87 hSh) (c_blanks Γ g mi ml hSh B n i0 hR) rfl rfl (by decide) (Nat.le_of_ble_eq_true rfl) ?_
    refine X_aload_n dX12_sign_12 rfl ?_
    refine X_aload_n dX12_sign_13 rfl ?_
    refine X_geti dX12_sign_14 fkX12_167 rfl (k_87 hSh) ?_
    rw [up2_s]
    refine X_callVI dX12_sign_17 mkX12_170 (k_87 hSh) (c_byteT Γ g (up2 mi 87 4 (nI (skT B n i0))) ml hSh B n _ hR1 (skT B n i0) (by omega)) rfl rfl (by decide) (Nat.le_of_ble_eq_true rfl) ?_
    refine X_iload_n dX12_sign_20 rfl ?_
    refine X_icmp_ne 37 dX12_sign_21 (by decide) (fun h_2 => ?_) (fun h_2 => ?_)
    · exact absurd hc h_2
    · refine X_aload_n dX12_sign_24 rfl ?_
      refine X_dup dX12_sign_25 rfl ?_
      refine X_geti dX12_sign_26 fkX12_167 rfl (k_87 hSh) ?_
      rw [up2_s]
      refine X_iconst (v := nI 1) dX12_sign_29 (by decide) ?_
      refine X_iadd dX12_sign_30 ?_
      refine X_topi (nI_add (skT B n i0) 1) ?_
      refine X_puti dX12_sign_31 fkX12_167 rfl rfl (k_87 hSh) ?_
      refine X_goto 46 dX12_sign_34 (by decide) ?_
      exact X_vret dX12_sign_46 rfl ⟨rfl, rfl, by first | rfl | exact up2_up2, rfl⟩
  · exact absurd hf h_1
set_option maxRecDepth 100000 in
set_option maxHeartbeats 4000000 in
theorem c_sign0 (Γ : pTG) (g : pGG) (mi : pMI) (ml : pML) (hSh : Sh g) (B : Nat → Int32) (n i0 : Nat) (hR : RTX mi B n i0) (hf : mi 87 5 = nI 0) (c : Int32) (hc : ¬ byT B n (skT B n i0) = c) : cV Γ 3 mX12_sign [.ref 87, .int c] g mi ml (up2 (up2 (up2 mi 87 4 (nI (skT B n i0))) 87 5 (nI 1)) 87 6 (nI (skT B n i0))) ml := by
  refine cV_of (by decide +kernel) (Nat.le_of_ble_eq_true rfl) ?_
  have hn6 := hR.1
  have hk2 : skT B n i0 ≤ n := skT_le hR.2.1
  have hR1 := RTX_at hR hk2
  refine X_aload_n dX12_sign_0 rfl ?_
  refine X_geti dX12_sign_1 fkX12_174 rfl (k_87 hSh) ?_
  refine X_if_eq 8 dX12_sign_4 (by decide) (fun h_1 => ?_) (fun h_1 => ?_)
  · refine X_aload_n dX12_sign_8 rfl ?_
    refine X_callVV dX12_sign_9 mkX12_180 (k_87 hSh) (c_blanks Γ g mi ml hSh B n i0 hR) rfl rfl (by decide) (Nat.le_of_ble_eq_true rfl) ?_
    refine X_aload_n dX12_sign_12 rfl ?_
    refine X_aload_n dX12_sign_13 rfl ?_
    refine X_geti dX12_sign_14 fkX12_167 rfl (k_87 hSh) ?_
    rw [up2_s]
    refine X_callVI dX12_sign_17 mkX12_170 (k_87 hSh) (c_byteT Γ g (up2 mi 87 4 (nI (skT B n i0))) ml hSh B n _ hR1 (skT B n i0) (by omega)) rfl rfl (by decide) (Nat.le_of_ble_eq_true rfl) ?_
    refine X_iload_n dX12_sign_20 rfl ?_
    refine X_icmp_ne 37 dX12_sign_21 (by decide) (fun h_2 => ?_) (fun h_2 => ?_)
    · refine X_aload_n dX12_sign_37 rfl ?_
      refine X_iconst (v := nI 1) dX12_sign_38 (by decide) ?_
      refine X_aload_n dX12_sign_39 rfl ?_
      refine X_geti dX12_sign_40 fkX12_167 rfl (k_87 hSh) ?_
      rw [up2_s]
      refine X_callVV dX12_sign_43 mkX12_187 (k_87 hSh) (c_wrong0 Γ g (up2 mi 87 4 (nI (skT B n i0))) ml hSh ((up2_n (by omega)).trans hf) (nI 1) (nI (skT B n i0))) rfl rfl (by decide) (Nat.le_of_ble_eq_true rfl) ?_
      exact X_vret dX12_sign_46 rfl ⟨rfl, rfl, by first | rfl | exact up2_up2, rfl⟩
    · exact absurd h_2 hc
  · exact absurd hf h_1
set_option maxRecDepth 100000 in
set_option maxHeartbeats 4000000 in
theorem c_takesSign1 (Γ : pTG) (g : pGG) (mi : pMI) (ml : pML) (hSh : Sh g) (B : Nat → Int32) (n i0 : Nat) (hR : RTX mi B n i0) (hf : mi 87 5 = nI 0) (c : Int32) (hc : byT B n (skT B n i0) = c) : cI Γ 3 mX12_takesSign [.ref 87, .int c] g mi ml (nI 1) (up2 mi 87 4 (nI (skT B n i0 + 1))) := by
  refine cI_of (by decide +kernel) (Nat.le_of_ble_eq_true rfl) ?_
  have hn6 := hR.1
  have hk2 : skT B n i0 ≤ n := skT_le hR.2.1
  have hR1 := RTX_at hR hk2
  refine X_aload_n dX12_takesSign_0 rfl ?_
  refine X_geti dX12_takesSign_1 fkX12_174 rfl (k_87 hSh) ?_
  refine X_if_eq 9 dX12_takesSign_4 (by decide) (fun h_1 => ?_) (fun h_1 => ?_)
  · refine X_aload_n dX12_takesSign_9 rfl ?_
    refine X_callVV dX12_takesSign_10 mkX12_180 (k_87 hSh) (c_blanks Γ g mi ml hSh B n i0 hR) rfl rfl (by decide) (Nat.le_of_ble_eq_true rfl) ?_
    refine X_aload_n dX12_takesSign_13 rfl ?_
    refine X_aload_n dX12_takesSign_14 rfl ?_
    refine X_geti dX12_takesSign_15 fkX12_167 rfl (k_87 hSh) ?_
    rw [up2_s]
    refine X_callVI dX12_takesSign_18 mkX12_170 (k_87 hSh) (c_byteT Γ g (up2 mi 87 4 (nI (skT B n i0))) ml hSh B n _ hR1 (skT B n i0) (by omega)) rfl rfl (by decide) (Nat.le_of_ble_eq_true rfl) ?_
    refine X_iload_n dX12_takesSign_21 rfl ?_
    refine X_icmp_ne 29 dX12_takesSign_22 (by decide) (fun h_2 => ?_) (fun h_2 => ?_)
    · exact absurd hc h_2
    · refine X_iconst (v := nI 1) dX12_takesSign_25 (by decide) ?_
      refine X_goto 30 dX12_takesSign_26 (by decide) ?_
      refine X_istore_n dX12_takesSign_30 (by decide) ?_
      refine X_iload_n dX12_takesSign_31 rfl ?_
      refine X_if_eqN (a := 1) 45 dX12_takesSign_32 (by decide) (by omega) (fun h_3 => ?_) (fun h_3 => ?_)
      · exact absurd h_3 (by omega)
      · refine X_aload_n dX12_takesSign_35 rfl ?_
        refine X_dup dX12_takesSign_36 rfl ?_
        refine X_geti dX12_takesSign_37 fkX12_167 rfl (k_87 hSh) ?_
        rw [up2_s]
        refine X_iconst (v := nI 1) dX12_takesSign_40 (by decide) ?_
        refine X_iadd dX12_takesSign_41 ?_
        refine X_topi (nI_add (skT B n i0) 1) ?_
        refine X_puti dX12_takesSign_42 fkX12_167 rfl rfl (k_87 hSh) ?_
        refine X_iload_n dX12_takesSign_45 rfl ?_
        exact X_zret (ty := .boolean) dX12_takesSign_46 rfl (by first | decide | (rcases bI_01 _ with q | q <;> rw [q] <;> decide)) ⟨rfl, rfl, by first | rfl | exact up2_up2, rfl⟩
  · exact absurd hf h_1
set_option maxRecDepth 100000 in
set_option maxHeartbeats 4000000 in
theorem c_takesSign0 (Γ : pTG) (g : pGG) (mi : pMI) (ml : pML) (hSh : Sh g) (B : Nat → Int32) (n i0 : Nat) (hR : RTX mi B n i0) (hf : mi 87 5 = nI 0) (c : Int32) (hc : ¬ byT B n (skT B n i0) = c) : cI Γ 3 mX12_takesSign [.ref 87, .int c] g mi ml (nI 0) (up2 mi 87 4 (nI (skT B n i0))) := by
  refine cI_of (by decide +kernel) (Nat.le_of_ble_eq_true rfl) ?_
  have hn6 := hR.1
  have hk2 : skT B n i0 ≤ n := skT_le hR.2.1
  have hR1 := RTX_at hR hk2
  refine X_aload_n dX12_takesSign_0 rfl ?_
  refine X_geti dX12_takesSign_1 fkX12_174 rfl (k_87 hSh) ?_
  refine X_if_eq 9 dX12_takesSign_4 (by decide) (fun h_1 => ?_) (fun h_1 => ?_)
  · refine X_aload_n dX12_takesSign_9 rfl ?_
    refine X_callVV dX12_takesSign_10 mkX12_180 (k_87 hSh) (c_blanks Γ g mi ml hSh B n i0 hR) rfl rfl (by decide) (Nat.le_of_ble_eq_true rfl) ?_
    refine X_aload_n dX12_takesSign_13 rfl ?_
    refine X_aload_n dX12_takesSign_14 rfl ?_
    refine X_geti dX12_takesSign_15 fkX12_167 rfl (k_87 hSh) ?_
    rw [up2_s]
    refine X_callVI dX12_takesSign_18 mkX12_170 (k_87 hSh) (c_byteT Γ g (up2 mi 87 4 (nI (skT B n i0))) ml hSh B n _ hR1 (skT B n i0) (by omega)) rfl rfl (by decide) (Nat.le_of_ble_eq_true rfl) ?_
    refine X_iload_n dX12_takesSign_21 rfl ?_
    refine X_icmp_ne 29 dX12_takesSign_22 (by decide) (fun h_2 => ?_) (fun h_2 => ?_)
    · refine X_iconst (v := nI 0) dX12_takesSign_29 (by decide) ?_
      refine X_istore_n dX12_takesSign_30 (by decide) ?_
      refine X_iload_n dX12_takesSign_31 rfl ?_
      refine X_if_eqN (a := 0) 45 dX12_takesSign_32 (by decide) (by omega) (fun h_3 => ?_) (fun h_3 => ?_)
      · refine X_iload_n dX12_takesSign_45 rfl ?_
        exact X_zret (ty := .boolean) dX12_takesSign_46 rfl (by first | decide | (rcases bI_01 _ with q | q <;> rw [q] <;> decide)) ⟨rfl, rfl, by first | rfl | exact up2_up2, rfl⟩
      · exact absurd rfl h_3
    · exact absurd h_2 hc
  · exact absurd hf h_1
def stW (mi : pMI) (n : Nat) : pMI := (up2 (up2 (up2 (up2 (up2 (up2 (up2 mi 87 1 (nI 0)) 87 2 (nI n)) 87 4 (nI 0)) 87 5 (nI 0)) 87 6 (-1)) 87 7 (nI 0)) 87 8 (nI 0))
theorem stW_R {mi : pMI} {B : Nat → Int32} {n : Nat} (hn : n ≤ 600) (hB : ∀ k, k < n → mi 88 k = B k) : RTX (stW mi n) B n 0 ∧ stW mi n 87 5 = nI 0 ∧ (∀ i, i ≠ 87 → stW mi n i = mi i) ∧ (∀ j, (j = 0 ∨ j = 3 ∨ 8 < j) → stW mi n 87 j = mi 87 j) ∧ stW mi n 87 1 = nI 0 ∧ stW mi n 87 6 = -1 ∧ stW mi n 87 7 = nI 0 ∧ stW mi n 87 8 = nI 0 := by
  refine ⟨⟨hn, Nat.zero_le _, fun k hk => ?_, ?_, ?_⟩, ?_, fun i hi => ?_, fun j hj => ?_, ?_, ?_, ?_, ?_⟩
  · have e : stW mi n 88 = mi 88 := by unfold stW; rw [up2_row (by omega), up2_row (by omega), up2_row (by omega), up2_row (by omega), up2_row (by omega), up2_row (by omega), up2_row (by omega)]
    rw [e]; exact hB k hk
  · unfold stW; simp [up2]
  · unfold stW; simp [up2]
  · unfold stW; simp [up2]
  · unfold stW; rw [up2_row hi, up2_row hi, up2_row hi, up2_row hi, up2_row hi, up2_row hi, up2_row hi]
  · unfold stW; rw [up2_n (by omega), up2_n (by omega), up2_n (by omega), up2_n (by omega), up2_n (by omega), up2_n (by omega), up2_n (by omega)]
  · unfold stW; simp [up2]
  · unfold stW; simp [up2]
  · unfold stW; simp [up2]
  · unfold stW; simp [up2]
set_option maxRecDepth 100000 in
set_option maxHeartbeats 4000000 in
theorem c_starts (Γ : pTG) (g : pGG) (mi : pMI) (ml : pML) (hSh : Sh g) (B : Nat → Int32) (n : Nat) (hn : n ≤ 600) (hB : ∀ k, k < n → mi 88 k = B k) : cV Γ 3 mX12_starts [.ref 87, .int (nI n)] g mi ml (up2 (stW mi n) 87 4 (nI (skT B n 0))) ml := by
  refine cV_of (by decide +kernel) (Nat.le_of_ble_eq_true rfl) ?_
  refine X_aload_n dX12_starts_0 rfl ?_
  refine X_iconst (v := nI 0) dX12_starts_1 (by decide) ?_
  refine X_puti dX12_starts_2 fkX12_161 rfl rfl (k_87 hSh) ?_
  refine X_aload_n dX12_starts_5 rfl ?_
  refine X_iload_n dX12_starts_6 rfl ?_
  refine X_puti dX12_starts_7 fkX12_164 rfl rfl (k_87 hSh) ?_
  refine X_aload_n dX12_starts_10 rfl ?_
  refine X_iconst (v := nI 0) dX12_starts_11 (by decide) ?_
  refine X_puti dX12_starts_12 fkX12_167 rfl rfl (k_87 hSh) ?_
  refine X_aload_n dX12_starts_15 rfl ?_
  refine X_iconst (v := nI 0) dX12_starts_16 (by decide) ?_
  refine X_puti dX12_starts_17 fkX12_174 rfl rfl (k_87 hSh) ?_
  refine X_aload_n dX12_starts_20 rfl ?_
  refine X_iconst (v := -1) dX12_starts_21 (by decide) ?_
  refine X_puti dX12_starts_22 fkX12_177 rfl rfl (k_87 hSh) ?_
  refine X_aload_n dX12_starts_25 rfl ?_
  refine X_iconst (v := nI 0) dX12_starts_26 (by decide) ?_
  refine X_puti dX12_starts_27 fkX12_214 rfl rfl (k_87 hSh) ?_
  refine X_aload_n dX12_starts_30 rfl ?_
  refine X_iconst (v := nI 0) dX12_starts_31 (by decide) ?_
  refine X_puti dX12_starts_32 fkX12_217 rfl rfl (k_87 hSh) ?_
  refine X_aload_n dX12_starts_35 rfl ?_
  refine X_mi (show (up2 (up2 (up2 (up2 (up2 (up2 (up2 mi 87 1 (nI 0)) 87 2 (nI n)) 87 4 (nI 0)) 87 5 (nI 0)) 87 6 (-1)) 87 7 (nI 0)) 87 8 (nI 0)) = stW mi n from rfl) ?_
  refine X_callVV dX12_starts_36 mkX12_180 (k_87 hSh) (c_blanks Γ g (stW mi n) ml hSh B n 0 (stW_R hn hB).1) rfl rfl (by decide) (Nat.le_of_ble_eq_true rfl) ?_
  exact X_vret dX12_starts_39 rfl ⟨rfl, rfl, rfl, rfl⟩

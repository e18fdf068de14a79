/-! ===== reading texts ===== -/
/-- from i on as long as p is true -/
def scF (p : Nat → Bool) : Nat → Nat → Nat
  | 0, i => i
  | f + 1, i => if p i = true then scF p f (i + 1) else i
theorem scF_ge (p : Nat → Bool) : ∀ f i, i ≤ scF p f i
  | 0, i => Nat.le_refl _
  | f + 1, i => by
    unfold scF; split
    · exact Nat.le_trans (Nat.le_succ i) (scF_ge p f (i + 1))
    · exact Nat.le_refl _
theorem scF_le {p : Nat → Bool} {n : Nat} (hp : ∀ i, p i = true → i < n) : ∀ f i, i ≤ n → scF p f i ≤ n
  | 0, i, h => h
  | f + 1, i, h => by
    unfold scF; split
    · rename_i q; exact scF_le hp f (i + 1) (hp i q)
    · exact h
theorem X_scan {Γ : pTG} {d k n : Nat} {M : pMD} {S : List Value} {g : pGG} {ml : pML} {Q : pQ} (head : Nat) (Lf : Nat → List (Nat × Value)) (mf : Nat → pMI) (p : Nat → Bool) (N e : Nat) (hp : ∀ i, p i = true → i < N)
    (hb : ∀ i, p i = true → XW Γ d k n M head (Lf (i + 1)) S g (mf (i + 1)) ml Q → XW Γ d k n M head (Lf i) S g (mf i) ml Q)
    (hx : p e = false → XW Γ d k n M head (Lf e) S g (mf e) ml Q) : ∀ f i, N ≤ i + f → e = scF p f i → XW Γ d k n M head (Lf i) S g (mf i) ml Q
  | 0, i, h, he => by
    have he2 : e = i := he
    subst he2
    refine hx ?_
    cases hz : p e with
    | false => rfl
    | true => have := hp e hz; omega
  | f + 1, i, h, he => by
    unfold scF at he
    cases hz : p i with
    | true => rw [if_pos hz] at he; exact hb i hz (X_scan head Lf mf p N e hp hb hx f (i + 1) (by omega) he)
    | false =>
      rw [if_neg (by rw [hz]; decide)] at he
      subst he
      exact hx hz
def bkP (B : Nat → Int32) (n i : Nat) : Bool := decide (i < n) && decide (B i = nI 32)
def smP (B : Nat → Int32) (n i : Nat) : Bool := decide (i < n) && (decide (nI 97 ≤ B i) && decide (B i ≤ nI 122))
def dgP (B : Nat → Int32) (n i : Nat) : Bool := decide (i < n) && (decide (nI 48 ≤ B i) && decide (B i ≤ nI 57))
theorem bkP_n {B : Nat → Int32} {n i : Nat} (h : bkP B n i = true) : i < n := by unfold bkP at h; simp at h; exact h.1
theorem smP_n {B : Nat → Int32} {n i : Nat} (h : smP B n i = true) : i < n := by unfold smP at h; simp at h; exact h.1
theorem dgP_n {B : Nat → Int32} {n i : Nat} (h : dgP B n i = true) : i < n := by unfold dgP at h; simp at h; exact h.1
/-- behind blanks; behind a word -/
def skT (B : Nat → Int32) (n i : Nat) : Nat := scF (bkP B n) (n - i) i
def wdT (B : Nat → Int32) (n i : Nat) : Nat := scF (smP B n) (n - i) i
def byT (B : Nat → Int32) (n i : Nat) : Int32 := if i < n then B i else -1
set_option maxRecDepth 100000 in
set_option maxHeartbeats 4000000 in
theorem c_peek (Γ : pTG) (g : pGG) (mi : pMI) (ml : pML) (hSh : Sh g) (B : Nat → Int32) (n i0 : Nat) (hn : n ≤ 600) (hi : i0 ≤ n) (hB : ∀ k, k < n → mi 1 k = B k) (hl : mi 2 1 = nI n) (ha : mi 2 2 = nI i0) : cI Γ 1 mX10_peek [.ref 2] g mi ml (byT B n (skT B n i0)) (up2 mi 2 2 (nI (skT B n i0))) := by
  refine cI_of (by decide +kernel) (Nat.le_of_ble_eq_true rfl) ?_
  have hke : skT B n i0 ≤ n := scF_le (fun i h => bkP_n h) _ _ hi
  refine X_mi (up2_val ha).symm ?_
  refine X_scan 0 (fun i => [(0, .ref 2)]) (fun i => (up2 mi 2 2 (nI i))) (bkP B n) n (skT B n i0) (fun i h => bkP_n h) ?_ ?_ (n - i0) i0 (by omega) rfl
  · intro i hp hk
    have hin := bkP_n hp
    have hb : B i = nI 32 := by unfold bkP at hp; simp at hp; exact hp.2
    refine X_aload_n dX10_peek_0 rfl ?_
    refine X_geti dX10_peek_1 fkX10_22 rfl (k_2 hSh) ?_
    rw [up2_s]
    refine X_aload_n dX10_peek_4 rfl ?_
    refine X_geti dX10_peek_5 fkX10_19 rfl (k_2 hSh) ?_
    rw [((up2_n (by omega)).trans hl)]
    refine X_icmp_geN (a := i) (b := n) 38 dX10_peek_8 (by decide) (by omega) (by omega) (fun h_1 => ?_) (fun h_1 => ?_)
    · exact absurd h_1 (by omega)
    · refine X_aload_n dX10_peek_11 rfl ?_
      refine X_getr (a := 1) dX10_peek_12 fkX10_15 rfl (k_2 hSh) (r_2_0 hSh) ?_
      refine X_aload_n dX10_peek_15 rfl ?_
      refine X_geti dX10_peek_16 fkX10_22 rfl (k_2 hSh) ?_
      rw [up2_s]
      refine X_iald i dX10_peek_19 (k_1 hSh) rfl (by omega) ?_
      rw [(((congrFun (up2_row (by omega)) _).trans (hB i hin)).trans hb)]
      refine X_bipush (v := nI 32) dX10_peek_20 (by decide) ?_
      refine X_icmp_neN (a := 32) (b := 32) 38 dX10_peek_22 (by decide) (by omega) (by omega) (fun h_2 => ?_) (fun h_2 => ?_)
      · exact absurd rfl h_2
      · refine X_aload_n dX10_peek_25 rfl ?_
        refine X_dup dX10_peek_26 rfl ?_
        refine X_geti dX10_peek_27 fkX10_22 rfl (k_2 hSh) ?_
        rw [up2_s]
        refine X_iconst (v := nI 1) dX10_peek_30 (by decide) ?_
        refine X_iadd dX10_peek_31 ?_
        refine X_topi (nI_add i 1) ?_
        refine X_puti dX10_peek_32 fkX10_22 rfl rfl (k_2 hSh) ?_
        refine X_goto 0 dX10_peek_35 (by decide) ?_
        refine X_L [(0, .ref 2)] ⟨rfl, trivial⟩ ?_
        rw [up2_up2]
        exact hk
  · intro hp
    refine X_aload_n dX10_peek_0 rfl ?_
    refine X_geti dX10_peek_1 fkX10_22 rfl (k_2 hSh) ?_
    rw [up2_s]
    refine X_aload_n dX10_peek_4 rfl ?_
    refine X_geti dX10_peek_5 fkX10_19 rfl (k_2 hSh) ?_
    rw [((up2_n (by omega)).trans hl)]
    refine X_icmp_geN (a := skT B n i0) (b := n) 38 dX10_peek_8 (by decide) (by omega) (by omega) (fun h_3 => ?_) (fun h_3 => ?_)
    · refine X_aload_n dX10_peek_38 rfl ?_
      refine X_geti dX10_peek_39 fkX10_22 rfl (k_2 hSh) ?_
      rw [up2_s]
      refine X_aload_n dX10_peek_42 rfl ?_
      refine X_geti dX10_peek_43 fkX10_19 rfl (k_2 hSh) ?_
      rw [((up2_n (by omega)).trans hl)]
      refine X_icmp_geN (a := skT B n i0) (b := n) 61 dX10_peek_46 (by decide) (by omega) (by omega) (fun h_4 => ?_) (fun h_4 => ?_)
      · refine X_iconst (v := -1) dX10_peek_61 (by decide) ?_
        exact X_iret dX10_peek_62 rfl ⟨by first | (exfalso; omega) | (unfold byT; first | rw [if_pos (by omega)] | rw [if_neg (by omega)]), rfl, rfl, rfl⟩
      · refine X_aload_n dX10_peek_49 rfl ?_
        refine X_getr (a := 1) dX10_peek_50 fkX10_15 rfl (k_2 hSh) (r_2_0 hSh) ?_
        refine X_aload_n dX10_peek_53 rfl ?_
        refine X_geti dX10_peek_54 fkX10_22 rfl (k_2 hSh) ?_
        rw [up2_s]
        refine X_iald (skT B n i0) dX10_peek_57 (k_1 hSh) rfl (by omega) ?_
        rw [(show (up2 mi 2 2 (nI (skT B n i0))) 1 (skT B n i0) = B (skT B n i0) from (congrFun (up2_row (by omega)) _).trans (hB _ (by omega)))]
        refine X_goto 62 dX10_peek_58 (by decide) ?_
        exact X_iret dX10_peek_62 rfl ⟨by first | (exfalso; omega) | (unfold byT; first | rw [if_pos (by omega)] | rw [if_neg (by omega)]), rfl, rfl, rfl⟩
    · refine X_aload_n dX10_peek_11 rfl ?_
      refine X_getr (a := 1) dX10_peek_12 fkX10_15 rfl (k_2 hSh) (r_2_0 hSh) ?_
      refine X_aload_n dX10_peek_15 rfl ?_
      refine X_geti dX10_peek_16 fkX10_22 rfl (k_2 hSh) ?_
      rw [up2_s]
      refine X_iald (skT B n i0) dX10_peek_19 (k_1 hSh) rfl (by omega) ?_
      rw [(show (up2 mi 2 2 (nI (skT B n i0))) 1 (skT B n i0) = B (skT B n i0) from (congrFun (up2_row (by omega)) _).trans (hB _ (by omega)))]
      refine X_bipush (v := nI 32) dX10_peek_20 (by decide) ?_
      refine X_icmp_ne 38 dX10_peek_22 (by decide) (fun h_5 => ?_) (fun h_5 => ?_)
      · refine X_aload_n dX10_peek_38 rfl ?_
        refine X_geti dX10_peek_39 fkX10_22 rfl (k_2 hSh) ?_
        rw [up2_s]
        refine X_aload_n dX10_peek_42 rfl ?_
        refine X_geti dX10_peek_43 fkX10_19 rfl (k_2 hSh) ?_
        rw [((up2_n (by omega)).trans hl)]
        refine X_icmp_geN (a := skT B n i0) (b := n) 61 dX10_peek_46 (by decide) (by omega) (by omega) (fun h_6 => ?_) (fun h_6 => ?_)
        · refine X_iconst (v := -1) dX10_peek_61 (by decide) ?_
          exact X_iret dX10_peek_62 rfl ⟨by first | (exfalso; omega) | (unfold byT; first | rw [if_pos (by omega)] | rw [if_neg (by omega)]), rfl, rfl, rfl⟩
        · refine X_aload_n dX10_peek_49 rfl ?_
          refine X_getr (a := 1) dX10_peek_50 fkX10_15 rfl (k_2 hSh) (r_2_0 hSh) ?_
          refine X_aload_n dX10_peek_53 rfl ?_
          refine X_geti dX10_peek_54 fkX10_22 rfl (k_2 hSh) ?_
          rw [up2_s]
          refine X_iald (skT B n i0) dX10_peek_57 (k_1 hSh) rfl (by omega) ?_
          rw [(show (up2 mi 2 2 (nI (skT B n i0))) 1 (skT B n i0) = B (skT B n i0) from (congrFun (up2_row (by omega)) _).trans (hB _ (by omega)))]
          refine X_goto 62 dX10_peek_58 (by decide) ?_
          exact X_iret dX10_peek_62 rfl ⟨by first | (exfalso; omega) | (unfold byT; first | rw [if_pos (by omega)] | rw [if_neg (by omega)]), rfl, rfl, rfl⟩
      · exact absurd h_5 (fun hz => by unfold bkP at hp; simp [hz] at hp; omega)
set_option maxRecDepth 100000 in
set_option maxHeartbeats 4000000 in
theorem c_wordEnd (Γ : pTG) (g : pGG) (mi : pMI) (ml : pML) (hSh : Sh g) (B : Nat → Int32) (n i0 : Nat) (hn : n ≤ 600) (hi : i0 ≤ n) (hB : ∀ k, k < n → mi 1 k = B k) (hl : mi 2 1 = nI n) (ha : mi 2 2 = nI i0) : cI Γ 1 mX10_wordEnd [.ref 2] g mi ml (nI (wdT B n i0)) mi := by
  refine cI_of (by decide +kernel) (Nat.le_of_ble_eq_true rfl) ?_
  refine X_aload_n dX10_wordEnd_0 rfl ?_
  refine X_geti dX10_wordEnd_1 fkX10_22 rfl (k_2 hSh) ?_
  rw [ha]
  refine X_istore_n dX10_wordEnd_4 (by decide) ?_
  refine X_L [(1, .int (nI i0)), (0, .ref 2)] ⟨rfl, rfl, trivial⟩ ?_
  have hke : wdT B n i0 ≤ n := scF_le (fun i h => smP_n h) _ _ hi
  refine X_scan 5 (fun i => [(1, .int (nI i)), (0, .ref 2)]) (fun i => mi) (smP B n) n (wdT B n i0) (fun i h => smP_n h) ?_ ?_ (n - i0) i0 (by omega) rfl
  · intro i hp hk
    have hin := smP_n hp
    have hb : nI 97 ≤ B i ∧ B i ≤ nI 122 := by unfold smP at hp; simp at hp; exact hp.2
    refine X_iload_n dX10_wordEnd_5 rfl ?_
    refine X_aload_n dX10_wordEnd_6 rfl ?_
    refine X_geti dX10_wordEnd_7 fkX10_19 rfl (k_2 hSh) ?_
    rw [hl]
    refine X_icmp_geN (a := i) (b := n) 41 dX10_wordEnd_10 (by decide) (by omega) (by omega) (fun h_1 => ?_) (fun h_1 => ?_)
    · exact absurd h_1 (by omega)
    · refine X_aload_n dX10_wordEnd_13 rfl ?_
      refine X_getr (a := 1) dX10_wordEnd_14 fkX10_15 rfl (k_2 hSh) (r_2_0 hSh) ?_
      refine X_iload_n dX10_wordEnd_17 rfl ?_
      refine X_iald i dX10_wordEnd_18 (k_1 hSh) rfl (by omega) ?_
      rw [(hB i hin)]
      refine X_bipush (v := nI 97) dX10_wordEnd_19 (by decide) ?_
      refine X_icmp_lt 41 dX10_wordEnd_21 (by decide) (fun h_2 => ?_) (fun h_2 => ?_)
      · exact absurd h_2 (Int32.not_lt.mpr hb.1)
      · refine X_aload_n dX10_wordEnd_24 rfl ?_
        refine X_getr (a := 1) dX10_wordEnd_25 fkX10_15 rfl (k_2 hSh) (r_2_0 hSh) ?_
        refine X_iload_n dX10_wordEnd_28 rfl ?_
        refine X_iald i dX10_wordEnd_29 (k_1 hSh) rfl (by omega) ?_
        rw [(hB i hin)]
        refine X_bipush (v := nI 122) dX10_wordEnd_30 (by decide) ?_
        refine X_icmp_gt 41 dX10_wordEnd_32 (by decide) (fun h_3 => ?_) (fun h_3 => ?_)
        · exact absurd h_3 (Int32.not_lt.mpr hb.2)
        · refine X_iinc (v := nI (i + 1)) dX10_wordEnd_35 rfl (nI_1 _) (by decide) ?_
          refine X_goto 5 dX10_wordEnd_38 (by decide) ?_
          refine X_L [(1, .int (nI (i + 1))), (0, .ref 2)] ⟨rfl, rfl, trivial⟩ ?_
          exact hk
  · intro hp
    refine X_iload_n dX10_wordEnd_5 rfl ?_
    refine X_aload_n dX10_wordEnd_6 rfl ?_
    refine X_geti dX10_wordEnd_7 fkX10_19 rfl (k_2 hSh) ?_
    rw [hl]
    refine X_icmp_geN (a := wdT B n i0) (b := n) 41 dX10_wordEnd_10 (by decide) (by omega) (by omega) (fun h_4 => ?_) (fun h_4 => ?_)
    · refine X_iload_n dX10_wordEnd_41 rfl ?_
      exact X_iret dX10_wordEnd_42 rfl ⟨by rfl, rfl, rfl, rfl⟩
    · refine X_aload_n dX10_wordEnd_13 rfl ?_
      refine X_getr (a := 1) dX10_wordEnd_14 fkX10_15 rfl (k_2 hSh) (r_2_0 hSh) ?_
      refine X_iload_n dX10_wordEnd_17 rfl ?_
      refine X_iald (wdT B n i0) dX10_wordEnd_18 (k_1 hSh) rfl (by omega) ?_
      rw [(show mi 1 (wdT B n i0) = B (wdT B n i0) from hB _ (by omega))]
      refine X_bipush (v := nI 97) dX10_wordEnd_19 (by decide) ?_
      refine X_icmp_lt 41 dX10_wordEnd_21 (by decide) (fun h_5 => ?_) (fun h_5 => ?_)
      · refine X_iload_n dX10_wordEnd_41 rfl ?_
        exact X_iret dX10_wordEnd_42 rfl ⟨by rfl, rfl, rfl, rfl⟩
      · refine X_aload_n dX10_wordEnd_24 rfl ?_
        refine X_getr (a := 1) dX10_wordEnd_25 fkX10_15 rfl (k_2 hSh) (r_2_0 hSh) ?_
        refine X_iload_n dX10_wordEnd_28 rfl ?_
        refine X_iald (wdT B n i0) dX10_wordEnd_29 (k_1 hSh) rfl (by omega) ?_
        rw [(show mi 1 (wdT B n i0) = B (wdT B n i0) from hB _ (by omega))]
        refine X_bipush (v := nI 122) dX10_wordEnd_30 (by decide) ?_
        refine X_icmp_gt 41 dX10_wordEnd_32 (by decide) (fun h_6 => ?_) (fun h_6 => ?_)
        · refine X_iload_n dX10_wordEnd_41 rfl ?_
          exact X_iret dX10_wordEnd_42 rfl ⟨by rfl, rfl, rfl, rfl⟩
        · exact absurd h_6 (fun hz => by have h97 : nI 97 ≤ B (wdT B n i0) := Int32.not_lt.mp (by assumption); unfold smP at hp; simp [h97, hz] at hp; omega)
set_option maxRecDepth 100000 in
set_option maxHeartbeats 4000000 in
theorem c_passWord (Γ : pTG) (g : pGG) (mi : pMI) (ml : pML) (hSh : Sh g) (B : Nat → Int32) (n i0 : Nat) (hn : n ≤ 600) (hi : i0 ≤ n) (hB : ∀ k, k < n → mi 1 k = B k) (hl : mi 2 1 = nI n) (ha : mi 2 2 = nI i0) : cV Γ 2 mX10_passWord [.ref 2] g mi ml (up2 mi 2 2 (nI (wdT B n i0))) ml := by
  refine cV_of (by decide +kernel) (Nat.le_of_ble_eq_true rfl) ?_
  refine X_aload_n dX10_passWord_0 rfl ?_
  refine X_aload_n dX10_passWord_1 rfl ?_
  refine X_callVI dX10_passWord_2 mkX10_53 (k_2 hSh) (c_wordEnd Γ g mi ml hSh B n i0 hn hi hB hl ha) rfl rfl (by decide) (Nat.le_of_ble_eq_true rfl) ?_
  refine X_puti dX10_passWord_5 fkX10_22 rfl rfl (k_2 hSh) ?_
  exact X_vret dX10_passWord_8 rfl ⟨rfl, rfl, rfl, rfl⟩

/-! ===== habits read, as the reference does ===== -/
def frRH (m x : pMI) : Prop := (∀ i, i ≠ 87 → i ≠ 132 → x i = m i) ∧ (∀ j, j ≠ 4 → j ≠ 5 → j ≠ 6 → j ≠ 8 → j ≠ 27 → j ≠ 33 → x 87 j = m 87 j)
theorem frRH_u {m x : pMI} {a j : Nat} {v : Int32} (h : frRH m x) (ha : (a = 87 ∧ (j = 4 ∨ j = 5 ∨ j = 6 ∨ j = 8 ∨ j = 27 ∨ j = 33)) ∨ a = 132) : frRH m (up2 x a j v) :=
  ⟨fun i h1 h2 => by rw [up2_row (by omega)]; exact h.1 i h1 h2, fun k h1 h2 h3 h4 h5 h6 => by rw [up2_nn (by omega)]; exact h.2 k h1 h2 h3 h4 h5 h6⟩
def RST (m0 m : pMI) (B : Nat → Int32) (n i : Nat) (T : List Tok) (a : Bool) (op : Nat) : Prop := RTX m B n i ∧ n ≤ 150 ∧ m 87 5 = nI 0 ∧ m 87 27 = nI T.length ∧ (∀ j, j < T.length → m 132 (2 * j) = nI (T.getD j (0, 0)).1 ∧ m 132 (2 * j + 1) = nI (T.getD j (0, 0)).2) ∧ m 87 33 = bI a ∧ m 87 8 = nI op ∧ T.length ≤ i ∧ m 87 6 = m0 87 6 ∧ frRH m0 m
def RHE (m0 m : pMI) (B : Nat → Int32) (n k p : Nat) : Prop := m 87 5 = nI k ∧ 1 ≤ k ∧ k ≤ 3 ∧ m 87 6 = nI p ∧ frRH m0 m ∧ ∃ q, RTX m B n q
def RHS (m0 : pMI) (B : Nat → Int32) (n : Nat) (T : List Tok) (a : Bool) (op : Nat) (r : hRs) (m : pMI) : Prop := match r with
  | .error (k, p) => RHE m0 m B n k p
  | .ok (e, t, b) => RST m0 m B n e (T ++ t) (a || b) op
theorem RHE_f {m0 m : pMI} {B : Nat → Int32} {n k p : Nat} (h : RHE m0 m B n k p) : ¬ m 87 5 = 0 := by rw [h.1]; exact nI_ne0 (by have := h.2.1; omega) (by have := h.2.2.1; omega)
theorem RHE_o {m0 m : pMI} {B : Nat → Int32} {n k p : Nat} {v : Int32} (h : RHE m0 m B n k p) : RHE m0 (up2 m 87 8 v) B n k p := by
  obtain ⟨h1, h2, h3, h4, h5, q, h6⟩ := h
  exact ⟨(up2_n (by omega)).trans h1, h2, h3, (up2_n (by omega)).trans h4, frRH_u h5 (by omega), q, RTX_u h6 (by omega)⟩
theorem RST_at {m0 m : pMI} {B : Nat → Int32} {n i j op : Nat} {T : List Tok} {a : Bool} (h : RST m0 m B n i T a op) (hj : j ≤ n) (hij : i ≤ j) : RST m0 (up2 m 87 4 (nI j)) B n j T a op := by
  obtain ⟨h1, h2, h3, h4, h5, h6, h7, h8, h9, h10⟩ := h
  exact ⟨RTX_at h1 hj, h2, (up2_n (by omega)).trans h3, (up2_n (by omega)).trans h4, fun k hk => by rw [up2_row (by omega)]; exact h5 k hk, (up2_n (by omega)).trans h6, (up2_n (by omega)).trans h7, by omega, (up2_n (by omega)).trans h9, frRH_u h10 (by omega)⟩
theorem RST_eq {m0 m : pMI} {B : Nat → Int32} {n i op : Nat} {T T' : List Tok} {a a' : Bool} (h : RST m0 m B n i T a op) (h1 : T = T') (h2 : a = a') : RST m0 m B n i T' a' op := by rw [← h1, ← h2]; exact h
theorem RST_o {m0 m : pMI} {B : Nat → Int32} {n i op op' : Nat} {T : List Tok} {a : Bool} {v : Int32} (h : RST m0 m B n i T a op) (hv : v = nI op') : RST m0 (up2 m 87 8 v) B n i T a op' := by
  obtain ⟨h1, h2, h3, h4, h5, h6, h7, h8, h9, h10⟩ := h
  exact ⟨RTX_u h1 (by omega), h2, (up2_n (by omega)).trans h3, (up2_n (by omega)).trans h4, fun k hk => by rw [up2_row (by omega)]; exact h5 k hk, (up2_n (by omega)).trans h6, up2_s.trans hv, h8, (up2_n (by omega)).trans h9, frRH_u h10 (by omega)⟩
theorem RTX_v {m : pMI} {B : Nat → Int32} {n i j : Nat} {v : Int32} (h : RTX m B n i) (hj : j ≠ 2 ∧ j ≠ 4) : RTX (up2 m 87 j v) B n i := RTX_row h (up2_row (by omega)) (up2_nn (by omega)) (up2_nn (by omega))
theorem RST_ask {m0 m : pMI} {B : Nat → Int32} {n i op : Nat} {T : List Tok} {a b : Bool} {v : Int32} (h : RST m0 m B n i T a op) (hv : v = bI b) : RST m0 (up2 m 87 33 v) B n i T b op := by
  obtain ⟨h1, h2, h3, h4, h5, h6, h7, h8, h9, h10⟩ := h
  exact ⟨RTX_v h1 (by omega), h2, (up2_n (by omega)).trans h3, (up2_n (by omega)).trans h4, fun k hk => by rw [up2_row (by omega)]; exact h5 k hk, up2_s.trans hv, (up2_n (by omega)).trans h7, h8, (up2_n (by omega)).trans h9, frRH_u h10 (by omega)⟩
def ntW (m : pMI) (s : Nat) (u v : Int32) : pMI := up2 (up2 (up2 m 132 (2 * s) u) 132 (2 * s + 1) v) 87 27 (nI (s + 1))
theorem RST_nt {m0 m : pMI} {B : Nat → Int32} {n i op : Nat} {T : List Tok} {a : Bool} {t : Tok} {u v : Int32} (h : RST m0 m B n i T a op) (hl : T.length + 1 ≤ i) (hu : u = nI t.1) (hv : v = nI t.2) : RST m0 (ntW m T.length u v) B n i (T ++ [t]) a op := by
  subst hu hv
  obtain ⟨h1, h2, h3, h4, h5, h6, h7, h8, h9, h10⟩ := h
  have h87 : ∀ j, j ≠ 27 → ntW m T.length (nI t.1) (nI t.2) 87 j = m 87 j := fun j hj => by unfold ntW; rw [up2_n hj, up2_row (by omega), up2_row (by omega)]
  refine ⟨RTX_row h1 (by unfold ntW; rw [up2_row (by omega), up2_row (by omega), up2_row (by omega)]) (h87 2 (by omega)) (h87 4 (by omega)), h2, (h87 5 (by omega)).trans h3, ?_, fun j hj => ?_, (h87 33 (by omega)).trans h6, (h87 8 (by omega)).trans h7, ?_, (h87 6 (by omega)).trans h9, frRH_u (frRH_u (frRH_u h10 (by omega)) (by omega)) (by omega)⟩
  · rw [List.length_append, List.length_singleton]; exact up2_s
  · rw [List.length_append, List.length_singleton] at hj
    rw [getD_app hj]
    unfold ntW
    rw [up2_row (by omega)]
    by_cases q : j < T.length
    · rw [if_pos q, up2_n (by omega), up2_n (by omega), up2_n (by omega), up2_n (by omega)]; exact h5 j q
    · rw [if_neg q, show j = T.length by omega, up2_n (by omega)]; exact ⟨up2_s, up2_s⟩
  · rw [List.length_append, List.length_singleton]; exact hl
theorem RHE_of {m0 m : pMI} {B : Nat → Int32} {n i q k p op : Nat} {T : List Tok} {a : Bool} (h : RST m0 m B n i T a op) (hq : q ≤ n) (hk : 1 ≤ k ∧ k ≤ 3) : RHE m0 (up2 (up2 (up2 m 87 4 (nI q)) 87 5 (nI k)) 87 6 (nI p)) B n k p :=
  ⟨(up2_n (by omega)).trans up2_s, hk.1, hk.2, up2_s, frRH_u (frRH_u (frRH_u h.2.2.2.2.2.2.2.2.2 (by omega)) (by omega)) (by omega), q, RTX_u (RTX_u (RTX_at h.1 hq) (by omega)) (by omega)⟩
theorem RHE_of2 {m0 m : pMI} {B : Nat → Int32} {n i k p op : Nat} {T : List Tok} {a : Bool} (h : RST m0 m B n i T a op) (hk : 1 ≤ k ∧ k ≤ 3) : RHE m0 (up2 (up2 m 87 5 (nI k)) 87 6 (nI p)) B n k p :=
  ⟨(up2_n (by omega)).trans up2_s, hk.1, hk.2, up2_s, frRH_u (frRH_u h.2.2.2.2.2.2.2.2.2 (by omega)) (by omega), i, RTX_u (RTX_u h.1 (by omega)) (by omega)⟩
def RC2 (Γ : pTG) (g : pGG) (ml : pML) (B : Nat → Int32) (n D : Nat) (M : pMD) (op : Nat) (U : hFn) : Prop := ∀ (m0 mi : pMI) (i : Nat) (T : List Tok) (a : Bool), RST m0 mi B n i T a op → rV Γ D M [.ref 87] g mi ml (fun m l => RHS m0 B n T a op (U i) m ∧ l = ml)
set_option maxRecDepth 100000 in
set_option maxHeartbeats 4000000 in
theorem c_notes (Γ : pTG) (g : pGG) (mi : pMI) (ml : pML) (hSh : Sh g) (hf : mi 87 5 = nI 0) (s : Nat) (hs : mi 87 27 = nI s) (hs2 : s < 160) (u v : Int32) : cV Γ 1 mX12_notes [.ref 87, .int u, .int v] g mi ml (ntW mi s u v) ml := by
  refine cV_of (by decide +kernel) (Nat.le_of_ble_eq_true rfl) ?_
  refine X_aload_n dX12_notes_0 rfl ?_
  refine X_geti dX12_notes_1 fkX12_174 rfl (k_87 hSh) ?_
  rw [hf]
  refine X_if_eqN (a := 0) 8 dX12_notes_4 (by decide) (by omega) (fun h_1 => ?_) (fun h_1 => ?_)
  · refine X_aload_n dX12_notes_8 rfl ?_
    refine X_getr (a := 132) dX12_notes_9 fkX12_49 rfl (k_87 hSh) (r_87_20 hSh) ?_
    refine X_iconst (v := nI 2) dX12_notes_12 (by decide) ?_
    refine X_aload_n dX12_notes_13 rfl ?_
    refine X_geti dX12_notes_14 fkX12_253 rfl (k_87 hSh) ?_
    rw [hs]
    refine X_imul dX12_notes_17 ?_
    refine X_topi (pk_mul 2 s) ?_
    refine X_iload_n dX12_notes_18 rfl ?_
    refine X_iast (2 * s) dX12_notes_19 (k_132 hSh) rfl (by omega) ?_
    refine X_aload_n dX12_notes_20 rfl ?_
    refine X_getr (a := 132) dX12_notes_21 fkX12_49 rfl (k_87 hSh) (r_87_20 hSh) ?_
    refine X_iconst (v := nI 2) dX12_notes_24 (by decide) ?_
    refine X_aload_n dX12_notes_25 rfl ?_
    refine X_geti dX12_notes_26 fkX12_253 rfl (k_87 hSh) ?_
    rw [((congrFun (up2_row (by omega)) _).trans hs)]
    refine X_imul dX12_notes_29 ?_
    refine X_topi (pk_mul 2 s) ?_
    refine X_iconst (v := nI 1) dX12_notes_30 (by decide) ?_
    refine X_iadd dX12_notes_31 ?_
    refine X_topi (nI_add (2 * s) 1) ?_
    refine X_iload_n dX12_notes_32 rfl ?_
    refine X_iast ((2 * s) + 1) dX12_notes_33 (k_132 hSh) rfl (by omega) ?_
    refine X_aload_n dX12_notes_34 rfl ?_
    refine X_dup dX12_notes_35 rfl ?_
    refine X_geti dX12_notes_36 fkX12_253 rfl (k_87 hSh) ?_
    rw [((congrFun (up2_row (by omega)) _).trans ((congrFun (up2_row (by omega)) _).trans hs))]
    refine X_iconst (v := nI 1) dX12_notes_39 (by decide) ?_
    refine X_iadd dX12_notes_40 ?_
    refine X_topi (nI_add s 1) ?_
    refine X_puti dX12_notes_41 fkX12_253 rfl rfl (k_87 hSh) ?_
    exact X_vret dX12_notes_44 rfl ⟨rfl, rfl, rfl, rfl⟩
  · exact absurd h_1 (by omega)
set_option maxRecDepth 100000 in
set_option maxHeartbeats 4000000 in
theorem c_notesF (Γ : pTG) (g : pGG) (mi : pMI) (ml : pML) (hSh : Sh g) (hf : ¬ mi 87 5 = 0) (u v : Int32) : cV Γ 1 mX12_notes [.ref 87, .int u, .int v] g mi ml mi ml := by
  refine cV_of (by decide +kernel) (Nat.le_of_ble_eq_true rfl) ?_
  refine X_aload_n dX12_notes_0 rfl ?_
  refine X_geti dX12_notes_1 fkX12_174 rfl (k_87 hSh) ?_
  refine X_if_eq 8 dX12_notes_4 (by decide) (fun h_1 => ?_) (fun h_1 => ?_)
  · exact absurd h_1 hf
  · exact X_vret dX12_notes_7 rfl ⟨rfl, rfl, rfl, rfl⟩
set_option maxRecDepth 100000 in
set_option maxHeartbeats 4000000 in
theorem c_opens1 (Γ : pTG) (g : pGG) (mi : pMI) (ml : pML) (hSh : Sh g) (hf : mi 87 5 = nI 0) (op : Nat) (ho : mi 87 8 = nI op) (h6 : op < 6) : cI Γ 2 mX12_opens [.ref 87] g mi ml (nI 1) (up2 mi 87 8 (nI (op + 1))) := by
  refine cI_of (by decide +kernel) (Nat.le_of_ble_eq_true rfl) ?_
  refine X_aload_n dX12_opens_0 rfl ?_
  refine X_geti dX12_opens_1 fkX12_174 rfl (k_87 hSh) ?_
  rw [hf]
  refine X_if_neN (a := 0) 28 dX12_opens_4 (by decide) (by omega) (fun h_1 => ?_) (fun h_1 => ?_)
  · exact absurd h_1 (by omega)
  · refine X_aload_n dX12_opens_7 rfl ?_
    refine X_geti dX12_opens_8 fkX12_217 rfl (k_87 hSh) ?_
    rw [ho]
    refine X_bipush (v := nI 6) dX12_opens_11 (by decide) ?_
    refine X_icmp_neN (a := op) (b := 6) 28 dX12_opens_13 (by decide) (by omega) (by omega) (fun h_2 => ?_) (fun h_2 => ?_)
    · refine X_aload_n dX12_opens_28 rfl ?_
      refine X_geti dX12_opens_29 fkX12_174 rfl (k_87 hSh) ?_
      rw [hf]
      refine X_if_neN (a := 0) 45 dX12_opens_32 (by decide) (by omega) (fun h_3 => ?_) (fun h_3 => ?_)
      · exact absurd h_3 (by omega)
      · refine X_aload_n dX12_opens_35 rfl ?_
        refine X_dup dX12_opens_36 rfl ?_
        refine X_geti dX12_opens_37 fkX12_217 rfl (k_87 hSh) ?_
        rw [ho]
        refine X_iconst (v := nI 1) dX12_opens_40 (by decide) ?_
        refine X_iadd dX12_opens_41 ?_
        refine X_topi (nI_add op 1) ?_
        refine X_puti dX12_opens_42 fkX12_217 rfl rfl (k_87 hSh) ?_
        refine X_aload_n dX12_opens_45 rfl ?_
        refine X_geti dX12_opens_46 fkX12_174 rfl (k_87 hSh) ?_
        rw [((up2_n (by omega)).trans hf)]
        refine X_if_neN (a := 0) 56 dX12_opens_49 (by decide) (by omega) (fun h_4 => ?_) (fun h_4 => ?_)
        · exact absurd h_4 (by omega)
        · refine X_iconst (v := nI 1) dX12_opens_52 (by decide) ?_
          refine X_goto 57 dX12_opens_53 (by decide) ?_
          exact X_zret (ty := .boolean) dX12_opens_57 rfl (by first | decide | (rcases bI_01 _ with q | q <;> rw [q] <;> decide)) ⟨by rfl, rfl, rfl, rfl⟩
    · exact absurd h_2 (by omega)
set_option maxRecDepth 100000 in
set_option maxHeartbeats 4000000 in
theorem c_opens0 (Γ : pTG) (g : pGG) (mi : pMI) (ml : pML) (hSh : Sh g) (hf : mi 87 5 = nI 0) (ho : mi 87 8 = nI 6) (s : Nat) (hs : mi 87 4 = nI s) : cI Γ 2 mX12_opens [.ref 87] g mi ml (nI 0) (up2 (up2 mi 87 5 (nI 3)) 87 6 (nI s)) := by
  refine cI_of (by decide +kernel) (Nat.le_of_ble_eq_true rfl) ?_
  refine X_aload_n dX12_opens_0 rfl ?_
  refine X_geti dX12_opens_1 fkX12_174 rfl (k_87 hSh) ?_
  rw [hf]
  refine X_if_neN (a := 0) 28 dX12_opens_4 (by decide) (by omega) (fun h_1 => ?_) (fun h_1 => ?_)
  · exact absurd h_1 (by omega)
  · refine X_aload_n dX12_opens_7 rfl ?_
    refine X_geti dX12_opens_8 fkX12_217 rfl (k_87 hSh) ?_
    rw [ho]
    refine X_bipush (v := nI 6) dX12_opens_11 (by decide) ?_
    refine X_icmp_neN (a := 6) (b := 6) 28 dX12_opens_13 (by decide) (by omega) (by omega) (fun h_2 => ?_) (fun h_2 => ?_)
    · exact absurd h_2 (by omega)
    · refine X_aload_n dX12_opens_16 rfl ?_
      refine X_iconst (v := nI 3) dX12_opens_17 (by decide) ?_
      refine X_aload_n dX12_opens_18 rfl ?_
      refine X_geti dX12_opens_19 fkX12_167 rfl (k_87 hSh) ?_
      rw [hs]
      refine X_callVV dX12_opens_22 mkX12_187 (k_87 hSh) (c_wrong0 Γ g mi ml hSh hf (nI 3) (nI s)) rfl rfl (by decide) (Nat.le_of_ble_eq_true rfl) ?_
      refine X_goto 45 dX12_opens_25 (by decide) ?_
      refine X_aload_n dX12_opens_45 rfl ?_
      refine X_geti dX12_opens_46 fkX12_174 rfl (k_87 hSh) ?_
      rw [((up2_n (by omega)).trans up2_s)]
      refine X_if_neN (a := 3) 56 dX12_opens_49 (by decide) (by omega) (fun h_3 => ?_) (fun h_3 => ?_)
      · refine X_iconst (v := nI 0) dX12_opens_56 (by decide) ?_
        exact X_zret (ty := .boolean) dX12_opens_57 rfl (by first | decide | (rcases bI_01 _ with q | q <;> rw [q] <;> decide)) ⟨by rfl, rfl, rfl, rfl⟩
      · exact absurd h_3 (by omega)
set_option maxRecDepth 100000 in
set_option maxHeartbeats 4000000 in
theorem c_oneF (Γ : pTG) (g : pGG) (mi : pMI) (ml : pML) (hSh : Sh g) (hf : ¬ mi 87 5 = 0) : cV Γ 1 mX12_one [.ref 87] g mi ml mi ml := by
  refine cV_of (by decide +kernel) (Nat.le_of_ble_eq_true rfl) ?_
  refine X_aload_n dX12_one_0 rfl ?_
  refine X_geti dX12_one_1 fkX12_174 rfl (k_87 hSh) ?_
  refine X_if_eq 8 dX12_one_4 (by decide) (fun h_1 => ?_) (fun h_1 => ?_)
  · exact absurd h_1 hf
  · exact X_vret dX12_one_7 rfl ⟨rfl, rfl, rfl, rfl⟩
set_option maxRecDepth 100000 in
set_option maxHeartbeats 4000000 in
theorem c_productF (Γ : pTG) (g : pGG) (mi : pMI) (ml : pML) (hSh : Sh g) (hf : ¬ mi 87 5 = 0) : cV Γ 2 mX12_product [.ref 87] g mi ml mi ml := by
  refine cV_of (by decide +kernel) (Nat.le_of_ble_eq_true rfl) ?_
  refine X_aload_n dX12_product_0 rfl ?_
  refine X_callVV dX12_product_1 mkX12_265 (k_87 hSh) (c_oneF Γ g mi ml hSh hf) rfl rfl (by decide) (Nat.le_of_ble_eq_true rfl) ?_
  refine X_aload_n dX12_product_4 rfl ?_
  refine X_geti dX12_product_5 fkX12_174 rfl (k_87 hSh) ?_
  refine X_if_ne 72 dX12_product_8 (by decide) (fun h_1 => ?_) (fun h_1 => ?_)
  · exact X_vret dX12_product_72 rfl ⟨rfl, rfl, rfl, rfl⟩
  · exact absurd h_1 hf
set_option maxRecDepth 100000 in
set_option maxHeartbeats 4000000 in
theorem c_sumF (Γ : pTG) (g : pGG) (mi : pMI) (ml : pML) (hSh : Sh g) (hf : ¬ mi 87 5 = 0) : cV Γ 3 mX12_sum [.ref 87] g mi ml mi ml := by
  refine cV_of (by decide +kernel) (Nat.le_of_ble_eq_true rfl) ?_
  refine X_aload_n dX12_sum_0 rfl ?_
  refine X_callVV dX12_sum_1 mkX12_256 (k_87 hSh) (c_productF Γ g mi ml hSh hf) rfl rfl (by decide) (Nat.le_of_ble_eq_true rfl) ?_
  refine X_aload_n dX12_sum_4 rfl ?_
  refine X_geti dX12_sum_5 fkX12_174 rfl (k_87 hSh) ?_
  refine X_if_ne 58 dX12_sum_8 (by decide) (fun h_1 => ?_) (fun h_1 => ?_)
  · exact X_vret dX12_sum_58 rfl ⟨rfl, rfl, rfl, rfl⟩
  · exact absurd h_1 hf
theorem c_tkW1 (Γ : pTG) (g : pGG) (mi : pMI) (ml : pML) (hSh : Sh g) (B : Nat → Int32) (n i0 : Nat) (hR : RTX mi B n i0) (hsk : skT B n i0 = i0) (hf : mi 87 5 = nI 0) (a b c d e f : Nat) (hc : c < 27) (hd : d < 27) (he : e < 27) (hff : f < 27) (hw : wcV B n i0 = nI (sixN a b c d e f)) : cI Γ 5 mX12_takes [.ref 87, .int (nI a), .int (nI b), .int (nI c), .int (nI d), .int (nI e), .int (nI f)] g mi ml (nI 1) (up2 mi 87 4 (nI (wdT B n i0))) := by
  have h := c_takes1 Γ g mi ml hSh B n i0 hR hf a b c d e f hc hd he hff (by rw [hsk]; exact hw)
  rw [hsk] at h
  exact h
theorem c_tkW0 (Γ : pTG) (g : pGG) (mi : pMI) (ml : pML) (hSh : Sh g) (B : Nat → Int32) (n i0 : Nat) (hR : RTX mi B n i0) (hsk : skT B n i0 = i0) (hf : mi 87 5 = nI 0) (a b c d e f : Nat) (hc : c < 27) (hd : d < 27) (he : e < 27) (hff : f < 27) (hw : ¬ wcV B n i0 = nI (sixN a b c d e f)) : cI Γ 5 mX12_takes [.ref 87, .int (nI a), .int (nI b), .int (nI c), .int (nI d), .int (nI e), .int (nI f)] g mi ml (nI 0) mi := by
  have h := c_takes0 Γ g mi ml hSh B n i0 hR hf a b c d e f hc hd he hff (by rw [hsk]; exact hw)
  rw [hsk, up2_val hR.2.2.2.2] at h
  exact h
set_option maxRecDepth 100000 in
set_option maxHeartbeats 4000000 in
theorem c_known0 (Γ : pTG) (g : pGG) (mi : pMI) (ml : pML) (hSh : Sh g) (B : Nat → Int32) (n i0 : Nat) (hR : RTX mi B n i0) (hsk : skT B n i0 = i0) (hf : mi 87 5 = nI 0) (hW : wIx 1 B n i0 = some 0) : cI Γ 6 mX12_knownHere [.ref 87] g mi ml (nI 0) (up2 mi 87 4 (nI (wdT B n i0))) := by
  refine cI_of (by decide +kernel) (Nat.le_of_ble_eq_true rfl) ?_
  refine X_aload_n dX12_knownHere_0 rfl ?_
  refine X_bipush (v := nI 13) dX12_knownHere_1 (by decide) ?_
  refine X_bipush (v := nI 9) dX12_knownHere_3 (by decide) ?_
  refine X_bipush (v := nI 14) dX12_knownHere_5 (by decide) ?_
  refine X_iconst (v := nI 5) dX12_knownHere_7 (by decide) ?_
  refine X_iconst (v := nI 0) dX12_knownHere_8 (by decide) ?_
  refine X_iconst (v := nI 0) dX12_knownHere_9 (by decide) ?_
  refine X_callVI dX12_knownHere_10 mkX12_268 (k_87 hSh) (c_tkW1 Γ g mi ml hSh B n i0 hR hsk hf 13 9 14 5 0 0 (by decide) (by decide) (by decide) (by decide) (wq_1_0.mpr hW)) rfl rfl (by decide) (Nat.le_of_ble_eq_true rfl) ?_
  refine X_if_eqN (a := 1) 18 dX12_knownHere_13 (by decide) (by omega) (fun h_1 => ?_) (fun h_1 => ?_)
  · exact absurd h_1 (by omega)
  · refine X_iconst (v := nI 0) dX12_knownHere_16 (by decide) ?_
    exact X_iret dX12_knownHere_17 rfl ⟨by rfl, rfl, rfl, rfl⟩
set_option maxRecDepth 100000 in
set_option maxHeartbeats 4000000 in
theorem c_known1 (Γ : pTG) (g : pGG) (mi : pMI) (ml : pML) (hSh : Sh g) (B : Nat → Int32) (n i0 : Nat) (hR : RTX mi B n i0) (hsk : skT B n i0 = i0) (hf : mi 87 5 = nI 0) (hW : wIx 1 B n i0 = some 1) : cI Γ 6 mX12_knownHere [.ref 87] g mi ml (nI 1) (up2 mi 87 4 (nI (wdT B n i0))) := by
  refine cI_of (by decide +kernel) (Nat.le_of_ble_eq_true rfl) ?_
  refine X_aload_n dX12_knownHere_0 rfl ?_
  refine X_bipush (v := nI 13) dX12_knownHere_1 (by decide) ?_
  refine X_bipush (v := nI 9) dX12_knownHere_3 (by decide) ?_
  refine X_bipush (v := nI 14) dX12_knownHere_5 (by decide) ?_
  refine X_iconst (v := nI 5) dX12_knownHere_7 (by decide) ?_
  refine X_iconst (v := nI 0) dX12_knownHere_8 (by decide) ?_
  refine X_iconst (v := nI 0) dX12_knownHere_9 (by decide) ?_
  refine X_callVI dX12_knownHere_10 mkX12_268 (k_87 hSh) (c_tkW0 Γ g mi ml hSh B n i0 hR hsk hf 13 9 14 5 0 0 (by decide) (by decide) (by decide) (by decide) (fun q => by have h9 := wq_1_0.mp q; rw [hW] at h9; cases h9)) rfl rfl (by decide) (Nat.le_of_ble_eq_true rfl) ?_
  refine X_if_eqN (a := 0) 18 dX12_knownHere_13 (by decide) (by omega) (fun h_1 => ?_) (fun h_1 => ?_)
  · refine X_aload_n dX12_knownHere_18 rfl ?_
    refine X_bipush (v := nI 6) dX12_knownHere_19 (by decide) ?_
    refine X_bipush (v := nI 9) dX12_knownHere_21 (by decide) ?_
    refine X_bipush (v := nI 18) dX12_knownHere_23 (by decide) ?_
    refine X_bipush (v := nI 19) dX12_knownHere_25 (by decide) ?_
    refine X_bipush (v := nI 20) dX12_knownHere_27 (by decide) ?_
    refine X_iconst (v := nI 0) dX12_knownHere_29 (by decide) ?_
    refine X_callVI dX12_knownHere_30 mkX12_268 (k_87 hSh) (c_tkW1 Γ g mi ml hSh B n i0 hR hsk hf 6 9 18 19 20 0 (by decide) (by decide) (by decide) (by decide) (wq_1_1.mpr hW)) rfl rfl (by decide) (Nat.le_of_ble_eq_true rfl) ?_
    refine X_if_eqN (a := 1) 38 dX12_knownHere_33 (by decide) (by omega) (fun h_2 => ?_) (fun h_2 => ?_)
    · exact absurd h_2 (by omega)
    · refine X_iconst (v := nI 1) dX12_knownHere_36 (by decide) ?_
      exact X_iret dX12_knownHere_37 rfl ⟨by rfl, rfl, rfl, rfl⟩
  · exact absurd h_1 (by omega)
set_option maxRecDepth 100000 in
set_option maxHeartbeats 4000000 in
theorem c_known2 (Γ : pTG) (g : pGG) (mi : pMI) (ml : pML) (hSh : Sh g) (B : Nat → Int32) (n i0 : Nat) (hR : RTX mi B n i0) (hsk : skT B n i0 = i0) (hf : mi 87 5 = nI 0) (hW : wIx 1 B n i0 = some 2) : cI Γ 6 mX12_knownHere [.ref 87] g mi ml (nI 2) (up2 mi 87 4 (nI (wdT B n i0))) := by
  refine cI_of (by decide +kernel) (Nat.le_of_ble_eq_true rfl) ?_
  refine X_aload_n dX12_knownHere_0 rfl ?_
  refine X_bipush (v := nI 13) dX12_knownHere_1 (by decide) ?_
  refine X_bipush (v := nI 9) dX12_knownHere_3 (by decide) ?_
  refine X_bipush (v := nI 14) dX12_knownHere_5 (by decide) ?_
  refine X_iconst (v := nI 5) dX12_knownHere_7 (by decide) ?_
  refine X_iconst (v := nI 0) dX12_knownHere_8 (by decide) ?_
  refine X_iconst (v := nI 0) dX12_knownHere_9 (by decide) ?_
  refine X_callVI dX12_knownHere_10 mkX12_268 (k_87 hSh) (c_tkW0 Γ g mi ml hSh B n i0 hR hsk hf 13 9 14 5 0 0 (by decide) (by decide) (by decide) (by decide) (fun q => by have h9 := wq_1_0.mp q; rw [hW] at h9; cases h9)) rfl rfl (by decide) (Nat.le_of_ble_eq_true rfl) ?_
  refine X_if_eqN (a := 0) 18 dX12_knownHere_13 (by decide) (by omega) (fun h_1 => ?_) (fun h_1 => ?_)
  · refine X_aload_n dX12_knownHere_18 rfl ?_
    refine X_bipush (v := nI 6) dX12_knownHere_19 (by decide) ?_
    refine X_bipush (v := nI 9) dX12_knownHere_21 (by decide) ?_
    refine X_bipush (v := nI 18) dX12_knownHere_23 (by decide) ?_
    refine X_bipush (v := nI 19) dX12_knownHere_25 (by decide) ?_
    refine X_bipush (v := nI 20) dX12_knownHere_27 (by decide) ?_
    refine X_iconst (v := nI 0) dX12_knownHere_29 (by decide) ?_
    refine X_callVI dX12_knownHere_30 mkX12_268 (k_87 hSh) (c_tkW0 Γ g mi ml hSh B n i0 hR hsk hf 6 9 18 19 20 0 (by decide) (by decide) (by decide) (by decide) (fun q => by have h9 := wq_1_1.mp q; rw [hW] at h9; cases h9)) rfl rfl (by decide) (Nat.le_of_ble_eq_true rfl) ?_
    refine X_if_eqN (a := 0) 38 dX12_knownHere_33 (by decide) (by omega) (fun h_2 => ?_) (fun h_2 => ?_)
    · refine X_aload_n dX12_knownHere_38 rfl ?_
      refine X_bipush (v := nI 12) dX12_knownHere_39 (by decide) ?_
      refine X_iconst (v := nI 1) dX12_knownHere_41 (by decide) ?_
      refine X_bipush (v := nI 19) dX12_knownHere_42 (by decide) ?_
      refine X_bipush (v := nI 20) dX12_knownHere_44 (by decide) ?_
      refine X_iconst (v := nI 0) dX12_knownHere_46 (by decide) ?_
      refine X_iconst (v := nI 0) dX12_knownHere_47 (by decide) ?_
      refine X_callVI dX12_knownHere_48 mkX12_268 (k_87 hSh) (c_tkW1 Γ g mi ml hSh B n i0 hR hsk hf 12 1 19 20 0 0 (by decide) (by decide) (by decide) (by decide) (wq_1_2.mpr hW)) rfl rfl (by decide) (Nat.le_of_ble_eq_true rfl) ?_
      refine X_if_eqN (a := 1) 56 dX12_knownHere_51 (by decide) (by omega) (fun h_3 => ?_) (fun h_3 => ?_)
      · exact absurd h_3 (by omega)
      · refine X_iconst (v := nI 2) dX12_knownHere_54 (by decide) ?_
        exact X_iret dX12_knownHere_55 rfl ⟨by rfl, rfl, rfl, rfl⟩
    · exact absurd h_2 (by omega)
  · exact absurd h_1 (by omega)
set_option maxRecDepth 100000 in
set_option maxHeartbeats 4000000 in
theorem c_known3 (Γ : pTG) (g : pGG) (mi : pMI) (ml : pML) (hSh : Sh g) (B : Nat → Int32) (n i0 : Nat) (hR : RTX mi B n i0) (hsk : skT B n i0 = i0) (hf : mi 87 5 = nI 0) (hW : wIx 1 B n i0 = some 3) : cI Γ 6 mX12_knownHere [.ref 87] g mi ml (nI 3) (up2 mi 87 4 (nI (wdT B n i0))) := by
  refine cI_of (by decide +kernel) (Nat.le_of_ble_eq_true rfl) ?_
  refine X_aload_n dX12_knownHere_0 rfl ?_
  refine X_bipush (v := nI 13) dX12_knownHere_1 (by decide) ?_
  refine X_bipush (v := nI 9) dX12_knownHere_3 (by decide) ?_
  refine X_bipush (v := nI 14) dX12_knownHere_5 (by decide) ?_
  refine X_iconst (v := nI 5) dX12_knownHere_7 (by decide) ?_
  refine X_iconst (v := nI 0) dX12_knownHere_8 (by decide) ?_
  refine X_iconst (v := nI 0) dX12_knownHere_9 (by decide) ?_
  refine X_callVI dX12_knownHere_10 mkX12_268 (k_87 hSh) (c_tkW0 Γ g mi ml hSh B n i0 hR hsk hf 13 9 14 5 0 0 (by decide) (by decide) (by decide) (by decide) (fun q => by have h9 := wq_1_0.mp q; rw [hW] at h9; cases h9)) rfl rfl (by decide) (Nat.le_of_ble_eq_true rfl) ?_
  refine X_if_eqN (a := 0) 18 dX12_knownHere_13 (by decide) (by omega) (fun h_1 => ?_) (fun h_1 => ?_)
  · refine X_aload_n dX12_knownHere_18 rfl ?_
    refine X_bipush (v := nI 6) dX12_knownHere_19 (by decide) ?_
    refine X_bipush (v := nI 9) dX12_knownHere_21 (by decide) ?_
    refine X_bipush (v := nI 18) dX12_knownHere_23 (by decide) ?_
    refine X_bipush (v := nI 19) dX12_knownHere_25 (by decide) ?_
    refine X_bipush (v := nI 20) dX12_knownHere_27 (by decide) ?_
    refine X_iconst (v := nI 0) dX12_knownHere_29 (by decide) ?_
    refine X_callVI dX12_knownHere_30 mkX12_268 (k_87 hSh) (c_tkW0 Γ g mi ml hSh B n i0 hR hsk hf 6 9 18 19 20 0 (by decide) (by decide) (by decide) (by decide) (fun q => by have h9 := wq_1_1.mp q; rw [hW] at h9; cases h9)) rfl rfl (by decide) (Nat.le_of_ble_eq_true rfl) ?_
    refine X_if_eqN (a := 0) 38 dX12_knownHere_33 (by decide) (by omega) (fun h_2 => ?_) (fun h_2 => ?_)
    · refine X_aload_n dX12_knownHere_38 rfl ?_
      refine X_bipush (v := nI 12) dX12_knownHere_39 (by decide) ?_
      refine X_iconst (v := nI 1) dX12_knownHere_41 (by decide) ?_
      refine X_bipush (v := nI 19) dX12_knownHere_42 (by decide) ?_
      refine X_bipush (v := nI 20) dX12_knownHere_44 (by decide) ?_
      refine X_iconst (v := nI 0) dX12_knownHere_46 (by decide) ?_
      refine X_iconst (v := nI 0) dX12_knownHere_47 (by decide) ?_
      refine X_callVI dX12_knownHere_48 mkX12_268 (k_87 hSh) (c_tkW0 Γ g mi ml hSh B n i0 hR hsk hf 12 1 19 20 0 0 (by decide) (by decide) (by decide) (by decide) (fun q => by have h9 := wq_1_2.mp q; rw [hW] at h9; cases h9)) rfl rfl (by decide) (Nat.le_of_ble_eq_true rfl) ?_
      refine X_if_eqN (a := 0) 56 dX12_knownHere_51 (by decide) (by omega) (fun h_3 => ?_) (fun h_3 => ?_)
      · refine X_aload_n dX12_knownHere_56 rfl ?_
        refine X_bipush (v := nI 7) dX12_knownHere_57 (by decide) ?_
        refine X_bipush (v := nI 15) dX12_knownHere_59 (by decide) ?_
        refine X_bipush (v := nI 20) dX12_knownHere_61 (by decide) ?_
        refine X_iconst (v := nI 0) dX12_knownHere_63 (by decide) ?_
        refine X_iconst (v := nI 0) dX12_knownHere_64 (by decide) ?_
        refine X_iconst (v := nI 0) dX12_knownHere_65 (by decide) ?_
        refine X_callVI dX12_knownHere_66 mkX12_268 (k_87 hSh) (c_tkW1 Γ g mi ml hSh B n i0 hR hsk hf 7 15 20 0 0 0 (by decide) (by decide) (by decide) (by decide) (wq_1_3.mpr hW)) rfl rfl (by decide) (Nat.le_of_ble_eq_true rfl) ?_
        refine X_if_eqN (a := 1) 74 dX12_knownHere_69 (by decide) (by omega) (fun h_4 => ?_) (fun h_4 => ?_)
        · exact absurd h_4 (by omega)
        · refine X_iconst (v := nI 3) dX12_knownHere_72 (by decide) ?_
          exact X_iret dX12_knownHere_73 rfl ⟨by rfl, rfl, rfl, rfl⟩
      · exact absurd h_3 (by omega)
    · exact absurd h_2 (by omega)
  · exact absurd h_1 (by omega)
set_option maxRecDepth 100000 in
set_option maxHeartbeats 4000000 in
theorem c_known4 (Γ : pTG) (g : pGG) (mi : pMI) (ml : pML) (hSh : Sh g) (B : Nat → Int32) (n i0 : Nat) (hR : RTX mi B n i0) (hsk : skT B n i0 = i0) (hf : mi 87 5 = nI 0) (hW : wIx 1 B n i0 = some 4) : cI Γ 6 mX12_knownHere [.ref 87] g mi ml (nI 4) (up2 mi 87 4 (nI (wdT B n i0))) := by
  refine cI_of (by decide +kernel) (Nat.le_of_ble_eq_true rfl) ?_
  refine X_aload_n dX12_knownHere_0 rfl ?_
  refine X_bipush (v := nI 13) dX12_knownHere_1 (by decide) ?_
  refine X_bipush (v := nI 9) dX12_knownHere_3 (by decide) ?_
  refine X_bipush (v := nI 14) dX12_knownHere_5 (by decide) ?_
  refine X_iconst (v := nI 5) dX12_knownHere_7 (by decide) ?_
  refine X_iconst (v := nI 0) dX12_knownHere_8 (by decide) ?_
  refine X_iconst (v := nI 0) dX12_knownHere_9 (by decide) ?_
  refine X_callVI dX12_knownHere_10 mkX12_268 (k_87 hSh) (c_tkW0 Γ g mi ml hSh B n i0 hR hsk hf 13 9 14 5 0 0 (by decide) (by decide) (by decide) (by decide) (fun q => by have h9 := wq_1_0.mp q; rw [hW] at h9; cases h9)) rfl rfl (by decide) (Nat.le_of_ble_eq_true rfl) ?_
  refine X_if_eqN (a := 0) 18 dX12_knownHere_13 (by decide) (by omega) (fun h_1 => ?_) (fun h_1 => ?_)
  · refine X_aload_n dX12_knownHere_18 rfl ?_
    refine X_bipush (v := nI 6) dX12_knownHere_19 (by decide) ?_
    refine X_bipush (v := nI 9) dX12_knownHere_21 (by decide) ?_
    refine X_bipush (v := nI 18) dX12_knownHere_23 (by decide) ?_
    refine X_bipush (v := nI 19) dX12_knownHere_25 (by decide) ?_
    refine X_bipush (v := nI 20) dX12_knownHere_27 (by decide) ?_
    refine X_iconst (v := nI 0) dX12_knownHere_29 (by decide) ?_
    refine X_callVI dX12_knownHere_30 mkX12_268 (k_87 hSh) (c_tkW0 Γ g mi ml hSh B n i0 hR hsk hf 6 9 18 19 20 0 (by decide) (by decide) (by decide) (by decide) (fun q => by have h9 := wq_1_1.mp q; rw [hW] at h9; cases h9)) rfl rfl (by decide) (Nat.le_of_ble_eq_true rfl) ?_
    refine X_if_eqN (a := 0) 38 dX12_knownHere_33 (by decide) (by omega) (fun h_2 => ?_) (fun h_2 => ?_)
    · refine X_aload_n dX12_knownHere_38 rfl ?_
      refine X_bipush (v := nI 12) dX12_knownHere_39 (by decide) ?_
      refine X_iconst (v := nI 1) dX12_knownHere_41 (by decide) ?_
      refine X_bipush (v := nI 19) dX12_knownHere_42 (by decide) ?_
      refine X_bipush (v := nI 20) dX12_knownHere_44 (by decide) ?_
      refine X_iconst (v := nI 0) dX12_knownHere_46 (by decide) ?_
      refine X_iconst (v := nI 0) dX12_knownHere_47 (by decide) ?_
      refine X_callVI dX12_knownHere_48 mkX12_268 (k_87 hSh) (c_tkW0 Γ g mi ml hSh B n i0 hR hsk hf 12 1 19 20 0 0 (by decide) (by decide) (by decide) (by decide) (fun q => by have h9 := wq_1_2.mp q; rw [hW] at h9; cases h9)) rfl rfl (by decide) (Nat.le_of_ble_eq_true rfl) ?_
      refine X_if_eqN (a := 0) 56 dX12_knownHere_51 (by decide) (by omega) (fun h_3 => ?_) (fun h_3 => ?_)
      · refine X_aload_n dX12_knownHere_56 rfl ?_
        refine X_bipush (v := nI 7) dX12_knownHere_57 (by decide) ?_
        refine X_bipush (v := nI 15) dX12_knownHere_59 (by decide) ?_
        refine X_bipush (v := nI 20) dX12_knownHere_61 (by decide) ?_
        refine X_iconst (v := nI 0) dX12_knownHere_63 (by decide) ?_
        refine X_iconst (v := nI 0) dX12_knownHere_64 (by decide) ?_
        refine X_iconst (v := nI 0) dX12_knownHere_65 (by decide) ?_
        refine X_callVI dX12_knownHere_66 mkX12_268 (k_87 hSh) (c_tkW0 Γ g mi ml hSh B n i0 hR hsk hf 7 15 20 0 0 0 (by decide) (by decide) (by decide) (by decide) (fun q => by have h9 := wq_1_3.mp q; rw [hW] at h9; cases h9)) rfl rfl (by decide) (Nat.le_of_ble_eq_true rfl) ?_
        refine X_if_eqN (a := 0) 74 dX12_knownHere_69 (by decide) (by omega) (fun h_4 => ?_) (fun h_4 => ?_)
        · refine X_aload_n dX12_knownHere_74 rfl ?_
          refine X_bipush (v := nI 12) dX12_knownHere_75 (by decide) ?_
          refine X_iconst (v := nI 1) dX12_knownHere_77 (by decide) ?_
          refine X_bipush (v := nI 9) dX12_knownHere_78 (by decide) ?_
          refine X_bipush (v := nI 14) dX12_knownHere_80 (by decide) ?_
          refine X_iconst (v := nI 0) dX12_knownHere_82 (by decide) ?_
          refine X_iconst (v := nI 0) dX12_knownHere_83 (by decide) ?_
          refine X_callVI dX12_knownHere_84 mkX12_268 (k_87 hSh) (c_tkW1 Γ g mi ml hSh B n i0 hR hsk hf 12 1 9 14 0 0 (by decide) (by decide) (by decide) (by decide) (wq_1_4.mpr hW)) rfl rfl (by decide) (Nat.le_of_ble_eq_true rfl) ?_
          refine X_if_eqN (a := 1) 92 dX12_knownHere_87 (by decide) (by omega) (fun h_5 => ?_) (fun h_5 => ?_)
          · exact absurd h_5 (by omega)
          · refine X_iconst (v := nI 4) dX12_knownHere_90 (by decide) ?_
            exact X_iret dX12_knownHere_91 rfl ⟨by rfl, rfl, rfl, rfl⟩
        · exact absurd h_4 (by omega)
      · exact absurd h_3 (by omega)
    · exact absurd h_2 (by omega)
  · exact absurd h_1 (by omega)
set_option maxRecDepth 100000 in
set_option maxHeartbeats 4000000 in
theorem c_known5 (Γ : pTG) (g : pGG) (mi : pMI) (ml : pML) (hSh : Sh g) (B : Nat → Int32) (n i0 : Nat) (hR : RTX mi B n i0) (hsk : skT B n i0 = i0) (hf : mi 87 5 = nI 0) (hW : wIx 1 B n i0 = some 5) : cI Γ 6 mX12_knownHere [.ref 87] g mi ml (nI 5) (up2 mi 87 4 (nI (wdT B n i0))) := by
  refine cI_of (by decide +kernel) (Nat.le_of_ble_eq_true rfl) ?_
  refine X_aload_n dX12_knownHere_0 rfl ?_
  refine X_bipush (v := nI 13) dX12_knownHere_1 (by decide) ?_
  refine X_bipush (v := nI 9) dX12_knownHere_3 (by decide) ?_
  refine X_bipush (v := nI 14) dX12_knownHere_5 (by decide) ?_
  refine X_iconst (v := nI 5) dX12_knownHere_7 (by decide) ?_
  refine X_iconst (v := nI 0) dX12_knownHere_8 (by decide) ?_
  refine X_iconst (v := nI 0) dX12_knownHere_9 (by decide) ?_
  refine X_callVI dX12_knownHere_10 mkX12_268 (k_87 hSh) (c_tkW0 Γ g mi ml hSh B n i0 hR hsk hf 13 9 14 5 0 0 (by decide) (by decide) (by decide) (by decide) (fun q => by have h9 := wq_1_0.mp q; rw [hW] at h9; cases h9)) rfl rfl (by decide) (Nat.le_of_ble_eq_true rfl) ?_
  refine X_if_eqN (a := 0) 18 dX12_knownHere_13 (by decide) (by omega) (fun h_1 => ?_) (fun h_1 => ?_)
  · refine X_aload_n dX12_knownHere_18 rfl ?_
    refine X_bipush (v := nI 6) dX12_knownHere_19 (by decide) ?_
    refine X_bipush (v := nI 9) dX12_knownHere_21 (by decide) ?_
    refine X_bipush (v := nI 18) dX12_knownHere_23 (by decide) ?_
    refine X_bipush (v := nI 19) dX12_knownHere_25 (by decide) ?_
    refine X_bipush (v := nI 20) dX12_knownHere_27 (by decide) ?_
    refine X_iconst (v := nI 0) dX12_knownHere_29 (by decide) ?_
    refine X_callVI dX12_knownHere_30 mkX12_268 (k_87 hSh) (c_tkW0 Γ g mi ml hSh B n i0 hR hsk hf 6 9 18 19 20 0 (by decide) (by decide) (by decide) (by decide) (fun q => by have h9 := wq_1_1.mp q; rw [hW] at h9; cases h9)) rfl rfl (by decide) (Nat.le_of_ble_eq_true rfl) ?_
    refine X_if_eqN (a := 0) 38 dX12_knownHere_33 (by decide) (by omega) (fun h_2 => ?_) (fun h_2 => ?_)
    · refine X_aload_n dX12_knownHere_38 rfl ?_
      refine X_bipush (v := nI 12) dX12_knownHere_39 (by decide) ?_
      refine X_iconst (v := nI 1) dX12_knownHere_41 (by decide) ?_
      refine X_bipush (v := nI 19) dX12_knownHere_42 (by decide) ?_
      refine X_bipush (v := nI 20) dX12_knownHere_44 (by decide) ?_
      refine X_iconst (v := nI 0) dX12_knownHere_46 (by decide) ?_
      refine X_iconst (v := nI 0) dX12_knownHere_47 (by decide) ?_
      refine X_callVI dX12_knownHere_48 mkX12_268 (k_87 hSh) (c_tkW0 Γ g mi ml hSh B n i0 hR hsk hf 12 1 19 20 0 0 (by decide) (by decide) (by decide) (by decide) (fun q => by have h9 := wq_1_2.mp q; rw [hW] at h9; cases h9)) rfl rfl (by decide) (Nat.le_of_ble_eq_true rfl) ?_
      refine X_if_eqN (a := 0) 56 dX12_knownHere_51 (by decide) (by omega) (fun h_3 => ?_) (fun h_3 => ?_)
      · refine X_aload_n dX12_knownHere_56 rfl ?_
        refine X_bipush (v := nI 7) dX12_knownHere_57 (by decide) ?_
        refine X_bipush (v := nI 15) dX12_knownHere_59 (by decide) ?_
        refine X_bipush (v := nI 20) dX12_knownHere_61 (by decide) ?_
        refine X_iconst (v := nI 0) dX12_knownHere_63 (by decide) ?_
        refine X_iconst (v := nI 0) dX12_knownHere_64 (by decide) ?_
        refine X_iconst (v := nI 0) dX12_knownHere_65 (by decide) ?_
        refine X_callVI dX12_knownHere_66 mkX12_268 (k_87 hSh) (c_tkW0 Γ g mi ml hSh B n i0 hR hsk hf 7 15 20 0 0 0 (by decide) (by decide) (by decide) (by decide) (fun q => by have h9 := wq_1_3.mp q; rw [hW] at h9; cases h9)) rfl rfl (by decide) (Nat.le_of_ble_eq_true rfl) ?_
        refine X_if_eqN (a := 0) 74 dX12_knownHere_69 (by decide) (by omega) (fun h_4 => ?_) (fun h_4 => ?_)
        · refine X_aload_n dX12_knownHere_74 rfl ?_
          refine X_bipush (v := nI 12) dX12_knownHere_75 (by decide) ?_
          refine X_iconst (v := nI 1) dX12_knownHere_77 (by decide) ?_
          refine X_bipush (v := nI 9) dX12_knownHere_78 (by decide) ?_
          refine X_bipush (v := nI 14) dX12_knownHere_80 (by decide) ?_
          refine X_iconst (v := nI 0) dX12_knownHere_82 (by decide) ?_
          refine X_iconst (v := nI 0) dX12_knownHere_83 (by decide) ?_
          refine X_callVI dX12_knownHere_84 mkX12_268 (k_87 hSh) (c_tkW0 Γ g mi ml hSh B n i0 hR hsk hf 12 1 9 14 0 0 (by decide) (by decide) (by decide) (by decide) (fun q => by have h9 := wq_1_4.mp q; rw [hW] at h9; cases h9)) rfl rfl (by decide) (Nat.le_of_ble_eq_true rfl) ?_
          refine X_if_eqN (a := 0) 92 dX12_knownHere_87 (by decide) (by omega) (fun h_5 => ?_) (fun h_5 => ?_)
          · refine X_aload_n dX12_knownHere_92 rfl ?_
            refine X_bipush (v := nI 15) dX12_knownHere_93 (by decide) ?_
            refine X_bipush (v := nI 6) dX12_knownHere_95 (by decide) ?_
            refine X_bipush (v := nI 6) dX12_knownHere_97 (by decide) ?_
            refine X_iconst (v := nI 0) dX12_knownHere_99 (by decide) ?_
            refine X_iconst (v := nI 0) dX12_knownHere_100 (by decide) ?_
            refine X_iconst (v := nI 0) dX12_knownHere_101 (by decide) ?_
            refine X_callVI dX12_knownHere_102 mkX12_268 (k_87 hSh) (c_tkW1 Γ g mi ml hSh B n i0 hR hsk hf 15 6 6 0 0 0 (by decide) (by decide) (by decide) (by decide) (wq_1_5.mpr hW)) rfl rfl (by decide) (Nat.le_of_ble_eq_true rfl) ?_
            refine X_if_eqN (a := 1) 110 dX12_knownHere_105 (by decide) (by omega) (fun h_6 => ?_) (fun h_6 => ?_)
            · exact absurd h_6 (by omega)
            · refine X_iconst (v := nI 5) dX12_knownHere_108 (by decide) ?_
              exact X_iret dX12_knownHere_109 rfl ⟨by rfl, rfl, rfl, rfl⟩
          · exact absurd h_5 (by omega)
        · exact absurd h_4 (by omega)
      · exact absurd h_3 (by omega)
    · exact absurd h_2 (by omega)
  · exact absurd h_1 (by omega)
set_option maxRecDepth 100000 in
set_option maxHeartbeats 4000000 in
theorem c_known6 (Γ : pTG) (g : pGG) (mi : pMI) (ml : pML) (hSh : Sh g) (B : Nat → Int32) (n i0 : Nat) (hR : RTX mi B n i0) (hsk : skT B n i0 = i0) (hf : mi 87 5 = nI 0) (hW : wIx 1 B n i0 = some 6) : cI Γ 6 mX12_knownHere [.ref 87] g mi ml (nI 6) (up2 mi 87 4 (nI (wdT B n i0))) := by
  refine cI_of (by decide +kernel) (Nat.le_of_ble_eq_true rfl) ?_
  refine X_aload_n dX12_knownHere_0 rfl ?_
  refine X_bipush (v := nI 13) dX12_knownHere_1 (by decide) ?_
  refine X_bipush (v := nI 9) dX12_knownHere_3 (by decide) ?_
  refine X_bipush (v := nI 14) dX12_knownHere_5 (by decide) ?_
  refine X_iconst (v := nI 5) dX12_knownHere_7 (by decide) ?_
  refine X_iconst (v := nI 0) dX12_knownHere_8 (by decide) ?_
  refine X_iconst (v := nI 0) dX12_knownHere_9 (by decide) ?_
  refine X_callVI dX12_knownHere_10 mkX12_268 (k_87 hSh) (c_tkW0 Γ g mi ml hSh B n i0 hR hsk hf 13 9 14 5 0 0 (by decide) (by decide) (by decide) (by decide) (fun q => by have h9 := wq_1_0.mp q; rw [hW] at h9; cases h9)) rfl rfl (by decide) (Nat.le_of_ble_eq_true rfl) ?_
  refine X_if_eqN (a := 0) 18 dX12_knownHere_13 (by decide) (by omega) (fun h_1 => ?_) (fun h_1 => ?_)
  · refine X_aload_n dX12_knownHere_18 rfl ?_
    refine X_bipush (v := nI 6) dX12_knownHere_19 (by decide) ?_
    refine X_bipush (v := nI 9) dX12_knownHere_21 (by decide) ?_
    refine X_bipush (v := nI 18) dX12_knownHere_23 (by decide) ?_
    refine X_bipush (v := nI 19) dX12_knownHere_25 (by decide) ?_
    refine X_bipush (v := nI 20) dX12_knownHere_27 (by decide) ?_
    refine X_iconst (v := nI 0) dX12_knownHere_29 (by decide) ?_
    refine X_callVI dX12_knownHere_30 mkX12_268 (k_87 hSh) (c_tkW0 Γ g mi ml hSh B n i0 hR hsk hf 6 9 18 19 20 0 (by decide) (by decide) (by decide) (by decide) (fun q => by have h9 := wq_1_1.mp q; rw [hW] at h9; cases h9)) rfl rfl (by decide) (Nat.le_of_ble_eq_true rfl) ?_
    refine X_if_eqN (a := 0) 38 dX12_knownHere_33 (by decide) (by omega) (fun h_2 => ?_) (fun h_2 => ?_)
    · refine X_aload_n dX12_knownHere_38 rfl ?_
      refine X_bipush (v := nI 12) dX12_knownHere_39 (by decide) ?_
      refine X_iconst (v := nI 1) dX12_knownHere_41 (by decide) ?_
      refine X_bipush (v := nI 19) dX12_knownHere_42 (by decide) ?_
      refine X_bipush (v := nI 20) dX12_knownHere_44 (by decide) ?_
      refine X_iconst (v := nI 0) dX12_knownHere_46 (by decide) ?_
      refine X_iconst (v := nI 0) dX12_knownHere_47 (by decide) ?_
      refine X_callVI dX12_knownHere_48 mkX12_268 (k_87 hSh) (c_tkW0 Γ g mi ml hSh B n i0 hR hsk hf 12 1 19 20 0 0 (by decide) (by decide) (by decide) (by decide) (fun q => by have h9 := wq_1_2.mp q; rw [hW] at h9; cases h9)) rfl rfl (by decide) (Nat.le_of_ble_eq_true rfl) ?_
      refine X_if_eqN (a := 0) 56 dX12_knownHere_51 (by decide) (by omega) (fun h_3 => ?_) (fun h_3 => ?_)
      · refine X_aload_n dX12_knownHere_56 rfl ?_
        refine X_bipush (v := nI 7) dX12_knownHere_57 (by decide) ?_
        refine X_bipush (v := nI 15) dX12_knownHere_59 (by decide) ?_
        refine X_bipush (v := nI 20) dX12_knownHere_61 (by decide) ?_
        refine X_iconst (v := nI 0) dX12_knownHere_63 (by decide) ?_
        refine X_iconst (v := nI 0) dX12_knownHere_64 (by decide) ?_
        refine X_iconst (v := nI 0) dX12_knownHere_65 (by decide) ?_
        refine X_callVI dX12_knownHere_66 mkX12_268 (k_87 hSh) (c_tkW0 Γ g mi ml hSh B n i0 hR hsk hf 7 15 20 0 0 0 (by decide) (by decide) (by decide) (by decide) (fun q => by have h9 := wq_1_3.mp q; rw [hW] at h9; cases h9)) rfl rfl (by decide) (Nat.le_of_ble_eq_true rfl) ?_
        refine X_if_eqN (a := 0) 74 dX12_knownHere_69 (by decide) (by omega) (fun h_4 => ?_) (fun h_4 => ?_)
        · refine X_aload_n dX12_knownHere_74 rfl ?_
          refine X_bipush (v := nI 12) dX12_knownHere_75 (by decide) ?_
          refine X_iconst (v := nI 1) dX12_knownHere_77 (by decide) ?_
          refine X_bipush (v := nI 9) dX12_knownHere_78 (by decide) ?_
          refine X_bipush (v := nI 14) dX12_knownHere_80 (by decide) ?_
          refine X_iconst (v := nI 0) dX12_knownHere_82 (by decide) ?_
          refine X_iconst (v := nI 0) dX12_knownHere_83 (by decide) ?_
          refine X_callVI dX12_knownHere_84 mkX12_268 (k_87 hSh) (c_tkW0 Γ g mi ml hSh B n i0 hR hsk hf 12 1 9 14 0 0 (by decide) (by decide) (by decide) (by decide) (fun q => by have h9 := wq_1_4.mp q; rw [hW] at h9; cases h9)) rfl rfl (by decide) (Nat.le_of_ble_eq_true rfl) ?_
          refine X_if_eqN (a := 0) 92 dX12_knownHere_87 (by decide) (by omega) (fun h_5 => ?_) (fun h_5 => ?_)
          · refine X_aload_n dX12_knownHere_92 rfl ?_
            refine X_bipush (v := nI 15) dX12_knownHere_93 (by decide) ?_
            refine X_bipush (v := nI 6) dX12_knownHere_95 (by decide) ?_
            refine X_bipush (v := nI 6) dX12_knownHere_97 (by decide) ?_
            refine X_iconst (v := nI 0) dX12_knownHere_99 (by decide) ?_
            refine X_iconst (v := nI 0) dX12_knownHere_100 (by decide) ?_
            refine X_iconst (v := nI 0) dX12_knownHere_101 (by decide) ?_
            refine X_callVI dX12_knownHere_102 mkX12_268 (k_87 hSh) (c_tkW0 Γ g mi ml hSh B n i0 hR hsk hf 15 6 6 0 0 0 (by decide) (by decide) (by decide) (by decide) (fun q => by have h9 := wq_1_5.mp q; rw [hW] at h9; cases h9)) rfl rfl (by decide) (Nat.le_of_ble_eq_true rfl) ?_
            refine X_if_eqN (a := 0) 110 dX12_knownHere_105 (by decide) (by omega) (fun h_6 => ?_) (fun h_6 => ?_)
            · refine X_aload_n dX12_knownHere_110 rfl ?_
              refine X_iconst (v := nI 4) dX12_knownHere_111 (by decide) ?_
              refine X_iconst (v := nI 1) dX12_knownHere_112 (by decide) ?_
              refine X_bipush (v := nI 25) dX12_knownHere_113 (by decide) ?_
              refine X_iconst (v := nI 0) dX12_knownHere_115 (by decide) ?_
              refine X_iconst (v := nI 0) dX12_knownHere_116 (by decide) ?_
              refine X_iconst (v := nI 0) dX12_knownHere_117 (by decide) ?_
              refine X_callVI dX12_knownHere_118 mkX12_268 (k_87 hSh) (c_tkW1 Γ g mi ml hSh B n i0 hR hsk hf 4 1 25 0 0 0 (by decide) (by decide) (by decide) (by decide) (wq_1_6.mpr hW)) rfl rfl (by decide) (Nat.le_of_ble_eq_true rfl) ?_
              refine X_if_eqN (a := 1) 127 dX12_knownHere_121 (by decide) (by omega) (fun h_7 => ?_) (fun h_7 => ?_)
              · exact absurd h_7 (by omega)
              · refine X_bipush (v := nI 6) dX12_knownHere_124 (by decide) ?_
                exact X_iret dX12_knownHere_126 rfl ⟨by rfl, rfl, rfl, rfl⟩
            · exact absurd h_6 (by omega)
          · exact absurd h_5 (by omega)
        · exact absurd h_4 (by omega)
      · exact absurd h_3 (by omega)
    · exact absurd h_2 (by omega)
  · exact absurd h_1 (by omega)
set_option maxRecDepth 100000 in
set_option maxHeartbeats 4000000 in
theorem c_known7 (Γ : pTG) (g : pGG) (mi : pMI) (ml : pML) (hSh : Sh g) (B : Nat → Int32) (n i0 : Nat) (hR : RTX mi B n i0) (hsk : skT B n i0 = i0) (hf : mi 87 5 = nI 0) (hW : wIx 1 B n i0 = some 7) : cI Γ 6 mX12_knownHere [.ref 87] g mi ml (nI 7) (up2 mi 87 4 (nI (wdT B n i0))) := by
  refine cI_of (by decide +kernel) (Nat.le_of_ble_eq_true rfl) ?_
  refine X_aload_n dX12_knownHere_0 rfl ?_
  refine X_bipush (v := nI 13) dX12_knownHere_1 (by decide) ?_
  refine X_bipush (v := nI 9) dX12_knownHere_3 (by decide) ?_
  refine X_bipush (v := nI 14) dX12_knownHere_5 (by decide) ?_
  refine X_iconst (v := nI 5) dX12_knownHere_7 (by decide) ?_
  refine X_iconst (v := nI 0) dX12_knownHere_8 (by decide) ?_
  refine X_iconst (v := nI 0) dX12_knownHere_9 (by decide) ?_
  refine X_callVI dX12_knownHere_10 mkX12_268 (k_87 hSh) (c_tkW0 Γ g mi ml hSh B n i0 hR hsk hf 13 9 14 5 0 0 (by decide) (by decide) (by decide) (by decide) (fun q => by have h9 := wq_1_0.mp q; rw [hW] at h9; cases h9)) rfl rfl (by decide) (Nat.le_of_ble_eq_true rfl) ?_
  refine X_if_eqN (a := 0) 18 dX12_knownHere_13 (by decide) (by omega) (fun h_1 => ?_) (fun h_1 => ?_)
  · refine X_aload_n dX12_knownHere_18 rfl ?_
    refine X_bipush (v := nI 6) dX12_knownHere_19 (by decide) ?_
    refine X_bipush (v := nI 9) dX12_knownHere_21 (by decide) ?_
    refine X_bipush (v := nI 18) dX12_knownHere_23 (by decide) ?_
    refine X_bipush (v := nI 19) dX12_knownHere_25 (by decide) ?_
    refine X_bipush (v := nI 20) dX12_knownHere_27 (by decide) ?_
    refine X_iconst (v := nI 0) dX12_knownHere_29 (by decide) ?_
    refine X_callVI dX12_knownHere_30 mkX12_268 (k_87 hSh) (c_tkW0 Γ g mi ml hSh B n i0 hR hsk hf 6 9 18 19 20 0 (by decide) (by decide) (by decide) (by decide) (fun q => by have h9 := wq_1_1.mp q; rw [hW] at h9; cases h9)) rfl rfl (by decide) (Nat.le_of_ble_eq_true rfl) ?_
    refine X_if_eqN (a := 0) 38 dX12_knownHere_33 (by decide) (by omega) (fun h_2 => ?_) (fun h_2 => ?_)
    · refine X_aload_n dX12_knownHere_38 rfl ?_
      refine X_bipush (v := nI 12) dX12_knownHere_39 (by decide) ?_
      refine X_iconst (v := nI 1) dX12_knownHere_41 (by decide) ?_
      refine X_bipush (v := nI 19) dX12_knownHere_42 (by decide) ?_
      refine X_bipush (v := nI 20) dX12_knownHere_44 (by decide) ?_
      refine X_iconst (v := nI 0) dX12_knownHere_46 (by decide) ?_
      refine X_iconst (v := nI 0) dX12_knownHere_47 (by decide) ?_
      refine X_callVI dX12_knownHere_48 mkX12_268 (k_87 hSh) (c_tkW0 Γ g mi ml hSh B n i0 hR hsk hf 12 1 19 20 0 0 (by decide) (by decide) (by decide) (by decide) (fun q => by have h9 := wq_1_2.mp q; rw [hW] at h9; cases h9)) rfl rfl (by decide) (Nat.le_of_ble_eq_true rfl) ?_
      refine X_if_eqN (a := 0) 56 dX12_knownHere_51 (by decide) (by omega) (fun h_3 => ?_) (fun h_3 => ?_)
      · refine X_aload_n dX12_knownHere_56 rfl ?_
        refine X_bipush (v := nI 7) dX12_knownHere_57 (by decide) ?_
        refine X_bipush (v := nI 15) dX12_knownHere_59 (by decide) ?_
        refine X_bipush (v := nI 20) dX12_knownHere_61 (by decide) ?_
        refine X_iconst (v := nI 0) dX12_knownHere_63 (by decide) ?_
        refine X_iconst (v := nI 0) dX12_knownHere_64 (by decide) ?_
        refine X_iconst (v := nI 0) dX12_knownHere_65 (by decide) ?_
        refine X_callVI dX12_knownHere_66 mkX12_268 (k_87 hSh) (c_tkW0 Γ g mi ml hSh B n i0 hR hsk hf 7 15 20 0 0 0 (by decide) (by decide) (by decide) (by decide) (fun q => by have h9 := wq_1_3.mp q; rw [hW] at h9; cases h9)) rfl rfl (by decide) (Nat.le_of_ble_eq_true rfl) ?_
        refine X_if_eqN (a := 0) 74 dX12_knownHere_69 (by decide) (by omega) (fun h_4 => ?_) (fun h_4 => ?_)
        · refine X_aload_n dX12_knownHere_74 rfl ?_
          refine X_bipush (v := nI 12) dX12_knownHere_75 (by decide) ?_
          refine X_iconst (v := nI 1) dX12_knownHere_77 (by decide) ?_
          refine X_bipush (v := nI 9) dX12_knownHere_78 (by decide) ?_
          refine X_bipush (v := nI 14) dX12_knownHere_80 (by decide) ?_
          refine X_iconst (v := nI 0) dX12_knownHere_82 (by decide) ?_
          refine X_iconst (v := nI 0) dX12_knownHere_83 (by decide) ?_
          refine X_callVI dX12_knownHere_84 mkX12_268 (k_87 hSh) (c_tkW0 Γ g mi ml hSh B n i0 hR hsk hf 12 1 9 14 0 0 (by decide) (by decide) (by decide) (by decide) (fun q => by have h9 := wq_1_4.mp q; rw [hW] at h9; cases h9)) rfl rfl (by decide) (Nat.le_of_ble_eq_true rfl) ?_
          refine X_if_eqN (a := 0) 92 dX12_knownHere_87 (by decide) (by omega) (fun h_5 => ?_) (fun h_5 => ?_)
          · refine X_aload_n dX12_knownHere_92 rfl ?_
            refine X_bipush (v := nI 15) dX12_knownHere_93 (by decide) ?_
            refine X_bipush (v := nI 6) dX12_knownHere_95 (by decide) ?_
            refine X_bipush (v := nI 6) dX12_knownHere_97 (by decide) ?_
            refine X_iconst (v := nI 0) dX12_knownHere_99 (by decide) ?_
            refine X_iconst (v := nI 0) dX12_knownHere_100 (by decide) ?_
            refine X_iconst (v := nI 0) dX12_knownHere_101 (by decide) ?_
            refine X_callVI dX12_knownHere_102 mkX12_268 (k_87 hSh) (c_tkW0 Γ g mi ml hSh B n i0 hR hsk hf 15 6 6 0 0 0 (by decide) (by decide) (by decide) (by decide) (fun q => by have h9 := wq_1_5.mp q; rw [hW] at h9; cases h9)) rfl rfl (by decide) (Nat.le_of_ble_eq_true rfl) ?_
            refine X_if_eqN (a := 0) 110 dX12_knownHere_105 (by decide) (by omega) (fun h_6 => ?_) (fun h_6 => ?_)
            · refine X_aload_n dX12_knownHere_110 rfl ?_
              refine X_iconst (v := nI 4) dX12_knownHere_111 (by decide) ?_
              refine X_iconst (v := nI 1) dX12_knownHere_112 (by decide) ?_
              refine X_bipush (v := nI 25) dX12_knownHere_113 (by decide) ?_
              refine X_iconst (v := nI 0) dX12_knownHere_115 (by decide) ?_
              refine X_iconst (v := nI 0) dX12_knownHere_116 (by decide) ?_
              refine X_iconst (v := nI 0) dX12_knownHere_117 (by decide) ?_
              refine X_callVI dX12_knownHere_118 mkX12_268 (k_87 hSh) (c_tkW0 Γ g mi ml hSh B n i0 hR hsk hf 4 1 25 0 0 0 (by decide) (by decide) (by decide) (by decide) (fun q => by have h9 := wq_1_6.mp q; rw [hW] at h9; cases h9)) rfl rfl (by decide) (Nat.le_of_ble_eq_true rfl) ?_
              refine X_if_eqN (a := 0) 127 dX12_knownHere_121 (by decide) (by omega) (fun h_7 => ?_) (fun h_7 => ?_)
              · refine X_aload_n dX12_knownHere_127 rfl ?_
                refine X_bipush (v := nI 23) dX12_knownHere_128 (by decide) ?_
                refine X_bipush (v := nI 9) dX12_knownHere_130 (by decide) ?_
                refine X_bipush (v := nI 19) dX12_knownHere_132 (by decide) ?_
                refine X_bipush (v := nI 8) dX12_knownHere_134 (by decide) ?_
                refine X_iconst (v := nI 0) dX12_knownHere_136 (by decide) ?_
                refine X_iconst (v := nI 0) dX12_knownHere_137 (by decide) ?_
                refine X_callVI dX12_knownHere_138 mkX12_268 (k_87 hSh) (c_tkW1 Γ g mi ml hSh B n i0 hR hsk hf 23 9 19 8 0 0 (by decide) (by decide) (by decide) (by decide) (wq_1_7.mpr hW)) rfl rfl (by decide) (Nat.le_of_ble_eq_true rfl) ?_
                refine X_if_eqN (a := 1) 147 dX12_knownHere_141 (by decide) (by omega) (fun h_8 => ?_) (fun h_8 => ?_)
                · exact absurd h_8 (by omega)
                · refine X_bipush (v := nI 7) dX12_knownHere_144 (by decide) ?_
                  exact X_iret dX12_knownHere_146 rfl ⟨by rfl, rfl, rfl, rfl⟩
              · exact absurd h_7 (by omega)
            · exact absurd h_6 (by omega)
          · exact absurd h_5 (by omega)
        · exact absurd h_4 (by omega)
      · exact absurd h_3 (by omega)
    · exact absurd h_2 (by omega)
  · exact absurd h_1 (by omega)
set_option maxRecDepth 100000 in
set_option maxHeartbeats 4000000 in
theorem c_known8 (Γ : pTG) (g : pGG) (mi : pMI) (ml : pML) (hSh : Sh g) (B : Nat → Int32) (n i0 : Nat) (hR : RTX mi B n i0) (hsk : skT B n i0 = i0) (hf : mi 87 5 = nI 0) (hW : wIx 1 B n i0 = some 8) : cI Γ 6 mX12_knownHere [.ref 87] g mi ml (nI 8) (up2 mi 87 4 (nI (wdT B n i0))) := by
  refine cI_of (by decide +kernel) (Nat.le_of_ble_eq_true rfl) ?_
  refine X_aload_n dX12_knownHere_0 rfl ?_
  refine X_bipush (v := nI 13) dX12_knownHere_1 (by decide) ?_
  refine X_bipush (v := nI 9) dX12_knownHere_3 (by decide) ?_
  refine X_bipush (v := nI 14) dX12_knownHere_5 (by decide) ?_
  refine X_iconst (v := nI 5) dX12_knownHere_7 (by decide) ?_
  refine X_iconst (v := nI 0) dX12_knownHere_8 (by decide) ?_
  refine X_iconst (v := nI 0) dX12_knownHere_9 (by decide) ?_
  refine X_callVI dX12_knownHere_10 mkX12_268 (k_87 hSh) (c_tkW0 Γ g mi ml hSh B n i0 hR hsk hf 13 9 14 5 0 0 (by decide) (by decide) (by decide) (by decide) (fun q => by have h9 := wq_1_0.mp q; rw [hW] at h9; cases h9)) rfl rfl (by decide) (Nat.le_of_ble_eq_true rfl) ?_
  refine X_if_eqN (a := 0) 18 dX12_knownHere_13 (by decide) (by omega) (fun h_1 => ?_) (fun h_1 => ?_)
  · refine X_aload_n dX12_knownHere_18 rfl ?_
    refine X_bipush (v := nI 6) dX12_knownHere_19 (by decide) ?_
    refine X_bipush (v := nI 9) dX12_knownHere_21 (by decide) ?_
    refine X_bipush (v := nI 18) dX12_knownHere_23 (by decide) ?_
    refine X_bipush (v := nI 19) dX12_knownHere_25 (by decide) ?_
    refine X_bipush (v := nI 20) dX12_knownHere_27 (by decide) ?_
    refine X_iconst (v := nI 0) dX12_knownHere_29 (by decide) ?_
    refine X_callVI dX12_knownHere_30 mkX12_268 (k_87 hSh) (c_tkW0 Γ g mi ml hSh B n i0 hR hsk hf 6 9 18 19 20 0 (by decide) (by decide) (by decide) (by decide) (fun q => by have h9 := wq_1_1.mp q; rw [hW] at h9; cases h9)) rfl rfl (by decide) (Nat.le_of_ble_eq_true rfl) ?_
    refine X_if_eqN (a := 0) 38 dX12_knownHere_33 (by decide) (by omega) (fun h_2 => ?_) (fun h_2 => ?_)
    · refine X_aload_n dX12_knownHere_38 rfl ?_
      refine X_bipush (v := nI 12) dX12_knownHere_39 (by decide) ?_
      refine X_iconst (v := nI 1) dX12_knownHere_41 (by decide) ?_
      refine X_bipush (v := nI 19) dX12_knownHere_42 (by decide) ?_
      refine X_bipush (v := nI 20) dX12_knownHere_44 (by decide) ?_
      refine X_iconst (v := nI 0) dX12_knownHere_46 (by decide) ?_
      refine X_iconst (v := nI 0) dX12_knownHere_47 (by decide) ?_
      refine X_callVI dX12_knownHere_48 mkX12_268 (k_87 hSh) (c_tkW0 Γ g mi ml hSh B n i0 hR hsk hf 12 1 19 20 0 0 (by decide) (by decide) (by decide) (by decide) (fun q => by have h9 := wq_1_2.mp q; rw [hW] at h9; cases h9)) rfl rfl (by decide) (Nat.le_of_ble_eq_true rfl) ?_
      refine X_if_eqN (a := 0) 56 dX12_knownHere_51 (by decide) (by omega) (fun h_3 => ?_) (fun h_3 => ?_)
      · refine X_aload_n dX12_knownHere_56 rfl ?_
        refine X_bipush (v := nI 7) dX12_knownHere_57 (by decide) ?_
        refine X_bipush (v := nI 15) dX12_knownHere_59 (by decide) ?_
        refine X_bipush (v := nI 20) dX12_knownHere_61 (by decide) ?_
        refine X_iconst (v := nI 0) dX12_knownHere_63 (by decide) ?_
        refine X_iconst (v := nI 0) dX12_knownHere_64 (by decide) ?_
        refine X_iconst (v := nI 0) dX12_knownHere_65 (by decide) ?_
        refine X_callVI dX12_knownHere_66 mkX12_268 (k_87 hSh) (c_tkW0 Γ g mi ml hSh B n i0 hR hsk hf 7 15 20 0 0 0 (by decide) (by decide) (by decide) (by decide) (fun q => by have h9 := wq_1_3.mp q; rw [hW] at h9; cases h9)) rfl rfl (by decide) (Nat.le_of_ble_eq_true rfl) ?_
        refine X_if_eqN (a := 0) 74 dX12_knownHere_69 (by decide) (by omega) (fun h_4 => ?_) (fun h_4 => ?_)
        · refine X_aload_n dX12_knownHere_74 rfl ?_
          refine X_bipush (v := nI 12) dX12_knownHere_75 (by decide) ?_
          refine X_iconst (v := nI 1) dX12_knownHere_77 (by decide) ?_
          refine X_bipush (v := nI 9) dX12_knownHere_78 (by decide) ?_
          refine X_bipush (v := nI 14) dX12_knownHere_80 (by decide) ?_
          refine X_iconst (v := nI 0) dX12_knownHere_82 (by decide) ?_
          refine X_iconst (v := nI 0) dX12_knownHere_83 (by decide) ?_
          refine X_callVI dX12_knownHere_84 mkX12_268 (k_87 hSh) (c_tkW0 Γ g mi ml hSh B n i0 hR hsk hf 12 1 9 14 0 0 (by decide) (by decide) (by decide) (by decide) (fun q => by have h9 := wq_1_4.mp q; rw [hW] at h9; cases h9)) rfl rfl (by decide) (Nat.le_of_ble_eq_true rfl) ?_
          refine X_if_eqN (a := 0) 92 dX12_knownHere_87 (by decide) (by omega) (fun h_5 => ?_) (fun h_5 => ?_)
          · refine X_aload_n dX12_knownHere_92 rfl ?_
            refine X_bipush (v := nI 15) dX12_knownHere_93 (by decide) ?_
            refine X_bipush (v := nI 6) dX12_knownHere_95 (by decide) ?_
            refine X_bipush (v := nI 6) dX12_knownHere_97 (by decide) ?_
            refine X_iconst (v := nI 0) dX12_knownHere_99 (by decide) ?_
            refine X_iconst (v := nI 0) dX12_knownHere_100 (by decide) ?_
            refine X_iconst (v := nI 0) dX12_knownHere_101 (by decide) ?_
            refine X_callVI dX12_knownHere_102 mkX12_268 (k_87 hSh) (c_tkW0 Γ g mi ml hSh B n i0 hR hsk hf 15 6 6 0 0 0 (by decide) (by decide) (by decide) (by decide) (fun q => by have h9 := wq_1_5.mp q; rw [hW] at h9; cases h9)) rfl rfl (by decide) (Nat.le_of_ble_eq_true rfl) ?_
            refine X_if_eqN (a := 0) 110 dX12_knownHere_105 (by decide) (by omega) (fun h_6 => ?_) (fun h_6 => ?_)
            · refine X_aload_n dX12_knownHere_110 rfl ?_
              refine X_iconst (v := nI 4) dX12_knownHere_111 (by decide) ?_
              refine X_iconst (v := nI 1) dX12_knownHere_112 (by decide) ?_
              refine X_bipush (v := nI 25) dX12_knownHere_113 (by decide) ?_
              refine X_iconst (v := nI 0) dX12_knownHere_115 (by decide) ?_
              refine X_iconst (v := nI 0) dX12_knownHere_116 (by decide) ?_
              refine X_iconst (v := nI 0) dX12_knownHere_117 (by decide) ?_
              refine X_callVI dX12_knownHere_118 mkX12_268 (k_87 hSh) (c_tkW0 Γ g mi ml hSh B n i0 hR hsk hf 4 1 25 0 0 0 (by decide) (by decide) (by decide) (by decide) (fun q => by have h9 := wq_1_6.mp q; rw [hW] at h9; cases h9)) rfl rfl (by decide) (Nat.le_of_ble_eq_true rfl) ?_
              refine X_if_eqN (a := 0) 127 dX12_knownHere_121 (by decide) (by omega) (fun h_7 => ?_) (fun h_7 => ?_)
              · refine X_aload_n dX12_knownHere_127 rfl ?_
                refine X_bipush (v := nI 23) dX12_knownHere_128 (by decide) ?_
                refine X_bipush (v := nI 9) dX12_knownHere_130 (by decide) ?_
                refine X_bipush (v := nI 19) dX12_knownHere_132 (by decide) ?_
                refine X_bipush (v := nI 8) dX12_knownHere_134 (by decide) ?_
                refine X_iconst (v := nI 0) dX12_knownHere_136 (by decide) ?_
                refine X_iconst (v := nI 0) dX12_knownHere_137 (by decide) ?_
                refine X_callVI dX12_knownHere_138 mkX12_268 (k_87 hSh) (c_tkW0 Γ g mi ml hSh B n i0 hR hsk hf 23 9 19 8 0 0 (by decide) (by decide) (by decide) (by decide) (fun q => by have h9 := wq_1_7.mp q; rw [hW] at h9; cases h9)) rfl rfl (by decide) (Nat.le_of_ble_eq_true rfl) ?_
                refine X_if_eqN (a := 0) 147 dX12_knownHere_141 (by decide) (by omega) (fun h_8 => ?_) (fun h_8 => ?_)
                · refine X_aload_n dX12_knownHere_147 rfl ?_
                  refine X_bipush (v := nI 23) dX12_knownHere_148 (by decide) ?_
                  refine X_iconst (v := nI 1) dX12_knownHere_150 (by decide) ?_
                  refine X_bipush (v := nI 11) dX12_knownHere_151 (by decide) ?_
                  refine X_iconst (v := nI 5) dX12_knownHere_153 (by decide) ?_
                  refine X_iconst (v := nI 0) dX12_knownHere_154 (by decide) ?_
                  refine X_iconst (v := nI 0) dX12_knownHere_155 (by decide) ?_
                  refine X_callVI dX12_knownHere_156 mkX12_268 (k_87 hSh) (c_tkW1 Γ g mi ml hSh B n i0 hR hsk hf 23 1 11 5 0 0 (by decide) (by decide) (by decide) (by decide) (wq_1_8.mpr hW)) rfl rfl (by decide) (Nat.le_of_ble_eq_true rfl) ?_
                  refine X_if_eqN (a := 1) 165 dX12_knownHere_159 (by decide) (by omega) (fun h_9 => ?_) (fun h_9 => ?_)
                  · exact absurd h_9 (by omega)
                  · refine X_bipush (v := nI 8) dX12_knownHere_162 (by decide) ?_
                    exact X_iret dX12_knownHere_164 rfl ⟨by rfl, rfl, rfl, rfl⟩
                · exact absurd h_8 (by omega)
              · exact absurd h_7 (by omega)
            · exact absurd h_6 (by omega)
          · exact absurd h_5 (by omega)
        · exact absurd h_4 (by omega)
      · exact absurd h_3 (by omega)
    · exact absurd h_2 (by omega)
  · exact absurd h_1 (by omega)
set_option maxRecDepth 100000 in
set_option maxHeartbeats 4000000 in
theorem c_known9 (Γ : pTG) (g : pGG) (mi : pMI) (ml : pML) (hSh : Sh g) (B : Nat → Int32) (n i0 : Nat) (hR : RTX mi B n i0) (hsk : skT B n i0 = i0) (hf : mi 87 5 = nI 0) (hW : wIx 1 B n i0 = some 9) : cI Γ 6 mX12_knownHere [.ref 87] g mi ml (nI 9) (up2 mi 87 4 (nI (wdT B n i0))) := by
  refine cI_of (by decide +kernel) (Nat.le_of_ble_eq_true rfl) ?_
  refine X_aload_n dX12_knownHere_0 rfl ?_
  refine X_bipush (v := nI 13) dX12_knownHere_1 (by decide) ?_
  refine X_bipush (v := nI 9) dX12_knownHere_3 (by decide) ?_
  refine X_bipush (v := nI 14) dX12_knownHere_5 (by decide) ?_
  refine X_iconst (v := nI 5) dX12_knownHere_7 (by decide) ?_
  refine X_iconst (v := nI 0) dX12_knownHere_8 (by decide) ?_
  refine X_iconst (v := nI 0) dX12_knownHere_9 (by decide) ?_
  refine X_callVI dX12_knownHere_10 mkX12_268 (k_87 hSh) (c_tkW0 Γ g mi ml hSh B n i0 hR hsk hf 13 9 14 5 0 0 (by decide) (by decide) (by decide) (by decide) (fun q => by have h9 := wq_1_0.mp q; rw [hW] at h9; cases h9)) rfl rfl (by decide) (Nat.le_of_ble_eq_true rfl) ?_
  refine X_if_eqN (a := 0) 18 dX12_knownHere_13 (by decide) (by omega) (fun h_1 => ?_) (fun h_1 => ?_)
  · refine X_aload_n dX12_knownHere_18 rfl ?_
    refine X_bipush (v := nI 6) dX12_knownHere_19 (by decide) ?_
    refine X_bipush (v := nI 9) dX12_knownHere_21 (by decide) ?_
    refine X_bipush (v := nI 18) dX12_knownHere_23 (by decide) ?_
    refine X_bipush (v := nI 19) dX12_knownHere_25 (by decide) ?_
    refine X_bipush (v := nI 20) dX12_knownHere_27 (by decide) ?_
    refine X_iconst (v := nI 0) dX12_knownHere_29 (by decide) ?_
    refine X_callVI dX12_knownHere_30 mkX12_268 (k_87 hSh) (c_tkW0 Γ g mi ml hSh B n i0 hR hsk hf 6 9 18 19 20 0 (by decide) (by decide) (by decide) (by decide) (fun q => by have h9 := wq_1_1.mp q; rw [hW] at h9; cases h9)) rfl rfl (by decide) (Nat.le_of_ble_eq_true rfl) ?_
    refine X_if_eqN (a := 0) 38 dX12_knownHere_33 (by decide) (by omega) (fun h_2 => ?_) (fun h_2 => ?_)
    · refine X_aload_n dX12_knownHere_38 rfl ?_
      refine X_bipush (v := nI 12) dX12_knownHere_39 (by decide) ?_
      refine X_iconst (v := nI 1) dX12_knownHere_41 (by decide) ?_
      refine X_bipush (v := nI 19) dX12_knownHere_42 (by decide) ?_
      refine X_bipush (v := nI 20) dX12_knownHere_44 (by decide) ?_
      refine X_iconst (v := nI 0) dX12_knownHere_46 (by decide) ?_
      refine X_iconst (v := nI 0) dX12_knownHere_47 (by decide) ?_
      refine X_callVI dX12_knownHere_48 mkX12_268 (k_87 hSh) (c_tkW0 Γ g mi ml hSh B n i0 hR hsk hf 12 1 19 20 0 0 (by decide) (by decide) (by decide) (by decide) (fun q => by have h9 := wq_1_2.mp q; rw [hW] at h9; cases h9)) rfl rfl (by decide) (Nat.le_of_ble_eq_true rfl) ?_
      refine X_if_eqN (a := 0) 56 dX12_knownHere_51 (by decide) (by omega) (fun h_3 => ?_) (fun h_3 => ?_)
      · refine X_aload_n dX12_knownHere_56 rfl ?_
        refine X_bipush (v := nI 7) dX12_knownHere_57 (by decide) ?_
        refine X_bipush (v := nI 15) dX12_knownHere_59 (by decide) ?_
        refine X_bipush (v := nI 20) dX12_knownHere_61 (by decide) ?_
        refine X_iconst (v := nI 0) dX12_knownHere_63 (by decide) ?_
        refine X_iconst (v := nI 0) dX12_knownHere_64 (by decide) ?_
        refine X_iconst (v := nI 0) dX12_knownHere_65 (by decide) ?_
        refine X_callVI dX12_knownHere_66 mkX12_268 (k_87 hSh) (c_tkW0 Γ g mi ml hSh B n i0 hR hsk hf 7 15 20 0 0 0 (by decide) (by decide) (by decide) (by decide) (fun q => by have h9 := wq_1_3.mp q; rw [hW] at h9; cases h9)) rfl rfl (by decide) (Nat.le_of_ble_eq_true rfl) ?_
        refine X_if_eqN (a := 0) 74 dX12_knownHere_69 (by decide) (by omega) (fun h_4 => ?_) (fun h_4 => ?_)
        · refine X_aload_n dX12_knownHere_74 rfl ?_
          refine X_bipush (v := nI 12) dX12_knownHere_75 (by decide) ?_
          refine X_iconst (v := nI 1) dX12_knownHere_77 (by decide) ?_
          refine X_bipush (v := nI 9) dX12_knownHere_78 (by decide) ?_
          refine X_bipush (v := nI 14) dX12_knownHere_80 (by decide) ?_
          refine X_iconst (v := nI 0) dX12_knownHere_82 (by decide) ?_
          refine X_iconst (v := nI 0) dX12_knownHere_83 (by decide) ?_
          refine X_callVI dX12_knownHere_84 mkX12_268 (k_87 hSh) (c_tkW0 Γ g mi ml hSh B n i0 hR hsk hf 12 1 9 14 0 0 (by decide) (by decide) (by decide) (by decide) (fun q => by have h9 := wq_1_4.mp q; rw [hW] at h9; cases h9)) rfl rfl (by decide) (Nat.le_of_ble_eq_true rfl) ?_
          refine X_if_eqN (a := 0) 92 dX12_knownHere_87 (by decide) (by omega) (fun h_5 => ?_) (fun h_5 => ?_)
          · refine X_aload_n dX12_knownHere_92 rfl ?_
            refine X_bipush (v := nI 15) dX12_knownHere_93 (by decide) ?_
            refine X_bipush (v := nI 6) dX12_knownHere_95 (by decide) ?_
            refine X_bipush (v := nI 6) dX12_knownHere_97 (by decide) ?_
            refine X_iconst (v := nI 0) dX12_knownHere_99 (by decide) ?_
            refine X_iconst (v := nI 0) dX12_knownHere_100 (by decide) ?_
            refine X_iconst (v := nI 0) dX12_knownHere_101 (by decide) ?_
            refine X_callVI dX12_knownHere_102 mkX12_268 (k_87 hSh) (c_tkW0 Γ g mi ml hSh B n i0 hR hsk hf 15 6 6 0 0 0 (by decide) (by decide) (by decide) (by decide) (fun q => by have h9 := wq_1_5.mp q; rw [hW] at h9; cases h9)) rfl rfl (by decide) (Nat.le_of_ble_eq_true rfl) ?_
            refine X_if_eqN (a := 0) 110 dX12_knownHere_105 (by decide) (by omega) (fun h_6 => ?_) (fun h_6 => ?_)
            · refine X_aload_n dX12_knownHere_110 rfl ?_
              refine X_iconst (v := nI 4) dX12_knownHere_111 (by decide) ?_
              refine X_iconst (v := nI 1) dX12_knownHere_112 (by decide) ?_
              refine X_bipush (v := nI 25) dX12_knownHere_113 (by decide) ?_
              refine X_iconst (v := nI 0) dX12_knownHere_115 (by decide) ?_
              refine X_iconst (v := nI 0) dX12_knownHere_116 (by decide) ?_
              refine X_iconst (v := nI 0) dX12_knownHere_117 (by decide) ?_
              refine X_callVI dX12_knownHere_118 mkX12_268 (k_87 hSh) (c_tkW0 Γ g mi ml hSh B n i0 hR hsk hf 4 1 25 0 0 0 (by decide) (by decide) (by decide) (by decide) (fun q => by have h9 := wq_1_6.mp q; rw [hW] at h9; cases h9)) rfl rfl (by decide) (Nat.le_of_ble_eq_true rfl) ?_
              refine X_if_eqN (a := 0) 127 dX12_knownHere_121 (by decide) (by omega) (fun h_7 => ?_) (fun h_7 => ?_)
              · refine X_aload_n dX12_knownHere_127 rfl ?_
                refine X_bipush (v := nI 23) dX12_knownHere_128 (by decide) ?_
                refine X_bipush (v := nI 9) dX12_knownHere_130 (by decide) ?_
                refine X_bipush (v := nI 19) dX12_knownHere_132 (by decide) ?_
                refine X_bipush (v := nI 8) dX12_knownHere_134 (by decide) ?_
                refine X_iconst (v := nI 0) dX12_knownHere_136 (by decide) ?_
                refine X_iconst (v := nI 0) dX12_knownHere_137 (by decide) ?_
                refine X_callVI dX12_knownHere_138 mkX12_268 (k_87 hSh) (c_tkW0 Γ g mi ml hSh B n i0 hR hsk hf 23 9 19 8 0 0 (by decide) (by decide) (by decide) (by decide) (fun q => by have h9 := wq_1_7.mp q; rw [hW] at h9; cases h9)) rfl rfl (by decide) (Nat.le_of_ble_eq_true rfl) ?_
                refine X_if_eqN (a := 0) 147 dX12_knownHere_141 (by decide) (by omega) (fun h_8 => ?_) (fun h_8 => ?_)
                · refine X_aload_n dX12_knownHere_147 rfl ?_
                  refine X_bipush (v := nI 23) dX12_knownHere_148 (by decide) ?_
                  refine X_iconst (v := nI 1) dX12_knownHere_150 (by decide) ?_
                  refine X_bipush (v := nI 11) dX12_knownHere_151 (by decide) ?_
                  refine X_iconst (v := nI 5) dX12_knownHere_153 (by decide) ?_
                  refine X_iconst (v := nI 0) dX12_knownHere_154 (by decide) ?_
                  refine X_iconst (v := nI 0) dX12_knownHere_155 (by decide) ?_
                  refine X_callVI dX12_knownHere_156 mkX12_268 (k_87 hSh) (c_tkW0 Γ g mi ml hSh B n i0 hR hsk hf 23 1 11 5 0 0 (by decide) (by decide) (by decide) (by decide) (fun q => by have h9 := wq_1_8.mp q; rw [hW] at h9; cases h9)) rfl rfl (by decide) (Nat.le_of_ble_eq_true rfl) ?_
                  refine X_if_eqN (a := 0) 165 dX12_knownHere_159 (by decide) (by omega) (fun h_9 => ?_) (fun h_9 => ?_)
                  · refine X_aload_n dX12_knownHere_165 rfl ?_
                    refine X_iconst (v := nI 3) dX12_knownHere_166 (by decide) ?_
                    refine X_bipush (v := nI 8) dX12_knownHere_167 (by decide) ?_
                    refine X_iconst (v := nI 1) dX12_knownHere_169 (by decide) ?_
                    refine X_bipush (v := nI 9) dX12_knownHere_170 (by decide) ?_
                    refine X_bipush (v := nI 18) dX12_knownHere_172 (by decide) ?_
                    refine X_bipush (v := nI 19) dX12_knownHere_174 (by decide) ?_
                    refine X_callVI dX12_knownHere_176 mkX12_268 (k_87 hSh) (c_tkW1 Γ g mi ml hSh B n i0 hR hsk hf 3 8 1 9 18 19 (by decide) (by decide) (by decide) (by decide) (wq_1_9.mpr hW)) rfl rfl (by decide) (Nat.le_of_ble_eq_true rfl) ?_
                    refine X_if_eqN (a := 1) 185 dX12_knownHere_179 (by decide) (by omega) (fun h_10 => ?_) (fun h_10 => ?_)
                    · exact absurd h_10 (by omega)
                    · refine X_bipush (v := nI 9) dX12_knownHere_182 (by decide) ?_
                      exact X_iret dX12_knownHere_184 rfl ⟨by rfl, rfl, rfl, rfl⟩
                  · exact absurd h_9 (by omega)
                · exact absurd h_8 (by omega)
              · exact absurd h_7 (by omega)
            · exact absurd h_6 (by omega)
          · exact absurd h_5 (by omega)
        · exact absurd h_4 (by omega)
      · exact absurd h_3 (by omega)
    · exact absurd h_2 (by omega)
  · exact absurd h_1 (by omega)
set_option maxRecDepth 100000 in
set_option maxHeartbeats 4000000 in
theorem c_known10 (Γ : pTG) (g : pGG) (mi : pMI) (ml : pML) (hSh : Sh g) (B : Nat → Int32) (n i0 : Nat) (hR : RTX mi B n i0) (hsk : skT B n i0 = i0) (hf : mi 87 5 = nI 0) (hW : wIx 1 B n i0 = some 10) : cI Γ 6 mX12_knownHere [.ref 87] g mi ml (nI 10) (up2 mi 87 4 (nI (wdT B n i0))) := by
  refine cI_of (by decide +kernel) (Nat.le_of_ble_eq_true rfl) ?_
  refine X_aload_n dX12_knownHere_0 rfl ?_
  refine X_bipush (v := nI 13) dX12_knownHere_1 (by decide) ?_
  refine X_bipush (v := nI 9) dX12_knownHere_3 (by decide) ?_
  refine X_bipush (v := nI 14) dX12_knownHere_5 (by decide) ?_
  refine X_iconst (v := nI 5) dX12_knownHere_7 (by decide) ?_
  refine X_iconst (v := nI 0) dX12_knownHere_8 (by decide) ?_
  refine X_iconst (v := nI 0) dX12_knownHere_9 (by decide) ?_
  refine X_callVI dX12_knownHere_10 mkX12_268 (k_87 hSh) (c_tkW0 Γ g mi ml hSh B n i0 hR hsk hf 13 9 14 5 0 0 (by decide) (by decide) (by decide) (by decide) (fun q => by have h9 := wq_1_0.mp q; rw [hW] at h9; cases h9)) rfl rfl (by decide) (Nat.le_of_ble_eq_true rfl) ?_
  refine X_if_eqN (a := 0) 18 dX12_knownHere_13 (by decide) (by omega) (fun h_1 => ?_) (fun h_1 => ?_)
  · refine X_aload_n dX12_knownHere_18 rfl ?_
    refine X_bipush (v := nI 6) dX12_knownHere_19 (by decide) ?_
    refine X_bipush (v := nI 9) dX12_knownHere_21 (by decide) ?_
    refine X_bipush (v := nI 18) dX12_knownHere_23 (by decide) ?_
    refine X_bipush (v := nI 19) dX12_knownHere_25 (by decide) ?_
    refine X_bipush (v := nI 20) dX12_knownHere_27 (by decide) ?_
    refine X_iconst (v := nI 0) dX12_knownHere_29 (by decide) ?_
    refine X_callVI dX12_knownHere_30 mkX12_268 (k_87 hSh) (c_tkW0 Γ g mi ml hSh B n i0 hR hsk hf 6 9 18 19 20 0 (by decide) (by decide) (by decide) (by decide) (fun q => by have h9 := wq_1_1.mp q; rw [hW] at h9; cases h9)) rfl rfl (by decide) (Nat.le_of_ble_eq_true rfl) ?_
    refine X_if_eqN (a := 0) 38 dX12_knownHere_33 (by decide) (by omega) (fun h_2 => ?_) (fun h_2 => ?_)
    · refine X_aload_n dX12_knownHere_38 rfl ?_
      refine X_bipush (v := nI 12) dX12_knownHere_39 (by decide) ?_
      refine X_iconst (v := nI 1) dX12_knownHere_41 (by decide) ?_
      refine X_bipush (v := nI 19) dX12_knownHere_42 (by decide) ?_
      refine X_bipush (v := nI 20) dX12_knownHere_44 (by decide) ?_
      refine X_iconst (v := nI 0) dX12_knownHere_46 (by decide) ?_
      refine X_iconst (v := nI 0) dX12_knownHere_47 (by decide) ?_
      refine X_callVI dX12_knownHere_48 mkX12_268 (k_87 hSh) (c_tkW0 Γ g mi ml hSh B n i0 hR hsk hf 12 1 19 20 0 0 (by decide) (by decide) (by decide) (by decide) (fun q => by have h9 := wq_1_2.mp q; rw [hW] at h9; cases h9)) rfl rfl (by decide) (Nat.le_of_ble_eq_true rfl) ?_
      refine X_if_eqN (a := 0) 56 dX12_knownHere_51 (by decide) (by omega) (fun h_3 => ?_) (fun h_3 => ?_)
      · refine X_aload_n dX12_knownHere_56 rfl ?_
        refine X_bipush (v := nI 7) dX12_knownHere_57 (by decide) ?_
        refine X_bipush (v := nI 15) dX12_knownHere_59 (by decide) ?_
        refine X_bipush (v := nI 20) dX12_knownHere_61 (by decide) ?_
        refine X_iconst (v := nI 0) dX12_knownHere_63 (by decide) ?_
        refine X_iconst (v := nI 0) dX12_knownHere_64 (by decide) ?_
        refine X_iconst (v := nI 0) dX12_knownHere_65 (by decide) ?_
        refine X_callVI dX12_knownHere_66 mkX12_268 (k_87 hSh) (c_tkW0 Γ g mi ml hSh B n i0 hR hsk hf 7 15 20 0 0 0 (by decide) (by decide) (by decide) (by decide) (fun q => by have h9 := wq_1_3.mp q; rw [hW] at h9; cases h9)) rfl rfl (by decide) (Nat.le_of_ble_eq_true rfl) ?_
        refine X_if_eqN (a := 0) 74 dX12_knownHere_69 (by decide) (by omega) (fun h_4 => ?_) (fun h_4 => ?_)
        · refine X_aload_n dX12_knownHere_74 rfl ?_
          refine X_bipush (v := nI 12) dX12_knownHere_75 (by decide) ?_
          refine X_iconst (v := nI 1) dX12_knownHere_77 (by decide) ?_
          refine X_bipush (v := nI 9) dX12_knownHere_78 (by decide) ?_
          refine X_bipush (v := nI 14) dX12_knownHere_80 (by decide) ?_
          refine X_iconst (v := nI 0) dX12_knownHere_82 (by decide) ?_
          refine X_iconst (v := nI 0) dX12_knownHere_83 (by decide) ?_
          refine X_callVI dX12_knownHere_84 mkX12_268 (k_87 hSh) (c_tkW0 Γ g mi ml hSh B n i0 hR hsk hf 12 1 9 14 0 0 (by decide) (by decide) (by decide) (by decide) (fun q => by have h9 := wq_1_4.mp q; rw [hW] at h9; cases h9)) rfl rfl (by decide) (Nat.le_of_ble_eq_true rfl) ?_
          refine X_if_eqN (a := 0) 92 dX12_knownHere_87 (by decide) (by omega) (fun h_5 => ?_) (fun h_5 => ?_)
          · refine X_aload_n dX12_knownHere_92 rfl ?_
            refine X_bipush (v := nI 15) dX12_knownHere_93 (by decide) ?_
            refine X_bipush (v := nI 6) dX12_knownHere_95 (by decide) ?_
            refine X_bipush (v := nI 6) dX12_knownHere_97 (by decide) ?_
            refine X_iconst (v := nI 0) dX12_knownHere_99 (by decide) ?_
            refine X_iconst (v := nI 0) dX12_knownHere_100 (by decide) ?_
            refine X_iconst (v := nI 0) dX12_knownHere_101 (by decide) ?_
            refine X_callVI dX12_knownHere_102 mkX12_268 (k_87 hSh) (c_tkW0 Γ g mi ml hSh B n i0 hR hsk hf 15 6 6 0 0 0 (by decide) (by decide) (by decide) (by decide) (fun q => by have h9 := wq_1_5.mp q; rw [hW] at h9; cases h9)) rfl rfl (by decide) (Nat.le_of_ble_eq_true rfl) ?_
            refine X_if_eqN (a := 0) 110 dX12_knownHere_105 (by decide) (by omega) (fun h_6 => ?_) (fun h_6 => ?_)
            · refine X_aload_n dX12_knownHere_110 rfl ?_
              refine X_iconst (v := nI 4) dX12_knownHere_111 (by decide) ?_
              refine X_iconst (v := nI 1) dX12_knownHere_112 (by decide) ?_
              refine X_bipush (v := nI 25) dX12_knownHere_113 (by decide) ?_
              refine X_iconst (v := nI 0) dX12_knownHere_115 (by decide) ?_
              refine X_iconst (v := nI 0) dX12_knownHere_116 (by decide) ?_
              refine X_iconst (v := nI 0) dX12_knownHere_117 (by decide) ?_
              refine X_callVI dX12_knownHere_118 mkX12_268 (k_87 hSh) (c_tkW0 Γ g mi ml hSh B n i0 hR hsk hf 4 1 25 0 0 0 (by decide) (by decide) (by decide) (by decide) (fun q => by have h9 := wq_1_6.mp q; rw [hW] at h9; cases h9)) rfl rfl (by decide) (Nat.le_of_ble_eq_true rfl) ?_
              refine X_if_eqN (a := 0) 127 dX12_knownHere_121 (by decide) (by omega) (fun h_7 => ?_) (fun h_7 => ?_)
              · refine X_aload_n dX12_knownHere_127 rfl ?_
                refine X_bipush (v := nI 23) dX12_knownHere_128 (by decide) ?_
                refine X_bipush (v := nI 9) dX12_knownHere_130 (by decide) ?_
                refine X_bipush (v := nI 19) dX12_knownHere_132 (by decide) ?_
                refine X_bipush (v := nI 8) dX12_knownHere_134 (by decide) ?_
                refine X_iconst (v := nI 0) dX12_knownHere_136 (by decide) ?_
                refine X_iconst (v := nI 0) dX12_knownHere_137 (by decide) ?_
                refine X_callVI dX12_knownHere_138 mkX12_268 (k_87 hSh) (c_tkW0 Γ g mi ml hSh B n i0 hR hsk hf 23 9 19 8 0 0 (by decide) (by decide) (by decide) (by decide) (fun q => by have h9 := wq_1_7.mp q; rw [hW] at h9; cases h9)) rfl rfl (by decide) (Nat.le_of_ble_eq_true rfl) ?_
                refine X_if_eqN (a := 0) 147 dX12_knownHere_141 (by decide) (by omega) (fun h_8 => ?_) (fun h_8 => ?_)
                · refine X_aload_n dX12_knownHere_147 rfl ?_
                  refine X_bipush (v := nI 23) dX12_knownHere_148 (by decide) ?_
                  refine X_iconst (v := nI 1) dX12_knownHere_150 (by decide) ?_
                  refine X_bipush (v := nI 11) dX12_knownHere_151 (by decide) ?_
                  refine X_iconst (v := nI 5) dX12_knownHere_153 (by decide) ?_
                  refine X_iconst (v := nI 0) dX12_knownHere_154 (by decide) ?_
                  refine X_iconst (v := nI 0) dX12_knownHere_155 (by decide) ?_
                  refine X_callVI dX12_knownHere_156 mkX12_268 (k_87 hSh) (c_tkW0 Γ g mi ml hSh B n i0 hR hsk hf 23 1 11 5 0 0 (by decide) (by decide) (by decide) (by decide) (fun q => by have h9 := wq_1_8.mp q; rw [hW] at h9; cases h9)) rfl rfl (by decide) (Nat.le_of_ble_eq_true rfl) ?_
                  refine X_if_eqN (a := 0) 165 dX12_knownHere_159 (by decide) (by omega) (fun h_9 => ?_) (fun h_9 => ?_)
                  · refine X_aload_n dX12_knownHere_165 rfl ?_
                    refine X_iconst (v := nI 3) dX12_knownHere_166 (by decide) ?_
                    refine X_bipush (v := nI 8) dX12_knownHere_167 (by decide) ?_
                    refine X_iconst (v := nI 1) dX12_knownHere_169 (by decide) ?_
                    refine X_bipush (v := nI 9) dX12_knownHere_170 (by decide) ?_
                    refine X_bipush (v := nI 18) dX12_knownHere_172 (by decide) ?_
                    refine X_bipush (v := nI 19) dX12_knownHere_174 (by decide) ?_
                    refine X_callVI dX12_knownHere_176 mkX12_268 (k_87 hSh) (c_tkW0 Γ g mi ml hSh B n i0 hR hsk hf 3 8 1 9 18 19 (by decide) (by decide) (by decide) (by decide) (fun q => by have h9 := wq_1_9.mp q; rw [hW] at h9; cases h9)) rfl rfl (by decide) (Nat.le_of_ble_eq_true rfl) ?_
                    refine X_if_eqN (a := 0) 185 dX12_knownHere_179 (by decide) (by omega) (fun h_10 => ?_) (fun h_10 => ?_)
                    · refine X_aload_n dX12_knownHere_185 rfl ?_
                      refine X_bipush (v := nI 7) dX12_knownHere_186 (by decide) ?_
                      refine X_bipush (v := nI 21) dX12_knownHere_188 (by decide) ?_
                      refine X_iconst (v := nI 5) dX12_knownHere_190 (by decide) ?_
                      refine X_bipush (v := nI 19) dX12_knownHere_191 (by decide) ?_
                      refine X_bipush (v := nI 20) dX12_knownHere_193 (by decide) ?_
                      refine X_bipush (v := nI 19) dX12_knownHere_195 (by decide) ?_
                      refine X_callVI dX12_knownHere_197 mkX12_268 (k_87 hSh) (c_tkW1 Γ g mi ml hSh B n i0 hR hsk hf 7 21 5 19 20 19 (by decide) (by decide) (by decide) (by decide) (wq_1_10.mpr hW)) rfl rfl (by decide) (Nat.le_of_ble_eq_true rfl) ?_
                      refine X_if_eqN (a := 1) 208 dX12_knownHere_200 (by decide) (by omega) (fun h_11 => ?_) (fun h_11 => ?_)
                      · exact absurd h_11 (by omega)
                      · refine X_bipush (v := nI 10) dX12_knownHere_203 (by decide) ?_
                        refine X_goto 209 dX12_knownHere_205 (by decide) ?_
                        exact X_iret dX12_knownHere_209 rfl ⟨by rfl, rfl, rfl, rfl⟩
                    · exact absurd h_10 (by omega)
                  · exact absurd h_9 (by omega)
                · exact absurd h_8 (by omega)
              · exact absurd h_7 (by omega)
            · exact absurd h_6 (by omega)
          · exact absurd h_5 (by omega)
        · exact absurd h_4 (by omega)
      · exact absurd h_3 (by omega)
    · exact absurd h_2 (by omega)
  · exact absurd h_1 (by omega)
set_option maxRecDepth 100000 in
set_option maxHeartbeats 4000000 in
theorem c_knownN (Γ : pTG) (g : pGG) (mi : pMI) (ml : pML) (hSh : Sh g) (B : Nat → Int32) (n i0 : Nat) (hR : RTX mi B n i0) (hsk : skT B n i0 = i0) (hf : mi 87 5 = nI 0) (hW : ∀ j, j < 11 → ¬ wIx 1 B n i0 = some j) : cI Γ 6 mX12_knownHere [.ref 87] g mi ml (-1) mi := by
  refine cI_of (by decide +kernel) (Nat.le_of_ble_eq_true rfl) ?_
  refine X_aload_n dX12_knownHere_0 rfl ?_
  refine X_bipush (v := nI 13) dX12_knownHere_1 (by decide) ?_
  refine X_bipush (v := nI 9) dX12_knownHere_3 (by decide) ?_
  refine X_bipush (v := nI 14) dX12_knownHere_5 (by decide) ?_
  refine X_iconst (v := nI 5) dX12_knownHere_7 (by decide) ?_
  refine X_iconst (v := nI 0) dX12_knownHere_8 (by decide) ?_
  refine X_iconst (v := nI 0) dX12_knownHere_9 (by decide) ?_
  refine X_callVI dX12_knownHere_10 mkX12_268 (k_87 hSh) (c_tkW0 Γ g mi ml hSh B n i0 hR hsk hf 13 9 14 5 0 0 (by decide) (by decide) (by decide) (by decide) (fun q => hW 0 (by decide) (wq_1_0.mp q))) rfl rfl (by decide) (Nat.le_of_ble_eq_true rfl) ?_
  refine X_if_eqN (a := 0) 18 dX12_knownHere_13 (by decide) (by omega) (fun h_1 => ?_) (fun h_1 => ?_)
  · refine X_aload_n dX12_knownHere_18 rfl ?_
    refine X_bipush (v := nI 6) dX12_knownHere_19 (by decide) ?_
    refine X_bipush (v := nI 9) dX12_knownHere_21 (by decide) ?_
    refine X_bipush (v := nI 18) dX12_knownHere_23 (by decide) ?_
    refine X_bipush (v := nI 19) dX12_knownHere_25 (by decide) ?_
    refine X_bipush (v := nI 20) dX12_knownHere_27 (by decide) ?_
    refine X_iconst (v := nI 0) dX12_knownHere_29 (by decide) ?_
    refine X_callVI dX12_knownHere_30 mkX12_268 (k_87 hSh) (c_tkW0 Γ g mi ml hSh B n i0 hR hsk hf 6 9 18 19 20 0 (by decide) (by decide) (by decide) (by decide) (fun q => hW 1 (by decide) (wq_1_1.mp q))) rfl rfl (by decide) (Nat.le_of_ble_eq_true rfl) ?_
    refine X_if_eqN (a := 0) 38 dX12_knownHere_33 (by decide) (by omega) (fun h_2 => ?_) (fun h_2 => ?_)
    · refine X_aload_n dX12_knownHere_38 rfl ?_
      refine X_bipush (v := nI 12) dX12_knownHere_39 (by decide) ?_
      refine X_iconst (v := nI 1) dX12_knownHere_41 (by decide) ?_
      refine X_bipush (v := nI 19) dX12_knownHere_42 (by decide) ?_
      refine X_bipush (v := nI 20) dX12_knownHere_44 (by decide) ?_
      refine X_iconst (v := nI 0) dX12_knownHere_46 (by decide) ?_
      refine X_iconst (v := nI 0) dX12_knownHere_47 (by decide) ?_
      refine X_callVI dX12_knownHere_48 mkX12_268 (k_87 hSh) (c_tkW0 Γ g mi ml hSh B n i0 hR hsk hf 12 1 19 20 0 0 (by decide) (by decide) (by decide) (by decide) (fun q => hW 2 (by decide) (wq_1_2.mp q))) rfl rfl (by decide) (Nat.le_of_ble_eq_true rfl) ?_
      refine X_if_eqN (a := 0) 56 dX12_knownHere_51 (by decide) (by omega) (fun h_3 => ?_) (fun h_3 => ?_)
      · refine X_aload_n dX12_knownHere_56 rfl ?_
        refine X_bipush (v := nI 7) dX12_knownHere_57 (by decide) ?_
        refine X_bipush (v := nI 15) dX12_knownHere_59 (by decide) ?_
        refine X_bipush (v := nI 20) dX12_knownHere_61 (by decide) ?_
        refine X_iconst (v := nI 0) dX12_knownHere_63 (by decide) ?_
        refine X_iconst (v := nI 0) dX12_knownHere_64 (by decide) ?_
        refine X_iconst (v := nI 0) dX12_knownHere_65 (by decide) ?_
        refine X_callVI dX12_knownHere_66 mkX12_268 (k_87 hSh) (c_tkW0 Γ g mi ml hSh B n i0 hR hsk hf 7 15 20 0 0 0 (by decide) (by decide) (by decide) (by decide) (fun q => hW 3 (by decide) (wq_1_3.mp q))) rfl rfl (by decide) (Nat.le_of_ble_eq_true rfl) ?_
        refine X_if_eqN (a := 0) 74 dX12_knownHere_69 (by decide) (by omega) (fun h_4 => ?_) (fun h_4 => ?_)
        · refine X_aload_n dX12_knownHere_74 rfl ?_
          refine X_bipush (v := nI 12) dX12_knownHere_75 (by decide) ?_
          refine X_iconst (v := nI 1) dX12_knownHere_77 (by decide) ?_
          refine X_bipush (v := nI 9) dX12_knownHere_78 (by decide) ?_
          refine X_bipush (v := nI 14) dX12_knownHere_80 (by decide) ?_
          refine X_iconst (v := nI 0) dX12_knownHere_82 (by decide) ?_
          refine X_iconst (v := nI 0) dX12_knownHere_83 (by decide) ?_
          refine X_callVI dX12_knownHere_84 mkX12_268 (k_87 hSh) (c_tkW0 Γ g mi ml hSh B n i0 hR hsk hf 12 1 9 14 0 0 (by decide) (by decide) (by decide) (by decide) (fun q => hW 4 (by decide) (wq_1_4.mp q))) rfl rfl (by decide) (Nat.le_of_ble_eq_true rfl) ?_
          refine X_if_eqN (a := 0) 92 dX12_knownHere_87 (by decide) (by omega) (fun h_5 => ?_) (fun h_5 => ?_)
          · refine X_aload_n dX12_knownHere_92 rfl ?_
            refine X_bipush (v := nI 15) dX12_knownHere_93 (by decide) ?_
            refine X_bipush (v := nI 6) dX12_knownHere_95 (by decide) ?_
            refine X_bipush (v := nI 6) dX12_knownHere_97 (by decide) ?_
            refine X_iconst (v := nI 0) dX12_knownHere_99 (by decide) ?_
            refine X_iconst (v := nI 0) dX12_knownHere_100 (by decide) ?_
            refine X_iconst (v := nI 0) dX12_knownHere_101 (by decide) ?_
            refine X_callVI dX12_knownHere_102 mkX12_268 (k_87 hSh) (c_tkW0 Γ g mi ml hSh B n i0 hR hsk hf 15 6 6 0 0 0 (by decide) (by decide) (by decide) (by decide) (fun q => hW 5 (by decide) (wq_1_5.mp q))) rfl rfl (by decide) (Nat.le_of_ble_eq_true rfl) ?_
            refine X_if_eqN (a := 0) 110 dX12_knownHere_105 (by decide) (by omega) (fun h_6 => ?_) (fun h_6 => ?_)
            · refine X_aload_n dX12_knownHere_110 rfl ?_
              refine X_iconst (v := nI 4) dX12_knownHere_111 (by decide) ?_
              refine X_iconst (v := nI 1) dX12_knownHere_112 (by decide) ?_
              refine X_bipush (v := nI 25) dX12_knownHere_113 (by decide) ?_
              refine X_iconst (v := nI 0) dX12_knownHere_115 (by decide) ?_
              refine X_iconst (v := nI 0) dX12_knownHere_116 (by decide) ?_
              refine X_iconst (v := nI 0) dX12_knownHere_117 (by decide) ?_
              refine X_callVI dX12_knownHere_118 mkX12_268 (k_87 hSh) (c_tkW0 Γ g mi ml hSh B n i0 hR hsk hf 4 1 25 0 0 0 (by decide) (by decide) (by decide) (by decide) (fun q => hW 6 (by decide) (wq_1_6.mp q))) rfl rfl (by decide) (Nat.le_of_ble_eq_true rfl) ?_
              refine X_if_eqN (a := 0) 127 dX12_knownHere_121 (by decide) (by omega) (fun h_7 => ?_) (fun h_7 => ?_)
              · refine X_aload_n dX12_knownHere_127 rfl ?_
                refine X_bipush (v := nI 23) dX12_knownHere_128 (by decide) ?_
                refine X_bipush (v := nI 9) dX12_knownHere_130 (by decide) ?_
                refine X_bipush (v := nI 19) dX12_knownHere_132 (by decide) ?_
                refine X_bipush (v := nI 8) dX12_knownHere_134 (by decide) ?_
                refine X_iconst (v := nI 0) dX12_knownHere_136 (by decide) ?_
                refine X_iconst (v := nI 0) dX12_knownHere_137 (by decide) ?_
                refine X_callVI dX12_knownHere_138 mkX12_268 (k_87 hSh) (c_tkW0 Γ g mi ml hSh B n i0 hR hsk hf 23 9 19 8 0 0 (by decide) (by decide) (by decide) (by decide) (fun q => hW 7 (by decide) (wq_1_7.mp q))) rfl rfl (by decide) (Nat.le_of_ble_eq_true rfl) ?_
                refine X_if_eqN (a := 0) 147 dX12_knownHere_141 (by decide) (by omega) (fun h_8 => ?_) (fun h_8 => ?_)
                · refine X_aload_n dX12_knownHere_147 rfl ?_
                  refine X_bipush (v := nI 23) dX12_knownHere_148 (by decide) ?_
                  refine X_iconst (v := nI 1) dX12_knownHere_150 (by decide) ?_
                  refine X_bipush (v := nI 11) dX12_knownHere_151 (by decide) ?_
                  refine X_iconst (v := nI 5) dX12_knownHere_153 (by decide) ?_
                  refine X_iconst (v := nI 0) dX12_knownHere_154 (by decide) ?_
                  refine X_iconst (v := nI 0) dX12_knownHere_155 (by decide) ?_
                  refine X_callVI dX12_knownHere_156 mkX12_268 (k_87 hSh) (c_tkW0 Γ g mi ml hSh B n i0 hR hsk hf 23 1 11 5 0 0 (by decide) (by decide) (by decide) (by decide) (fun q => hW 8 (by decide) (wq_1_8.mp q))) rfl rfl (by decide) (Nat.le_of_ble_eq_true rfl) ?_
                  refine X_if_eqN (a := 0) 165 dX12_knownHere_159 (by decide) (by omega) (fun h_9 => ?_) (fun h_9 => ?_)
                  · refine X_aload_n dX12_knownHere_165 rfl ?_
                    refine X_iconst (v := nI 3) dX12_knownHere_166 (by decide) ?_
                    refine X_bipush (v := nI 8) dX12_knownHere_167 (by decide) ?_
                    refine X_iconst (v := nI 1) dX12_knownHere_169 (by decide) ?_
                    refine X_bipush (v := nI 9) dX12_knownHere_170 (by decide) ?_
                    refine X_bipush (v := nI 18) dX12_knownHere_172 (by decide) ?_
                    refine X_bipush (v := nI 19) dX12_knownHere_174 (by decide) ?_
                    refine X_callVI dX12_knownHere_176 mkX12_268 (k_87 hSh) (c_tkW0 Γ g mi ml hSh B n i0 hR hsk hf 3 8 1 9 18 19 (by decide) (by decide) (by decide) (by decide) (fun q => hW 9 (by decide) (wq_1_9.mp q))) rfl rfl (by decide) (Nat.le_of_ble_eq_true rfl) ?_
                    refine X_if_eqN (a := 0) 185 dX12_knownHere_179 (by decide) (by omega) (fun h_10 => ?_) (fun h_10 => ?_)
                    · refine X_aload_n dX12_knownHere_185 rfl ?_
                      refine X_bipush (v := nI 7) dX12_knownHere_186 (by decide) ?_
                      refine X_bipush (v := nI 21) dX12_knownHere_188 (by decide) ?_
                      refine X_iconst (v := nI 5) dX12_knownHere_190 (by decide) ?_
                      refine X_bipush (v := nI 19) dX12_knownHere_191 (by decide) ?_
                      refine X_bipush (v := nI 20) dX12_knownHere_193 (by decide) ?_
                      refine X_bipush (v := nI 19) dX12_knownHere_195 (by decide) ?_
                      refine X_callVI dX12_knownHere_197 mkX12_268 (k_87 hSh) (c_tkW0 Γ g mi ml hSh B n i0 hR hsk hf 7 21 5 19 20 19 (by decide) (by decide) (by decide) (by decide) (fun q => hW 10 (by decide) (wq_1_10.mp q))) rfl rfl (by decide) (Nat.le_of_ble_eq_true rfl) ?_
                      refine X_if_eqN (a := 0) 208 dX12_knownHere_200 (by decide) (by omega) (fun h_11 => ?_) (fun h_11 => ?_)
                      · refine X_iconst (v := -1) dX12_knownHere_208 (by decide) ?_
                        exact X_iret dX12_knownHere_209 rfl ⟨by rfl, rfl, rfl, rfl⟩
                      · exact absurd h_11 (by omega)
                    · exact absurd h_10 (by omega)
                  · exact absurd h_9 (by omega)
                · exact absurd h_8 (by omega)
              · exact absurd h_7 (by omega)
            · exact absurd h_6 (by omega)
          · exact absurd h_5 (by omega)
        · exact absurd h_4 (by omega)
      · exact absurd h_3 (by omega)
    · exact absurd h_2 (by omega)
  · exact absurd h_1 (by omega)
theorem c_known (Γ : pTG) (g : pGG) (mi : pMI) (ml : pML) (hSh : Sh g) (B : Nat → Int32) (n i0 : Nat) (hR : RTX mi B n i0) (hsk : skT B n i0 = i0) (hf : mi 87 5 = nI 0) (k : Nat) (hk : k < 11) (hW : wIx 1 B n i0 = some k) : cI Γ 6 mX12_knownHere [.ref 87] g mi ml (nI k) (up2 mi 87 4 (nI (wdT B n i0))) := by
  match k, hk with
  | 0, _ => exact c_known0 Γ g mi ml hSh B n i0 hR hsk hf hW
  | 1, _ => exact c_known1 Γ g mi ml hSh B n i0 hR hsk hf hW
  | 2, _ => exact c_known2 Γ g mi ml hSh B n i0 hR hsk hf hW
  | 3, _ => exact c_known3 Γ g mi ml hSh B n i0 hR hsk hf hW
  | 4, _ => exact c_known4 Γ g mi ml hSh B n i0 hR hsk hf hW
  | 5, _ => exact c_known5 Γ g mi ml hSh B n i0 hR hsk hf hW
  | 6, _ => exact c_known6 Γ g mi ml hSh B n i0 hR hsk hf hW
  | 7, _ => exact c_known7 Γ g mi ml hSh B n i0 hR hsk hf hW
  | 8, _ => exact c_known8 Γ g mi ml hSh B n i0 hR hsk hf hW
  | 9, _ => exact c_known9 Γ g mi ml hSh B n i0 hR hsk hf hW
  | 10, _ => exact c_known10 Γ g mi ml hSh B n i0 hR hsk hf hW
set_option maxRecDepth 100000 in
set_option maxHeartbeats 4000000 in
theorem rc_prodL (Γ : pTG) (g : pGG) (ml : pML) (hSh : Sh g) (B : Nat → Int32) (n : Nat) (D op : Nat) (hD : 10 ≤ D) (U : hFn) (hU : RC2 Γ g ml B n D mX12_one op U) (hUO : UOK n U) (m0 : pMI) (T : List Tok) (a : Bool) : ∀ (f : Nat) (mi : pMI) (i : Nat) (t : List Tok) (b : Bool), RST m0 mi B n i (T ++ t) (a || b) op → n < i + f → XW Γ (D + 1) 0 0 mX12_product 4 [(0, .ref 87)] [] g mi ml (qrV g (fun m l => RHS m0 B n T a op (jnL U tmO B n f i t b) m ∧ l = ml))
  | 0, mi, i, t, b, hS, hf => absurd hf (by have := hS.1.2.1; omega)
  | f + 1, mi, i, t, b, hS, hf => by
    have hs1 := skT_le (B := B) hS.1.2.1
    have hs2 := skT_ge (B := B) (n := n) (i := i)
    have hn15 := hS.2.1
    have hin := hS.1.2.1
    have hS1 := RST_at hS hs1 hs2
    by_cases q0 : byT B n (skT B n i) = nI 42
    · have hO : tmO (byT B n (skT B n i)) = some 4 := if_pos q0
      have hlt := by_lt q0
      refine X_aload_n dX12_product_4 rfl ?_
      refine X_geti dX12_product_5 fkX12_174 rfl (k_87 hSh) ?_
      rw [hS.2.2.1]
      refine X_if_neN (a := 0) 72 dX12_product_8 (by decide) (by omega) (fun h_1 => ?_) (fun h_1 => ?_)
      · exact absurd h_1 (by omega)
      · refine X_aload_n dX12_product_11 rfl ?_
        refine X_bipush (v := nI 42) dX12_product_12 (by decide) ?_
        refine X_callVI dX12_product_14 mkX12_259 (k_87 hSh) (c_takesSign1 Γ g mi ml hSh B n i hS.1 hS.2.2.1 (nI 42) q0) rfl rfl (by omega) (Nat.le_of_ble_eq_true rfl) ?_
        refine X_if_eqN (a := 1) 24 dX12_product_17 (by decide) (by omega) (fun h_2 => ?_) (fun h_2 => ?_)
        · exact absurd h_2 (by omega)
        · refine X_iconst (v := nI 4) dX12_product_20 (by decide) ?_
          refine X_goto 52 dX12_product_21 (by decide) ?_
          refine X_istore_n dX12_product_52 (by decide) ?_
          refine X_iload_n dX12_product_53 rfl ?_
          refine X_iconst (v := -1) dX12_product_54 (by decide) ?_
          refine X_icmp_ne 59 dX12_product_55 (by decide) (fun h_3 => ?_) (fun h_3 => ?_)
          · refine X_aload_n dX12_product_59 rfl ?_
            match hUr : U (skT B n i + 1) with
            | .error (k1, p1) =>
              refine X_callVrV dX12_product_60 mkX12_265 (k_87 hSh) (hU m0 _ (skT B n i + 1) (T ++ t) (a || b) (RST_at hS hlt (by omega))) rfl rfl (by omega) (Nat.le_of_ble_eq_true rfl) (fun m1 l1 hm1 => ?_)
              rw [hUr] at hm1
              obtain ⟨hm1, hl1⟩ := hm1
              rw [hl1]
              have hf1 := RHE_f hm1
              refine X_aload_n dX12_product_63 rfl ?_
              refine X_iload_n dX12_product_64 rfl ?_
              refine X_iconst (v := nI 0) dX12_product_65 (by decide) ?_
              refine X_callVV dX12_product_66 mkX12_262 (k_87 hSh) (c_notesF Γ g m1 ml hSh hf1 (nI 4) (nI 0)) rfl rfl (by omega) (Nat.le_of_ble_eq_true rfl) ?_
              refine X_goto 4 dX12_product_69 (by decide) ?_
              refine X_aload_n dX12_product_4 rfl ?_
              refine X_geti dX12_product_5 fkX12_174 rfl (k_87 hSh) ?_
              refine X_if_ne 72 dX12_product_8 (by decide) (fun h_4 => ?_) (fun h_4 => ?_)
              · exact X_vret dX12_product_72 rfl ⟨rfl, rfl, by rw [show jnL U tmO B n (f + 1) i t b = .error (k1, p1) from by unfold jnL; rw [hO]; dsimp only; rw [hUr]; rfl]; exact hm1, rfl⟩
              · exact absurd h_4 hf1
            | .ok (e1, t1, b1) =>
              obtain ⟨hb1, hb2, hb3⟩ := (hUO (skT B n i + 1) hlt).1 e1 t1 b1 hUr
              refine X_callVrV dX12_product_60 mkX12_265 (k_87 hSh) (hU m0 _ (skT B n i + 1) (T ++ t) (a || b) (RST_at hS hlt (by omega))) rfl rfl (by omega) (Nat.le_of_ble_eq_true rfl) (fun m1 l1 hm1 => ?_)
              rw [hUr] at hm1
              obtain ⟨hm1, hl1⟩ := hm1
              rw [hl1]
              have hle : ((T ++ t) ++ t1).length + 1 ≤ e1 := by rw [List.length_append]; have := hS.2.2.2.2.2.2.2.1; omega
              have he15 := hm1.2.1
              refine X_aload_n dX12_product_63 rfl ?_
              refine X_iload_n dX12_product_64 rfl ?_
              refine X_iconst (v := nI 0) dX12_product_65 (by decide) ?_
              have hp2 := RST_nt (t := (4, 0)) (u := nI 4) (v := nI 0) hm1 hle rfl rfl
              refine X_callVV dX12_product_66 mkX12_262 (k_87 hSh) (c_notes Γ g m1 ml hSh hm1.2.2.1 _ hm1.2.2.2.1 (by omega) (nI 4) (nI 0)) rfl rfl (by omega) (Nat.le_of_ble_eq_true rfl) ?_
              refine X_goto 4 dX12_product_69 (by decide) ?_
              refine X_L [(0, .ref 87)] ⟨rfl, trivial⟩ ?_
              have hz := rc_prodL Γ g ml hSh B n D op hD U hU hUO m0 T a f _ e1 (t ++ (t1 ++ [(4, 0)])) (b || b1) (RST_eq hp2 (by simp [List.append_assoc]) (Bool.or_assoc _ _ _)) (by omega)
              rw [show jnL U tmO B n (f + 1) i t b = jnL U tmO B n f e1 (t ++ (t1 ++ [(4, 0)])) (b || b1) from jnL_s hO hUr]
              exact hz
          · exact absurd h_3 (nI_m1 (by omega))
    by_cases q1 : byT B n (skT B n i) = nI 47
    · have hO : tmO (byT B n (skT B n i)) = some 5 := (if_neg q0).trans (if_pos q1)
      have hlt := by_lt q1
      refine X_aload_n dX12_product_4 rfl ?_
      refine X_geti dX12_product_5 fkX12_174 rfl (k_87 hSh) ?_
      rw [hS.2.2.1]
      refine X_if_neN (a := 0) 72 dX12_product_8 (by decide) (by omega) (fun h_5 => ?_) (fun h_5 => ?_)
      · exact absurd h_5 (by omega)
      · refine X_aload_n dX12_product_11 rfl ?_
        refine X_bipush (v := nI 42) dX12_product_12 (by decide) ?_
        refine X_callVI dX12_product_14 mkX12_259 (k_87 hSh) (c_takesSign0 Γ g mi ml hSh B n i hS.1 hS.2.2.1 (nI 42) q0) rfl rfl (by omega) (Nat.le_of_ble_eq_true rfl) ?_
        refine X_if_eqN (a := 0) 24 dX12_product_17 (by decide) (by omega) (fun h_6 => ?_) (fun h_6 => ?_)
        · refine X_aload_n dX12_product_24 rfl ?_
          refine X_bipush (v := nI 47) dX12_product_25 (by decide) ?_
          have hts1 := c_takesSign1 Γ g (up2 mi 87 4 (nI (skT B n i))) ml hSh B n (skT B n i) hS1.1 hS1.2.2.1 (nI 47) (by rw [skT_sk]; exact q1)
          rw [skT_sk, up2_up2] at hts1
          refine X_callVI dX12_product_27 mkX12_259 (k_87 hSh) (hts1) rfl rfl (by omega) (Nat.le_of_ble_eq_true rfl) ?_
          refine X_if_eqN (a := 1) 37 dX12_product_30 (by decide) (by omega) (fun h_7 => ?_) (fun h_7 => ?_)
          · exact absurd h_7 (by omega)
          · refine X_iconst (v := nI 5) dX12_product_33 (by decide) ?_
            refine X_goto 52 dX12_product_34 (by decide) ?_
            refine X_istore_n dX12_product_52 (by decide) ?_
            refine X_iload_n dX12_product_53 rfl ?_
            refine X_iconst (v := -1) dX12_product_54 (by decide) ?_
            refine X_icmp_ne 59 dX12_product_55 (by decide) (fun h_8 => ?_) (fun h_8 => ?_)
            · refine X_aload_n dX12_product_59 rfl ?_
              match hUr : U (skT B n i + 1) with
              | .error (k1, p1) =>
                refine X_callVrV dX12_product_60 mkX12_265 (k_87 hSh) (hU m0 _ (skT B n i + 1) (T ++ t) (a || b) (RST_at hS hlt (by omega))) rfl rfl (by omega) (Nat.le_of_ble_eq_true rfl) (fun m1 l1 hm1 => ?_)
                rw [hUr] at hm1
                obtain ⟨hm1, hl1⟩ := hm1
                rw [hl1]
                have hf1 := RHE_f hm1
                refine X_aload_n dX12_product_63 rfl ?_
                refine X_iload_n dX12_product_64 rfl ?_
                refine X_iconst (v := nI 0) dX12_product_65 (by decide) ?_
                refine X_callVV dX12_product_66 mkX12_262 (k_87 hSh) (c_notesF Γ g m1 ml hSh hf1 (nI 5) (nI 0)) rfl rfl (by omega) (Nat.le_of_ble_eq_true rfl) ?_
                refine X_goto 4 dX12_product_69 (by decide) ?_
                refine X_aload_n dX12_product_4 rfl ?_
                refine X_geti dX12_product_5 fkX12_174 rfl (k_87 hSh) ?_
                refine X_if_ne 72 dX12_product_8 (by decide) (fun h_9 => ?_) (fun h_9 => ?_)
                · exact X_vret dX12_product_72 rfl ⟨rfl, rfl, by rw [show jnL U tmO B n (f + 1) i t b = .error (k1, p1) from by unfold jnL; rw [hO]; dsimp only; rw [hUr]; rfl]; exact hm1, rfl⟩
                · exact absurd h_9 hf1
              | .ok (e1, t1, b1) =>
                obtain ⟨hb1, hb2, hb3⟩ := (hUO (skT B n i + 1) hlt).1 e1 t1 b1 hUr
                refine X_callVrV dX12_product_60 mkX12_265 (k_87 hSh) (hU m0 _ (skT B n i + 1) (T ++ t) (a || b) (RST_at hS hlt (by omega))) rfl rfl (by omega) (Nat.le_of_ble_eq_true rfl) (fun m1 l1 hm1 => ?_)
                rw [hUr] at hm1
                obtain ⟨hm1, hl1⟩ := hm1
                rw [hl1]
                have hle : ((T ++ t) ++ t1).length + 1 ≤ e1 := by rw [List.length_append]; have := hS.2.2.2.2.2.2.2.1; omega
                have he15 := hm1.2.1
                refine X_aload_n dX12_product_63 rfl ?_
                refine X_iload_n dX12_product_64 rfl ?_
                refine X_iconst (v := nI 0) dX12_product_65 (by decide) ?_
                have hp2 := RST_nt (t := (5, 0)) (u := nI 5) (v := nI 0) hm1 hle rfl rfl
                refine X_callVV dX12_product_66 mkX12_262 (k_87 hSh) (c_notes Γ g m1 ml hSh hm1.2.2.1 _ hm1.2.2.2.1 (by omega) (nI 5) (nI 0)) rfl rfl (by omega) (Nat.le_of_ble_eq_true rfl) ?_
                refine X_goto 4 dX12_product_69 (by decide) ?_
                refine X_L [(0, .ref 87)] ⟨rfl, trivial⟩ ?_
                have hz := rc_prodL Γ g ml hSh B n D op hD U hU hUO m0 T a f _ e1 (t ++ (t1 ++ [(5, 0)])) (b || b1) (RST_eq hp2 (by simp [List.append_assoc]) (Bool.or_assoc _ _ _)) (by omega)
                rw [show jnL U tmO B n (f + 1) i t b = jnL U tmO B n f e1 (t ++ (t1 ++ [(5, 0)])) (b || b1) from jnL_s hO hUr]
                exact hz
            · exact absurd h_8 (nI_m1 (by omega))
        · exact absurd h_6 (by omega)
    by_cases q2 : byT B n (skT B n i) = nI 37
    · have hO : tmO (byT B n (skT B n i)) = some 6 := (if_neg q0).trans ((if_neg q1).trans (if_pos q2))
      have hlt := by_lt q2
      refine X_aload_n dX12_product_4 rfl ?_
      refine X_geti dX12_product_5 fkX12_174 rfl (k_87 hSh) ?_
      rw [hS.2.2.1]
      refine X_if_neN (a := 0) 72 dX12_product_8 (by decide) (by omega) (fun h_10 => ?_) (fun h_10 => ?_)
      · exact absurd h_10 (by omega)
      · refine X_aload_n dX12_product_11 rfl ?_
        refine X_bipush (v := nI 42) dX12_product_12 (by decide) ?_
        refine X_callVI dX12_product_14 mkX12_259 (k_87 hSh) (c_takesSign0 Γ g mi ml hSh B n i hS.1 hS.2.2.1 (nI 42) q0) rfl rfl (by omega) (Nat.le_of_ble_eq_true rfl) ?_
        refine X_if_eqN (a := 0) 24 dX12_product_17 (by decide) (by omega) (fun h_11 => ?_) (fun h_11 => ?_)
        · refine X_aload_n dX12_product_24 rfl ?_
          refine X_bipush (v := nI 47) dX12_product_25 (by decide) ?_
          have hts1 := c_takesSign0 Γ g (up2 mi 87 4 (nI (skT B n i))) ml hSh B n (skT B n i) hS1.1 hS1.2.2.1 (nI 47) (by rw [skT_sk]; exact q1)
          rw [skT_sk, up2_up2] at hts1
          refine X_callVI dX12_product_27 mkX12_259 (k_87 hSh) (hts1) rfl rfl (by omega) (Nat.le_of_ble_eq_true rfl) ?_
          refine X_if_eqN (a := 0) 37 dX12_product_30 (by decide) (by omega) (fun h_12 => ?_) (fun h_12 => ?_)
          · refine X_aload_n dX12_product_37 rfl ?_
            refine X_bipush (v := nI 37) dX12_product_38 (by decide) ?_
            have hts2 := c_takesSign1 Γ g (up2 mi 87 4 (nI (skT B n i))) ml hSh B n (skT B n i) hS1.1 hS1.2.2.1 (nI 37) (by rw [skT_sk]; exact q2)
            rw [skT_sk, up2_up2] at hts2
            refine X_callVI dX12_product_40 mkX12_259 (k_87 hSh) (hts2) rfl rfl (by omega) (Nat.le_of_ble_eq_true rfl) ?_
            refine X_if_eqN (a := 1) 51 dX12_product_43 (by decide) (by omega) (fun h_13 => ?_) (fun h_13 => ?_)
            · exact absurd h_13 (by omega)
            · refine X_bipush (v := nI 6) dX12_product_46 (by decide) ?_
              refine X_goto 52 dX12_product_48 (by decide) ?_
              refine X_istore_n dX12_product_52 (by decide) ?_
              refine X_iload_n dX12_product_53 rfl ?_
              refine X_iconst (v := -1) dX12_product_54 (by decide) ?_
              refine X_icmp_ne 59 dX12_product_55 (by decide) (fun h_14 => ?_) (fun h_14 => ?_)
              · refine X_aload_n dX12_product_59 rfl ?_
                match hUr : U (skT B n i + 1) with
                | .error (k1, p1) =>
                  refine X_callVrV dX12_product_60 mkX12_265 (k_87 hSh) (hU m0 _ (skT B n i + 1) (T ++ t) (a || b) (RST_at hS hlt (by omega))) rfl rfl (by omega) (Nat.le_of_ble_eq_true rfl) (fun m1 l1 hm1 => ?_)
                  rw [hUr] at hm1
                  obtain ⟨hm1, hl1⟩ := hm1
                  rw [hl1]
                  have hf1 := RHE_f hm1
                  refine X_aload_n dX12_product_63 rfl ?_
                  refine X_iload_n dX12_product_64 rfl ?_
                  refine X_iconst (v := nI 0) dX12_product_65 (by decide) ?_
                  refine X_callVV dX12_product_66 mkX12_262 (k_87 hSh) (c_notesF Γ g m1 ml hSh hf1 (nI 6) (nI 0)) rfl rfl (by omega) (Nat.le_of_ble_eq_true rfl) ?_
                  refine X_goto 4 dX12_product_69 (by decide) ?_
                  refine X_aload_n dX12_product_4 rfl ?_
                  refine X_geti dX12_product_5 fkX12_174 rfl (k_87 hSh) ?_
                  refine X_if_ne 72 dX12_product_8 (by decide) (fun h_15 => ?_) (fun h_15 => ?_)
                  · exact X_vret dX12_product_72 rfl ⟨rfl, rfl, by rw [show jnL U tmO B n (f + 1) i t b = .error (k1, p1) from by unfold jnL; rw [hO]; dsimp only; rw [hUr]; rfl]; exact hm1, rfl⟩
                  · exact absurd h_15 hf1
                | .ok (e1, t1, b1) =>
                  obtain ⟨hb1, hb2, hb3⟩ := (hUO (skT B n i + 1) hlt).1 e1 t1 b1 hUr
                  refine X_callVrV dX12_product_60 mkX12_265 (k_87 hSh) (hU m0 _ (skT B n i + 1) (T ++ t) (a || b) (RST_at hS hlt (by omega))) rfl rfl (by omega) (Nat.le_of_ble_eq_true rfl) (fun m1 l1 hm1 => ?_)
                  rw [hUr] at hm1
                  obtain ⟨hm1, hl1⟩ := hm1
                  rw [hl1]
                  have hle : ((T ++ t) ++ t1).length + 1 ≤ e1 := by rw [List.length_append]; have := hS.2.2.2.2.2.2.2.1; omega
                  have he15 := hm1.2.1
                  refine X_aload_n dX12_product_63 rfl ?_
                  refine X_iload_n dX12_product_64 rfl ?_
                  refine X_iconst (v := nI 0) dX12_product_65 (by decide) ?_
                  have hp2 := RST_nt (t := (6, 0)) (u := nI 6) (v := nI 0) hm1 hle rfl rfl
                  refine X_callVV dX12_product_66 mkX12_262 (k_87 hSh) (c_notes Γ g m1 ml hSh hm1.2.2.1 _ hm1.2.2.2.1 (by omega) (nI 6) (nI 0)) rfl rfl (by omega) (Nat.le_of_ble_eq_true rfl) ?_
                  refine X_goto 4 dX12_product_69 (by decide) ?_
                  refine X_L [(0, .ref 87)] ⟨rfl, trivial⟩ ?_
                  have hz := rc_prodL Γ g ml hSh B n D op hD U hU hUO m0 T a f _ e1 (t ++ (t1 ++ [(6, 0)])) (b || b1) (RST_eq hp2 (by simp [List.append_assoc]) (Bool.or_assoc _ _ _)) (by omega)
                  rw [show jnL U tmO B n (f + 1) i t b = jnL U tmO B n f e1 (t ++ (t1 ++ [(6, 0)])) (b || b1) from jnL_s hO hUr]
                  exact hz
              · exact absurd h_14 (nI_m1 (by omega))
          · exact absurd h_12 (by omega)
        · exact absurd h_11 (by omega)
    · have hO : tmO (byT B n (skT B n i)) = none := (if_neg q0).trans ((if_neg q1).trans ((if_neg q2)))
      refine X_aload_n dX12_product_4 rfl ?_
      refine X_geti dX12_product_5 fkX12_174 rfl (k_87 hSh) ?_
      rw [hS.2.2.1]
      refine X_if_neN (a := 0) 72 dX12_product_8 (by decide) (by omega) (fun h_16 => ?_) (fun h_16 => ?_)
      · exact absurd h_16 (by omega)
      · refine X_aload_n dX12_product_11 rfl ?_
        refine X_bipush (v := nI 42) dX12_product_12 (by decide) ?_
        refine X_callVI dX12_product_14 mkX12_259 (k_87 hSh) (c_takesSign0 Γ g mi ml hSh B n i hS.1 hS.2.2.1 (nI 42) q0) rfl rfl (by omega) (Nat.le_of_ble_eq_true rfl) ?_
        refine X_if_eqN (a := 0) 24 dX12_product_17 (by decide) (by omega) (fun h_17 => ?_) (fun h_17 => ?_)
        · refine X_aload_n dX12_product_24 rfl ?_
          refine X_bipush (v := nI 47) dX12_product_25 (by decide) ?_
          have hts1 := c_takesSign0 Γ g (up2 mi 87 4 (nI (skT B n i))) ml hSh B n (skT B n i) hS1.1 hS1.2.2.1 (nI 47) (by rw [skT_sk]; exact q1)
          rw [skT_sk, up2_up2] at hts1
          refine X_callVI dX12_product_27 mkX12_259 (k_87 hSh) (hts1) rfl rfl (by omega) (Nat.le_of_ble_eq_true rfl) ?_
          refine X_if_eqN (a := 0) 37 dX12_product_30 (by decide) (by omega) (fun h_18 => ?_) (fun h_18 => ?_)
          · refine X_aload_n dX12_product_37 rfl ?_
            refine X_bipush (v := nI 37) dX12_product_38 (by decide) ?_
            have hts2 := c_takesSign0 Γ g (up2 mi 87 4 (nI (skT B n i))) ml hSh B n (skT B n i) hS1.1 hS1.2.2.1 (nI 37) (by rw [skT_sk]; exact q2)
            rw [skT_sk, up2_up2] at hts2
            refine X_callVI dX12_product_40 mkX12_259 (k_87 hSh) (hts2) rfl rfl (by omega) (Nat.le_of_ble_eq_true rfl) ?_
            refine X_if_eqN (a := 0) 51 dX12_product_43 (by decide) (by omega) (fun h_19 => ?_) (fun h_19 => ?_)
            · refine X_iconst (v := -1) dX12_product_51 (by decide) ?_
              refine X_istore_n dX12_product_52 (by decide) ?_
              refine X_iload_n dX12_product_53 rfl ?_
              refine X_iconst (v := -1) dX12_product_54 (by decide) ?_
              refine X_icmp_ne 59 dX12_product_55 (by decide) (fun h_20 => ?_) (fun h_20 => ?_)
              · exact absurd rfl h_20
              · exact X_vret dX12_product_58 rfl ⟨rfl, rfl, by rw [show jnL U tmO B n (f + 1) i t b = .ok (skT B n i, t, b) from by unfold jnL; rw [hO]]; exact hS1, rfl⟩
            · exact absurd h_19 (by omega)
          · exact absurd h_18 (by omega)
        · exact absurd h_17 (by omega)
set_option maxRecDepth 100000 in
set_option maxHeartbeats 4000000 in
theorem rc_prod (Γ : pTG) (g : pGG) (ml : pML) (hSh : Sh g) (B : Nat → Int32) (n : Nat) (D op : Nat) (hD : 10 ≤ D) (U : hFn) (hU : RC2 Γ g ml B n D mX12_one op U) (hUO : UOK n U) : RC2 Γ g ml B n (D + 1) mX12_product op (jnR U tmO B n) := by
  intro m0 mi i T a hS
  refine rV_of (by decide +kernel) (Nat.le_of_ble_eq_true rfl) ?_
  refine X_aload_n dX12_product_0 rfl ?_
  match hUr : U i with
  | .error (k1, p1) =>
    refine X_callVrV dX12_product_1 mkX12_265 (k_87 hSh) (hU m0 mi i T a hS) rfl rfl (by omega) (Nat.le_of_ble_eq_true rfl) (fun m1 l1 hm1 => ?_)
    rw [hUr] at hm1
    obtain ⟨hm1, hl1⟩ := hm1
    rw [hl1]
    have hf1 := RHE_f hm1
    refine X_aload_n dX12_product_4 rfl ?_
    refine X_geti dX12_product_5 fkX12_174 rfl (k_87 hSh) ?_
    refine X_if_ne 72 dX12_product_8 (by decide) (fun h_1 => ?_) (fun h_1 => ?_)
    · exact X_vret dX12_product_72 rfl ⟨rfl, rfl, by rw [show jnR U tmO B n i = .error (k1, p1) from by unfold jnR; rw [hUr]; rfl]; exact hm1, rfl⟩
    · exact absurd h_1 hf1
  | .ok (e1, t1, b1) =>
    obtain ⟨hb1, hb2, hb3⟩ := (hUO i hS.1.2.1).1 e1 t1 b1 hUr
    refine X_callVrV dX12_product_1 mkX12_265 (k_87 hSh) (hU m0 mi i T a hS) rfl rfl (by omega) (Nat.le_of_ble_eq_true rfl) (fun m1 l1 hm1 => ?_)
    rw [hUr] at hm1
    obtain ⟨hm1, hl1⟩ := hm1
    rw [hl1]
    refine X_L [(0, .ref 87)] ⟨rfl, trivial⟩ ?_
    rw [show jnR U tmO B n i = jnL U tmO B n (n + 1) e1 t1 b1 from by unfold jnR; rw [hUr]; rfl]
    exact rc_prodL Γ g ml hSh B n D op hD U hU hUO m0 T a (n + 1) m1 e1 t1 b1 hm1 (by omega)
set_option maxRecDepth 100000 in
set_option maxHeartbeats 4000000 in
theorem rc_sumL (Γ : pTG) (g : pGG) (ml : pML) (hSh : Sh g) (B : Nat → Int32) (n : Nat) (D op : Nat) (hD : 10 ≤ D) (U : hFn) (hU : RC2 Γ g ml B n D mX12_product op U) (hUO : UOK n U) (m0 : pMI) (T : List Tok) (a : Bool) : ∀ (f : Nat) (mi : pMI) (i : Nat) (t : List Tok) (b : Bool), RST m0 mi B n i (T ++ t) (a || b) op → n < i + f → XW Γ (D + 1) 0 0 mX12_sum 4 [(0, .ref 87)] [] g mi ml (qrV g (fun m l => RHS m0 B n T a op (jnL U plO B n f i t b) m ∧ l = ml))
  | 0, mi, i, t, b, hS, hf => absurd hf (by have := hS.1.2.1; omega)
  | f + 1, mi, i, t, b, hS, hf => by
    have hs1 := skT_le (B := B) hS.1.2.1
    have hs2 := skT_ge (B := B) (n := n) (i := i)
    have hn15 := hS.2.1
    have hin := hS.1.2.1
    have hS1 := RST_at hS hs1 hs2
    by_cases q0 : byT B n (skT B n i) = nI 43
    · have hO : plO (byT B n (skT B n i)) = some 2 := if_pos q0
      have hlt := by_lt q0
      refine X_aload_n dX12_sum_4 rfl ?_
      refine X_geti dX12_sum_5 fkX12_174 rfl (k_87 hSh) ?_
      rw [hS.2.2.1]
      refine X_if_neN (a := 0) 58 dX12_sum_8 (by decide) (by omega) (fun h_1 => ?_) (fun h_1 => ?_)
      · exact absurd h_1 (by omega)
      · refine X_aload_n dX12_sum_11 rfl ?_
        refine X_bipush (v := nI 43) dX12_sum_12 (by decide) ?_
        refine X_callVI dX12_sum_14 mkX12_259 (k_87 hSh) (c_takesSign1 Γ g mi ml hSh B n i hS.1 hS.2.2.1 (nI 43) q0) rfl rfl (by omega) (Nat.le_of_ble_eq_true rfl) ?_
        refine X_if_eqN (a := 1) 24 dX12_sum_17 (by decide) (by omega) (fun h_2 => ?_) (fun h_2 => ?_)
        · exact absurd h_2 (by omega)
        · refine X_iconst (v := nI 2) dX12_sum_20 (by decide) ?_
          refine X_goto 38 dX12_sum_21 (by decide) ?_
          refine X_istore_n dX12_sum_38 (by decide) ?_
          refine X_iload_n dX12_sum_39 rfl ?_
          refine X_iconst (v := -1) dX12_sum_40 (by decide) ?_
          refine X_icmp_ne 45 dX12_sum_41 (by decide) (fun h_3 => ?_) (fun h_3 => ?_)
          · refine X_aload_n dX12_sum_45 rfl ?_
            match hUr : U (skT B n i + 1) with
            | .error (k1, p1) =>
              refine X_callVrV dX12_sum_46 mkX12_256 (k_87 hSh) (hU m0 _ (skT B n i + 1) (T ++ t) (a || b) (RST_at hS hlt (by omega))) rfl rfl (by omega) (Nat.le_of_ble_eq_true rfl) (fun m1 l1 hm1 => ?_)
              rw [hUr] at hm1
              obtain ⟨hm1, hl1⟩ := hm1
              rw [hl1]
              have hf1 := RHE_f hm1
              refine X_aload_n dX12_sum_49 rfl ?_
              refine X_iload_n dX12_sum_50 rfl ?_
              refine X_iconst (v := nI 0) dX12_sum_51 (by decide) ?_
              refine X_callVV dX12_sum_52 mkX12_262 (k_87 hSh) (c_notesF Γ g m1 ml hSh hf1 (nI 2) (nI 0)) rfl rfl (by omega) (Nat.le_of_ble_eq_true rfl) ?_
              refine X_goto 4 dX12_sum_55 (by decide) ?_
              refine X_aload_n dX12_sum_4 rfl ?_
              refine X_geti dX12_sum_5 fkX12_174 rfl (k_87 hSh) ?_
              refine X_if_ne 58 dX12_sum_8 (by decide) (fun h_4 => ?_) (fun h_4 => ?_)
              · exact X_vret dX12_sum_58 rfl ⟨rfl, rfl, by rw [show jnL U plO B n (f + 1) i t b = .error (k1, p1) from by unfold jnL; rw [hO]; dsimp only; rw [hUr]; rfl]; exact hm1, rfl⟩
              · exact absurd h_4 hf1
            | .ok (e1, t1, b1) =>
              obtain ⟨hb1, hb2, hb3⟩ := (hUO (skT B n i + 1) hlt).1 e1 t1 b1 hUr
              refine X_callVrV dX12_sum_46 mkX12_256 (k_87 hSh) (hU m0 _ (skT B n i + 1) (T ++ t) (a || b) (RST_at hS hlt (by omega))) rfl rfl (by omega) (Nat.le_of_ble_eq_true rfl) (fun m1 l1 hm1 => ?_)
              rw [hUr] at hm1
              obtain ⟨hm1, hl1⟩ := hm1
              rw [hl1]
              have hle : ((T ++ t) ++ t1).length + 1 ≤ e1 := by rw [List.length_append]; have := hS.2.2.2.2.2.2.2.1; omega
              have he15 := hm1.2.1
              refine X_aload_n dX12_sum_49 rfl ?_
              refine X_iload_n dX12_sum_50 rfl ?_
              refine X_iconst (v := nI 0) dX12_sum_51 (by decide) ?_
              have hp2 := RST_nt (t := (2, 0)) (u := nI 2) (v := nI 0) hm1 hle rfl rfl
              refine X_callVV dX12_sum_52 mkX12_262 (k_87 hSh) (c_notes Γ g m1 ml hSh hm1.2.2.1 _ hm1.2.2.2.1 (by omega) (nI 2) (nI 0)) rfl rfl (by omega) (Nat.le_of_ble_eq_true rfl) ?_
              refine X_goto 4 dX12_sum_55 (by decide) ?_
              refine X_L [(0, .ref 87)] ⟨rfl, trivial⟩ ?_
              have hz := rc_sumL Γ g ml hSh B n D op hD U hU hUO m0 T a f _ e1 (t ++ (t1 ++ [(2, 0)])) (b || b1) (RST_eq hp2 (by simp [List.append_assoc]) (Bool.or_assoc _ _ _)) (by omega)
              rw [show jnL U plO B n (f + 1) i t b = jnL U plO B n f e1 (t ++ (t1 ++ [(2, 0)])) (b || b1) from jnL_s hO hUr]
              exact hz
          · exact absurd h_3 (nI_m1 (by omega))
    by_cases q1 : byT B n (skT B n i) = nI 45
    · have hO : plO (byT B n (skT B n i)) = some 3 := (if_neg q0).trans (if_pos q1)
      have hlt := by_lt q1
      refine X_aload_n dX12_sum_4 rfl ?_
      refine X_geti dX12_sum_5 fkX12_174 rfl (k_87 hSh) ?_
      rw [hS.2.2.1]
      refine X_if_neN (a := 0) 58 dX12_sum_8 (by decide) (by omega) (fun h_5 => ?_) (fun h_5 => ?_)
      · exact absurd h_5 (by omega)
      · refine X_aload_n dX12_sum_11 rfl ?_
        refine X_bipush (v := nI 43) dX12_sum_12 (by decide) ?_
        refine X_callVI dX12_sum_14 mkX12_259 (k_87 hSh) (c_takesSign0 Γ g mi ml hSh B n i hS.1 hS.2.2.1 (nI 43) q0) rfl rfl (by omega) (Nat.le_of_ble_eq_true rfl) ?_
        refine X_if_eqN (a := 0) 24 dX12_sum_17 (by decide) (by omega) (fun h_6 => ?_) (fun h_6 => ?_)
        · refine X_aload_n dX12_sum_24 rfl ?_
          refine X_bipush (v := nI 45) dX12_sum_25 (by decide) ?_
          have hts1 := c_takesSign1 Γ g (up2 mi 87 4 (nI (skT B n i))) ml hSh B n (skT B n i) hS1.1 hS1.2.2.1 (nI 45) (by rw [skT_sk]; exact q1)
          rw [skT_sk, up2_up2] at hts1
          refine X_callVI dX12_sum_27 mkX12_259 (k_87 hSh) (hts1) rfl rfl (by omega) (Nat.le_of_ble_eq_true rfl) ?_
          refine X_if_eqN (a := 1) 37 dX12_sum_30 (by decide) (by omega) (fun h_7 => ?_) (fun h_7 => ?_)
          · exact absurd h_7 (by omega)
          · refine X_iconst (v := nI 3) dX12_sum_33 (by decide) ?_
            refine X_goto 38 dX12_sum_34 (by decide) ?_
            refine X_istore_n dX12_sum_38 (by decide) ?_
            refine X_iload_n dX12_sum_39 rfl ?_
            refine X_iconst (v := -1) dX12_sum_40 (by decide) ?_
            refine X_icmp_ne 45 dX12_sum_41 (by decide) (fun h_8 => ?_) (fun h_8 => ?_)
            · refine X_aload_n dX12_sum_45 rfl ?_
              match hUr : U (skT B n i + 1) with
              | .error (k1, p1) =>
                refine X_callVrV dX12_sum_46 mkX12_256 (k_87 hSh) (hU m0 _ (skT B n i + 1) (T ++ t) (a || b) (RST_at hS hlt (by omega))) rfl rfl (by omega) (Nat.le_of_ble_eq_true rfl) (fun m1 l1 hm1 => ?_)
                rw [hUr] at hm1
                obtain ⟨hm1, hl1⟩ := hm1
                rw [hl1]
                have hf1 := RHE_f hm1
                refine X_aload_n dX12_sum_49 rfl ?_
                refine X_iload_n dX12_sum_50 rfl ?_
                refine X_iconst (v := nI 0) dX12_sum_51 (by decide) ?_
                refine X_callVV dX12_sum_52 mkX12_262 (k_87 hSh) (c_notesF Γ g m1 ml hSh hf1 (nI 3) (nI 0)) rfl rfl (by omega) (Nat.le_of_ble_eq_true rfl) ?_
                refine X_goto 4 dX12_sum_55 (by decide) ?_
                refine X_aload_n dX12_sum_4 rfl ?_
                refine X_geti dX12_sum_5 fkX12_174 rfl (k_87 hSh) ?_
                refine X_if_ne 58 dX12_sum_8 (by decide) (fun h_9 => ?_) (fun h_9 => ?_)
                · exact X_vret dX12_sum_58 rfl ⟨rfl, rfl, by rw [show jnL U plO B n (f + 1) i t b = .error (k1, p1) from by unfold jnL; rw [hO]; dsimp only; rw [hUr]; rfl]; exact hm1, rfl⟩
                · exact absurd h_9 hf1
              | .ok (e1, t1, b1) =>
                obtain ⟨hb1, hb2, hb3⟩ := (hUO (skT B n i + 1) hlt).1 e1 t1 b1 hUr
                refine X_callVrV dX12_sum_46 mkX12_256 (k_87 hSh) (hU m0 _ (skT B n i + 1) (T ++ t) (a || b) (RST_at hS hlt (by omega))) rfl rfl (by omega) (Nat.le_of_ble_eq_true rfl) (fun m1 l1 hm1 => ?_)
                rw [hUr] at hm1
                obtain ⟨hm1, hl1⟩ := hm1
                rw [hl1]
                have hle : ((T ++ t) ++ t1).length + 1 ≤ e1 := by rw [List.length_append]; have := hS.2.2.2.2.2.2.2.1; omega
                have he15 := hm1.2.1
                refine X_aload_n dX12_sum_49 rfl ?_
                refine X_iload_n dX12_sum_50 rfl ?_
                refine X_iconst (v := nI 0) dX12_sum_51 (by decide) ?_
                have hp2 := RST_nt (t := (3, 0)) (u := nI 3) (v := nI 0) hm1 hle rfl rfl
                refine X_callVV dX12_sum_52 mkX12_262 (k_87 hSh) (c_notes Γ g m1 ml hSh hm1.2.2.1 _ hm1.2.2.2.1 (by omega) (nI 3) (nI 0)) rfl rfl (by omega) (Nat.le_of_ble_eq_true rfl) ?_
                refine X_goto 4 dX12_sum_55 (by decide) ?_
                refine X_L [(0, .ref 87)] ⟨rfl, trivial⟩ ?_
                have hz := rc_sumL Γ g ml hSh B n D op hD U hU hUO m0 T a f _ e1 (t ++ (t1 ++ [(3, 0)])) (b || b1) (RST_eq hp2 (by simp [List.append_assoc]) (Bool.or_assoc _ _ _)) (by omega)
                rw [show jnL U plO B n (f + 1) i t b = jnL U plO B n f e1 (t ++ (t1 ++ [(3, 0)])) (b || b1) from jnL_s hO hUr]
                exact hz
            · exact absurd h_8 (nI_m1 (by omega))
        · exact absurd h_6 (by omega)
    · have hO : plO (byT B n (skT B n i)) = none := (if_neg q0).trans ((if_neg q1))
      refine X_aload_n dX12_sum_4 rfl ?_
      refine X_geti dX12_sum_5 fkX12_174 rfl (k_87 hSh) ?_
      rw [hS.2.2.1]
      refine X_if_neN (a := 0) 58 dX12_sum_8 (by decide) (by omega) (fun h_10 => ?_) (fun h_10 => ?_)
      · exact absurd h_10 (by omega)
      · refine X_aload_n dX12_sum_11 rfl ?_
        refine X_bipush (v := nI 43) dX12_sum_12 (by decide) ?_
        refine X_callVI dX12_sum_14 mkX12_259 (k_87 hSh) (c_takesSign0 Γ g mi ml hSh B n i hS.1 hS.2.2.1 (nI 43) q0) rfl rfl (by omega) (Nat.le_of_ble_eq_true rfl) ?_
        refine X_if_eqN (a := 0) 24 dX12_sum_17 (by decide) (by omega) (fun h_11 => ?_) (fun h_11 => ?_)
        · refine X_aload_n dX12_sum_24 rfl ?_
          refine X_bipush (v := nI 45) dX12_sum_25 (by decide) ?_
          have hts1 := c_takesSign0 Γ g (up2 mi 87 4 (nI (skT B n i))) ml hSh B n (skT B n i) hS1.1 hS1.2.2.1 (nI 45) (by rw [skT_sk]; exact q1)
          rw [skT_sk, up2_up2] at hts1
          refine X_callVI dX12_sum_27 mkX12_259 (k_87 hSh) (hts1) rfl rfl (by omega) (Nat.le_of_ble_eq_true rfl) ?_
          refine X_if_eqN (a := 0) 37 dX12_sum_30 (by decide) (by omega) (fun h_12 => ?_) (fun h_12 => ?_)
          · refine X_iconst (v := -1) dX12_sum_37 (by decide) ?_
            refine X_istore_n dX12_sum_38 (by decide) ?_
            refine X_iload_n dX12_sum_39 rfl ?_
            refine X_iconst (v := -1) dX12_sum_40 (by decide) ?_
            refine X_icmp_ne 45 dX12_sum_41 (by decide) (fun h_13 => ?_) (fun h_13 => ?_)
            · exact absurd rfl h_13
            · exact X_vret dX12_sum_44 rfl ⟨rfl, rfl, by rw [show jnL U plO B n (f + 1) i t b = .ok (skT B n i, t, b) from by unfold jnL; rw [hO]]; exact hS1, rfl⟩
          · exact absurd h_12 (by omega)
        · exact absurd h_11 (by omega)
set_option maxRecDepth 100000 in
set_option maxHeartbeats 4000000 in
theorem rc_sum (Γ : pTG) (g : pGG) (ml : pML) (hSh : Sh g) (B : Nat → Int32) (n : Nat) (D op : Nat) (hD : 10 ≤ D) (U : hFn) (hU : RC2 Γ g ml B n D mX12_product op U) (hUO : UOK n U) : RC2 Γ g ml B n (D + 1) mX12_sum op (jnR U plO B n) := by
  intro m0 mi i T a hS
  refine rV_of (by decide +kernel) (Nat.le_of_ble_eq_true rfl) ?_
  refine X_aload_n dX12_sum_0 rfl ?_
  match hUr : U i with
  | .error (k1, p1) =>
    refine X_callVrV dX12_sum_1 mkX12_256 (k_87 hSh) (hU m0 mi i T a hS) rfl rfl (by omega) (Nat.le_of_ble_eq_true rfl) (fun m1 l1 hm1 => ?_)
    rw [hUr] at hm1
    obtain ⟨hm1, hl1⟩ := hm1
    rw [hl1]
    have hf1 := RHE_f hm1
    refine X_aload_n dX12_sum_4 rfl ?_
    refine X_geti dX12_sum_5 fkX12_174 rfl (k_87 hSh) ?_
    refine X_if_ne 58 dX12_sum_8 (by decide) (fun h_1 => ?_) (fun h_1 => ?_)
    · exact X_vret dX12_sum_58 rfl ⟨rfl, rfl, by rw [show jnR U plO B n i = .error (k1, p1) from by unfold jnR; rw [hUr]; rfl]; exact hm1, rfl⟩
    · exact absurd h_1 hf1
  | .ok (e1, t1, b1) =>
    obtain ⟨hb1, hb2, hb3⟩ := (hUO i hS.1.2.1).1 e1 t1 b1 hUr
    refine X_callVrV dX12_sum_1 mkX12_256 (k_87 hSh) (hU m0 mi i T a hS) rfl rfl (by omega) (Nat.le_of_ble_eq_true rfl) (fun m1 l1 hm1 => ?_)
    rw [hUr] at hm1
    obtain ⟨hm1, hl1⟩ := hm1
    rw [hl1]
    refine X_L [(0, .ref 87)] ⟨rfl, trivial⟩ ?_
    rw [show jnR U plO B n i = jnL U plO B n (n + 1) e1 t1 b1 from by unfold jnR; rw [hUr]; rfl]
    exact rc_sumL Γ g ml hSh B n D op hD U hU hUO m0 T a (n + 1) m1 e1 t1 b1 hm1 (by omega)

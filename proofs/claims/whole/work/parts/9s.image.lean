/-! ===== image, restore ===== -/
section NUL
variable {Γ : pTG} {d k n : Nat} {M : pMD} {pc : Nat} {L : List (Nat × Value)} {S : List Value} {g : pGG} {mi : pMI} {ml : pML} {Q : pQ}
theorem X_aload_nN {j : Fin 4} (hd : decode M.2.1 pc = .ok (.aload_n j, 1)) (hL : ldL L j.val = some .null) (h : XW Γ d k n M (pc + 1) L (.null :: S) g mi ml Q) : XW Γ d k n M pc L S g mi ml Q := by
  intro p e s m args below meth c H locs cells slots mc ms ls ad ad0 n0 R P
  obtain ⟨hc, hE, hS, hl, hRep, hoL, hoS, hr, ha⟩ := P
  exact lv_aload_nN hc.1 hc.2.1 hd rfl (lv_ld hl hL) (h p e s m args below meth c H locs cells slots mc ms ls ad ad0 n0 R ⟨hc, hE, hS, hl, hRep, hoL, okS_c okv_n hoS, hr, ha⟩)
theorem X_astore_nN {j : Fin 4} (hd : decode M.2.1 pc = .ok (.astore_n j, 1)) (hn : j.val < M.2.2.1) (h : XW Γ d k n M (pc + 1) (stL L j.val .null) S g mi ml Q) : XW Γ d k n M pc L (.null :: S) g mi ml Q := by
  intro p e s m args below meth c H locs cells slots mc ms ls ad ad0 n0 R P
  obtain ⟨hc, hE, hS, hl, hRep, hoL, hoS, hr, ha⟩ := P
  exact lv_astore_nN hc.1 hc.2.1 hd rfl hl hn rfl (fun ls' hl' => (h p e s m args below meth c H locs cells slots mc ms ls' ad ad0 n0 R ⟨hc, hE, hS, lv_less hl' stL_in, hRep, okL_st hoL (okS_h hoS), okS_t hoS, hr, ha⟩))
theorem X_galdr {a len b : Nat} {i : Int32} (j : Nat) (hd : decode M.2.1 pc = .ok (.aaload, 1)) (hk : g.2.1 a = (24, len)) (hi : i = nI j) (hj : j < len) (hm : g.2.2 a j = some b) (h : XW Γ d k n M (pc + 1) L (.ref b :: S) g mi ml Q) : XW Γ d k n M pc L (.int i :: .ref a :: S) g mi ml Q := by
  refine X_gald j hd hk hi hj ?_
  rw [hm]
  exact h
end NUL
def cpR (m : pMI) (a b n : Nat) : pMI := fun i j => if i = b then va_cpy (m a) (m b) 0 0 n j else m i j
theorem cpR_row {m : pMI} {a b n i : Nat} (h : i ≠ b) : cpR m a b n i = m i := by funext j; exact if_neg h
theorem cpR_at {m : pMI} {a b n j : Nat} (h : j < n) : cpR m a b n b j = m a j := (if_pos rfl).trans (cpy0 h)
theorem refL_ok : ∀ q ∈ refL, q.1 < 451 ∧ q.1 ≠ 83 ∧ ¬ (q.1 = 0 ∧ q.2 = 16) := by decide +kernel
theorem outL_ok : ∀ q ∈ outL, q.1 < 451 ∧ q.1 ≠ 83 ∧ q.1 ≠ 0 := by decide +kernel
theorem Sh_ext {g g' : pGG} (h : Sh g) (h1 : ∀ i, i < 451 → g'.2.1 i = g.2.1 i) (h2 : ∀ i j, i < 451 → i ≠ 83 → ¬ (i = 0 ∧ j = 16) → g'.2.2 i j = g.2.2 i j) : Sh g' := by
  refine ⟨fun i hi => (h1 i hi).trans (h.1 i hi), fun q hq => ?_, fun q hq j hj => ?_⟩
  · obtain ⟨a, b, c⟩ := refL_ok q hq
    rw [h2 _ _ a b c]; exact h.2.1 q hq
  · obtain ⟨a, b, c⟩ := outL_ok q hq
    rw [h2 _ _ a b (by omega)]; exact h.2.2 q hq j hj
/-- the image's content -/
def IMK (q : Nat) (d : Int32) (m x : pMI) : Prop := (∀ b, b < 8 → x (q + 1) b = m 6 b) ∧ (∀ j, j < 60 → x (q + 2) j = m 82 j) ∧ x q 2 = m 81 2 ∧ x q 3 = m 3 6 ∧ x q 4 = m 3 7 ∧ x q 5 = m 3 8 ∧ x q 6 = d ∧ ∀ i, i ≠ q → i ≠ q + 1 → i ≠ q + 2 → x i = m i
set_option maxRecDepth 100000 in
set_option maxHeartbeats 4000000 in
theorem c_Ikeep (Γ : pTG) (g : pGG) (mi : pMI) (ml : pML) (hSh : Sh g) (q : Nat) (hq : ShI g q) (h451 : 451 ≤ q) (d : Int32) : rV Γ 1 mX7_keep [.ref q, .ref 3, .ref 81, .int d] g mi ml (fun m l => IMK q d mi m ∧ l = ml) := by
  refine rV_of (by decide +kernel) (Nat.le_of_ble_eq_true rfl) ?_
  refine X_aload_n dX7_keep_0 rfl ?_
  refine X_getr (a := 6) dX7_keep_1 fkX7_20 rfl (k_3 hSh) (r_3_2 hSh) ?_
  refine X_iconst (v := nI 0) dX7_keep_4 (by decide) ?_
  refine X_aload_n dX7_keep_5 rfl ?_
  refine X_getr (a := q + 1) dX7_keep_6 fkX7_9 rfl hq.1 hq.2.2.2.1 ?_
  refine X_iconst (v := nI 0) dX7_keep_9 (by decide) ?_
  refine X_aload_n dX7_keep_10 rfl ?_
  refine X_getr (a := q + 1) dX7_keep_11 fkX7_9 rfl hq.1 hq.2.2.2.1 ?_
  refine X_alen (len := 8) dX7_keep_14 hq.2.1 (by decide) ?_
  refine X_copy 0 0 8 dX7_keep_15 mkX7_23 (k_6 hSh) hq.2.1 rfl rfl rfl (by omega) (by omega) (by decide) (by decide) ?_
  refine X_mi (show _ = (cpR mi 6 (q + 1) 8) from rfl) ?_
  refine X_aload_n dX7_keep_18 rfl ?_
  refine X_getr (a := 82) dX7_keep_19 fkX7_29 rfl (k_81 hSh) (r_81_0 hSh) ?_
  refine X_iconst (v := nI 0) dX7_keep_22 (by decide) ?_
  refine X_aload_n dX7_keep_23 rfl ?_
  refine X_getr (a := q + 2) dX7_keep_24 fkX7_17 rfl hq.1 hq.2.2.2.2 ?_
  refine X_iconst (v := nI 0) dX7_keep_27 (by decide) ?_
  refine X_aload_n dX7_keep_28 rfl ?_
  refine X_getr (a := q + 2) dX7_keep_29 fkX7_17 rfl hq.1 hq.2.2.2.2 ?_
  refine X_alen (len := 60) dX7_keep_32 hq.2.2.1 (by decide) ?_
  refine X_copy 0 0 60 dX7_keep_33 mkX7_23 (k_82 hSh) hq.2.2.1 rfl rfl rfl (by omega) (by omega) (by decide) (by decide) ?_
  refine X_mi (show _ = (cpR (cpR mi 6 (q + 1) 8) 82 (q + 2) 60) from rfl) ?_
  refine X_aload_n dX7_keep_36 rfl ?_
  refine X_aload_n dX7_keep_37 rfl ?_
  refine X_geti dX7_keep_38 fkX7_30 rfl (k_81 hSh) ?_
  rw [(show (cpR (cpR mi 6 (q + 1) 8) 82 (q + 2) 60) 81 2 = mi 81 2 by rw [cpR_row (by omega), cpR_row (by omega)])]
  refine X_puti dX7_keep_41 fkX7_34 rfl rfl hq.1 ?_
  refine X_aload_n dX7_keep_44 rfl ?_
  refine X_aload_n dX7_keep_45 rfl ?_
  refine X_geti dX7_keep_46 fkX7_35 rfl (k_3 hSh) ?_
  refine X_topi (show (up2 (cpR (cpR mi 6 (q + 1) 8) 82 (q + 2) 60) q 2 (mi 81 2)) 3 6 = mi 3 6 by rw [up2_row (by omega)]; exact (show (cpR (cpR mi 6 (q + 1) 8) 82 (q + 2) 60) 3 6 = mi 3 6 by rw [cpR_row (by omega), cpR_row (by omega)])) ?_
  refine X_puti dX7_keep_49 fkX7_38 rfl rfl hq.1 ?_
  refine X_aload_n dX7_keep_52 rfl ?_
  refine X_aload_n dX7_keep_53 rfl ?_
  refine X_geti dX7_keep_54 fkX7_39 rfl (k_3 hSh) ?_
  refine X_topi (show (up2 (up2 (cpR (cpR mi 6 (q + 1) 8) 82 (q + 2) 60) q 2 (mi 81 2)) q 3 (mi 3 6)) 3 7 = mi 3 7 by rw [up2_row (by omega), up2_row (by omega)]; exact (show (cpR (cpR mi 6 (q + 1) 8) 82 (q + 2) 60) 3 7 = mi 3 7 by rw [cpR_row (by omega), cpR_row (by omega)])) ?_
  refine X_puti dX7_keep_57 fkX7_42 rfl rfl hq.1 ?_
  refine X_aload_n dX7_keep_60 rfl ?_
  refine X_aload_n dX7_keep_61 rfl ?_
  refine X_geti dX7_keep_62 fkX7_43 rfl (k_3 hSh) ?_
  refine X_topi (show (up2 (up2 (up2 (cpR (cpR mi 6 (q + 1) 8) 82 (q + 2) 60) q 2 (mi 81 2)) q 3 (mi 3 6)) q 4 (mi 3 7)) 3 8 = mi 3 8 by rw [up2_row (by omega), up2_row (by omega), up2_row (by omega)]; exact (show (cpR (cpR mi 6 (q + 1) 8) 82 (q + 2) 60) 3 8 = mi 3 8 by rw [cpR_row (by omega), cpR_row (by omega)])) ?_
  refine X_puti dX7_keep_65 fkX7_46 rfl rfl hq.1 ?_
  refine X_aload_n dX7_keep_68 rfl ?_
  refine X_iload_n dX7_keep_69 rfl ?_
  refine X_puti dX7_keep_70 fkX7_47 rfl rfl hq.1 ?_
  exact X_vret dX7_keep_73 rfl ⟨rfl, rfl, ⟨fun b hb => by rw [up2_row (by omega), up2_row (by omega), up2_row (by omega), up2_row (by omega), up2_row (by omega), cpR_row (by omega), cpR_at hb], fun j hj => by rw [up2_row (by omega), up2_row (by omega), up2_row (by omega), up2_row (by omega), up2_row (by omega), cpR_at hj, cpR_row (by omega)], by rw [up2_n (by omega), up2_n (by omega), up2_n (by omega), up2_n (by omega), up2_s], by rw [up2_n (by omega), up2_n (by omega), up2_n (by omega), up2_s], by rw [up2_n (by omega), up2_n (by omega), up2_s], by rw [up2_n (by omega), up2_s], up2_s, fun i h1 h2 h3 => by rw [up2_row h1, up2_row h1, up2_row h1, up2_row h1, up2_row h1, cpR_row h3, cpR_row h2]⟩, rfl⟩
def IGB (q : Nat) (m x : pMI) : Prop := (∀ b, b < 8 → x 6 b = m (q + 1) b) ∧ (∀ j, j < 60 → x 82 j = m (q + 2) j) ∧ x 81 2 = m q 2 ∧ x 3 6 = m q 3 ∧ x 3 7 = m q 4 ∧ x 3 8 = m q 5 ∧ (∀ j, j ≠ 6 → j ≠ 7 → j ≠ 8 → x 3 j = m 3 j) ∧ (∀ j, j ≠ 2 → x 81 j = m 81 j) ∧ ∀ i, i ≠ 3 → i ≠ 6 → i ≠ 81 → i ≠ 82 → x i = m i
set_option maxRecDepth 100000 in
set_option maxHeartbeats 4000000 in
theorem c_Igive (Γ : pTG) (g : pGG) (mi : pMI) (ml : pML) (hSh : Sh g) (q : Nat) (hq : ShI g q) (h451 : 451 ≤ q) : rV Γ 1 mX7_giveBack [.ref q, .ref 3, .ref 81] g mi ml (fun m l => IGB q mi m ∧ l = ml) := by
  refine rV_of (by decide +kernel) (Nat.le_of_ble_eq_true rfl) ?_
  refine X_aload_n dX7_giveBack_0 rfl ?_
  refine X_getr (a := q + 1) dX7_giveBack_1 fkX7_9 rfl hq.1 hq.2.2.2.1 ?_
  refine X_iconst (v := nI 0) dX7_giveBack_4 (by decide) ?_
  refine X_aload_n dX7_giveBack_5 rfl ?_
  refine X_getr (a := 6) dX7_giveBack_6 fkX7_20 rfl (k_3 hSh) (r_3_2 hSh) ?_
  refine X_iconst (v := nI 0) dX7_giveBack_9 (by decide) ?_
  refine X_aload_n dX7_giveBack_10 rfl ?_
  refine X_getr (a := q + 1) dX7_giveBack_11 fkX7_9 rfl hq.1 hq.2.2.2.1 ?_
  refine X_alen (len := 8) dX7_giveBack_14 hq.2.1 (by decide) ?_
  refine X_copy 0 0 8 dX7_giveBack_15 mkX7_23 hq.2.1 (k_6 hSh) rfl rfl rfl (by omega) (by omega) (by decide) (by decide) ?_
  refine X_mi (show _ = (cpR mi (q + 1) 6 8) from rfl) ?_
  refine X_aload_n dX7_giveBack_18 rfl ?_
  refine X_getr (a := q + 2) dX7_giveBack_19 fkX7_17 rfl hq.1 hq.2.2.2.2 ?_
  refine X_iconst (v := nI 0) dX7_giveBack_22 (by decide) ?_
  refine X_aload_n dX7_giveBack_23 rfl ?_
  refine X_getr (a := 82) dX7_giveBack_24 fkX7_29 rfl (k_81 hSh) (r_81_0 hSh) ?_
  refine X_iconst (v := nI 0) dX7_giveBack_27 (by decide) ?_
  refine X_aload_n dX7_giveBack_28 rfl ?_
  refine X_getr (a := q + 2) dX7_giveBack_29 fkX7_17 rfl hq.1 hq.2.2.2.2 ?_
  refine X_alen (len := 60) dX7_giveBack_32 hq.2.2.1 (by decide) ?_
  refine X_copy 0 0 60 dX7_giveBack_33 mkX7_23 hq.2.2.1 (k_82 hSh) rfl rfl rfl (by omega) (by omega) (by decide) (by decide) ?_
  refine X_mi (show _ = (cpR (cpR mi (q + 1) 6 8) (q + 2) 82 60) from rfl) ?_
  refine X_aload_n dX7_giveBack_36 rfl ?_
  refine X_aload_n dX7_giveBack_37 rfl ?_
  refine X_geti dX7_giveBack_38 fkX7_34 rfl hq.1 ?_
  rw [(show (cpR (cpR mi (q + 1) 6 8) (q + 2) 82 60) q 2 = mi q 2 by rw [cpR_row (by omega), cpR_row (by omega)])]
  refine X_puti dX7_giveBack_41 fkX7_30 rfl rfl (k_81 hSh) ?_
  refine X_aload_n dX7_giveBack_44 rfl ?_
  refine X_aload_n dX7_giveBack_45 rfl ?_
  refine X_geti dX7_giveBack_46 fkX7_38 rfl hq.1 ?_
  refine X_topi (show (up2 (cpR (cpR mi (q + 1) 6 8) (q + 2) 82 60) 81 2 (mi q 2)) q 3 = mi q 3 by rw [up2_row (by omega)]; exact (show (cpR (cpR mi (q + 1) 6 8) (q + 2) 82 60) q 3 = mi q 3 by rw [cpR_row (by omega), cpR_row (by omega)])) ?_
  refine X_puti dX7_giveBack_49 fkX7_35 rfl rfl (k_3 hSh) ?_
  refine X_aload_n dX7_giveBack_52 rfl ?_
  refine X_aload_n dX7_giveBack_53 rfl ?_
  refine X_geti dX7_giveBack_54 fkX7_42 rfl hq.1 ?_
  refine X_topi (show (up2 (up2 (cpR (cpR mi (q + 1) 6 8) (q + 2) 82 60) 81 2 (mi q 2)) 3 6 (mi q 3)) q 4 = mi q 4 by rw [up2_row (by omega), up2_row (by omega)]; exact (show (cpR (cpR mi (q + 1) 6 8) (q + 2) 82 60) q 4 = mi q 4 by rw [cpR_row (by omega), cpR_row (by omega)])) ?_
  refine X_puti dX7_giveBack_57 fkX7_39 rfl rfl (k_3 hSh) ?_
  refine X_aload_n dX7_giveBack_60 rfl ?_
  refine X_aload_n dX7_giveBack_61 rfl ?_
  refine X_geti dX7_giveBack_62 fkX7_46 rfl hq.1 ?_
  refine X_topi (show (up2 (up2 (up2 (cpR (cpR mi (q + 1) 6 8) (q + 2) 82 60) 81 2 (mi q 2)) 3 6 (mi q 3)) 3 7 (mi q 4)) q 5 = mi q 5 by rw [up2_row (by omega), up2_row (by omega), up2_row (by omega)]; exact (show (cpR (cpR mi (q + 1) 6 8) (q + 2) 82 60) q 5 = mi q 5 by rw [cpR_row (by omega), cpR_row (by omega)])) ?_
  refine X_puti dX7_giveBack_65 fkX7_43 rfl rfl (k_3 hSh) ?_
  exact X_vret dX7_giveBack_68 rfl ⟨rfl, rfl, ⟨fun b hb => by rw [up2_row (by omega), up2_row (by omega), up2_row (by omega), up2_row (by omega), cpR_row (by omega), cpR_at hb], fun j hj => by rw [up2_row (by omega), up2_row (by omega), up2_row (by omega), up2_row (by omega), cpR_at hj, cpR_row (by omega)], by rw [up2_row (by omega), up2_row (by omega), up2_row (by omega), up2_s], by rw [up2_n (by omega), up2_n (by omega), up2_s], by rw [up2_n (by omega), up2_s], up2_s, fun j h1 h2 h3 => by rw [up2_n h3, up2_n h2, up2_n h1, up2_row (by omega), cpR_row (by omega), cpR_row (by omega)], fun j h1 => by rw [up2_row (by omega), up2_row (by omega), up2_row (by omega), up2_n h1, cpR_row (by omega), cpR_row (by omega)], fun i h1 h2 h3 h4 => by rw [up2_row h1, up2_row h1, up2_row h1, up2_row h3, cpR_row h4, cpR_row h2]⟩, rfl⟩
def inG (g : pGG) (q : Nat) : pGG := ((newG (newG g (20, 8)) (20, 60)).1, (newG (newG g (20, 8)) (20, 60)).2.1, up2 (newG ((newG g (20, 8)).1, (newG g (20, 8)).2.1, up2 (newG g (20, 8)).2.2 q 0 (some g.1)) (20, 60)).2.2 q 1 (some (g.1 + 1)))
set_option maxRecDepth 100000 in
theorem c_Iinit (Γ : pTG) (g : pGG) (mi : pMI) (ml : pML) (q : Nat) (hk : g.2.1 q = (7, 0)) (hq : q < g.1) (h9 : g.1 + 1 < 900) : CT Γ 1 2 68 mX7_init [.ref q] g mi ml (fun o g' m' l' => o = .inl none ∧ g' = inG g q ∧ m' = newR (newR mi g.1 0) (g.1 + 1) 0 ∧ l' = newR (newR ml g.1 0) (g.1 + 1) 0) := by
  refine CT_of (by decide +kernel) (Nat.le_of_ble_eq_true rfl) ?_
  refine X_aload_n dX7_init_0 rfl ?_
  refine X_objInit dX7_init_1 oiX7 (by decide) (by decide) ?_
  refine X_aload_n dX7_init_4 rfl ?_
  refine X_bipush (v := nI 8) dX7_init_5 (by decide) ?_
  refine X_newI (len := 8) dX7_init_7 acI rfl (by decide) (by omega) (by decide) (by decide) ?_
  refine X_putrF (z := 0) dX7_init_9 fkX7_9 rfl rfl rfl rfl (by show (if q = g.1 then _ else _) = _; rw [if_neg (by omega)]; exact hk) (by omega) ?_
  refine X_aload_n dX7_init_12 rfl ?_
  refine X_bipush (v := nI 60) dX7_init_13 (by decide) ?_
  refine X_newI (len := 60) dX7_init_15 acI rfl (by decide) (by show g.1 + 1 < 900; omega) (by decide) (by decide) ?_
  refine X_putrF (z := 0) dX7_init_17 fkX7_17 rfl rfl rfl rfl (by show (if q = g.1 + 1 then _ else (if q = g.1 then _ else _)) = _; rw [if_neg (by omega), if_neg (by omega)]; exact hk) (by show g.1 + 1 < 999; omega) ?_
  exact X_vret dX7_init_20 rfl ⟨rfl, rfl, rfl, rfl⟩
/-- a world with a new image in it -/
def NWI (n : Nat) (g g' : pGG) : Prop := g'.1 = g.1 + 3 ∧ (∀ i, i < g.1 → g'.2.1 i = g.2.1 i) ∧ ShI g' g.1 ∧ (∀ i j, i < g.1 → ¬ (i = 83 ∧ j = n) → g'.2.2 i j = g.2.2 i j) ∧ g'.2.2 83 n = some g.1
theorem NWI_mk {g : pGG} {n : Nat} (h : 451 ≤ g.1) : NWI n g ((inG (newG g (7, 0)) g.1).1, (inG (newG g (7, 0)) g.1).2.1, up2 (inG (newG g (7, 0)) g.1).2.2 83 n (some g.1)) := by
  have h1 : ∀ i, (inG (newG g (7, 0)) g.1).2.1 i = if i = g.1 + 1 + 1 then (20, 60) else if i = g.1 + 1 then (20, 8) else if i = g.1 then (7, 0) else g.2.1 i := fun i => rfl
  have h2 : ∀ i j, (inG (newG g (7, 0)) g.1).2.2 i j = up2 (fun i j => if i = g.1 + 1 + 1 then none else up2 (fun i j => if i = g.1 + 1 then none else if i = g.1 then none else g.2.2 i j) g.1 0 (some (g.1 + 1)) i j) g.1 1 (some (g.1 + 1 + 1)) i j := fun i j => rfl
  refine ⟨rfl, fun i hi => ?_, ⟨?_, ?_, ?_, ?_, ?_⟩, fun i j hi hn => ?_, up2_s⟩
  · show (inG (newG g (7, 0)) g.1).2.1 i = _
    rw [h1, if_neg (by omega), if_neg (by omega), if_neg (by omega)]
  · show (inG (newG g (7, 0)) g.1).2.1 g.1 = _
    rw [h1, if_neg (by omega), if_neg (by omega), if_pos rfl]
  · show (inG (newG g (7, 0)) g.1).2.1 (g.1 + 1) = _
    rw [h1, if_neg (by omega), if_pos rfl]
  · show (inG (newG g (7, 0)) g.1).2.1 (g.1 + 2) = _
    rw [h1, if_pos rfl]
  · show up2 (inG (newG g (7, 0)) g.1).2.2 83 n (some g.1) g.1 0 = _
    rw [up2_row (by omega), h2, up2_n (by omega)]
    show (if g.1 = g.1 + 1 + 1 then none else _) = _
    rw [if_neg (by omega), up2_s]
  · show up2 (inG (newG g (7, 0)) g.1).2.2 83 n (some g.1) g.1 1 = _
    rw [up2_row (by omega), h2, up2_s]
  · show up2 (inG (newG g (7, 0)) g.1).2.2 83 n (some g.1) i j = _
    have e : (inG (newG g (7, 0)) g.1).2.2 i j = g.2.2 i j := by
      rw [h2, up2_row (by omega)]
      show (if i = g.1 + 1 + 1 then none else _) = _
      rw [if_neg (by omega), up2_row (by omega)]
      show (if i = g.1 + 1 then none else if i = g.1 then none else g.2.2 i j) = _
      rw [if_neg (by omega), if_neg (by omega)]
    by_cases q : i = 83
    · subst q
      rw [up2_n (by omega)]; exact e
    · rw [up2_row q]; exact e
theorem NWI_Sh {n : Nat} {g g' : pGG} (h : NWI n g g') (hs : Sh g) (h4 : 451 ≤ g.1) : Sh g' := Sh_ext hs (fun i hi => h.2.1 i (by omega)) (fun i j hi h8 _ => h.2.2.2.1 i j (by omega) (by omega))
theorem NWI_D {im st : Nat} {g g' : pGG} {qi : Nat → Nat} {si : Nat} (h : NWI im g g') (hd : DYN g im st qi si) (hi : im < 3) : DYN g' (im + 1) st (ud qi im g.1) si := by
  obtain ⟨n1, n2, n3, n4, n5⟩ := h
  obtain ⟨d1, d2, d3, d4, d5, d6, d7, d8, d9⟩ := hd
  refine ⟨by omega, d2, by omega, by omega, fun k hk h1 => ?_, fun k hk => ?_, fun j k hj hk => ?_, fun h => ?_, fun h => ?_⟩
  · rw [n4 83 k (by omega) (by omega)]; exact d5 k hk (by omega)
  · by_cases q : k = im
    · subst q; rw [ud_s]; exact ⟨n5, n3, d3, by omega⟩
    · obtain ⟨a1, a2, a3, a4⟩ := d6 k (by omega)
      rw [ud_n q]
      refine ⟨by rw [n4 83 k (by omega) (by omega)]; exact a1, ⟨?_, ?_, ?_, ?_, ?_⟩, a3, by omega⟩
      · rw [n2 _ (by omega)]; exact a2.1
      · rw [n2 _ (by omega)]; exact a2.2.1
      · rw [n2 _ (by omega)]; exact a2.2.2.1
      · rw [n4 _ _ (by omega) (by omega)]; exact a2.2.2.2.1
      · rw [n4 _ _ (by omega) (by omega)]; exact a2.2.2.2.2
  · rw [ud_n (show j ≠ im by omega)]
    by_cases q : k = im
    · subst q; rw [ud_s]; exact (d6 j (by omega)).2.2.2
    · rw [ud_n q]; exact d7 j k hj (by omega)
  · rw [n4 0 16 (by omega) (by omega)]; exact d8 h
  · obtain ⟨a1, a2, a3, a4, a5⟩ := d9 h
    refine ⟨by rw [n4 0 16 (by omega) (by omega)]; exact a1, ⟨?_, ?_, ?_, ?_, ?_, ?_, ?_, ?_, ?_⟩, a3, by omega, fun k hk => ?_⟩
    · rw [n2 _ (by omega)]; exact a2.1
    · rw [n2 _ (by omega)]; exact a2.2.1
    · rw [n2 _ (by omega)]; exact a2.2.2.1
    · rw [n2 _ (by omega)]; exact a2.2.2.2.1
    · rw [n4 _ _ (by omega) (by omega)]; exact a2.2.2.2.2.1
    · rw [n4 _ _ (by omega) (by omega)]; exact a2.2.2.2.2.2.1
    · rw [n4 _ _ (by omega) (by omega)]; exact a2.2.2.2.2.2.2.1
    · rw [n4 _ _ (by omega) (by omega)]; exact a2.2.2.2.2.2.2.2.1
    · rw [n4 _ _ (by omega) (by omega)]; exact a2.2.2.2.2.2.2.2.2
    · by_cases q : k = im
      · subst q; rw [ud_s]; omega
      · rw [ud_n q]; exact a5 k (by omega)
def imA (A : AS) : AS := (A.1, A.2.1, A.2.2.1, A.2.2.2.1, A.2.2.2.2.1, A.2.2.2.2.2.1, (aIn A + 1, ud (aI A) (aIn A) (snP (aP A), aD A, aCn A, aC A)), A.2.2.2.2.2.2.2)
theorem ok_im {A : AS} (hA : okAS A) (hn : aIn A < 3) : okAS (imA A) := by
  obtain ⟨h1, h2, h3, h4, h5, h6, h7, h8, h9, h10⟩ := hA
  refine ⟨h1, h2, h3, h4, h5, h6, h7, hn, fun k hk => ?_, h10⟩
  have hk : k < aIn A + 1 := hk
  show okIm (aG A) (ud (aI A) (aIn A) (snP (aP A), aD A, aCn A, aC A) k)
  by_cases q : k = aIn A
  · rw [q, ud_s]; exact ⟨okS_P h1, h5, h6, h7⟩
  · rw [ud_n q]; exact h9 k (by omega)
theorem CI_im {A : AS} {g g' : pGG} {m x : pMI} {l l' : pML} {r im st im' : Nat} {qi qi' : Nat → Nat} {si q : Nat} (hA : okAS A) (h : CIx A g m l r im st qi si) (hSh : Sh g') (hd : DYN g' im' st qi' si) (hin : aIn A + 1 ≤ im') (hqk : ∀ k, k < aIn A → qi' k = qi k) (hqn : qi' (aIn A) = q) (hx : IMK q (nI (aD A)) m x) (x2 : pMI) (e81 : x2 = up2 x 81 3 (nI (aIn A + 1))) (hl : l' 30 = l 30) : CI (imA A) g' x2 l' := by
  subst e81
  obtain ⟨c1, c2, c3, c4, c5, c6, c7, c8, c9, c10, c11, c12, c13⟩ := h
  obtain ⟨x1, x2, x3, x4, x5, x6, x7, x8⟩ := hx
  have hqd := hd.2.2.2.2.2.1 (aIn A) (by omega)
  rw [hqn] at hqd
  have h451 := hqd.2.2.1
  have e : ∀ i, i < 451 → i ≠ 81 → up2 x 81 3 (nI (aIn A + 1)) i = m i := fun i h1 h2 => by rw [up2_row h2]; exact x8 i (by omega) (by omega) (by omega)
  have e8 : ∀ j, j ≠ 3 → up2 x 81 3 (nI (aIn A + 1)) 81 j = m 81 j := fun j hj => by rw [up2_n hj, x8 81 (by omega) (by omega) (by omega)]
  have hcl := c2.1
  refine ⟨r, im', st, qi', si, hSh, DOK_row c2 (fun i hi => e i (by omega) (by omega)) (by rw [e 17 (by omega) (by omega)]) hl, ?_, ?_, ⟨?_, chR_row c5.2 (e 82 (by omega) (by omega))⟩, ⟨up2_s, hin, fun k hk => ?_⟩, ?_, ?_, ?_, ?_, ?_, hd, ?_⟩
  · rw [e 24 (by omega) (by omega), e 25 (by omega) (by omega)]; exact c3
  · rw [e 0 (by omega) (by omega)]; exact c4
  · rw [e8 2 (by omega)]; exact c5.1
  · have hk : k < aIn A + 1 := hk
    show imC _ (qi' k) (aG A) (ud (aI A) (aIn A) (snP (aP A), aD A, aCn A, aC A) k)
    by_cases qk : k = aIn A
    · rw [qk, ud_s, hqn]
      have hG8 : aG A ≤ 8 := hA.1.2.1
      have hC20 := hA.2.2.2.2.2.1
      refine ⟨?_, ?_, ?_, ?_, ?_, fun b hb => ?_, fun k hk => ?_⟩
      · rw [up2_row (by omega), x3]; exact c5.1
      · rw [up2_row (by omega), x4]; exact hcl.2.2.1
      · rw [up2_row (by omega), x5]; exact hcl.2.2.2.1
      · rw [up2_row (by omega), x6]; exact hcl.2.2.2.2.1
      · rw [up2_row (by omega), x7]
      · rw [up2_row (by omega), x1 b (by omega)]; exact (hcl.2.2.2.2.2.2 b hb).1
      · have hk : k < aCn A := hk
        rw [up2_row (by omega), x2 _ (by omega), x2 _ (by omega), x2 _ (by omega)]
        exact c5.2 k hk
    · rw [ud_n qk, hqk k (by omega)]
      have hk2 := c12.2.2.2.2.2.1 k (by have := c6.2.1; omega)
      have h7 := hd.2.2.2.2.2.2.1 k (aIn A) (by omega) (by omega)
      rw [hqn, hqk k (by omega)] at h7
      have e2 : ∀ i, qi k ≤ i → i < qi k + 3 → up2 x 81 3 (nI (aIn A + 1)) i = m i := fun i h1 h2 => by rw [up2_row (by omega)]; exact x8 i (by omega) (by omega) (by omega)
      exact imC_row (c6.2.2 k (by omega)) (e2 _ (by omega) (by omega)) (e2 _ (by omega) (by omega)) (e2 _ (by omega) (by omega))
  · rw [e 0 (by omega) (by omega), e 1 (by omega) (by omega)]; exact c7
  · rw [e 2 (by omega) (by omega), e 86 (by omega) (by omega)]; exact c8
  · rw [e 0 (by omega) (by omega)]
    rcases c9 with q | ⟨q1, q2⟩
    · exact Or.inl q
    · exact Or.inr ⟨q1, cdy_row (e 58 (by omega) (by omega)) (e 59 (by omega) (by omega)) (by rw [e 57 (by omega) (by omega)]) (e 65 (by omega) (by omega)) (e 66 (by omega) (by omega)) q2⟩
  · rw [e 57 (by omega) (by omega), e 63 (by omega) (by omega), e 67 (by omega) (by omega), e 43 (by omega) (by omega), e 47 (by omega) (by omega), e 53 (by omega) (by omega)]; exact c10
  · rw [e 77 (by omega) (by omega)]
    rcases c11 with q | ⟨q1, q2⟩
    · exact Or.inl q
    · exact Or.inr ⟨q1, GOK_row q2 (by rw [e 77 (by omega) (by omega)]) (e 78 (by omega) (by omega)) (e 80 (by omega) (by omega))⟩
  · intro hst
    have h9 := hd.2.2.2.2.2.2.2.2 hst
    have h10 := h9.2.2.2.2 (aIn A) (by omega)
    rw [hqn] at h10
    rw [up2_row (by omega), x8 si (by omega) (by omega) (by omega)]
    exact c13 hst
set_option maxRecDepth 100000 in
set_option maxHeartbeats 4000000 in
theorem c_keepR (Γ : pTG) (g : pGG) (mi : pMI) (ml : pML) (hSh : Sh g) (n q : Nat) (hn : mi 81 3 = nI n) (h3 : n < 3) (hq : ShI g q) (h451 : 451 ≤ q) (h83 : g.2.2 83 n = some q) (d : Int32) : CT Γ 3 0 0 mX1_keepImage [.ref 81, .ref 3, .int d] g mi ml (fun o g2 m2 l2 => o = .inl (some (.int (nI 1))) ∧ g2 = g ∧ l2 = ml ∧ ∃ x, IMK q d mi x ∧ m2 = up2 x 81 3 (nI (n + 1))) := by
  refine CT_of (by decide +kernel) (Nat.le_of_ble_eq_true rfl) ?_
  refine X_aload_n dX1_keepImage_0 rfl ?_
  refine X_geti dX1_keepImage_1 fkX1_25 rfl (k_81 hSh) ?_
  rw [hn]
  refine X_iconst (v := nI 3) dX1_keepImage_4 (by decide) ?_
  refine X_icmp_ltN (a := n) (b := 3) 10 dX1_keepImage_5 (by decide) (by omega) (by omega) (fun h_1 => ?_) (fun h_1 => ?_)
  · refine X_aload_n dX1_keepImage_10 rfl ?_
    refine X_getr (a := 83) dX1_keepImage_11 fkX1_17 rfl (k_81 hSh) (r_81_1 hSh) ?_
    refine X_aload_n dX1_keepImage_14 rfl ?_
    refine X_geti dX1_keepImage_15 fkX1_25 rfl (k_81 hSh) ?_
    rw [hn]
    refine X_galdr n dX1_keepImage_18 (k_83 hSh) rfl (by omega) h83 ?_
    refine X_ifnonnull (r := some q) 38 dX1_keepImage_19 (by decide) (fun _ _ => ?_) (fun h => by cases h)
    refine X_aload_n dX1_keepImage_38 rfl ?_
    refine X_getr (a := 83) dX1_keepImage_39 fkX1_17 rfl (k_81 hSh) (r_81_1 hSh) ?_
    refine X_aload_n dX1_keepImage_42 rfl ?_
    refine X_geti dX1_keepImage_43 fkX1_25 rfl (k_81 hSh) ?_
    rw [hn]
    refine X_galdr n dX1_keepImage_46 (k_83 hSh) rfl (by omega) h83 ?_
    refine X_aload_n dX1_keepImage_47 rfl ?_
    refine X_aload_n dX1_keepImage_48 rfl ?_
    refine X_iload_n dX1_keepImage_49 rfl ?_
    refine X_callVrV dX1_keepImage_50 mkX1_43 hq.1 (c_Ikeep Γ g mi ml hSh q hq h451 d) rfl rfl (by decide) (Nat.le_of_ble_eq_true rfl) (fun x xl hx => ?_)
    obtain ⟨hxK, hxl⟩ := hx
    rw [hxl]
    refine X_aload_n dX1_keepImage_53 rfl ?_
    refine X_dup dX1_keepImage_54 rfl ?_
    refine X_geti dX1_keepImage_55 fkX1_25 rfl (k_81 hSh) ?_
    rw [(show x 81 3 = nI n by rw [hxK.2.2.2.2.2.2.2 81 (by omega) (by omega) (by omega)]; exact hn)]
    refine X_iconst (v := nI 1) dX1_keepImage_58 (by decide) ?_
    refine X_iadd dX1_keepImage_59 ?_
    refine X_topi (nI_add n 1) ?_
    refine X_puti dX1_keepImage_60 fkX1_25 rfl rfl (k_81 hSh) ?_
    refine X_iconst (v := nI 1) dX1_keepImage_63 (by decide) ?_
    exact X_zret (ty := .boolean) dX1_keepImage_64 rfl (by decide) ⟨rfl, rfl, rfl, x, hxK, rfl⟩
  · exact absurd h_1 (by omega)
set_option maxRecDepth 100000 in
set_option maxHeartbeats 4000000 in
theorem c_keepN (Γ : pTG) (g : pGG) (mi : pMI) (ml : pML) (hSh : Sh g) (n : Nat) (hn : mi 81 3 = nI n) (h3 : n < 3) (h4 : 451 ≤ g.1) (h9 : g.1 < 800) (h83 : g.2.2 83 n = none) (d : Int32) : CT Γ 3 3 75 mX1_keepImage [.ref 81, .ref 3, .int d] g mi ml (fun o g2 m2 l2 => o = .inl (some (.int (nI 1))) ∧ NWI n g g2 ∧ (∀ i, i < g.1 → l2 i = ml i) ∧ ∃ x m1, (∀ i, i < g.1 → m1 i = mi i) ∧ IMK g.1 d m1 x ∧ m2 = up2 x 81 3 (nI (n + 1))) := by
  refine CT_of (by decide +kernel) (Nat.le_of_ble_eq_true rfl) ?_
  refine X_aload_n dX1_keepImage_0 rfl ?_
  refine X_geti dX1_keepImage_1 fkX1_25 rfl (k_81 hSh) ?_
  rw [hn]
  refine X_iconst (v := nI 3) dX1_keepImage_4 (by decide) ?_
  refine X_icmp_ltN (a := n) (b := 3) 10 dX1_keepImage_5 (by decide) (by omega) (by omega) (fun h_1 => ?_) (fun h_1 => ?_)
  · refine X_aload_n dX1_keepImage_10 rfl ?_
    refine X_getr (a := 83) dX1_keepImage_11 fkX1_17 rfl (k_81 hSh) (r_81_1 hSh) ?_
    refine X_aload_n dX1_keepImage_14 rfl ?_
    refine X_geti dX1_keepImage_15 fkX1_25 rfl (k_81 hSh) ?_
    rw [hn]
    refine X_gald n dX1_keepImage_18 (k_83 hSh) rfl (by omega) ?_
    rw [h83]
    refine X_ifnonnull (r := none) 38 dX1_keepImage_19 (by decide) (fun a h => by cases h) (fun _ => ?_)
    refine X_aload_n dX1_keepImage_22 rfl ?_
    refine X_getr (a := 83) dX1_keepImage_23 fkX1_17 rfl (k_81 hSh) (r_81_1 hSh) ?_
    refine X_aload_n dX1_keepImage_26 rfl ?_
    refine X_geti dX1_keepImage_27 fkX1_25 rfl (k_81 hSh) ?_
    rw [hn]
    refine X_new dX1_keepImage_30 nwX1_15 (by omega) (by decide) (by decide) ?_
    refine X_dup dX1_keepImage_33 rfl ?_
    refine X_callI (As := []) dX1_keepImage_34 miX1_42 (c_Iinit Γ (newG g (7, 0)) (newR mi g.1 0) (newR ml g.1 0) g.1 (by show (if g.1 = g.1 then _ else _) = _; rw [if_pos rfl]) (Nat.lt_succ_self _) (by show g.1 + 1 + 1 < 900; omega)) (fun _ _ _ _ h => by cases h.1) rfl rfl (by decide) (by decide) (by decide) (Nat.le_of_ble_eq_true rfl) (fun v g1 m1 l1 h => ?_)
    obtain ⟨hv, hg1, hm1, hl1⟩ := h
    cases hv
    have hN : NWI n g (g1.1, g1.2.1, up2 g1.2.2 83 n (some g.1)) := by rw [hg1]; exact NWI_mk h4
    refine X_aast (z := 0) n dX1_keepImage_37 (by rw [hg1]; exact (NWI_mk (n := n) h4).2.1 83 (by omega) |>.trans (k_83 hSh)) (by rw [hg1]; exact (NWI_mk (n := n) h4).2.2.1.1) rfl (by omega) ?_
    generalize (g1.1, g1.2.1, up2 g1.2.2 83 n (some g.1)) = g2 at hN ⊢
    have hSh2 := NWI_Sh hN hSh h4
    have hm1r : ∀ i, i < g.1 → m1 i = mi i := fun i hi => by rw [hm1]; rw [show (newG g (7, 0)).1 = g.1 + 1 from rfl, newR_row (by omega), newR_row (by omega), newR_row (by omega)]
    have hl1r : ∀ i, i < g.1 → l1 i = ml i := fun i hi => by rw [hl1]; rw [show (newG g (7, 0)).1 = g.1 + 1 from rfl, newR_row (by omega), newR_row (by omega), newR_row (by omega)]
    have hn1 : m1 81 3 = nI n := by rw [hm1r 81 (by omega)]; exact hn
    refine X_aload_n dX1_keepImage_38 rfl ?_
    refine X_getr (a := 83) dX1_keepImage_39 fkX1_17 rfl (k_81 hSh2) (r_81_1 hSh2) ?_
    refine X_aload_n dX1_keepImage_42 rfl ?_
    refine X_geti dX1_keepImage_43 fkX1_25 rfl (k_81 hSh2) ?_
    rw [hn1]
    refine X_galdr n dX1_keepImage_46 (k_83 hSh2) rfl (by omega) hN.2.2.2.2 ?_
    refine X_aload_n dX1_keepImage_47 rfl ?_
    refine X_aload_n dX1_keepImage_48 rfl ?_
    refine X_iload_n dX1_keepImage_49 rfl ?_
    refine X_callVrV dX1_keepImage_50 mkX1_43 hN.2.2.1.1 (c_Ikeep Γ g2 m1 l1 hSh2 g.1 hN.2.2.1 h4 d) rfl rfl (by decide) (Nat.le_of_ble_eq_true rfl) (fun x xl hx => ?_)
    obtain ⟨hxK, hxl⟩ := hx
    rw [hxl]
    refine X_aload_n dX1_keepImage_53 rfl ?_
    refine X_dup dX1_keepImage_54 rfl ?_
    refine X_geti dX1_keepImage_55 fkX1_25 rfl (k_81 hSh2) ?_
    rw [(show x 81 3 = nI n by rw [hxK.2.2.2.2.2.2.2 81 (by omega) (by omega) (by omega)]; exact hn1)]
    refine X_iconst (v := nI 1) dX1_keepImage_58 (by decide) ?_
    refine X_iadd dX1_keepImage_59 ?_
    refine X_topi (nI_add n 1) ?_
    refine X_puti dX1_keepImage_60 fkX1_25 rfl rfl (k_81 hSh2) ?_
    refine X_iconst (v := nI 1) dX1_keepImage_63 (by decide) ?_
    exact X_zret (ty := .boolean) dX1_keepImage_64 rfl (by decide) ⟨rfl, hN, hl1r, x, m1, hm1r, hxK, rfl⟩
  · exact absurd h_1 (by omega)
set_option maxRecDepth 100000 in
set_option maxHeartbeats 4000000 in
theorem c_keepF (Γ : pTG) (g : pGG) (mi : pMI) (ml : pML) (hSh : Sh g) (hn : mi 81 3 = nI 3) (d : Int32) : cI Γ 1 mX1_keepImage [.ref 81, .ref 3, .int d] g mi ml (nI 0) mi := by
  refine cI_of (by decide +kernel) (Nat.le_of_ble_eq_true rfl) ?_
  refine X_aload_n dX1_keepImage_0 rfl ?_
  refine X_geti dX1_keepImage_1 fkX1_25 rfl (k_81 hSh) ?_
  rw [hn]
  refine X_iconst (v := nI 3) dX1_keepImage_4 (by decide) ?_
  refine X_icmp_ltN (a := 3) (b := 3) 10 dX1_keepImage_5 (by decide) (by omega) (by omega) (fun h_1 => ?_) (fun h_1 => ?_)
  · exact absurd h_1 (by omega)
  · refine X_iconst (v := nI 0) dX1_keepImage_8 (by decide) ?_
    exact X_zret (ty := .boolean) dX1_keepImage_9 rfl (by first | decide | (rcases bI_01 _ with q | q <;> rw [q] <;> decide)) ⟨by rfl, rfl, rfl, rfl⟩

theorem nI_dk (p k : Nat) (h : k ≤ p) : nI p + Int32.ofInt (-(k : Int)) = nI (p - k) := by
  have h1 : nI p = nI (p - k) + nI k := by rw [nI_add]; congr 1; omega
  have h2 : nI k + Int32.ofInt (-(k : Int)) = 0 := by
    show Int32.ofInt (k : Int) + Int32.ofInt (-(k : Int)) = 0
    rw [← Int32.ofInt_add, Int.add_right_neg]; rfl
  rw [h1, Int32.add_assoc, h2, Int32.add_zero]
def scd (t : Tok) : Nat := if t.1 = 0 then t.2 else if t.1 = 1 then 100 + t.2 else 198 + t.1
theorem c_take (Γ : pTG) (g : pGG) (mi : pMI) (ml : pML) (hSh : Sh g) (t : Tok) (n : Nat) (hok : okTk t n) : cV Γ 2 mX6_take [.ref 17, .int (nI (scd t))] g (up2 mi 17 4 (nI n)) ml (up2 (tkM 21 (mi 20) (fun v => !decide (v = 0)) t (mi, n)).1 17 4 (nI (tkM 21 (mi 20) (fun v => !decide (v = 0)) t (mi, n)).2)) ml := by
  obtain ⟨a, b⟩ := t
  rcases hok with ⟨h1, h2, h3⟩ | ⟨h1, h2, h3⟩ | ⟨h1, h2, h3, h4⟩ | ⟨h1, h2, h3⟩
  · dsimp only at h1 h2 h3; subst h1; exact c_take0 Γ g mi ml hSh n b h3 h2
  · dsimp only at h1 h2 h3; subst h1; exact c_take1 Γ g mi ml hSh n b h3 h2
  · dsimp only at h1 h2
    have e : tkM 21 (mi 20) (fun v => !decide (v = 0)) (a, b) (mi, n) = tkM 21 (mi 20) (fun v => !decide (v = 0)) (a, 0) (mi, n) := by rw [tk_b h1 h2, tk_b h1 h2]
    rw [e]
    have : a = 2 ∨ a = 3 ∨ a = 4 ∨ a = 5 ∨ a = 6 ∨ a = 7 ∨ a = 8 ∨ a = 9 ∨ a = 10 ∨ a = 11 := by omega
    rcases this with rfl | rfl | rfl | rfl | rfl | rfl | rfl | rfl | rfl | rfl
    · exact c_takeb2 Γ g mi ml hSh n h3 h4
    · exact c_takeb3 Γ g mi ml hSh n h3 h4
    · exact c_takeb4 Γ g mi ml hSh n h3 h4
    · exact c_takeb5 Γ g mi ml hSh n h3 h4
    · exact c_takeb6 Γ g mi ml hSh n h3 h4
    · exact c_takeb7 Γ g mi ml hSh n h3 h4
    · exact c_takeb8 Γ g mi ml hSh n h3 h4
    · exact c_takeb9 Γ g mi ml hSh n h3 h4
    · exact c_takeb10 Γ g mi ml hSh n h3 h4
    · exact c_takeb11 Γ g mi ml hSh n h3 h4
  · dsimp only at h1 h2 h3; subst h1
    have e : tkM 21 (mi 20) (fun v => !decide (v = 0)) (12, b) (mi, n) = tkM 21 (mi 20) (fun v => !decide (v = 0)) (12, 0) (mi, n) := by rw [tk_12, tk_12]
    rw [e]; exact c_takec Γ g mi ml hSh n h2 h3
theorem c_byG (Γ : pTG) (g : pGG) (mi : pMI) (ml : pML) (op : Nat) (h1 : 2 ≤ op) (h2 : op ≤ 11) (u v : Int32) : cI Γ 2 mX12_by [.int (nI op), .int u, .int v] g mi ml (byO op u v) mi := by
  have : op = 2 ∨ op = 3 ∨ op = 4 ∨ op = 5 ∨ op = 6 ∨ op = 7 ∨ op = 8 ∨ op = 9 ∨ op = 10 ∨ op = 11 := by omega
  rcases this with rfl | rfl | rfl | rfl | rfl | rfl | rfl | rfl | rfl | rfl
  · exact c_by2 Γ g mi ml u v
  · exact c_by3 Γ g mi ml u v
  · exact c_by4 Γ g mi ml u v
  · exact c_by5 Γ g mi ml u v
  · exact c_by6 Γ g mi ml u v
  · exact c_by7 Γ g mi ml u v
  · exact c_by8 Γ g mi ml u v
  · exact c_by9 Γ g mi ml u v
  · exact c_by10 Γ g mi ml u v
  · exact c_by11 Γ g mi ml u v
theorem clH_1 {v : Int32} (h : ¬ 0 ≤ v) : clH v = nI 0 := if_pos (Int32.not_le.mp h)
theorem clH_2 {v : Int32} (h : 0 ≤ v) (h2 : ¬ v ≤ nI 23) : clH v = nI 23 := (if_neg (Int32.not_lt.mpr h)).trans (if_pos (Int32.not_le.mp h2))
theorem clH_3 {v : Int32} (h : 0 ≤ v) (h2 : v ≤ nI 23) : clH v = v := (if_neg (Int32.not_lt.mpr h)).trans (if_neg (Int32.not_lt.mpr h2))
theorem lp_row {R : Nat} {kn : Nat → Int32} {cnd : Int32 → Bool} {t : Nat → Tok} {i : Nat} (hi : i ≠ R) : ∀ (n k : Nat) (s : pMI × Nat), (lpS (fun j s => tkM R kn cnd (t j) s) k n s).1 i = s.1 i
  | 0, _, _ => rfl
  | n + 1, k, s => (lp_row hi n (k + 1) (tkM R kn cnd (t k) s)).trans (tk_row hi)
set_option maxRecDepth 100000 in
set_option maxHeartbeats 4000000 in
theorem c_comes (Γ : pTG) (g : pGG) (mi : pMI) (ml : pML) (hSh : Sh g) (o : Nat) (ho : o < 8) (L : List Tok) (n d : Nat) (f : (Nat → Int32) → Int32) (hV : Vx n L f d) (hd : d ≤ 40) (hl : L.length ≤ 150) (hsz : mi 19 o = nI L.length) (hst : ∀ i, i < L.length → mi 18 (o * 150 + i) = nI (scd (L.getD i (0, 0)))) : cI Γ 3 mX6_comes [.ref 17, .int (nI o)] g mi ml (clH (f (mi 20))) (up2 (runL 21 (mi 20) (fun v => !decide (v = 0)) L (mi, 0)).1 17 4 (nI 0)) := by
  refine cI_of (by decide +kernel) (Nat.le_of_ble_eq_true rfl) ?_
  refine X_aload_n dX6_comes_0 rfl ?_
  refine X_iconst (v := nI 0) dX6_comes_1 (by decide) ?_
  refine X_puti dX6_comes_2 fkX6_90 rfl rfl (k_17 hSh) ?_
  refine X_iload_n dX6_comes_5 rfl ?_
  refine X_sipush (v := nI 150) dX6_comes_6 (by decide) ?_
  refine X_imul dX6_comes_9 ?_
  refine X_topi (pk_mul o 150) ?_
  refine X_istore_n dX6_comes_10 (by decide) ?_
  refine X_iconst (v := nI 0) dX6_comes_11 (by decide) ?_
  refine X_istore_n dX6_comes_12 (by decide) ?_
  refine X_L [(3, .int (nI 0)), (2, .int (nI (o * 150))), (0, .ref 17), (1, .int (nI o))] ⟨rfl, rfl, rfl, rfl, trivial⟩ ?_
  obtain ⟨hL1, hL2⟩ := lp_run (R := 21) (kn := mi 20) (cnd := (fun v => !decide (v = 0))) L (fun j => L.getD j (0, 0)) 0 (mi, 0) (fun i _ => by rw [Nat.zero_add])
  obtain ⟨hr1, hr2, hr3, hr4, hr5⟩ := Vx_run (R := 21) (kn := mi 20) (cnd := (fun v => !decide (v = 0))) (by decide) (by decide) n L f d hV mi 0 (by omega)
  refine X_for3 13 (fun i => [(3, .int (nI i)), (2, .int (nI (o * 150))), (0, .ref 17), (1, .int (nI o))]) (fun i => (up2 (lpS (fun j s => tkM 21 (mi 20) (fun v => !decide (v = 0)) (L.getD j (0, 0)) s) 0 i (mi, 0)).1 17 4 (nI (lpS (fun j s => tkM 21 (mi 20) (fun v => !decide (v = 0)) (L.getD j (0, 0)) s) 0 i (mi, 0)).2))) L.length ?_ L.length 0 (by omega) ?_
  · intro i hi hn
    have hok := hL2 hr1 i hi
    rw [Nat.zero_add] at hok
    have hr : ∀ q, q ≠ 21 → q ≠ 17 → (up2 (lpS (fun j s => tkM 21 (mi 20) (fun v => !decide (v = 0)) (L.getD j (0, 0)) s) 0 i (mi, 0)).1 17 4 (nI (lpS (fun j s => tkM 21 (mi 20) (fun v => !decide (v = 0)) (L.getD j (0, 0)) s) 0 i (mi, 0)).2)) q = mi q := fun q h1 h2 => by rw [up2_row h2]; exact lp_row h1 _ _ _
    have h20 : (lpS (fun j s => tkM 21 (mi 20) (fun v => !decide (v = 0)) (L.getD j (0, 0)) s) 0 i (mi, 0)).1 20 = mi 20 := lp_row (by omega) _ _ _
    refine X_iload_n dX6_comes_13 rfl ?_
    refine X_aload_n dX6_comes_14 rfl ?_
    refine X_getr (a := 19) dX6_comes_15 fkX6_15 rfl (k_17 hSh) (r_17_1 hSh) ?_
    refine X_iload_n dX6_comes_18 rfl ?_
    refine X_iald o dX6_comes_19 (k_19 hSh) rfl (by omega) ?_
    rw [(show (up2 (lpS (fun j s => tkM 21 (mi 20) (fun v => !decide (v = 0)) (L.getD j (0, 0)) s) 0 i (mi, 0)).1 17 4 (nI (lpS (fun j s => tkM 21 (mi 20) (fun v => !decide (v = 0)) (L.getD j (0, 0)) s) 0 i (mi, 0)).2)) 19 o = nI L.length by rw [hr 19 (by omega) (by omega)]; exact hsz)]
    refine X_icmp_geN (a := i) (b := L.length) 41 dX6_comes_20 (by decide) (by omega) (by omega) (fun h_1 => ?_) (fun h_1 => ?_)
    · exact absurd hi (by omega)
    · refine X_aload_n dX6_comes_23 rfl ?_
      refine X_aload_n dX6_comes_24 rfl ?_
      refine X_getr (a := 18) dX6_comes_25 fkX6_9 rfl (k_17 hSh) (r_17_0 hSh) ?_
      refine X_iload_n dX6_comes_28 rfl ?_
      refine X_iload_n dX6_comes_29 rfl ?_
      refine X_iadd dX6_comes_30 ?_
      refine X_topi (nI_add (o * 150) i) ?_
      refine X_iald ((o * 150) + i) dX6_comes_31 (k_18 hSh) rfl (by omega) ?_
      rw [(show (up2 (lpS (fun j s => tkM 21 (mi 20) (fun v => !decide (v = 0)) (L.getD j (0, 0)) s) 0 i (mi, 0)).1 17 4 (nI (lpS (fun j s => tkM 21 (mi 20) (fun v => !decide (v = 0)) (L.getD j (0, 0)) s) 0 i (mi, 0)).2)) 18 ((o * 150) + i) = nI (scd (L.getD i (0, 0))) by rw [hr 18 (by omega) (by omega)]; exact hst i hi)]
      refine X_callVV dX6_comes_32 mkX6_93 (k_17 hSh) (c_take Γ g (lpS (fun j s => tkM 21 (mi 20) (fun v => !decide (v = 0)) (L.getD j (0, 0)) s) 0 i (mi, 0)).1 ml hSh (L.getD i (0, 0)) (lpS (fun j s => tkM 21 (mi 20) (fun v => !decide (v = 0)) (L.getD j (0, 0)) s) 0 i (mi, 0)).2 hok) rfl rfl (by decide) (Nat.le_of_ble_eq_true rfl) ?_
      refine X_iinc (v := nI (i + 1)) dX6_comes_35 rfl (nI_1 _) (by decide) ?_
      refine X_goto 13 dX6_comes_38 (by decide) ?_
      refine X_L [(3, .int (nI (i + 1))), (2, .int (nI (o * 150))), (0, .ref 17), (1, .int (nI o))] ⟨rfl, rfl, rfl, rfl, trivial⟩ ?_
      rw [lpS_snoc, Nat.zero_add] at hn
      rw [h20]
      exact hn
  · rw [hL1]
    generalize runL 21 (mi 20) (fun v => !decide (v = 0)) L (mi, 0) = z at hr1 hr2 hr3 hr4 hr5 ⊢
    obtain ⟨m2, p2⟩ := z
    dsimp only at hr2 hr3 hr4 hr5 ⊢
    subst hr2
    refine X_iload_n dX6_comes_13 rfl ?_
    refine X_aload_n dX6_comes_14 rfl ?_
    refine X_getr (a := 19) dX6_comes_15 fkX6_15 rfl (k_17 hSh) (r_17_1 hSh) ?_
    refine X_iload_n dX6_comes_18 rfl ?_
    refine X_iald o dX6_comes_19 (k_19 hSh) rfl (by omega) ?_
    rw [(show (up2 m2 17 4 (nI (0 + 1))) 19 o = nI L.length by rw [up2_row (by omega), hr5 19 (by omega)]; exact hsz)]
    refine X_icmp_geN (a := L.length) (b := L.length) 41 dX6_comes_20 (by decide) (by omega) (by omega) (fun h_2 => ?_) (fun h_2 => ?_)
    · refine X_aload_n dX6_comes_41 rfl ?_
      refine X_callVI dX6_comes_42 mkX6_97 (k_17 hSh) (c_pop Γ g m2 ml hSh (0 + 1) (by omega) (by omega)) rfl rfl (by decide) (Nat.le_of_ble_eq_true rfl) ?_
      refine X_topi (show _ = m2 21 0 from rfl) ?_
      refine X_istore_n dX6_comes_45 (by decide) ?_
      refine X_iload_n dX6_comes_46 rfl ?_
      refine X_if_ge 54 dX6_comes_47 (by decide) (fun h_3 => ?_) (fun h_3 => ?_)
      · refine X_iload_n dX6_comes_54 rfl ?_
        refine X_bipush (v := nI 23) dX6_comes_55 (by decide) ?_
        refine X_icmp_le 65 dX6_comes_57 (by decide) (fun h_4 => ?_) (fun h_4 => ?_)
        · refine X_iload_n dX6_comes_65 rfl ?_
          exact X_iret dX6_comes_66 rfl ⟨by rw [← hr3]; first | rw [clH_1 (by assumption)] | rw [clH_2 (by assumption) (by assumption)] | rw [clH_3 (by assumption) (by assumption)], rfl, rfl, rfl⟩
        · refine X_bipush (v := nI 23) dX6_comes_60 (by decide) ?_
          refine X_goto 66 dX6_comes_62 (by decide) ?_
          exact X_iret dX6_comes_66 rfl ⟨by rw [← hr3]; first | rw [clH_1 (by assumption)] | rw [clH_2 (by assumption) (by assumption)] | rw [clH_3 (by assumption) (by assumption)], rfl, rfl, rfl⟩
      · refine X_iconst (v := nI 0) dX6_comes_50 (by decide) ?_
        refine X_goto 66 dX6_comes_51 (by decide) ?_
        exact X_iret dX6_comes_66 rfl ⟨by rw [← hr3]; first | rw [clH_1 (by assumption)] | rw [clH_2 (by assumption) (by assumption)] | rw [clH_3 (by assumption) (by assumption)], rfl, rfl, rfl⟩
    · exact absurd h_2 (by omega)
set_option maxRecDepth 100000 in
set_option maxHeartbeats 4000000 in
theorem c_comesBy0 (Γ : pTG) (g : pGG) (mi : pMI) (ml : pML) (hSh : Sh g) (o : Nat) (ho : o < 8) (hsz : mi 129 o = nI 0) : cI Γ 3 mX12_comesBy [.ref 87, .int (nI o)] g mi ml (mi 131 8) mi := by
  refine cI_of (by decide +kernel) (Nat.le_of_ble_eq_true rfl) ?_
  refine X_aload_n dX12_comesBy_0 rfl ?_
  refine X_getr (a := 129) dX12_comesBy_1 fkX12_40 rfl (k_87 hSh) (r_87_17 hSh) ?_
  refine X_iload_n dX12_comesBy_4 rfl ?_
  refine X_iald o dX12_comesBy_5 (k_129 hSh) rfl (by omega) ?_
  rw [hsz]
  refine X_if_neN (a := 0) 17 dX12_comesBy_6 (by decide) (by omega) (fun h_1 => ?_) (fun h_1 => ?_)
  · exact absurd h_1 (by omega)
  · refine X_aload_n dX12_comesBy_9 rfl ?_
    refine X_getr (a := 131) dX12_comesBy_10 fkX12_46 rfl (k_87 hSh) (r_87_19 hSh) ?_
    refine X_bipush (v := nI 8) dX12_comesBy_13 (by decide) ?_
    refine X_iald 8 dX12_comesBy_15 (k_131 hSh) rfl (by omega) ?_
    exact X_iret dX12_comesBy_16 rfl ⟨by rfl, rfl, rfl, rfl⟩
theorem clH_r (v : Int32) : (if (if nI 23 < v then nI 23 else v) < nI 0 then nI 0 else (if nI 23 < v then nI 23 else v)) = clH v := by
  unfold clH
  by_cases h1 : nI 23 < v
  · simp only [if_pos h1]
    rw [if_neg (by decide), if_neg (fun z => absurd (Int32.lt_trans h1 z) (by decide))]
  · simp only [if_neg h1]
set_option maxRecDepth 100000 in
set_option maxHeartbeats 4000000 in
theorem c_comesBy (Γ : pTG) (g : pGG) (mi : pMI) (ml : pML) (hSh : Sh g) (o : Nat) (ho : o < 8) (L : List Tok) (n d : Nat) (f : (Nat → Int32) → Int32) (hV : Vx n L f d) (hd : d ≤ 40) (hl : L.length ≤ 150) (hl0 : 0 < L.length) (hsz : mi 129 o = nI L.length) (hst : ∀ i, i < L.length → mi (134 + o) (2 * i) = nI (L.getD i (0, 0)).1 ∧ mi (134 + o) (2 * i + 1) = nI (L.getD i (0, 0)).2) : cI Γ 3 mX12_comesBy [.ref 87, .int (nI o)] g mi ml (clH (f (mi 131))) (runL 130 (mi 131) (fun v => decide (v = nI 1)) L (mi, 0)).1 := by
  refine cI_of (by decide +kernel) (Nat.le_of_ble_eq_true rfl) ?_
  refine X_aload_n dX12_comesBy_0 rfl ?_
  refine X_getr (a := 129) dX12_comesBy_1 fkX12_40 rfl (k_87 hSh) (r_87_17 hSh) ?_
  refine X_iload_n dX12_comesBy_4 rfl ?_
  refine X_iald o dX12_comesBy_5 (k_129 hSh) rfl (by omega) ?_
  rw [hsz]
  refine X_if_neN (a := L.length) 17 dX12_comesBy_6 (by decide) (by omega) (fun h_1 => ?_) (fun h_1 => ?_)
  · refine X_iconst (v := nI 0) dX12_comesBy_17 (by decide) ?_
    refine X_istore_n dX12_comesBy_18 (by decide) ?_
    refine X_iconst (v := nI 0) dX12_comesBy_19 (by decide) ?_
    refine X_istore_n dX12_comesBy_20 (by decide) ?_
    refine X_L [(3, .int (nI 0)), (2, .int (nI 0)), (0, .ref 87), (1, .int (nI o))] ⟨rfl, rfl, rfl, rfl, trivial⟩ ?_
    obtain ⟨hL1, hL2⟩ := lp_run (R := 130) (kn := mi 131) (cnd := (fun v => decide (v = nI 1))) L (fun j => L.getD j (0, 0)) 0 (mi, 0) (fun i _ => by rw [Nat.zero_add])
    obtain ⟨hr1, hr2, hr3, hr4, hr5⟩ := Vx_run (R := 130) (kn := mi 131) (cnd := (fun v => decide (v = nI 1))) (by decide) (by decide) n L f d hV mi 0 (by omega)
    refine X_for3 21 (fun i => [(3, .int (nI i)), (2, .int (nI (lpS (fun j s => tkM 130 (mi 131) (fun v => decide (v = nI 1)) (L.getD j (0, 0)) s) 0 i (mi, 0)).2)), (0, .ref 87), (1, .int (nI o))]) (fun i => (lpS (fun j s => tkM 130 (mi 131) (fun v => decide (v = nI 1)) (L.getD j (0, 0)) s) 0 i (mi, 0)).1) L.length ?_ L.length 0 (by omega) ?_
    · intro i hi hn
      have hok := hL2 hr1 i hi
      rw [Nat.zero_add] at hok
      have hr : ∀ q, q ≠ 130 → (lpS (fun j s => tkM 130 (mi 131) (fun v => decide (v = nI 1)) (L.getD j (0, 0)) s) 0 i (mi, 0)).1 q = mi q := fun q h1 => lp_row h1 _ _ _
      rw [lpS_snoc, Nat.zero_add] at hn
      obtain ⟨hs1, hs2⟩ := hst i hi
      generalize (lpS (fun j s => tkM 130 (mi 131) (fun v => decide (v = nI 1)) (L.getD j (0, 0)) s) 0 i (mi, 0)) = z at hok hr hn ⊢
      obtain ⟨m1, p⟩ := z
      dsimp only at hok hr hn ⊢
      generalize L.getD i (0, 0) = tk at hok hn hs1 hs2 ⊢
      obtain ⟨ta, tb⟩ := tk
      dsimp only at hok hs1 hs2
      rcases hok with ⟨h1, h2, h3⟩ | ⟨h1, h2, h3⟩ | ⟨h1, h2, h3, h4⟩ | ⟨h1, h2, h3⟩
      · subst h1
        rw [tk_0] at hn
        refine X_iload_n dX12_comesBy_21 rfl ?_
        refine X_aload_n dX12_comesBy_22 rfl ?_
        refine X_getr (a := 129) dX12_comesBy_23 fkX12_40 rfl (k_87 hSh) (r_87_17 hSh) ?_
        refine X_iload_n dX12_comesBy_26 rfl ?_
        refine X_iald o dX12_comesBy_27 (k_129 hSh) rfl (by omega) ?_
        rw [(show m1 129 o = nI L.length by rw [hr 129 (by omega)]; exact hsz)]
        refine X_icmp_geN (a := i) (b := L.length) 178 dX12_comesBy_28 (by decide) (by omega) (by omega) (fun h_2 => ?_) (fun h_2 => ?_)
        · exact absurd hi (by omega)
        · refine X_aload_n dX12_comesBy_31 rfl ?_
          refine X_getr (a := 133) dX12_comesBy_32 fkX12_52 rfl (k_87 hSh) (r_87_21 hSh) ?_
          refine X_iload_n dX12_comesBy_35 rfl ?_
          refine X_aaldr (b := 134 + o) o dX12_comesBy_36 (k_133 hSh) rfl (by omega) (o_133 hSh o (by omega)) ?_
          refine X_iconst (v := nI 2) dX12_comesBy_37 (by decide) ?_
          refine X_iload_n dX12_comesBy_38 rfl ?_
          refine X_imul dX12_comesBy_39 ?_
          refine X_topi (pk_mul 2 i) ?_
          refine X_iald (2 * i) dX12_comesBy_40 (kr_133 hSh o (by omega)) rfl (by omega) ?_
          rw [(show m1 (134 + o) (2 * i) = nI 0 by rw [hr (134 + o) (by omega)]; exact hs1)]
          refine X_istore dX12_comesBy_41 (by decide) ?_
          refine X_aload_n dX12_comesBy_43 rfl ?_
          refine X_getr (a := 133) dX12_comesBy_44 fkX12_52 rfl (k_87 hSh) (r_87_21 hSh) ?_
          refine X_iload_n dX12_comesBy_47 rfl ?_
          refine X_aaldr (b := 134 + o) o dX12_comesBy_48 (k_133 hSh) rfl (by omega) (o_133 hSh o (by omega)) ?_
          refine X_iconst (v := nI 2) dX12_comesBy_49 (by decide) ?_
          refine X_iload_n dX12_comesBy_50 rfl ?_
          refine X_imul dX12_comesBy_51 ?_
          refine X_topi (pk_mul 2 i) ?_
          refine X_iconst (v := nI 1) dX12_comesBy_52 (by decide) ?_
          refine X_iadd dX12_comesBy_53 ?_
          refine X_topi (nI_add (2 * i) 1) ?_
          refine X_iald ((2 * i) + 1) dX12_comesBy_54 (kr_133 hSh o (by omega)) rfl (by omega) ?_
          rw [(show m1 (134 + o) ((2 * i) + 1) = nI tb by rw [hr (134 + o) (by omega)]; exact hs2)]
          refine X_istore dX12_comesBy_55 (by decide) ?_
          refine X_iload dX12_comesBy_57 rfl ?_
          refine X_iconst (v := nI 2) dX12_comesBy_59 (by decide) ?_
          refine X_icmp_geN (a := 0) (b := 2) 92 dX12_comesBy_60 (by decide) (by omega) (by omega) (fun h_3 => ?_) (fun h_3 => ?_)
          · exact absurd h_3 (by omega)
          · refine X_aload_n dX12_comesBy_63 rfl ?_
            refine X_getr (a := 130) dX12_comesBy_64 fkX12_43 rfl (k_87 hSh) (r_87_18 hSh) ?_
            refine X_iload_n dX12_comesBy_67 rfl ?_
            refine X_iload dX12_comesBy_68 rfl ?_
            refine X_if_neN (a := 0) 78 dX12_comesBy_70 (by decide) (by omega) (fun h_4 => ?_) (fun h_4 => ?_)
            · exact absurd rfl h_4
            · refine X_iload dX12_comesBy_73 rfl ?_
              refine X_goto 85 dX12_comesBy_75 (by decide) ?_
              refine X_iast p dX12_comesBy_85 (k_130 hSh) rfl (by omega) ?_
              refine X_iinc (v := nI (p + 1)) dX12_comesBy_86 rfl (nI_1 _) (by decide) ?_
              refine X_goto 172 dX12_comesBy_89 (by decide) ?_
              refine X_iinc (v := nI (i + 1)) dX12_comesBy_172 rfl (nI_1 _) (by decide) ?_
              refine X_goto 21 dX12_comesBy_175 (by decide) ?_
              refine X_L [(3, .int (nI (i + 1))), (2, .int (nI (p + 1))), (0, .ref 87), (1, .int (nI o))] ⟨rfl, rfl, rfl, rfl, trivial⟩ ?_
              exact hn
      · subst h1
        rw [tk_1] at hn
        refine X_iload_n dX12_comesBy_21 rfl ?_
        refine X_aload_n dX12_comesBy_22 rfl ?_
        refine X_getr (a := 129) dX12_comesBy_23 fkX12_40 rfl (k_87 hSh) (r_87_17 hSh) ?_
        refine X_iload_n dX12_comesBy_26 rfl ?_
        refine X_iald o dX12_comesBy_27 (k_129 hSh) rfl (by omega) ?_
        rw [(show m1 129 o = nI L.length by rw [hr 129 (by omega)]; exact hsz)]
        refine X_icmp_geN (a := i) (b := L.length) 178 dX12_comesBy_28 (by decide) (by omega) (by omega) (fun h_5 => ?_) (fun h_5 => ?_)
        · exact absurd hi (by omega)
        · refine X_aload_n dX12_comesBy_31 rfl ?_
          refine X_getr (a := 133) dX12_comesBy_32 fkX12_52 rfl (k_87 hSh) (r_87_21 hSh) ?_
          refine X_iload_n dX12_comesBy_35 rfl ?_
          refine X_aaldr (b := 134 + o) o dX12_comesBy_36 (k_133 hSh) rfl (by omega) (o_133 hSh o (by omega)) ?_
          refine X_iconst (v := nI 2) dX12_comesBy_37 (by decide) ?_
          refine X_iload_n dX12_comesBy_38 rfl ?_
          refine X_imul dX12_comesBy_39 ?_
          refine X_topi (pk_mul 2 i) ?_
          refine X_iald (2 * i) dX12_comesBy_40 (kr_133 hSh o (by omega)) rfl (by omega) ?_
          rw [(show m1 (134 + o) (2 * i) = nI 1 by rw [hr (134 + o) (by omega)]; exact hs1)]
          refine X_istore dX12_comesBy_41 (by decide) ?_
          refine X_aload_n dX12_comesBy_43 rfl ?_
          refine X_getr (a := 133) dX12_comesBy_44 fkX12_52 rfl (k_87 hSh) (r_87_21 hSh) ?_
          refine X_iload_n dX12_comesBy_47 rfl ?_
          refine X_aaldr (b := 134 + o) o dX12_comesBy_48 (k_133 hSh) rfl (by omega) (o_133 hSh o (by omega)) ?_
          refine X_iconst (v := nI 2) dX12_comesBy_49 (by decide) ?_
          refine X_iload_n dX12_comesBy_50 rfl ?_
          refine X_imul dX12_comesBy_51 ?_
          refine X_topi (pk_mul 2 i) ?_
          refine X_iconst (v := nI 1) dX12_comesBy_52 (by decide) ?_
          refine X_iadd dX12_comesBy_53 ?_
          refine X_topi (nI_add (2 * i) 1) ?_
          refine X_iald ((2 * i) + 1) dX12_comesBy_54 (kr_133 hSh o (by omega)) rfl (by omega) ?_
          rw [(show m1 (134 + o) ((2 * i) + 1) = nI tb by rw [hr (134 + o) (by omega)]; exact hs2)]
          refine X_istore dX12_comesBy_55 (by decide) ?_
          refine X_iload dX12_comesBy_57 rfl ?_
          refine X_iconst (v := nI 2) dX12_comesBy_59 (by decide) ?_
          refine X_icmp_geN (a := 1) (b := 2) 92 dX12_comesBy_60 (by decide) (by omega) (by omega) (fun h_6 => ?_) (fun h_6 => ?_)
          · exact absurd h_6 (by omega)
          · refine X_aload_n dX12_comesBy_63 rfl ?_
            refine X_getr (a := 130) dX12_comesBy_64 fkX12_43 rfl (k_87 hSh) (r_87_18 hSh) ?_
            refine X_iload_n dX12_comesBy_67 rfl ?_
            refine X_iload dX12_comesBy_68 rfl ?_
            refine X_if_neN (a := 1) 78 dX12_comesBy_70 (by decide) (by omega) (fun h_7 => ?_) (fun h_7 => ?_)
            · refine X_aload_n dX12_comesBy_78 rfl ?_
              refine X_getr (a := 131) dX12_comesBy_79 fkX12_46 rfl (k_87 hSh) (r_87_19 hSh) ?_
              refine X_iload dX12_comesBy_82 rfl ?_
              refine X_iald tb dX12_comesBy_84 (k_131 hSh) rfl (by omega) ?_
              rw [(show m1 131 tb = mi 131 tb by rw [hr 131 (by omega)])]
              refine X_iast p dX12_comesBy_85 (k_130 hSh) rfl (by omega) ?_
              refine X_iinc (v := nI (p + 1)) dX12_comesBy_86 rfl (nI_1 _) (by decide) ?_
              refine X_goto 172 dX12_comesBy_89 (by decide) ?_
              refine X_iinc (v := nI (i + 1)) dX12_comesBy_172 rfl (nI_1 _) (by decide) ?_
              refine X_goto 21 dX12_comesBy_175 (by decide) ?_
              refine X_L [(3, .int (nI (i + 1))), (2, .int (nI (p + 1))), (0, .ref 87), (1, .int (nI o))] ⟨rfl, rfl, rfl, rfl, trivial⟩ ?_
              exact hn
            · exact absurd h_7 (by omega)
      · rw [tk_b h1 h2] at hn
        refine X_iload_n dX12_comesBy_21 rfl ?_
        refine X_aload_n dX12_comesBy_22 rfl ?_
        refine X_getr (a := 129) dX12_comesBy_23 fkX12_40 rfl (k_87 hSh) (r_87_17 hSh) ?_
        refine X_iload_n dX12_comesBy_26 rfl ?_
        refine X_iald o dX12_comesBy_27 (k_129 hSh) rfl (by omega) ?_
        rw [(show m1 129 o = nI L.length by rw [hr 129 (by omega)]; exact hsz)]
        refine X_icmp_geN (a := i) (b := L.length) 178 dX12_comesBy_28 (by decide) (by omega) (by omega) (fun h_8 => ?_) (fun h_8 => ?_)
        · exact absurd hi (by omega)
        · refine X_aload_n dX12_comesBy_31 rfl ?_
          refine X_getr (a := 133) dX12_comesBy_32 fkX12_52 rfl (k_87 hSh) (r_87_21 hSh) ?_
          refine X_iload_n dX12_comesBy_35 rfl ?_
          refine X_aaldr (b := 134 + o) o dX12_comesBy_36 (k_133 hSh) rfl (by omega) (o_133 hSh o (by omega)) ?_
          refine X_iconst (v := nI 2) dX12_comesBy_37 (by decide) ?_
          refine X_iload_n dX12_comesBy_38 rfl ?_
          refine X_imul dX12_comesBy_39 ?_
          refine X_topi (pk_mul 2 i) ?_
          refine X_iald (2 * i) dX12_comesBy_40 (kr_133 hSh o (by omega)) rfl (by omega) ?_
          rw [(show m1 (134 + o) (2 * i) = nI ta by rw [hr (134 + o) (by omega)]; exact hs1)]
          refine X_istore dX12_comesBy_41 (by decide) ?_
          refine X_aload_n dX12_comesBy_43 rfl ?_
          refine X_getr (a := 133) dX12_comesBy_44 fkX12_52 rfl (k_87 hSh) (r_87_21 hSh) ?_
          refine X_iload_n dX12_comesBy_47 rfl ?_
          refine X_aaldr (b := 134 + o) o dX12_comesBy_48 (k_133 hSh) rfl (by omega) (o_133 hSh o (by omega)) ?_
          refine X_iconst (v := nI 2) dX12_comesBy_49 (by decide) ?_
          refine X_iload_n dX12_comesBy_50 rfl ?_
          refine X_imul dX12_comesBy_51 ?_
          refine X_topi (pk_mul 2 i) ?_
          refine X_iconst (v := nI 1) dX12_comesBy_52 (by decide) ?_
          refine X_iadd dX12_comesBy_53 ?_
          refine X_topi (nI_add (2 * i) 1) ?_
          refine X_iald ((2 * i) + 1) dX12_comesBy_54 (kr_133 hSh o (by omega)) rfl (by omega) ?_
          rw [(show m1 (134 + o) ((2 * i) + 1) = nI tb by rw [hr (134 + o) (by omega)]; exact hs2)]
          refine X_istore dX12_comesBy_55 (by decide) ?_
          refine X_iload dX12_comesBy_57 rfl ?_
          refine X_iconst (v := nI 2) dX12_comesBy_59 (by decide) ?_
          refine X_icmp_geN (a := ta) (b := 2) 92 dX12_comesBy_60 (by decide) (by omega) (by omega) (fun h_9 => ?_) (fun h_9 => ?_)
          · refine X_iload dX12_comesBy_92 rfl ?_
            refine X_bipush (v := nI 12) dX12_comesBy_94 (by decide) ?_
            refine X_icmp_neN (a := ta) (b := 12) 142 dX12_comesBy_96 (by decide) (by omega) (by omega) (fun h_10 => ?_) (fun h_10 => ?_)
            · refine X_iinc (v := nI (p - 1)) dX12_comesBy_142 rfl (nI_dk p 1 (by omega)) (by decide) ?_
              refine X_aload_n dX12_comesBy_145 rfl ?_
              refine X_getr (a := 130) dX12_comesBy_146 fkX12_43 rfl (k_87 hSh) (r_87_18 hSh) ?_
              refine X_iload_n dX12_comesBy_149 rfl ?_
              refine X_iconst (v := nI 1) dX12_comesBy_150 (by decide) ?_
              refine X_isub dX12_comesBy_151 ?_
              refine X_topi (pk_sub (a := p - 1) (b := 1) (by omega)) ?_
              refine X_iload dX12_comesBy_152 rfl ?_
              refine X_aload_n dX12_comesBy_154 rfl ?_
              refine X_getr (a := 130) dX12_comesBy_155 fkX12_43 rfl (k_87 hSh) (r_87_18 hSh) ?_
              refine X_iload_n dX12_comesBy_158 rfl ?_
              refine X_iconst (v := nI 1) dX12_comesBy_159 (by decide) ?_
              refine X_isub dX12_comesBy_160 ?_
              refine X_topi (pk_sub (a := p - 1) (b := 1) (by omega)) ?_
              refine X_iald ((p - 1) - 1) dX12_comesBy_161 (k_130 hSh) rfl (by omega) ?_
              refine X_aload_n dX12_comesBy_162 rfl ?_
              refine X_getr (a := 130) dX12_comesBy_163 fkX12_43 rfl (k_87 hSh) (r_87_18 hSh) ?_
              refine X_iload_n dX12_comesBy_166 rfl ?_
              refine X_iald (p - 1) dX12_comesBy_167 (k_130 hSh) rfl (by omega) ?_
              refine X_callSI dX12_comesBy_168 mkX12_294 (c_byG Γ g m1 ml ta (by omega) (by omega) (m1 130 ((p - 1) - 1)) (m1 130 (p - 1))) rfl rfl (by decide) (Nat.le_of_ble_eq_true rfl) ?_
              refine X_iast ((p - 1) - 1) dX12_comesBy_171 (k_130 hSh) rfl (by omega) ?_
              refine X_iinc (v := nI (i + 1)) dX12_comesBy_172 rfl (nI_1 _) (by decide) ?_
              refine X_goto 21 dX12_comesBy_175 (by decide) ?_
              refine X_L [(3, .int (nI (i + 1))), (2, .int (nI (p - 1))), (0, .ref 87), (1, .int (nI o))] ⟨rfl, rfl, rfl, rfl, trivial⟩ ?_
              simp only [show p - 1 - 1 = p - 2 by omega, show p - 2 - 1 = p - 3 by omega, show p - 2 + 1 = p - 1 by omega] at *
              exact hn
            · exact absurd h_10 (by omega)
          · exact absurd h_9 (by omega)
      · subst h1
        rw [tk_12] at hn
        refine X_iload_n dX12_comesBy_21 rfl ?_
        refine X_aload_n dX12_comesBy_22 rfl ?_
        refine X_getr (a := 129) dX12_comesBy_23 fkX12_40 rfl (k_87 hSh) (r_87_17 hSh) ?_
        refine X_iload_n dX12_comesBy_26 rfl ?_
        refine X_iald o dX12_comesBy_27 (k_129 hSh) rfl (by omega) ?_
        rw [(show m1 129 o = nI L.length by rw [hr 129 (by omega)]; exact hsz)]
        refine X_icmp_geN (a := i) (b := L.length) 178 dX12_comesBy_28 (by decide) (by omega) (by omega) (fun h_11 => ?_) (fun h_11 => ?_)
        · exact absurd hi (by omega)
        · refine X_aload_n dX12_comesBy_31 rfl ?_
          refine X_getr (a := 133) dX12_comesBy_32 fkX12_52 rfl (k_87 hSh) (r_87_21 hSh) ?_
          refine X_iload_n dX12_comesBy_35 rfl ?_
          refine X_aaldr (b := 134 + o) o dX12_comesBy_36 (k_133 hSh) rfl (by omega) (o_133 hSh o (by omega)) ?_
          refine X_iconst (v := nI 2) dX12_comesBy_37 (by decide) ?_
          refine X_iload_n dX12_comesBy_38 rfl ?_
          refine X_imul dX12_comesBy_39 ?_
          refine X_topi (pk_mul 2 i) ?_
          refine X_iald (2 * i) dX12_comesBy_40 (kr_133 hSh o (by omega)) rfl (by omega) ?_
          rw [(show m1 (134 + o) (2 * i) = nI 12 by rw [hr (134 + o) (by omega)]; exact hs1)]
          refine X_istore dX12_comesBy_41 (by decide) ?_
          refine X_aload_n dX12_comesBy_43 rfl ?_
          refine X_getr (a := 133) dX12_comesBy_44 fkX12_52 rfl (k_87 hSh) (r_87_21 hSh) ?_
          refine X_iload_n dX12_comesBy_47 rfl ?_
          refine X_aaldr (b := 134 + o) o dX12_comesBy_48 (k_133 hSh) rfl (by omega) (o_133 hSh o (by omega)) ?_
          refine X_iconst (v := nI 2) dX12_comesBy_49 (by decide) ?_
          refine X_iload_n dX12_comesBy_50 rfl ?_
          refine X_imul dX12_comesBy_51 ?_
          refine X_topi (pk_mul 2 i) ?_
          refine X_iconst (v := nI 1) dX12_comesBy_52 (by decide) ?_
          refine X_iadd dX12_comesBy_53 ?_
          refine X_topi (nI_add (2 * i) 1) ?_
          refine X_iald ((2 * i) + 1) dX12_comesBy_54 (kr_133 hSh o (by omega)) rfl (by omega) ?_
          rw [(show m1 (134 + o) ((2 * i) + 1) = nI tb by rw [hr (134 + o) (by omega)]; exact hs2)]
          refine X_istore dX12_comesBy_55 (by decide) ?_
          refine X_iload dX12_comesBy_57 rfl ?_
          refine X_iconst (v := nI 2) dX12_comesBy_59 (by decide) ?_
          refine X_icmp_geN (a := 12) (b := 2) 92 dX12_comesBy_60 (by decide) (by omega) (by omega) (fun h_12 => ?_) (fun h_12 => ?_)
          · refine X_iload dX12_comesBy_92 rfl ?_
            refine X_bipush (v := nI 12) dX12_comesBy_94 (by decide) ?_
            refine X_icmp_neN (a := 12) (b := 12) 142 dX12_comesBy_96 (by decide) (by omega) (by omega) (fun h_13 => ?_) (fun h_13 => ?_)
            · exact absurd rfl h_13
            · refine X_iinc (v := nI (p - 2)) dX12_comesBy_99 rfl (nI_dk p 2 (by omega)) (by decide) ?_
              refine X_aload_n dX12_comesBy_102 rfl ?_
              refine X_getr (a := 130) dX12_comesBy_103 fkX12_43 rfl (k_87 hSh) (r_87_18 hSh) ?_
              refine X_iload_n dX12_comesBy_106 rfl ?_
              refine X_iconst (v := nI 1) dX12_comesBy_107 (by decide) ?_
              refine X_isub dX12_comesBy_108 ?_
              refine X_topi (pk_sub (a := p - 2) (b := 1) (by omega)) ?_
              refine X_aload_n dX12_comesBy_109 rfl ?_
              refine X_getr (a := 130) dX12_comesBy_110 fkX12_43 rfl (k_87 hSh) (r_87_18 hSh) ?_
              refine X_iload_n dX12_comesBy_113 rfl ?_
              refine X_iconst (v := nI 1) dX12_comesBy_114 (by decide) ?_
              refine X_isub dX12_comesBy_115 ?_
              refine X_topi (pk_sub (a := p - 2) (b := 1) (by omega)) ?_
              refine X_iald ((p - 2) - 1) dX12_comesBy_116 (k_130 hSh) rfl (by omega) ?_
              refine X_iconst (v := nI 1) dX12_comesBy_117 (by decide) ?_
              refine X_icmp_ne 130 dX12_comesBy_118 (by decide) (fun h_14 => ?_) (fun h_14 => ?_)
              · refine X_aload_n dX12_comesBy_130 rfl ?_
                refine X_getr (a := 130) dX12_comesBy_131 fkX12_43 rfl (k_87 hSh) (r_87_18 hSh) ?_
                refine X_iload_n dX12_comesBy_134 rfl ?_
                refine X_iconst (v := nI 1) dX12_comesBy_135 (by decide) ?_
                refine X_iadd dX12_comesBy_136 ?_
                refine X_topi (nI_add (p - 2) 1) ?_
                refine X_iald ((p - 2) + 1) dX12_comesBy_137 (k_130 hSh) rfl (by omega) ?_
                refine X_iast ((p - 2) - 1) dX12_comesBy_138 (k_130 hSh) rfl (by omega) ?_
                refine X_goto 172 dX12_comesBy_139 (by decide) ?_
                refine X_iinc (v := nI (i + 1)) dX12_comesBy_172 rfl (nI_1 _) (by decide) ?_
                refine X_goto 21 dX12_comesBy_175 (by decide) ?_
                refine X_L [(3, .int (nI (i + 1))), (2, .int (nI (p - 2))), (0, .ref 87), (1, .int (nI o))] ⟨rfl, rfl, rfl, rfl, trivial⟩ ?_
                simp only [show p - 1 - 1 = p - 2 by omega, show p - 2 - 1 = p - 3 by omega, show p - 2 + 1 = p - 1 by omega] at *
                simp_all
              · refine X_aload_n dX12_comesBy_121 rfl ?_
                refine X_getr (a := 130) dX12_comesBy_122 fkX12_43 rfl (k_87 hSh) (r_87_18 hSh) ?_
                refine X_iload_n dX12_comesBy_125 rfl ?_
                refine X_iald (p - 2) dX12_comesBy_126 (k_130 hSh) rfl (by omega) ?_
                refine X_goto 138 dX12_comesBy_127 (by decide) ?_
                refine X_iast ((p - 2) - 1) dX12_comesBy_138 (k_130 hSh) rfl (by omega) ?_
                refine X_goto 172 dX12_comesBy_139 (by decide) ?_
                refine X_iinc (v := nI (i + 1)) dX12_comesBy_172 rfl (nI_1 _) (by decide) ?_
                refine X_goto 21 dX12_comesBy_175 (by decide) ?_
                refine X_L [(3, .int (nI (i + 1))), (2, .int (nI (p - 2))), (0, .ref 87), (1, .int (nI o))] ⟨rfl, rfl, rfl, rfl, trivial⟩ ?_
                simp only [show p - 1 - 1 = p - 2 by omega, show p - 2 - 1 = p - 3 by omega, show p - 2 + 1 = p - 1 by omega] at *
                simp_all
          · exact absurd h_12 (by omega)
    · rw [hL1]
      generalize runL 130 (mi 131) (fun v => decide (v = nI 1)) L (mi, 0) = z at hr1 hr2 hr3 hr4 hr5 ⊢
      obtain ⟨m2, p2⟩ := z
      dsimp only at hr2 hr3 hr4 hr5 ⊢
      subst hr2
      refine X_iload_n dX12_comesBy_21 rfl ?_
      refine X_aload_n dX12_comesBy_22 rfl ?_
      refine X_getr (a := 129) dX12_comesBy_23 fkX12_40 rfl (k_87 hSh) (r_87_17 hSh) ?_
      refine X_iload_n dX12_comesBy_26 rfl ?_
      refine X_iald o dX12_comesBy_27 (k_129 hSh) rfl (by omega) ?_
      rw [(show m2 129 o = nI L.length by rw [hr5 129 (by omega)]; exact hsz)]
      refine X_icmp_geN (a := L.length) (b := L.length) 178 dX12_comesBy_28 (by decide) (by omega) (by omega) (fun h_15 => ?_) (fun h_15 => ?_)
      · refine X_iconst (v := nI 0) dX12_comesBy_178 (by decide) ?_
        refine X_bipush (v := nI 23) dX12_comesBy_179 (by decide) ?_
        refine X_aload_n dX12_comesBy_181 rfl ?_
        refine X_getr (a := 130) dX12_comesBy_182 fkX12_43 rfl (k_87 hSh) (r_87_18 hSh) ?_
        refine X_iconst (v := nI 0) dX12_comesBy_185 (by decide) ?_
        refine X_iald 0 dX12_comesBy_186 (k_130 hSh) rfl (by omega) ?_
        rw [hr3]
        refine X_callSI dX12_comesBy_187 mkX12_288 (c_less Γ g m2 ml (nI 23) (f (mi 131))) rfl rfl (by decide) (Nat.le_of_ble_eq_true rfl) ?_
        refine X_callSI dX12_comesBy_190 mkX12_291 (c_greater Γ g m2 ml (nI 0) (if nI 23 < f (mi 131) then nI 23 else f (mi 131))) rfl rfl (by decide) (Nat.le_of_ble_eq_true rfl) ?_
        exact X_iret dX12_comesBy_193 rfl ⟨by rw [clH_r], rfl, rfl, rfl⟩
      · exact absurd h_15 (by omega)
  · exact absurd h_1 (by omega)

/-! ===== the reference's loops over texts ===== -/
theorem plR_sk {B : Nat → Int32} {n f i c : Nat} {P : PD} : plR B n f (skT B n i) c P = plR B n f i c P := by
  cases f with
  | zero => rfl
  | succ f => unfold plR; rw [skT_sk]
theorem RPS_at {m0 m : pMI} {B : Nat → Int32} {n i j c : Nat} {P : PD} (h : RPS m0 m B n i c P) (hj : j ≤ n) : RPS m0 (up2 m 87 4 (nI j)) B n j c P := ⟨RTX_at h.1 hj, (up2_n (by omega)).trans h.2.1, (up2_n (by omega)).trans h.2.2.1, rdP_row (fun i hi => up2_row hi) h.2.2.2.1, h.2.2.2.2.1, frRD_u h.2.2.2.2.2.1 (by omega), (up2_n (by omega)).trans h.2.2.2.2.2.2⟩
theorem RPE_at {m0 m : pMI} {B : Nat → Int32} {n q j k p : Nat} (h : RPE m0 m B n k p) (hR : RTX m B n q) (hj : j ≤ n) : RPE m0 (up2 m 87 4 (nI j)) B n k p := ⟨(up2_n (by omega)).trans h.1, h.2.1, h.2.2.1, (up2_n (by omega)).trans h.2.2.2.1, frRD_u h.2.2.2.2.1 (by omega), _, RTX_at hR hj⟩
set_option maxRecDepth 100000 in
set_option maxHeartbeats 4000000 in
theorem rplX (Γ : pTG) (g : pGG) (m0 : pMI) (B : Nat → Int32) (n : Nat) (hSh : Sh g) {kk nk : Nat} {nn : Int32} {ml : pML} {Q : pQ} {r : Except (Nat × Nat) PD}
    (hE : ∀ m k p, r = .error (k, p) → RPE m0 m B n k p → XW Γ 20 kk nk mX12_pool 71 [(0, .ref 87), (1, .int nn)] [] g m ml Q)
    (hO : ∀ m P i c, r = .ok P → RPS m0 m B n i c P → XW Γ 20 kk nk mX12_pool 71 [(0, .ref 87), (1, .int nn)] [] g m ml Q) : ∀ (f : Nat) (mi : pMI) (i c : Nat) (P : PD), RPS m0 mi B n i c P → skT B n i = i → c + f = 61 → c ≤ 60 → plR B n f i c P = r → XW Γ 20 kk nk mX12_pool 42 [(0, .ref 87), (1, .int nn)] [] g mi ml Q
  | 0, mi, i, c, P, hS, hsk, hc, hc6, hr => absurd hc (by omega)
  | f + 1, mi, i, c, P, hS, hsk, hc, hc6, hr => by
    have hn6 := hS.1.1
    have hin := hS.1.2.1
    refine X_aload_n dX12_pool_42 rfl ?_
    refine X_geti dX12_pool_43 fkX12_174 rfl (k_87 hSh) ?_
    rw [hS.2.1]
    refine X_if_neN (a := 0) 71 dX12_pool_46 (by decide) (by omega) (fun h_1 => ?_) (fun h_1 => ?_)
    · exact absurd h_1 (by omega)
    · refine X_aload_n dX12_pool_49 rfl ?_
      refine X_geti dX12_pool_50 fkX12_167 rfl (k_87 hSh) ?_
      rw [hS.1.2.2.2.2]
      refine X_aload_n dX12_pool_53 rfl ?_
      refine X_geti dX12_pool_54 fkX12_164 rfl (k_87 hSh) ?_
      rw [hS.1.2.2.2.1]
      refine X_icmp_geN (a := i) (b := n) 71 dX12_pool_57 (by decide) (by omega) (by omega) (fun h_2 => ?_) (fun h_2 => ?_)
      · refine X_L [(0, .ref 87), (1, .int nn)] ⟨rfl, rfl, trivial⟩ ?_
        exact hO mi P i c (by rw [← hr]; exact if_pos (by rw [hsk]; omega)) hS
      · refine X_aload_n dX12_pool_60 rfl ?_
        match hC : clR B n i c P with
        | .error (k1, p1) =>
          refine X_callVrV dX12_pool_61 mkX12_235 (k_87 hSh) (c_clause Γ g mi ml hSh m0 B n i c P hS hsk hc6) rfl rfl (by decide) (Nat.le_of_ble_eq_true rfl) (fun m1 l1 hm1 => ?_)
          rw [hC] at hm1
          obtain ⟨hm1, hl1⟩ := hm1
          rw [hl1]
          obtain ⟨q1, hR1⟩ := hm1.2.2.2.2.2
          have hk1 := hm1.2.1
          have hk1b := hm1.2.2.1
          refine X_aload_n dX12_pool_64 rfl ?_
          refine X_callVV dX12_pool_65 mkX12_180 (k_87 hSh) (c_blanks Γ g m1 ml hSh B n q1 hR1) rfl rfl (by decide) (Nat.le_of_ble_eq_true rfl) ?_
          refine X_goto 42 dX12_pool_68 (by decide) ?_
          refine X_aload_n dX12_pool_42 rfl ?_
          refine X_geti dX12_pool_43 fkX12_174 rfl (k_87 hSh) ?_
          rw [((up2_n (by omega)).trans hm1.1)]
          refine X_if_neN (a := k1) 71 dX12_pool_46 (by decide) (by omega) (fun h_3 => ?_) (fun h_3 => ?_)
          · refine X_L [(0, .ref 87), (1, .int nn)] ⟨rfl, rfl, trivial⟩ ?_
            exact hE _ k1 p1 (by rw [← hr]; exact (if_neg (by rw [hsk]; omega)).trans (by rw [hsk]; simp only [hC])) (RPE_at hm1 hR1 (skT_le hR1.2.1))
          · exact absurd h_3 (by omega)
        | .ok (e1, P1) =>
          have hc60 : c ≠ 60 := fun q => by subst q; obtain ⟨e, he⟩ := cl60 (B := B) (n := n) (i := i) (P := P); rw [he] at hC; cases hC
          refine X_callVrV dX12_pool_61 mkX12_235 (k_87 hSh) (c_clause Γ g mi ml hSh m0 B n i c P hS hsk hc6) rfl rfl (by decide) (Nat.le_of_ble_eq_true rfl) (fun m1 l1 hm1 => ?_)
          rw [hC] at hm1
          obtain ⟨hm1, hl1⟩ := hm1
          rw [hl1]
          refine X_aload_n dX12_pool_64 rfl ?_
          refine X_callVV dX12_pool_65 mkX12_180 (k_87 hSh) (c_blanks Γ g m1 ml hSh B n e1 hm1.1) rfl rfl (by decide) (Nat.le_of_ble_eq_true rfl) ?_
          refine X_goto 42 dX12_pool_68 (by decide) ?_
          refine X_L [(0, .ref 87), (1, .int nn)] ⟨rfl, rfl, trivial⟩ ?_
          exact rplX Γ g m0 B n hSh hE hO f _ (skT B n e1) (c + 1) P1 (RPS_at hm1 (skT_le hm1.1.2.1)) skT_sk (by omega) (by omega) (by rw [plR_sk, ← hr]; exact ((if_neg (by rw [hsk]; omega)).trans (by rw [hsk]; simp only [hC])).symm)
def frRB (m x : pMI) : Prop := (∀ i, i ≠ 87 → ¬ (156 ≤ i ∧ i ≤ 167) → x i = m i) ∧ (∀ j, j ≠ 4 → j ≠ 5 → j ≠ 6 → x 87 j = m 87 j)
theorem frRB_r {m : pMI} : frRB m m := ⟨fun _ _ _ => rfl, fun _ _ _ _ => rfl⟩
theorem frRB_u {m x : pMI} {a j : Nat} {v : Int32} (h : frRB m x) (ha : (a = 87 ∧ 4 ≤ j ∧ j ≤ 6) ∨ (156 ≤ a ∧ a ≤ 167)) : frRB m (up2 x a j v) :=
  ⟨fun i h1 h2 => by rw [up2_row (by omega)]; exact h.1 i h1 h2, fun k h1 h2 h3 => by rw [up2_nn (by omega)]; exact h.2 k h1 h2 h3⟩
def RBS (m0 m : pMI) (B : Nat → Int32) (n hx i c : Nat) (bk : Nat → Nat → Nat) : Prop := RTX m B n i ∧ m 87 5 = nI 0 ∧ okBk hx c bk ∧ (∀ k, k < c → ∀ q, q < 3 → m (156 + k) q = nI (bk k q)) ∧ frRB m0 m ∧ m 87 6 = m0 87 6
def RBE (m0 m : pMI) (B : Nat → Int32) (n k p : Nat) : Prop := m 87 5 = nI k ∧ 1 ≤ k ∧ k ≤ 3 ∧ m 87 6 = nI p ∧ frRB m0 m ∧ ∃ q, RTX m B n q
theorem bkR_sk {B : Nat → Int32} {n hx f i c : Nat} {bk : Nat → Nat → Nat} : bkR B n hx f (skT B n i) c bk = bkR B n hx f i c bk := by
  cases f with
  | zero => rfl
  | succ f => unfold bkR; rw [skT_sk]
theorem rdL {m x : pMI} {c d g h : Nat} {bk : Nat → Nat → Nat} (hb : ∀ k, k < c → ∀ q, q < 3 → m (156 + k) q = nI (bk k q)) (hx : ∀ i, i ≠ 87 → x i = up2 (up2 (up2 m (156 + c) 0 (nI d)) (156 + c) 1 (nI g)) (156 + c) 2 (nI h) i) : ∀ k, k < c + 1 → ∀ q, q < 3 → x (156 + k) q = nI (adL bk c d g h k q) := fun k hk q hq => by
  unfold adL
  rw [hx (156 + k) (by omega)]
  by_cases e : k = c
  · subst e
    rw [if_pos rfl]
    match q, hq with
    | 0, _ => rw [up2_n (by omega), up2_n (by omega)]; exact up2_s
    | 1, _ => rw [up2_n (by omega)]; exact up2_s
    | 2, _ => exact up2_s
  · rw [if_neg e, up2_row (by omega), up2_row (by omega), up2_row (by omega)]; exact hb k (by omega) q hq
set_option maxRecDepth 100000 in
set_option maxHeartbeats 4000000 in
theorem rbkX (Γ : pTG) (g : pGG) (m0 : pMI) (B : Nat → Int32) (n hx : Nat) (hSh : Sh g) (hx8 : hx ≤ 8) (h910 : m0 91 1 = nI hx) {kk nk : Nat} {nn : Int32} {ml : pML} {Q : pQ} {r : Except (Nat × Nat) (Nat × (Nat → Nat → Nat))}
    (hE : ∀ m c k p, c ≤ 12 → r = .error (k, p) → RBE m0 m B n k p → XW Γ 20 kk nk mX12_book 175 [(0, .ref 87), (1, .int nn), (2, .int (nI c))] [] g m ml Q)
    (hO : ∀ m c bk i, r = .ok (c, bk) → RBS m0 m B n hx i c bk → XW Γ 20 kk nk mX12_book 175 [(0, .ref 87), (1, .int nn), (2, .int (nI c))] [] g m ml Q) : ∀ (f : Nat) (mi : pMI) (i c : Nat) (bk : Nat → Nat → Nat), RBS m0 mi B n hx i c bk → skT B n i = i → c + f = 13 → c ≤ 12 → bkR B n hx f i c bk = r → XW Γ 20 kk nk mX12_book 47 [(0, .ref 87), (1, .int nn), (2, .int (nI c))] [] g mi ml Q
  | 0, mi, i, c, bk, hS, hsk, hc, hc6, hr => absurd hc (by omega)
  | f + 1, mi, i, c, bk, hS, hsk, hc, hc6, hr => by
    have hn6 := hS.1.1
    have hin := hS.1.2.1
    have h91 : mi 91 1 = nI hx := by rw [hS.2.2.2.2.1.1 91 (by omega) (by omega)]; exact h910
    refine X_aload_n dX12_book_47 rfl ?_
    refine X_geti dX12_book_48 fkX12_174 rfl (k_87 hSh) ?_
    rw [hS.2.1]
    refine X_if_neN (a := 0) 175 dX12_book_51 (by decide) (by omega) (fun h_1 => ?_) (fun h_1 => ?_)
    · exact absurd h_1 (by omega)
    · refine X_aload_n dX12_book_54 rfl ?_
      refine X_geti dX12_book_55 fkX12_167 rfl (k_87 hSh) ?_
      rw [hS.1.2.2.2.2]
      refine X_aload_n dX12_book_58 rfl ?_
      refine X_geti dX12_book_59 fkX12_164 rfl (k_87 hSh) ?_
      rw [hS.1.2.2.2.1]
      refine X_icmp_geN (a := i) (b := n) 175 dX12_book_62 (by decide) (by omega) (by omega) (fun h_2 => ?_) (fun h_2 => ?_)
      · refine X_L [(0, .ref 87), (1, .int nn), (2, .int (nI c))] ⟨rfl, rfl, rfl, trivial⟩ ?_
        exact hO mi c bk i (by rw [← hr]; exact if_pos (by rw [hsk]; omega)) hS
      · refine X_aload_n dX12_book_65 rfl ?_
        refine X_geti dX12_book_66 fkX12_167 rfl (k_87 hSh) ?_
        rw [hS.1.2.2.2.2]
        refine X_istore_n dX12_book_69 (by decide) ?_
        refine X_aload_n dX12_book_70 rfl ?_
        refine X_iconst (v := nI 0) dX12_book_71 (by decide) ?_
        refine X_bipush (v := nI 60) dX12_book_72 (by decide) ?_
        match hN1 : numR B n i 0 61 with
        | .error (k1, p1) =>
          obtain ⟨hka1, hkb1⟩ := numR_k hN1
          obtain ⟨q1, hq1, hC1⟩ := c_rnumE Γ g mi ml hSh B n i hS.1 hS.2.1 0 61 (nI 60) (by omega) (by omega) (hH_of (by omega)) hN1
          refine X_callVI dX12_book_74 mkX12_220 (k_87 hSh) (hC1) rfl rfl (by decide) (Nat.le_of_ble_eq_true rfl) ?_
          refine X_istore dX12_book_77 (by decide) ?_
          refine X_aload_n dX12_book_79 rfl ?_
          refine X_geti dX12_book_80 fkX12_174 rfl (k_87 hSh) ?_
          refine X_topi (show (up2 (up2 (up2 mi 87 4 (nI q1)) 87 5 (nI k1)) 87 6 (nI p1)) 87 5 = nI k1 by rw [up2_n (by omega), up2_s]) ?_
          refine X_if_neN (a := k1) 98 dX12_book_83 (by decide) (by omega) (fun h_3 => ?_) (fun h_3 => ?_)
          · refine X_aload_n dX12_book_98 rfl ?_
            refine X_iconst (v := nI 0) dX12_book_99 (by decide) ?_
            refine X_aload_n dX12_book_100 rfl ?_
            refine X_getr (a := 91) dX12_book_101 fkX12_23 rfl (k_87 hSh) (r_87_12 hSh) ?_
            refine X_iconst (v := nI 1) dX12_book_104 (by decide) ?_
            refine X_iald 1 dX12_book_105 (k_91 hSh) rfl (by omega) ?_
            refine X_topi (show (up2 (up2 (up2 mi 87 4 (nI q1)) 87 5 (nI k1)) 87 6 (nI p1)) 91 1 = nI hx by rw [up2_row (by omega), up2_row (by omega), up2_row (by omega)]; exact h91) ?_
            refine X_iconst (v := nI 1) dX12_book_106 (by decide) ?_
            refine X_isub dX12_book_107 ?_
            refine X_callVI dX12_book_108 mkX12_220 (k_87 hSh) (c_numberF Γ g (up2 (up2 (up2 mi 87 4 (nI q1)) 87 5 (nI k1)) 87 6 (nI p1)) ml hSh (by rw [(show (up2 (up2 (up2 mi 87 4 (nI q1)) 87 5 (nI k1)) 87 6 (nI p1)) 87 5 = nI k1 by rw [up2_n (by omega), up2_s])]; exact nI_ne0 (by omega) (by omega)) (nI 0) ((nI hx) - (nI 1))) rfl rfl (by decide) (Nat.le_of_ble_eq_true rfl) ?_
            refine X_istore dX12_book_111 (by decide) ?_
            refine X_aload_n dX12_book_113 rfl ?_
            refine X_iconst (v := nI 0) dX12_book_114 (by decide) ?_
            refine X_bipush (v := nI 23) dX12_book_115 (by decide) ?_
            refine X_callVI dX12_book_117 mkX12_220 (k_87 hSh) (c_numberF Γ g (up2 (up2 (up2 mi 87 4 (nI q1)) 87 5 (nI k1)) 87 6 (nI p1)) ml hSh (by rw [(show (up2 (up2 (up2 mi 87 4 (nI q1)) 87 5 (nI k1)) 87 6 (nI p1)) 87 5 = nI k1 by rw [up2_n (by omega), up2_s])]; exact nI_ne0 (by omega) (by omega)) (nI 0) (nI 23)) rfl rfl (by decide) (Nat.le_of_ble_eq_true rfl) ?_
            refine X_istore dX12_book_120 (by decide) ?_
            refine X_aload_n dX12_book_122 rfl ?_
            refine X_bipush (v := nI 59) dX12_book_123 (by decide) ?_
            refine X_callVV dX12_book_125 mkX12_224 (k_87 hSh) (c_signF Γ g (up2 (up2 (up2 mi 87 4 (nI q1)) 87 5 (nI k1)) 87 6 (nI p1)) ml hSh (by rw [(show (up2 (up2 (up2 mi 87 4 (nI q1)) 87 5 (nI k1)) 87 6 (nI p1)) 87 5 = nI k1 by rw [up2_n (by omega), up2_s])]; exact nI_ne0 (by omega) (by omega)) (nI 59)) rfl rfl (by decide) (Nat.le_of_ble_eq_true rfl) ?_
            refine X_aload_n dX12_book_128 rfl ?_
            refine X_geti dX12_book_129 fkX12_174 rfl (k_87 hSh) ?_
            refine X_topi (show (up2 (up2 (up2 mi 87 4 (nI q1)) 87 5 (nI k1)) 87 6 (nI p1)) 87 5 = nI k1 by rw [up2_n (by omega), up2_s]) ?_
            refine X_if_neN (a := k1) 168 dX12_book_132 (by decide) (by omega) (fun h_4 => ?_) (fun h_4 => ?_)
            · refine X_aload_n dX12_book_168 rfl ?_
              have hRb : RTX (up2 (up2 (up2 mi 87 4 (nI q1)) 87 5 (nI k1)) 87 6 (nI p1)) B n q1 := (RTX_u (RTX_u (RTX_at hS.1 (by first | omega | exact wdT_le hS.1.2.1 | exact skT_le (by omega))) (by omega)) (by omega))
              refine X_callVV dX12_book_169 mkX12_180 (k_87 hSh) (c_blanks Γ g (up2 (up2 (up2 mi 87 4 (nI q1)) 87 5 (nI k1)) 87 6 (nI p1)) ml hSh B n q1 hRb) rfl rfl (by decide) (Nat.le_of_ble_eq_true rfl) ?_
              refine X_goto 47 dX12_book_172 (by decide) ?_
              refine X_aload_n dX12_book_47 rfl ?_
              refine X_geti dX12_book_48 fkX12_174 rfl (k_87 hSh) ?_
              rw [(show (up2 (up2 (up2 (up2 mi 87 4 (nI q1)) 87 5 (nI k1)) 87 6 (nI p1)) 87 4 (nI (skT B n q1))) 87 5 = nI k1 by rw [up2_n (by omega), up2_n (by omega), up2_s])]
              refine X_if_neN (a := k1) 175 dX12_book_51 (by decide) (by omega) (fun h_5 => ?_) (fun h_5 => ?_)
              · refine X_L [(0, .ref 87), (1, .int nn), (2, .int (nI c))] ⟨rfl, rfl, rfl, trivial⟩ ?_
                have hL : lnR B n i c hx = .error (k1, p1) := by simp only [lnR, hN1]
                exact hE _ c _ _ (by omega) (by rw [← hr]; exact (if_neg (by rw [hsk]; omega)).trans (by rw [hsk]; simp only [hL])) ⟨(show (up2 (up2 (up2 (up2 mi 87 4 (nI q1)) 87 5 (nI k1)) 87 6 (nI p1)) 87 4 (nI (skT B n q1))) 87 5 = nI k1 by rw [up2_n (by omega), up2_n (by omega), up2_s]), by omega, by omega, (show (up2 (up2 (up2 (up2 mi 87 4 (nI q1)) 87 5 (nI k1)) 87 6 (nI p1)) 87 4 (nI (skT B n q1))) 87 6 = nI p1 by rw [up2_n (by omega), up2_s]), (frRB_u (frRB_u (frRB_u (frRB_u hS.2.2.2.2.1 (by omega)) (by omega)) (by omega)) (by omega)), _, (RTX_at (RTX_u (RTX_u (RTX_at hS.1 (by first | omega | exact wdT_le hS.1.2.1 | exact skT_le (by omega))) (by omega)) (by omega)) (by first | omega | exact wdT_le hS.1.2.1 | exact skT_le (by omega)))⟩
              · exact absurd h_5 (by omega)
            · exact absurd h_4 (by omega)
          · exact absurd h_3 (by omega)
        | .ok (v1, e1) =>
          obtain ⟨he1, hi1, hl1, hv1⟩ := numR_o (by omega) hN1
          refine X_callVI dX12_book_74 mkX12_220 (k_87 hSh) (c_rnumOK Γ g mi ml hSh B n i hS.1 hS.2.1 0 61 (nI 60) (by omega) (by omega) (hH_of (by omega)) hN1) rfl rfl (by decide) (Nat.le_of_ble_eq_true rfl) ?_
          refine X_istore dX12_book_77 (by decide) ?_
          refine X_aload_n dX12_book_79 rfl ?_
          refine X_geti dX12_book_80 fkX12_174 rfl (k_87 hSh) ?_
          refine X_topi (show (up2 mi 87 4 (nI e1)) 87 5 = nI 0 by rw [up2_n (by omega)]; exact hS.2.1) ?_
          refine X_if_neN (a := 0) 98 dX12_book_83 (by decide) (by omega) (fun h_6 => ?_) (fun h_6 => ?_)
          · exact absurd h_6 (by omega)
          · refine X_iload_n dX12_book_86 rfl ?_
            refine X_bipush (v := nI 12) dX12_book_87 (by decide) ?_
            refine X_icmp_neN (a := c) (b := 12) 98 dX12_book_89 (by decide) (by omega) (by omega) (fun h_7 => ?_) (fun h_7 => ?_)
            · refine X_aload_n dX12_book_98 rfl ?_
              refine X_iconst (v := nI 0) dX12_book_99 (by decide) ?_
              refine X_aload_n dX12_book_100 rfl ?_
              refine X_getr (a := 91) dX12_book_101 fkX12_23 rfl (k_87 hSh) (r_87_12 hSh) ?_
              refine X_iconst (v := nI 1) dX12_book_104 (by decide) ?_
              refine X_iald 1 dX12_book_105 (k_91 hSh) rfl (by omega) ?_
              refine X_topi (show (up2 mi 87 4 (nI e1)) 91 1 = nI hx by rw [up2_row (by omega)]; exact h91) ?_
              refine X_iconst (v := nI 1) dX12_book_106 (by decide) ?_
              refine X_isub dX12_book_107 ?_
              match hN2 : numR B n e1 0 hx with
              | .error (k2, p2) =>
                obtain ⟨hka2, hkb2⟩ := numR_k hN2
                obtain ⟨q2, hq2, hC2⟩ := c_rnumE Γ g (up2 mi 87 4 (nI e1)) ml hSh B n e1 (RTX_at hS.1 (by first | omega | exact wdT_le hS.1.2.1 | exact skT_le (by omega))) (show (up2 mi 87 4 (nI e1)) 87 5 = nI 0 by rw [up2_n (by omega)]; exact hS.2.1) 0 hx (nI hx - nI 1) (by omega) (by omega) (hH_m hx8) hN2
                refine X_callVI dX12_book_108 mkX12_220 (k_87 hSh) (hC2) rfl rfl (by decide) (Nat.le_of_ble_eq_true rfl) ?_
                refine X_istore dX12_book_111 (by decide) ?_
                refine X_aload_n dX12_book_113 rfl ?_
                refine X_iconst (v := nI 0) dX12_book_114 (by decide) ?_
                refine X_bipush (v := nI 23) dX12_book_115 (by decide) ?_
                refine X_callVI dX12_book_117 mkX12_220 (k_87 hSh) (c_numberF Γ g (up2 (up2 (up2 (up2 mi 87 4 (nI e1)) 87 4 (nI q2)) 87 5 (nI k2)) 87 6 (nI p2)) ml hSh (by rw [(show (up2 (up2 (up2 (up2 mi 87 4 (nI e1)) 87 4 (nI q2)) 87 5 (nI k2)) 87 6 (nI p2)) 87 5 = nI k2 by rw [up2_n (by omega), up2_s])]; exact nI_ne0 (by omega) (by omega)) (nI 0) (nI 23)) rfl rfl (by decide) (Nat.le_of_ble_eq_true rfl) ?_
                refine X_istore dX12_book_120 (by decide) ?_
                refine X_aload_n dX12_book_122 rfl ?_
                refine X_bipush (v := nI 59) dX12_book_123 (by decide) ?_
                refine X_callVV dX12_book_125 mkX12_224 (k_87 hSh) (c_signF Γ g (up2 (up2 (up2 (up2 mi 87 4 (nI e1)) 87 4 (nI q2)) 87 5 (nI k2)) 87 6 (nI p2)) ml hSh (by rw [(show (up2 (up2 (up2 (up2 mi 87 4 (nI e1)) 87 4 (nI q2)) 87 5 (nI k2)) 87 6 (nI p2)) 87 5 = nI k2 by rw [up2_n (by omega), up2_s])]; exact nI_ne0 (by omega) (by omega)) (nI 59)) rfl rfl (by decide) (Nat.le_of_ble_eq_true rfl) ?_
                refine X_aload_n dX12_book_128 rfl ?_
                refine X_geti dX12_book_129 fkX12_174 rfl (k_87 hSh) ?_
                refine X_topi (show (up2 (up2 (up2 (up2 mi 87 4 (nI e1)) 87 4 (nI q2)) 87 5 (nI k2)) 87 6 (nI p2)) 87 5 = nI k2 by rw [up2_n (by omega), up2_s]) ?_
                refine X_if_neN (a := k2) 168 dX12_book_132 (by decide) (by omega) (fun h_8 => ?_) (fun h_8 => ?_)
                · refine X_aload_n dX12_book_168 rfl ?_
                  have hRb : RTX (up2 (up2 (up2 (up2 mi 87 4 (nI e1)) 87 4 (nI q2)) 87 5 (nI k2)) 87 6 (nI p2)) B n q2 := (RTX_u (RTX_u (RTX_at (RTX_at hS.1 (by first | omega | exact wdT_le hS.1.2.1 | exact skT_le (by omega))) (by first | omega | exact wdT_le hS.1.2.1 | exact skT_le (by omega))) (by omega)) (by omega))
                  refine X_callVV dX12_book_169 mkX12_180 (k_87 hSh) (c_blanks Γ g (up2 (up2 (up2 (up2 mi 87 4 (nI e1)) 87 4 (nI q2)) 87 5 (nI k2)) 87 6 (nI p2)) ml hSh B n q2 hRb) rfl rfl (by decide) (Nat.le_of_ble_eq_true rfl) ?_
                  refine X_goto 47 dX12_book_172 (by decide) ?_
                  refine X_aload_n dX12_book_47 rfl ?_
                  refine X_geti dX12_book_48 fkX12_174 rfl (k_87 hSh) ?_
                  rw [(show (up2 (up2 (up2 (up2 (up2 mi 87 4 (nI e1)) 87 4 (nI q2)) 87 5 (nI k2)) 87 6 (nI p2)) 87 4 (nI (skT B n q2))) 87 5 = nI k2 by rw [up2_n (by omega), up2_n (by omega), up2_s])]
                  refine X_if_neN (a := k2) 175 dX12_book_51 (by decide) (by omega) (fun h_9 => ?_) (fun h_9 => ?_)
                  · refine X_L [(0, .ref 87), (1, .int nn), (2, .int (nI c))] ⟨rfl, rfl, rfl, trivial⟩ ?_
                    have hL : lnR B n i c hx = .error (k2, p2) := by simp only [lnR, hN1, hN2]; exact if_neg (by omega)
                    exact hE _ c _ _ (by omega) (by rw [← hr]; exact (if_neg (by rw [hsk]; omega)).trans (by rw [hsk]; simp only [hL])) ⟨(show (up2 (up2 (up2 (up2 (up2 mi 87 4 (nI e1)) 87 4 (nI q2)) 87 5 (nI k2)) 87 6 (nI p2)) 87 4 (nI (skT B n q2))) 87 5 = nI k2 by rw [up2_n (by omega), up2_n (by omega), up2_s]), by omega, by omega, (show (up2 (up2 (up2 (up2 (up2 mi 87 4 (nI e1)) 87 4 (nI q2)) 87 5 (nI k2)) 87 6 (nI p2)) 87 4 (nI (skT B n q2))) 87 6 = nI p2 by rw [up2_n (by omega), up2_s]), (frRB_u (frRB_u (frRB_u (frRB_u (frRB_u hS.2.2.2.2.1 (by omega)) (by omega)) (by omega)) (by omega)) (by omega)), _, (RTX_at (RTX_u (RTX_u (RTX_at (RTX_at hS.1 (by first | omega | exact wdT_le hS.1.2.1 | exact skT_le (by omega))) (by first | omega | exact wdT_le hS.1.2.1 | exact skT_le (by omega))) (by omega)) (by omega)) (by first | omega | exact wdT_le hS.1.2.1 | exact skT_le (by omega)))⟩
                  · exact absurd h_9 (by omega)
                · exact absurd h_8 (by omega)
              | .ok (v2, e2) =>
                obtain ⟨he2, hi2, hl2, hv2⟩ := numR_o (by omega) hN2
                refine X_callVI dX12_book_108 mkX12_220 (k_87 hSh) (c_rnumOK Γ g (up2 mi 87 4 (nI e1)) ml hSh B n e1 (RTX_at hS.1 (by first | omega | exact wdT_le hS.1.2.1 | exact skT_le (by omega))) (show (up2 mi 87 4 (nI e1)) 87 5 = nI 0 by rw [up2_n (by omega)]; exact hS.2.1) 0 hx (nI hx - nI 1) (by omega) (by omega) (hH_m hx8) hN2) rfl rfl (by decide) (Nat.le_of_ble_eq_true rfl) ?_
                refine X_istore dX12_book_111 (by decide) ?_
                refine X_aload_n dX12_book_113 rfl ?_
                refine X_iconst (v := nI 0) dX12_book_114 (by decide) ?_
                refine X_bipush (v := nI 23) dX12_book_115 (by decide) ?_
                match hN3 : numR B n e2 0 24 with
                | .error (k3, p3) =>
                  obtain ⟨hka3, hkb3⟩ := numR_k hN3
                  obtain ⟨q3, hq3, hC3⟩ := c_rnumE Γ g (up2 (up2 mi 87 4 (nI e1)) 87 4 (nI e2)) ml hSh B n e2 (RTX_at (RTX_at hS.1 (by first | omega | exact wdT_le hS.1.2.1 | exact skT_le (by omega))) (by first | omega | exact wdT_le hS.1.2.1 | exact skT_le (by omega))) (show (up2 (up2 mi 87 4 (nI e1)) 87 4 (nI e2)) 87 5 = nI 0 by rw [up2_n (by omega), up2_n (by omega)]; exact hS.2.1) 0 24 (nI 23) (by omega) (by omega) (hH_of (by omega)) hN3
                  refine X_callVI dX12_book_117 mkX12_220 (k_87 hSh) (hC3) rfl rfl (by decide) (Nat.le_of_ble_eq_true rfl) ?_
                  refine X_istore dX12_book_120 (by decide) ?_
                  refine X_aload_n dX12_book_122 rfl ?_
                  refine X_bipush (v := nI 59) dX12_book_123 (by decide) ?_
                  refine X_callVV dX12_book_125 mkX12_224 (k_87 hSh) (c_signF Γ g (up2 (up2 (up2 (up2 (up2 mi 87 4 (nI e1)) 87 4 (nI e2)) 87 4 (nI q3)) 87 5 (nI k3)) 87 6 (nI p3)) ml hSh (by rw [(show (up2 (up2 (up2 (up2 (up2 mi 87 4 (nI e1)) 87 4 (nI e2)) 87 4 (nI q3)) 87 5 (nI k3)) 87 6 (nI p3)) 87 5 = nI k3 by rw [up2_n (by omega), up2_s])]; exact nI_ne0 (by omega) (by omega)) (nI 59)) rfl rfl (by decide) (Nat.le_of_ble_eq_true rfl) ?_
                  refine X_aload_n dX12_book_128 rfl ?_
                  refine X_geti dX12_book_129 fkX12_174 rfl (k_87 hSh) ?_
                  refine X_topi (show (up2 (up2 (up2 (up2 (up2 mi 87 4 (nI e1)) 87 4 (nI e2)) 87 4 (nI q3)) 87 5 (nI k3)) 87 6 (nI p3)) 87 5 = nI k3 by rw [up2_n (by omega), up2_s]) ?_
                  refine X_if_neN (a := k3) 168 dX12_book_132 (by decide) (by omega) (fun h_10 => ?_) (fun h_10 => ?_)
                  · refine X_aload_n dX12_book_168 rfl ?_
                    have hRb : RTX (up2 (up2 (up2 (up2 (up2 mi 87 4 (nI e1)) 87 4 (nI e2)) 87 4 (nI q3)) 87 5 (nI k3)) 87 6 (nI p3)) B n q3 := (RTX_u (RTX_u (RTX_at (RTX_at (RTX_at hS.1 (by first | omega | exact wdT_le hS.1.2.1 | exact skT_le (by omega))) (by first | omega | exact wdT_le hS.1.2.1 | exact skT_le (by omega))) (by first | omega | exact wdT_le hS.1.2.1 | exact skT_le (by omega))) (by omega)) (by omega))
                    refine X_callVV dX12_book_169 mkX12_180 (k_87 hSh) (c_blanks Γ g (up2 (up2 (up2 (up2 (up2 mi 87 4 (nI e1)) 87 4 (nI e2)) 87 4 (nI q3)) 87 5 (nI k3)) 87 6 (nI p3)) ml hSh B n q3 hRb) rfl rfl (by decide) (Nat.le_of_ble_eq_true rfl) ?_
                    refine X_goto 47 dX12_book_172 (by decide) ?_
                    refine X_aload_n dX12_book_47 rfl ?_
                    refine X_geti dX12_book_48 fkX12_174 rfl (k_87 hSh) ?_
                    rw [(show (up2 (up2 (up2 (up2 (up2 (up2 mi 87 4 (nI e1)) 87 4 (nI e2)) 87 4 (nI q3)) 87 5 (nI k3)) 87 6 (nI p3)) 87 4 (nI (skT B n q3))) 87 5 = nI k3 by rw [up2_n (by omega), up2_n (by omega), up2_s])]
                    refine X_if_neN (a := k3) 175 dX12_book_51 (by decide) (by omega) (fun h_11 => ?_) (fun h_11 => ?_)
                    · refine X_L [(0, .ref 87), (1, .int nn), (2, .int (nI c))] ⟨rfl, rfl, rfl, trivial⟩ ?_
                      have hL : lnR B n i c hx = .error (k3, p3) := by simp only [lnR, hN1, hN2, hN3]; exact if_neg (by omega)
                      exact hE _ c _ _ (by omega) (by rw [← hr]; exact (if_neg (by rw [hsk]; omega)).trans (by rw [hsk]; simp only [hL])) ⟨(show (up2 (up2 (up2 (up2 (up2 (up2 mi 87 4 (nI e1)) 87 4 (nI e2)) 87 4 (nI q3)) 87 5 (nI k3)) 87 6 (nI p3)) 87 4 (nI (skT B n q3))) 87 5 = nI k3 by rw [up2_n (by omega), up2_n (by omega), up2_s]), by omega, by omega, (show (up2 (up2 (up2 (up2 (up2 (up2 mi 87 4 (nI e1)) 87 4 (nI e2)) 87 4 (nI q3)) 87 5 (nI k3)) 87 6 (nI p3)) 87 4 (nI (skT B n q3))) 87 6 = nI p3 by rw [up2_n (by omega), up2_s]), (frRB_u (frRB_u (frRB_u (frRB_u (frRB_u (frRB_u hS.2.2.2.2.1 (by omega)) (by omega)) (by omega)) (by omega)) (by omega)) (by omega)), _, (RTX_at (RTX_u (RTX_u (RTX_at (RTX_at (RTX_at hS.1 (by first | omega | exact wdT_le hS.1.2.1 | exact skT_le (by omega))) (by first | omega | exact wdT_le hS.1.2.1 | exact skT_le (by omega))) (by first | omega | exact wdT_le hS.1.2.1 | exact skT_le (by omega))) (by omega)) (by omega)) (by first | omega | exact wdT_le hS.1.2.1 | exact skT_le (by omega)))⟩
                    · exact absurd h_11 (by omega)
                  · exact absurd h_10 (by omega)
                | .ok (v3, e3) =>
                  obtain ⟨he3, hi3, hl3, hv3⟩ := numR_o (by omega) hN3
                  refine X_callVI dX12_book_117 mkX12_220 (k_87 hSh) (c_rnumOK Γ g (up2 (up2 mi 87 4 (nI e1)) 87 4 (nI e2)) ml hSh B n e2 (RTX_at (RTX_at hS.1 (by first | omega | exact wdT_le hS.1.2.1 | exact skT_le (by omega))) (by first | omega | exact wdT_le hS.1.2.1 | exact skT_le (by omega))) (show (up2 (up2 mi 87 4 (nI e1)) 87 4 (nI e2)) 87 5 = nI 0 by rw [up2_n (by omega), up2_n (by omega)]; exact hS.2.1) 0 24 (nI 23) (by omega) (by omega) (hH_of (by omega)) hN3) rfl rfl (by decide) (Nat.le_of_ble_eq_true rfl) ?_
                  refine X_istore dX12_book_120 (by decide) ?_
                  refine X_aload_n dX12_book_122 rfl ?_
                  refine X_bipush (v := nI 59) dX12_book_123 (by decide) ?_
                  by_cases hs : byT B n (skT B n e3) = nI 59
                  ·
                    have hlt := by_lt hs
                    refine X_callVV dX12_book_125 mkX12_224 (k_87 hSh) (c_sign1 Γ g (up2 (up2 (up2 mi 87 4 (nI e1)) 87 4 (nI e2)) 87 4 (nI e3)) ml hSh B n e3 (RTX_at (RTX_at (RTX_at hS.1 (by first | omega | exact wdT_le hS.1.2.1 | exact skT_le (by omega))) (by first | omega | exact wdT_le hS.1.2.1 | exact skT_le (by omega))) (by first | omega | exact wdT_le hS.1.2.1 | exact skT_le (by omega))) (show (up2 (up2 (up2 mi 87 4 (nI e1)) 87 4 (nI e2)) 87 4 (nI e3)) 87 5 = nI 0 by rw [up2_n (by omega), up2_n (by omega), up2_n (by omega)]; exact hS.2.1) (nI 59) hs) rfl rfl (by decide) (Nat.le_of_ble_eq_true rfl) ?_
                    refine X_aload_n dX12_book_128 rfl ?_
                    refine X_geti dX12_book_129 fkX12_174 rfl (k_87 hSh) ?_
                    refine X_topi (show (up2 (up2 (up2 (up2 mi 87 4 (nI e1)) 87 4 (nI e2)) 87 4 (nI e3)) 87 4 (nI (skT B n e3 + 1))) 87 5 = nI 0 by rw [up2_n (by omega), up2_n (by omega), up2_n (by omega), up2_n (by omega)]; exact hS.2.1) ?_
                    refine X_if_neN (a := 0) 168 dX12_book_132 (by decide) (by omega) (fun h_12 => ?_) (fun h_12 => ?_)
                    · exact absurd h_12 (by omega)
                    · refine X_aload_n dX12_book_135 rfl ?_
                      refine X_getr (a := 155) dX12_book_136 fkX12_58 rfl (k_87 hSh) (r_87_23 hSh) ?_
                      refine X_iload_n dX12_book_139 rfl ?_
                      refine X_aaldr (b := 156 + c) c dX12_book_140 (k_155 hSh) rfl (by omega) (o_155 hSh c (by omega)) ?_
                      refine X_iconst (v := nI 0) dX12_book_141 (by decide) ?_
                      refine X_iload dX12_book_142 rfl ?_
                      refine X_iast 0 dX12_book_144 (kr_155 hSh c (by omega)) rfl (by omega) ?_
                      refine X_aload_n dX12_book_145 rfl ?_
                      refine X_getr (a := 155) dX12_book_146 fkX12_58 rfl (k_87 hSh) (r_87_23 hSh) ?_
                      refine X_iload_n dX12_book_149 rfl ?_
                      refine X_aaldr (b := 156 + c) c dX12_book_150 (k_155 hSh) rfl (by omega) (o_155 hSh c (by omega)) ?_
                      refine X_iconst (v := nI 1) dX12_book_151 (by decide) ?_
                      refine X_iload dX12_book_152 rfl ?_
                      refine X_iast 1 dX12_book_154 (kr_155 hSh c (by omega)) rfl (by omega) ?_
                      refine X_aload_n dX12_book_155 rfl ?_
                      refine X_getr (a := 155) dX12_book_156 fkX12_58 rfl (k_87 hSh) (r_87_23 hSh) ?_
                      refine X_iload_n dX12_book_159 rfl ?_
                      refine X_aaldr (b := 156 + c) c dX12_book_160 (k_155 hSh) rfl (by omega) (o_155 hSh c (by omega)) ?_
                      refine X_iconst (v := nI 2) dX12_book_161 (by decide) ?_
                      refine X_iload dX12_book_162 rfl ?_
                      refine X_iast 2 dX12_book_164 (kr_155 hSh c (by omega)) rfl (by omega) ?_
                      refine X_iinc (v := nI (c + 1)) dX12_book_165 rfl (nI_1 _) (by decide) ?_
                      refine X_aload_n dX12_book_168 rfl ?_
                      have hRb : RTX (up2 (up2 (up2 (up2 (up2 (up2 (up2 mi 87 4 (nI e1)) 87 4 (nI e2)) 87 4 (nI e3)) 87 4 (nI (skT B n e3 + 1))) (156 + c) 0 (nI v1)) (156 + c) 1 (nI v2)) (156 + c) 2 (nI v3)) B n (skT B n e3 + 1) := (RTX_u (RTX_u (RTX_u (RTX_at (RTX_at (RTX_at (RTX_at hS.1 (by first | omega | exact wdT_le hS.1.2.1 | exact skT_le (by omega))) (by first | omega | exact wdT_le hS.1.2.1 | exact skT_le (by omega))) (by first | omega | exact wdT_le hS.1.2.1 | exact skT_le (by omega))) (by first | omega | exact wdT_le hS.1.2.1 | exact skT_le (by omega))) (by omega)) (by omega)) (by omega))
                      refine X_callVV dX12_book_169 mkX12_180 (k_87 hSh) (c_blanks Γ g (up2 (up2 (up2 (up2 (up2 (up2 (up2 mi 87 4 (nI e1)) 87 4 (nI e2)) 87 4 (nI e3)) 87 4 (nI (skT B n e3 + 1))) (156 + c) 0 (nI v1)) (156 + c) 1 (nI v2)) (156 + c) 2 (nI v3)) ml hSh B n (skT B n e3 + 1) hRb) rfl rfl (by decide) (Nat.le_of_ble_eq_true rfl) ?_
                      refine X_goto 47 dX12_book_172 (by decide) ?_
                      refine X_L [(0, .ref 87), (1, .int nn), (2, .int (nI (c + 1)))] ⟨rfl, rfl, rfl, trivial⟩ ?_
                      have hL : lnR B n i c hx = .ok (skT B n e3 + 1, v1, v2, v3) := by simp only [lnR, hN1, hN2, hN3, sgR, hs, if_true]; exact if_neg (by omega)
                      exact rbkX Γ g m0 B n hx hSh hx8 h910 hE hO f _ (skT B n (skT B n e3 + 1)) (c + 1) (adL bk c v1 v2 v3) ⟨(RTX_at (RTX_u (RTX_u (RTX_u (RTX_at (RTX_at (RTX_at (RTX_at hS.1 (by first | omega | exact wdT_le hS.1.2.1 | exact skT_le (by omega))) (by first | omega | exact wdT_le hS.1.2.1 | exact skT_le (by omega))) (by first | omega | exact wdT_le hS.1.2.1 | exact skT_le (by omega))) (by first | omega | exact wdT_le hS.1.2.1 | exact skT_le (by omega))) (by omega)) (by omega)) (by omega)) (by first | omega | exact wdT_le hS.1.2.1 | exact skT_le (by omega))), (show (up2 (up2 (up2 (up2 (up2 (up2 (up2 (up2 mi 87 4 (nI e1)) 87 4 (nI e2)) 87 4 (nI e3)) 87 4 (nI (skT B n e3 + 1))) (156 + c) 0 (nI v1)) (156 + c) 1 (nI v2)) (156 + c) 2 (nI v3)) 87 4 (nI (skT B n (skT B n e3 + 1)))) 87 5 = nI 0 by rw [up2_n (by omega), up2_row (by omega), up2_row (by omega), up2_row (by omega), up2_n (by omega), up2_n (by omega), up2_n (by omega), up2_n (by omega)]; exact hS.2.1), okBk_s hS.2.2.1 (by omega) hv1 hv2 hv3, rdL hS.2.2.2.1 (fun i hi => by funext j; simp [up2, hi]), (frRB_u (frRB_u (frRB_u (frRB_u (frRB_u (frRB_u (frRB_u (frRB_u hS.2.2.2.2.1 (by omega)) (by omega)) (by omega)) (by omega)) (by omega)) (by omega)) (by omega)) (by omega)), (show (up2 (up2 (up2 (up2 (up2 (up2 (up2 (up2 mi 87 4 (nI e1)) 87 4 (nI e2)) 87 4 (nI e3)) 87 4 (nI (skT B n e3 + 1))) (156 + c) 0 (nI v1)) (156 + c) 1 (nI v2)) (156 + c) 2 (nI v3)) 87 4 (nI (skT B n (skT B n e3 + 1)))) 87 6 = m0 87 6 by rw [up2_n (by omega), up2_row (by omega), up2_row (by omega), up2_row (by omega), up2_n (by omega), up2_n (by omega), up2_n (by omega), up2_n (by omega)]; exact hS.2.2.2.2.2)⟩ skT_sk (by omega) (by omega) (by rw [bkR_sk, ← hr]; exact ((if_neg (by rw [hsk]; omega)).trans (by rw [hsk]; simp only [hL])).symm)
                  ·
                    have hsk3 := skT_le (B := B) he3
                    refine X_callVV dX12_book_125 mkX12_224 (k_87 hSh) (c_sign0 Γ g (up2 (up2 (up2 mi 87 4 (nI e1)) 87 4 (nI e2)) 87 4 (nI e3)) ml hSh B n e3 (RTX_at (RTX_at (RTX_at hS.1 (by first | omega | exact wdT_le hS.1.2.1 | exact skT_le (by omega))) (by first | omega | exact wdT_le hS.1.2.1 | exact skT_le (by omega))) (by first | omega | exact wdT_le hS.1.2.1 | exact skT_le (by omega))) (show (up2 (up2 (up2 mi 87 4 (nI e1)) 87 4 (nI e2)) 87 4 (nI e3)) 87 5 = nI 0 by rw [up2_n (by omega), up2_n (by omega), up2_n (by omega)]; exact hS.2.1) (nI 59) hs) rfl rfl (by decide) (Nat.le_of_ble_eq_true rfl) ?_
                    refine X_aload_n dX12_book_128 rfl ?_
                    refine X_geti dX12_book_129 fkX12_174 rfl (k_87 hSh) ?_
                    refine X_topi (show (up2 (up2 (up2 (up2 (up2 (up2 mi 87 4 (nI e1)) 87 4 (nI e2)) 87 4 (nI e3)) 87 4 (nI (skT B n e3))) 87 5 (nI 1)) 87 6 (nI (skT B n e3))) 87 5 = nI 1 by rw [up2_n (by omega), up2_s]) ?_
                    refine X_if_neN (a := 1) 168 dX12_book_132 (by decide) (by omega) (fun h_13 => ?_) (fun h_13 => ?_)
                    · refine X_aload_n dX12_book_168 rfl ?_
                      have hRb : RTX (up2 (up2 (up2 (up2 (up2 (up2 mi 87 4 (nI e1)) 87 4 (nI e2)) 87 4 (nI e3)) 87 4 (nI (skT B n e3))) 87 5 (nI 1)) 87 6 (nI (skT B n e3))) B n (skT B n e3) := (RTX_u (RTX_u (RTX_at (RTX_at (RTX_at (RTX_at hS.1 (by first | omega | exact wdT_le hS.1.2.1 | exact skT_le (by omega))) (by first | omega | exact wdT_le hS.1.2.1 | exact skT_le (by omega))) (by first | omega | exact wdT_le hS.1.2.1 | exact skT_le (by omega))) (by first | omega | exact wdT_le hS.1.2.1 | exact skT_le (by omega))) (by omega)) (by omega))
                      refine X_callVV dX12_book_169 mkX12_180 (k_87 hSh) (c_blanks Γ g (up2 (up2 (up2 (up2 (up2 (up2 mi 87 4 (nI e1)) 87 4 (nI e2)) 87 4 (nI e3)) 87 4 (nI (skT B n e3))) 87 5 (nI 1)) 87 6 (nI (skT B n e3))) ml hSh B n (skT B n e3) hRb) rfl rfl (by decide) (Nat.le_of_ble_eq_true rfl) ?_
                      refine X_goto 47 dX12_book_172 (by decide) ?_
                      refine X_aload_n dX12_book_47 rfl ?_
                      refine X_geti dX12_book_48 fkX12_174 rfl (k_87 hSh) ?_
                      rw [(show (up2 (up2 (up2 (up2 (up2 (up2 (up2 mi 87 4 (nI e1)) 87 4 (nI e2)) 87 4 (nI e3)) 87 4 (nI (skT B n e3))) 87 5 (nI 1)) 87 6 (nI (skT B n e3))) 87 4 (nI (skT B n (skT B n e3)))) 87 5 = nI 1 by rw [up2_n (by omega), up2_n (by omega), up2_s])]
                      refine X_if_neN (a := 1) 175 dX12_book_51 (by decide) (by omega) (fun h_14 => ?_) (fun h_14 => ?_)
                      · refine X_L [(0, .ref 87), (1, .int nn), (2, .int (nI c))] ⟨rfl, rfl, rfl, trivial⟩ ?_
                        have hL : lnR B n i c hx = .error (1, skT B n e3) := by simp only [lnR, hN1, hN2, hN3, sgR, hs, if_false]; exact if_neg (by omega)
                        exact hE _ c _ _ (by omega) (by rw [← hr]; exact (if_neg (by rw [hsk]; omega)).trans (by rw [hsk]; simp only [hL])) ⟨(show (up2 (up2 (up2 (up2 (up2 (up2 (up2 mi 87 4 (nI e1)) 87 4 (nI e2)) 87 4 (nI e3)) 87 4 (nI (skT B n e3))) 87 5 (nI 1)) 87 6 (nI (skT B n e3))) 87 4 (nI (skT B n (skT B n e3)))) 87 5 = nI 1 by rw [up2_n (by omega), up2_n (by omega), up2_s]), by omega, by omega, (show (up2 (up2 (up2 (up2 (up2 (up2 (up2 mi 87 4 (nI e1)) 87 4 (nI e2)) 87 4 (nI e3)) 87 4 (nI (skT B n e3))) 87 5 (nI 1)) 87 6 (nI (skT B n e3))) 87 4 (nI (skT B n (skT B n e3)))) 87 6 = nI (skT B n e3) by rw [up2_n (by omega), up2_s]), (frRB_u (frRB_u (frRB_u (frRB_u (frRB_u (frRB_u (frRB_u hS.2.2.2.2.1 (by omega)) (by omega)) (by omega)) (by omega)) (by omega)) (by omega)) (by omega)), _, (RTX_at (RTX_u (RTX_u (RTX_at (RTX_at (RTX_at (RTX_at hS.1 (by first | omega | exact wdT_le hS.1.2.1 | exact skT_le (by omega))) (by first | omega | exact wdT_le hS.1.2.1 | exact skT_le (by omega))) (by first | omega | exact wdT_le hS.1.2.1 | exact skT_le (by omega))) (by first | omega | exact wdT_le hS.1.2.1 | exact skT_le (by omega))) (by omega)) (by omega)) (by first | omega | exact wdT_le hS.1.2.1 | exact skT_le (by omega)))⟩
                      · exact absurd h_14 (by omega)
                    · exact absurd h_13 (by omega)
            · refine X_aload_n dX12_book_92 rfl ?_
              refine X_iconst (v := nI 3) dX12_book_93 (by decide) ?_
              refine X_iload_n dX12_book_94 rfl ?_
              refine X_callVV dX12_book_95 mkX12_187 (k_87 hSh) (c_wrong0 Γ g (up2 mi 87 4 (nI e1)) ml hSh (show (up2 mi 87 4 (nI e1)) 87 5 = nI 0 by rw [up2_n (by omega)]; exact hS.2.1) (nI 3) (nI i)) rfl rfl (by decide) (Nat.le_of_ble_eq_true rfl) ?_
              refine X_aload_n dX12_book_98 rfl ?_
              refine X_iconst (v := nI 0) dX12_book_99 (by decide) ?_
              refine X_aload_n dX12_book_100 rfl ?_
              refine X_getr (a := 91) dX12_book_101 fkX12_23 rfl (k_87 hSh) (r_87_12 hSh) ?_
              refine X_iconst (v := nI 1) dX12_book_104 (by decide) ?_
              refine X_iald 1 dX12_book_105 (k_91 hSh) rfl (by omega) ?_
              refine X_topi (show (up2 (up2 (up2 mi 87 4 (nI e1)) 87 5 (nI 3)) 87 6 (nI i)) 91 1 = nI hx by rw [up2_row (by omega), up2_row (by omega), up2_row (by omega)]; exact h91) ?_
              refine X_iconst (v := nI 1) dX12_book_106 (by decide) ?_
              refine X_isub dX12_book_107 ?_
              refine X_callVI dX12_book_108 mkX12_220 (k_87 hSh) (c_numberF Γ g (up2 (up2 (up2 mi 87 4 (nI e1)) 87 5 (nI 3)) 87 6 (nI i)) ml hSh (by rw [(show (up2 (up2 (up2 mi 87 4 (nI e1)) 87 5 (nI 3)) 87 6 (nI i)) 87 5 = nI 3 by rw [up2_n (by omega), up2_s])]; exact nI_ne0 (by omega) (by omega)) (nI 0) ((nI hx) - (nI 1))) rfl rfl (by decide) (Nat.le_of_ble_eq_true rfl) ?_
              refine X_istore dX12_book_111 (by decide) ?_
              refine X_aload_n dX12_book_113 rfl ?_
              refine X_iconst (v := nI 0) dX12_book_114 (by decide) ?_
              refine X_bipush (v := nI 23) dX12_book_115 (by decide) ?_
              refine X_callVI dX12_book_117 mkX12_220 (k_87 hSh) (c_numberF Γ g (up2 (up2 (up2 mi 87 4 (nI e1)) 87 5 (nI 3)) 87 6 (nI i)) ml hSh (by rw [(show (up2 (up2 (up2 mi 87 4 (nI e1)) 87 5 (nI 3)) 87 6 (nI i)) 87 5 = nI 3 by rw [up2_n (by omega), up2_s])]; exact nI_ne0 (by omega) (by omega)) (nI 0) (nI 23)) rfl rfl (by decide) (Nat.le_of_ble_eq_true rfl) ?_
              refine X_istore dX12_book_120 (by decide) ?_
              refine X_aload_n dX12_book_122 rfl ?_
              refine X_bipush (v := nI 59) dX12_book_123 (by decide) ?_
              refine X_callVV dX12_book_125 mkX12_224 (k_87 hSh) (c_signF Γ g (up2 (up2 (up2 mi 87 4 (nI e1)) 87 5 (nI 3)) 87 6 (nI i)) ml hSh (by rw [(show (up2 (up2 (up2 mi 87 4 (nI e1)) 87 5 (nI 3)) 87 6 (nI i)) 87 5 = nI 3 by rw [up2_n (by omega), up2_s])]; exact nI_ne0 (by omega) (by omega)) (nI 59)) rfl rfl (by decide) (Nat.le_of_ble_eq_true rfl) ?_
              refine X_aload_n dX12_book_128 rfl ?_
              refine X_geti dX12_book_129 fkX12_174 rfl (k_87 hSh) ?_
              refine X_topi (show (up2 (up2 (up2 mi 87 4 (nI e1)) 87 5 (nI 3)) 87 6 (nI i)) 87 5 = nI 3 by rw [up2_n (by omega), up2_s]) ?_
              refine X_if_neN (a := 3) 168 dX12_book_132 (by decide) (by omega) (fun h_15 => ?_) (fun h_15 => ?_)
              · refine X_aload_n dX12_book_168 rfl ?_
                have hRb : RTX (up2 (up2 (up2 mi 87 4 (nI e1)) 87 5 (nI 3)) 87 6 (nI i)) B n e1 := (RTX_u (RTX_u (RTX_at hS.1 (by first | omega | exact wdT_le hS.1.2.1 | exact skT_le (by omega))) (by omega)) (by omega))
                refine X_callVV dX12_book_169 mkX12_180 (k_87 hSh) (c_blanks Γ g (up2 (up2 (up2 mi 87 4 (nI e1)) 87 5 (nI 3)) 87 6 (nI i)) ml hSh B n e1 hRb) rfl rfl (by decide) (Nat.le_of_ble_eq_true rfl) ?_
                refine X_goto 47 dX12_book_172 (by decide) ?_
                refine X_aload_n dX12_book_47 rfl ?_
                refine X_geti dX12_book_48 fkX12_174 rfl (k_87 hSh) ?_
                rw [(show (up2 (up2 (up2 (up2 mi 87 4 (nI e1)) 87 5 (nI 3)) 87 6 (nI i)) 87 4 (nI (skT B n e1))) 87 5 = nI 3 by rw [up2_n (by omega), up2_n (by omega), up2_s])]
                refine X_if_neN (a := 3) 175 dX12_book_51 (by decide) (by omega) (fun h_16 => ?_) (fun h_16 => ?_)
                · refine X_L [(0, .ref 87), (1, .int nn), (2, .int (nI c))] ⟨rfl, rfl, rfl, trivial⟩ ?_
                  have hL : lnR B n i c hx = .error (3, i) := by simp only [lnR, hN1]; exact if_pos (by omega)
                  exact hE _ c _ _ (by omega) (by rw [← hr]; exact (if_neg (by rw [hsk]; omega)).trans (by rw [hsk]; simp only [hL])) ⟨(show (up2 (up2 (up2 (up2 mi 87 4 (nI e1)) 87 5 (nI 3)) 87 6 (nI i)) 87 4 (nI (skT B n e1))) 87 5 = nI 3 by rw [up2_n (by omega), up2_n (by omega), up2_s]), by omega, by omega, (show (up2 (up2 (up2 (up2 mi 87 4 (nI e1)) 87 5 (nI 3)) 87 6 (nI i)) 87 4 (nI (skT B n e1))) 87 6 = nI i by rw [up2_n (by omega), up2_s]), (frRB_u (frRB_u (frRB_u (frRB_u hS.2.2.2.2.1 (by omega)) (by omega)) (by omega)) (by omega)), _, (RTX_at (RTX_u (RTX_u (RTX_at hS.1 (by first | omega | exact wdT_le hS.1.2.1 | exact skT_le (by omega))) (by omega)) (by omega)) (by first | omega | exact wdT_le hS.1.2.1 | exact skT_le (by omega)))⟩
                · exact absurd h_16 (by omega)
              · exact absurd h_15 (by omega)

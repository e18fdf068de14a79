/-! ===== books read ===== -/
theorem hH_m {hx : Nat} (h : hx ≤ 8) : ∀ v, v ≤ 100000 → (nI v ≤ nI hx - nI 1 ↔ v < hx) := fun v hv => by
  cases hx with
  | zero =>
    have : nI 0 - nI 1 = -1 := by decide
    rw [this]
    exact ⟨fun q => absurd (Int32.le_trans (nI_pos' (by omega)) q) (by decide), fun q => by omega⟩
  | succ k => rw [show nI (k + 1) - nI 1 = nI k from nI_pred k, nI_leI (by omega) (by omega)]; omega
def lnR (B : Nat → Int32) (n i c hx : Nat) : Except (Nat × Nat) (Nat × Nat × Nat × Nat) := match numR B n i 0 61 with
  | .error e => .error e
  | .ok (d, e1) => if 12 ≤ c then .error (3, i) else match numR B n e1 0 hx with
    | .error e => .error e
    | .ok (g, e2) => match numR B n e2 0 24 with
      | .error e => .error e
      | .ok (h, e3) => sgR B n e3 59 (fun j => (j, d, g, h))
def adL (bk : Nat → Nat → Nat) (c d g h : Nat) : Nat → Nat → Nat := fun k q => if k = c then (match q with | 0 => d | 1 => g | _ => h) else bk k q
def bkR (B : Nat → Int32) (n hx : Nat) : Nat → Nat → Nat → (Nat → Nat → Nat) → Except (Nat × Nat) (Nat × (Nat → Nat → Nat))
  | 0, _, _, _ => .error (0, 0)
  | f + 1, i, c, bk => if n ≤ skT B n i then .ok (c, bk) else match lnR B n (skT B n i) c hx with
    | .error e => .error e
    | .ok (j, d, g, h) => bkR B n hx f j (c + 1) (adL bk c d g h)
def okBk (hx c : Nat) (bk : Nat → Nat → Nat) : Prop := c ≤ 12 ∧ ∀ k, k < c → bk k 0 < 61 ∧ bk k 1 < hx ∧ bk k 2 < 24
def frBk (m x : pMI) : Prop := ∀ i, i ≠ 2 → i ≠ 26 → x i = m i
theorem frBk_u {m x : pMI} {a j : Nat} {v : Int32} (h : frBk m x) (ha : a = 2 ∨ a = 26) : frBk m (up2 x a j v) := fun i h1 h2 => by rw [up2_row (by omega)]; exact h i h1 h2
def BST (m0 m : pMI) (B : Nat → Int32) (n hx i c : Nat) (bk : Nat → Nat → Nat) : Prop := TXT m B n i ∧ okBk hx c bk ∧ (∀ k, k < c → ∀ q, q < 3 → m 26 (k * 3 + q) = nI (bk k q)) ∧ m 2 3 = m0 2 3 ∧ m 2 4 = m0 2 4 ∧ frBk m0 m
def BER (m0 m : pMI) (c p : Nat) : Prop := m 2 3 = nI c ∧ m 2 4 = nI p ∧ frBk m0 m
def BRS (m0 : pMI) (B : Nat → Int32) (n hx c : Nat) (bk : Nat → Nat → Nat) (r : Except (Nat × Nat) (Nat × Nat × Nat × Nat)) (v : Int32) (m : pMI) : Prop := match r with
  | .error (k, p) => v = nI 0 ∧ BER m0 m k p
  | .ok (j, d, g, h) => v = nI 1 ∧ BST m0 m B n hx j (c + 1) (adL bk c d g h)
theorem BST_at {m0 m : pMI} {B : Nat → Int32} {n hx i c j : Nat} {bk : Nat → Nat → Nat} (h : BST m0 m B n hx i c bk) (hj : j ≤ n) : BST m0 (up2 m 2 2 (nI j)) B n hx j c bk := ⟨TXT_at h.1 hj, h.2.1, fun k hk q hq => by rw [up2_row (by omega)]; exact h.2.2.1 k hk q hq, (up2_n (by omega)).trans h.2.2.2.1, (up2_n (by omega)).trans h.2.2.2.2.1, frBk_u h.2.2.2.2.2 (by omega)⟩
theorem okBk_s {hx c d g h : Nat} {bk : Nat → Nat → Nat} (hk : okBk hx c bk) (hc : c < 12) (hd : d < 61) (hg : g < hx) (hh : h < 24) : okBk hx (c + 1) (adL bk c d g h) := by
  refine ⟨by omega, fun k hkc => ?_⟩
  show (if k = c then d else bk k 0) < 61 ∧ (if k = c then g else bk k 1) < hx ∧ (if k = c then h else bk k 2) < 24
  by_cases e : k = c
  · rw [if_pos e, if_pos e, if_pos e]; exact ⟨hd, hg, hh⟩
  · rw [if_neg e, if_neg e, if_neg e]; exact hk.2 k (by omega)
theorem adL_row {m : pMI} {R c d g h : Nat} {bk : Nat → Nat → Nat} (hb : ∀ k, k < c → ∀ q, q < 3 → m R (k * 3 + q) = nI (bk k q)) : ∀ k, k < c + 1 → ∀ q, q < 3 → up2 (up2 (up2 m R (c * 3) (nI d)) R (c * 3 + 1) (nI g)) R (c * 3 + 2) (nI h) R (k * 3 + q) = nI (adL bk c d g h k q) := fun k hk q hq => by
  unfold adL
  by_cases e : k = c
  · subst e
    rw [if_pos rfl]
    match q, hq with
    | 0, _ => rw [up2_n (by omega), up2_n (by omega)]; exact up2_s
    | 1, _ => rw [up2_n (by omega)]; exact up2_s
    | 2, _ => exact up2_s
  · rw [if_neg e, up2_n (by omega), up2_n (by omega), up2_n (by omega)]; exact hb k (by omega) q hq
set_option maxRecDepth 100000 in
set_option maxHeartbeats 4000000 in
theorem c_readLine (Γ : pTG) (g : pGG) (mi : pMI) (ml : pML) (hSh : Sh g) (m0 : pMI) (B : Nat → Int32) (n i0 c hx : Nat) (bk : Nat → Nat → Nat) (hS : BST m0 mi B n hx i0 c bk) (hx8 : hx ≤ 8) (hsk : skT B n i0 = i0) : rI Γ 4 mX0_readLine [.ref 24, .ref 2, .int (nI hx), .int (nI c)] g mi ml (fun v m l => l = ml ∧ BRS m0 B n hx c bk (lnR B n i0 c hx) v m) := by
  refine rI_of (by decide +kernel) (Nat.le_of_ble_eq_true rfl) ?_
  have hc12 := hS.2.1.1
  have hn6 := hS.1.1
  refine X_aload_n dX0_readLine_0 rfl ?_
  refine X_geti dX0_readLine_1 fkX0_38 rfl (k_2 hSh) ?_
  rw [hS.1.2.2.2.2]
  refine X_istore dX0_readLine_4 (by decide) ?_
  refine X_aload_n dX0_readLine_6 rfl ?_
  refine X_iconst (v := nI 0) dX0_readLine_7 (by decide) ?_
  refine X_bipush (v := nI 60) dX0_readLine_8 (by decide) ?_
  match hN1 : numR B n i0 0 61 with
  | .error (k1, p1) =>
    obtain ⟨q1, hq1, hC1⟩ := c_numE Γ g mi ml hSh B n i0 hS.1 0 61 (nI 60) (by omega) (by omega) (hH_of (by omega)) hN1
    refine X_callVI dX0_readLine_10 mkX0_41 (k_2 hSh) (hC1) rfl rfl (by decide) (Nat.le_of_ble_eq_true rfl) ?_
    refine X_istore dX0_readLine_13 (by decide) ?_
    refine X_iload dX0_readLine_15 rfl ?_
    refine X_iconst (v := -1) dX0_readLine_17 (by decide) ?_
    refine X_icmp_ne 23 dX0_readLine_18 (by decide) (fun h_1 => ?_) (fun h_1 => ?_)
    · exact absurd rfl h_1
    · refine X_iconst (v := nI 0) dX0_readLine_21 (by decide) ?_
      exact X_zret (ty := .boolean) dX0_readLine_22 rfl (by decide) ⟨rfl, _, rfl, rfl, by rw [show lnR B n i0 c hx = .error (k1, p1) from by simp only [lnR, hN1]]; exact ⟨rfl, (show (up2 (up2 (up2 mi 2 2 (nI q1)) 2 3 (nI k1)) 2 4 (nI p1)) 2 3 = nI k1 by rw [up2_n (by omega), up2_s]), (show (up2 (up2 (up2 mi 2 2 (nI q1)) 2 3 (nI k1)) 2 4 (nI p1)) 2 4 = nI p1 by rw [up2_s]), (frBk_u (frBk_u (frBk_u hS.2.2.2.2.2 (by omega)) (by omega)) (by omega))⟩⟩
  | .ok (v1, e1) =>
    obtain ⟨hC1, he1, hi1, hl1, hv1⟩ := c_numOK Γ g mi ml hSh B n i0 hS.1 0 61 (nI 60) (by omega) (by omega) (hH_of (by omega)) hN1
    have hS1 := BST_at hS he1
    refine X_callVI dX0_readLine_10 mkX0_41 (k_2 hSh) (hC1) rfl rfl (by decide) (Nat.le_of_ble_eq_true rfl) ?_
    refine X_istore dX0_readLine_13 (by decide) ?_
    refine X_iload dX0_readLine_15 rfl ?_
    refine X_iconst (v := -1) dX0_readLine_17 (by decide) ?_
    refine X_icmp_ne 23 dX0_readLine_18 (by decide) (fun h_2 => ?_) (fun h_2 => ?_)
    · refine X_iload_n dX0_readLine_23 rfl ?_
      refine X_bipush (v := nI 12) dX0_readLine_24 (by decide) ?_
      refine X_icmp_ltN (a := c) (b := 12) 37 dX0_readLine_26 (by decide) (by omega) (by omega) (fun h_3 => ?_) (fun h_3 => ?_)
      · refine X_aload_n dX0_readLine_37 rfl ?_
        refine X_iconst (v := nI 0) dX0_readLine_38 (by decide) ?_
        refine X_iload_n dX0_readLine_39 rfl ?_
        refine X_iconst (v := nI 1) dX0_readLine_40 (by decide) ?_
        refine X_isub dX0_readLine_41 ?_
        match hN2 : numR B n e1 0 hx with
        | .error (k2, p2) =>
          obtain ⟨q2, hq2, hC2⟩ := c_numE Γ g (up2 mi 2 2 (nI e1)) ml hSh B n e1 hS1.1 0 hx (nI hx - nI 1) (by omega) (by omega) (hH_m hx8) hN2
          refine X_callVI dX0_readLine_42 mkX0_41 (k_2 hSh) (hC2) rfl rfl (by decide) (Nat.le_of_ble_eq_true rfl) ?_
          refine X_istore dX0_readLine_45 (by decide) ?_
          refine X_iload dX0_readLine_47 rfl ?_
          refine X_iconst (v := -1) dX0_readLine_49 (by decide) ?_
          refine X_icmp_ne 57 dX0_readLine_50 (by decide) (fun h_4 => ?_) (fun h_4 => ?_)
          · exact absurd rfl h_4
          · refine X_iconst (v := -1) dX0_readLine_53 (by decide) ?_
            refine X_goto 64 dX0_readLine_54 (by decide) ?_
            refine X_istore dX0_readLine_64 (by decide) ?_
            refine X_iload dX0_readLine_66 rfl ?_
            refine X_iconst (v := -1) dX0_readLine_68 (by decide) ?_
            refine X_icmp_ne 74 dX0_readLine_69 (by decide) (fun h_5 => ?_) (fun h_5 => ?_)
            · exact absurd rfl h_5
            · refine X_iconst (v := nI 0) dX0_readLine_72 (by decide) ?_
              exact X_zret (ty := .boolean) dX0_readLine_73 rfl (by decide) ⟨rfl, _, rfl, rfl, by rw [show lnR B n i0 c hx = .error (k2, p2) from by simp only [lnR, hN1, hN2]; exact if_neg (by omega)]; exact ⟨rfl, (show (up2 (up2 (up2 (up2 mi 2 2 (nI e1)) 2 2 (nI q2)) 2 3 (nI k2)) 2 4 (nI p2)) 2 3 = nI k2 by rw [up2_n (by omega), up2_s]), (show (up2 (up2 (up2 (up2 mi 2 2 (nI e1)) 2 2 (nI q2)) 2 3 (nI k2)) 2 4 (nI p2)) 2 4 = nI p2 by rw [up2_s]), (frBk_u (frBk_u (frBk_u (frBk_u hS.2.2.2.2.2 (by omega)) (by omega)) (by omega)) (by omega))⟩⟩
        | .ok (v2, e2) =>
          obtain ⟨hC2, he2, hi2, hl2, hv2⟩ := c_numOK Γ g (up2 mi 2 2 (nI e1)) ml hSh B n e1 hS1.1 0 hx (nI hx - nI 1) (by omega) (by omega) (hH_m hx8) hN2
          have hS2 := BST_at hS1 he2
          refine X_callVI dX0_readLine_42 mkX0_41 (k_2 hSh) (hC2) rfl rfl (by decide) (Nat.le_of_ble_eq_true rfl) ?_
          refine X_istore dX0_readLine_45 (by decide) ?_
          refine X_iload dX0_readLine_47 rfl ?_
          refine X_iconst (v := -1) dX0_readLine_49 (by decide) ?_
          refine X_icmp_ne 57 dX0_readLine_50 (by decide) (fun h_6 => ?_) (fun h_6 => ?_)
          · refine X_aload_n dX0_readLine_57 rfl ?_
            refine X_iconst (v := nI 0) dX0_readLine_58 (by decide) ?_
            refine X_bipush (v := nI 23) dX0_readLine_59 (by decide) ?_
            match hN3 : numR B n e2 0 24 with
            | .error (k3, p3) =>
              obtain ⟨q3, hq3, hC3⟩ := c_numE Γ g (up2 (up2 mi 2 2 (nI e1)) 2 2 (nI e2)) ml hSh B n e2 hS2.1 0 24 (nI 23) (by omega) (by omega) (hH_of (by omega)) hN3
              refine X_callVI dX0_readLine_61 mkX0_41 (k_2 hSh) (hC3) rfl rfl (by decide) (Nat.le_of_ble_eq_true rfl) ?_
              refine X_istore dX0_readLine_64 (by decide) ?_
              refine X_iload dX0_readLine_66 rfl ?_
              refine X_iconst (v := -1) dX0_readLine_68 (by decide) ?_
              refine X_icmp_ne 74 dX0_readLine_69 (by decide) (fun h_7 => ?_) (fun h_7 => ?_)
              · exact absurd rfl h_7
              · refine X_iconst (v := nI 0) dX0_readLine_72 (by decide) ?_
                exact X_zret (ty := .boolean) dX0_readLine_73 rfl (by decide) ⟨rfl, _, rfl, rfl, by rw [show lnR B n i0 c hx = .error (k3, p3) from by simp only [lnR, hN1, hN2, hN3]; exact if_neg (by omega)]; exact ⟨rfl, (show (up2 (up2 (up2 (up2 (up2 mi 2 2 (nI e1)) 2 2 (nI e2)) 2 2 (nI q3)) 2 3 (nI k3)) 2 4 (nI p3)) 2 3 = nI k3 by rw [up2_n (by omega), up2_s]), (show (up2 (up2 (up2 (up2 (up2 mi 2 2 (nI e1)) 2 2 (nI e2)) 2 2 (nI q3)) 2 3 (nI k3)) 2 4 (nI p3)) 2 4 = nI p3 by rw [up2_s]), (frBk_u (frBk_u (frBk_u (frBk_u (frBk_u hS.2.2.2.2.2 (by omega)) (by omega)) (by omega)) (by omega)) (by omega))⟩⟩
            | .ok (v3, e3) =>
              obtain ⟨hC3, he3, hi3, hl3, hv3⟩ := c_numOK Γ g (up2 (up2 mi 2 2 (nI e1)) 2 2 (nI e2)) ml hSh B n e2 hS2.1 0 24 (nI 23) (by omega) (by omega) (hH_of (by omega)) hN3
              have hS3 := BST_at hS2 he3
              refine X_callVI dX0_readLine_61 mkX0_41 (k_2 hSh) (hC3) rfl rfl (by decide) (Nat.le_of_ble_eq_true rfl) ?_
              refine X_istore dX0_readLine_64 (by decide) ?_
              refine X_iload dX0_readLine_66 rfl ?_
              refine X_iconst (v := -1) dX0_readLine_68 (by decide) ?_
              refine X_icmp_ne 74 dX0_readLine_69 (by decide) (fun h_8 => ?_) (fun h_8 => ?_)
              · refine X_aload_n dX0_readLine_74 rfl ?_
                refine X_getr (a := 26) dX0_readLine_75 fkX0_15 rfl (k_24 hSh) (r_24_1 hSh) ?_
                refine X_iload_n dX0_readLine_78 rfl ?_
                refine X_iconst (v := nI 3) dX0_readLine_79 (by decide) ?_
                refine X_imul dX0_readLine_80 ?_
                refine X_topi (pk_mul c 3) ?_
                refine X_iload dX0_readLine_81 rfl ?_
                refine X_iast (c * 3) dX0_readLine_83 (k_26 hSh) rfl (by omega) ?_
                refine X_aload_n dX0_readLine_84 rfl ?_
                refine X_getr (a := 26) dX0_readLine_85 fkX0_15 rfl (k_24 hSh) (r_24_1 hSh) ?_
                refine X_iload_n dX0_readLine_88 rfl ?_
                refine X_iconst (v := nI 3) dX0_readLine_89 (by decide) ?_
                refine X_imul dX0_readLine_90 ?_
                refine X_topi (pk_mul c 3) ?_
                refine X_iconst (v := nI 1) dX0_readLine_91 (by decide) ?_
                refine X_iadd dX0_readLine_92 ?_
                refine X_topi (nI_add (c * 3) 1) ?_
                refine X_iload dX0_readLine_93 rfl ?_
                refine X_iast ((c * 3) + 1) dX0_readLine_95 (k_26 hSh) rfl (by omega) ?_
                refine X_aload_n dX0_readLine_96 rfl ?_
                refine X_getr (a := 26) dX0_readLine_97 fkX0_15 rfl (k_24 hSh) (r_24_1 hSh) ?_
                refine X_iload_n dX0_readLine_100 rfl ?_
                refine X_iconst (v := nI 3) dX0_readLine_101 (by decide) ?_
                refine X_imul dX0_readLine_102 ?_
                refine X_topi (pk_mul c 3) ?_
                refine X_iconst (v := nI 2) dX0_readLine_103 (by decide) ?_
                refine X_iadd dX0_readLine_104 ?_
                refine X_topi (nI_add (c * 3) 2) ?_
                refine X_iload dX0_readLine_105 rfl ?_
                refine X_iast ((c * 3) + 2) dX0_readLine_107 (k_26 hSh) rfl (by omega) ?_
                refine X_aload_n dX0_readLine_108 rfl ?_
                refine X_bipush (v := nI 59) dX0_readLine_109 (by decide) ?_
                by_cases hs : byT B n (skT B n e3) = nI 59
                ·
                  have hTw : TXT (up2 (up2 (up2 (up2 (up2 (up2 mi 2 2 (nI e1)) 2 2 (nI e2)) 2 2 (nI e3)) 26 (c * 3) (nI v1)) 26 ((c * 3) + 1) (nI v2)) 26 ((c * 3) + 2) (nI v3)) B n e3 := TXT_row hS3.1 (by rw [up2_row (by omega), up2_row (by omega), up2_row (by omega)]) (by rw [up2_row (by omega), up2_row (by omega), up2_row (by omega)]) (by rw [up2_row (by omega), up2_row (by omega), up2_row (by omega)])
                  refine X_callVI dX0_readLine_111 mkX0_49 (k_2 hSh) (c_takeSign1 Γ g (up2 (up2 (up2 (up2 (up2 (up2 mi 2 2 (nI e1)) 2 2 (nI e2)) 2 2 (nI e3)) 26 (c * 3) (nI v1)) 26 ((c * 3) + 1) (nI v2)) 26 ((c * 3) + 2) (nI v3)) ml hSh B n e3 hTw (nI 59) hs) rfl rfl (by decide) (Nat.le_of_ble_eq_true rfl) ?_
                  exact X_zret (ty := .boolean) dX0_readLine_114 rfl (by decide) ⟨rfl, _, rfl, rfl, by rw [show lnR B n i0 c hx = .ok (skT B n e3 + 1, v1, v2, v3) from by simp only [lnR, hN1, hN2, hN3, sgR, hs, if_true]; exact if_neg (by omega)]; exact ⟨rfl, TXT_at hTw (by_lt hs), okBk_s hS.2.1 (by omega) hv1 hv2 hv3, fun k hk q hq => by rw [up2_row (by omega)]; exact adL_row hS3.2.2.1 k hk q hq, (show (up2 (up2 (up2 (up2 (up2 (up2 (up2 mi 2 2 (nI e1)) 2 2 (nI e2)) 2 2 (nI e3)) 26 (c * 3) (nI v1)) 26 ((c * 3) + 1) (nI v2)) 26 ((c * 3) + 2) (nI v3)) 2 2 (nI (skT B n e3 + 1))) 2 3 = m0 2 3 by rw [up2_n (by omega), up2_row (by omega), up2_row (by omega), up2_row (by omega), up2_n (by omega), up2_n (by omega), up2_n (by omega)]; exact hS.2.2.2.1), (show (up2 (up2 (up2 (up2 (up2 (up2 (up2 mi 2 2 (nI e1)) 2 2 (nI e2)) 2 2 (nI e3)) 26 (c * 3) (nI v1)) 26 ((c * 3) + 1) (nI v2)) 26 ((c * 3) + 2) (nI v3)) 2 2 (nI (skT B n e3 + 1))) 2 4 = m0 2 4 by rw [up2_n (by omega), up2_row (by omega), up2_row (by omega), up2_row (by omega), up2_n (by omega), up2_n (by omega), up2_n (by omega)]; exact hS.2.2.2.2.1), (frBk_u (frBk_u (frBk_u (frBk_u (frBk_u (frBk_u (frBk_u hS.2.2.2.2.2 (by omega)) (by omega)) (by omega)) (by omega)) (by omega)) (by omega)) (by omega))⟩⟩
                ·
                  have hTw : TXT (up2 (up2 (up2 (up2 (up2 (up2 mi 2 2 (nI e1)) 2 2 (nI e2)) 2 2 (nI e3)) 26 (c * 3) (nI v1)) 26 ((c * 3) + 1) (nI v2)) 26 ((c * 3) + 2) (nI v3)) B n e3 := TXT_row hS3.1 (by rw [up2_row (by omega), up2_row (by omega), up2_row (by omega)]) (by rw [up2_row (by omega), up2_row (by omega), up2_row (by omega)]) (by rw [up2_row (by omega), up2_row (by omega), up2_row (by omega)])
                  refine X_callVI dX0_readLine_111 mkX0_49 (k_2 hSh) (c_takeSign0 Γ g (up2 (up2 (up2 (up2 (up2 (up2 mi 2 2 (nI e1)) 2 2 (nI e2)) 2 2 (nI e3)) 26 (c * 3) (nI v1)) 26 ((c * 3) + 1) (nI v2)) 26 ((c * 3) + 2) (nI v3)) ml hSh B n e3 hTw (nI 59) hs) rfl rfl (by decide) (Nat.le_of_ble_eq_true rfl) ?_
                  exact X_zret (ty := .boolean) dX0_readLine_114 rfl (by decide) ⟨rfl, _, rfl, rfl, by rw [show lnR B n i0 c hx = .error (1, skT B n e3) from by simp only [lnR, hN1, hN2, hN3, sgR, hs, if_false]; exact if_neg (by omega)]; exact ⟨rfl, (show (up2 (up2 (up2 (up2 (up2 (up2 (up2 (up2 (up2 mi 2 2 (nI e1)) 2 2 (nI e2)) 2 2 (nI e3)) 26 (c * 3) (nI v1)) 26 ((c * 3) + 1) (nI v2)) 26 ((c * 3) + 2) (nI v3)) 2 2 (nI (skT B n e3))) 2 3 (nI 1)) 2 4 (nI (skT B n e3))) 2 3 = nI 1 by rw [up2_n (by omega), up2_s]), (show (up2 (up2 (up2 (up2 (up2 (up2 (up2 (up2 (up2 mi 2 2 (nI e1)) 2 2 (nI e2)) 2 2 (nI e3)) 26 (c * 3) (nI v1)) 26 ((c * 3) + 1) (nI v2)) 26 ((c * 3) + 2) (nI v3)) 2 2 (nI (skT B n e3))) 2 3 (nI 1)) 2 4 (nI (skT B n e3))) 2 4 = nI (skT B n e3) by rw [up2_s]), (frBk_u (frBk_u (frBk_u (frBk_u (frBk_u (frBk_u (frBk_u (frBk_u (frBk_u hS.2.2.2.2.2 (by omega)) (by omega)) (by omega)) (by omega)) (by omega)) (by omega)) (by omega)) (by omega)) (by omega))⟩⟩
              · exact absurd h_8 (nI_m1 (by omega))
          · exact absurd h_6 (nI_m1 (by omega))
      · refine X_aload_n dX0_readLine_29 rfl ?_
        refine X_iconst (v := nI 3) dX0_readLine_30 (by decide) ?_
        refine X_iload dX0_readLine_31 rfl ?_
        refine X_callVI dX0_readLine_33 mkX0_45 (k_2 hSh) (c_fail Γ g (up2 mi 2 2 (nI e1)) ml hSh (nI 3) (nI i0)) rfl rfl (by decide) (Nat.le_of_ble_eq_true rfl) ?_
        exact X_zret (ty := .boolean) dX0_readLine_36 rfl (by decide) ⟨rfl, _, rfl, rfl, by rw [show lnR B n i0 c hx = .error (3, i0) from by simp only [lnR, hN1]; exact if_pos (by omega)]; exact ⟨rfl, (show (up2 (up2 (up2 mi 2 2 (nI e1)) 2 3 (nI 3)) 2 4 (nI i0)) 2 3 = nI 3 by rw [up2_n (by omega), up2_s]), (show (up2 (up2 (up2 mi 2 2 (nI e1)) 2 3 (nI 3)) 2 4 (nI i0)) 2 4 = nI i0 by rw [up2_s]), (frBk_u (frBk_u (frBk_u hS.2.2.2.2.2 (by omega)) (by omega)) (by omega))⟩⟩
    · exact absurd h_2 (nI_m1 (by omega))
theorem ln12 {B : Nat → Int32} {n i c hx : Nat} (hc : 12 ≤ c) : ∃ e, lnR B n i c hx = .error e := by
  unfold lnR
  split
  · exact ⟨_, rfl⟩
  · rw [if_pos hc]; exact ⟨_, rfl⟩
theorem cpy0 {u v : Nat → Int32} {N j : Nat} (h : j < N) : va_cpy u v 0 0 N j = u j := by
  unfold va_cpy
  simp
  intro h2
  exact absurd h (by omega)
def frBr (m x : pMI) : Prop := ∀ i, i ≠ 2 → ¬ (24 ≤ i ∧ i ≤ 26) → x i = m i
def BRZ (m0 : pMI) (B : Nat → Int32) (n hx : Nat) (r : Except (Nat × Nat) (Nat × (Nat → Nat → Nat))) (v : Int32) (m : pMI) : Prop := match r with
  | .error (c, p) => v = nI 0 ∧ BER m0 m c p
  | .ok (c, bk) => v = nI 1 ∧ okBk hx c bk ∧ m 24 2 = nI c ∧ (∀ k, k < c → ∀ q, q < 3 → m 25 (k * 3 + q) = nI (bk k q)) ∧ m 2 3 = m0 2 3 ∧ m 2 4 = m0 2 4 ∧ frBr m0 m
set_option maxRecDepth 100000 in
set_option maxHeartbeats 4000000 in
theorem bkX (Γ : pTG) (g : pGG) (m0 : pMI) (B : Nat → Int32) (n hx : Nat) (hB : ∀ k, k < n → ¬ B k = -1) (hSh : Sh g) (hx8 : hx ≤ 8) : ∀ (f : Nat) (mi : pMI) (ml : pML) (i0 c : Nat) (bk : Nat → Nat → Nat), BST m0 mi B n hx i0 c bk → c + f = 13 → c ≤ 12 → XW Γ 5 0 0 mX0_read 2 [(3, .int (nI c)), (0, .ref 24), (1, .ref 2), (2, .int (nI hx))] [] g mi ml (qrI g (fun v m l => l = ml ∧ BRZ m0 B n hx (bkR B n hx f i0 c bk) v m))
  | 0, mi, ml, i0, c, bk, hS, hc, hc6 => absurd hc (by omega)
  | f + 1, mi, ml, i0, c, bk, hS, hc, hc6 => by
    have hS1 := BST_at hS (skT_le (B := B) hS.1.2.1)
    refine X_iload_n dX0_read_2 rfl ?_
    refine X_bipush (v := nI 12) dX0_read_3 (by decide) ?_
    refine X_icmp_gtN (a := c) (b := 12) 57 dX0_read_5 (by decide) (by omega) (by omega) (fun h_1 => ?_) (fun h_1 => ?_)
    · exact absurd h_1 (by omega)
    · refine X_aload_n dX0_read_8 rfl ?_
      refine X_callVI dX0_read_9 mkX0_22 (k_2 hSh) (c_peek Γ g mi ml hSh B n i0 hS.1.1 hS.1.2.1 hS.1.2.2.1 hS.1.2.2.2.1 hS.1.2.2.2.2) rfl rfl (by decide) (Nat.le_of_ble_eq_true rfl) ?_
      refine X_iconst (v := -1) dX0_read_12 (by decide) ?_
      refine X_icmp_ne 39 dX0_read_13 (by decide) (fun h_2 => ?_) (fun h_2 => ?_)
      · refine X_aload_n dX0_read_39 rfl ?_
        refine X_aload_n dX0_read_40 rfl ?_
        refine X_iload_n dX0_read_41 rfl ?_
        refine X_iload_n dX0_read_42 rfl ?_
        match hC : lnR B n (skT B n i0) c hx with
        | .error (c1, p1) =>
          refine X_callVrI dX0_read_43 mkX0_34 (k_24 hSh) (c_readLine Γ g _ ml hSh m0 B n (skT B n i0) c hx bk hS1 hx8 skT_sk) rfl rfl (by decide) (Nat.le_of_ble_eq_true rfl) (fun v1 m1 l1 hm1 => ?_)
          rw [hC] at hm1
          obtain ⟨hl1, rfl, hm1⟩ := hm1
          rw [hl1]
          refine X_if_neN (a := 0) 51 dX0_read_46 (by decide) (by omega) (fun h_3 => ?_) (fun h_3 => ?_)
          · exact absurd h_3 (by omega)
          · refine X_iconst (v := nI 0) dX0_read_49 (by decide) ?_
            exact X_zret (ty := .boolean) dX0_read_50 rfl (by decide) ⟨rfl, _, rfl, rfl, by rw [show bkR B n hx (f + 1) i0 c bk = .error (c1, p1) from (if_neg (fun q => absurd ((byT_end hB).mpr q) (by assumption))).trans (by simp only [hC])]; exact ⟨rfl, hm1⟩⟩
        | .ok (j1, d1, g1, h1) =>
          have hc12 : ¬ 12 ≤ c := fun q => by obtain ⟨e, he⟩ := ln12 (B := B) (n := n) (i := skT B n i0) (hx := hx) q; rw [he] at hC; cases hC
          refine X_callVrI dX0_read_43 mkX0_34 (k_24 hSh) (c_readLine Γ g _ ml hSh m0 B n (skT B n i0) c hx bk hS1 hx8 skT_sk) rfl rfl (by decide) (Nat.le_of_ble_eq_true rfl) (fun v1 m1 l1 hm1 => ?_)
          rw [hC] at hm1
          obtain ⟨hl1, rfl, hm1⟩ := hm1
          rw [hl1]
          refine X_if_neN (a := 1) 51 dX0_read_46 (by decide) (by omega) (fun h_4 => ?_) (fun h_4 => ?_)
          · refine X_iinc (v := nI (c + 1)) dX0_read_51 rfl (nI_1 _) (by decide) ?_
            refine X_goto 2 dX0_read_54 (by decide) ?_
            refine X_L [(3, .int (nI (c + 1))), (0, .ref 24), (1, .ref 2), (2, .int (nI hx))] ⟨rfl, rfl, rfl, rfl, trivial⟩ ?_
            have hz := bkX Γ g m0 B n hx hB hSh hx8 f m1 ml j1 (c + 1) (adL bk c d1 g1 h1) hm1 (by omega) (by omega)
            rw [show bkR B n hx (f + 1) i0 c bk = bkR B n hx f j1 (c + 1) (adL bk c d1 g1 h1) from (if_neg (fun q => absurd ((byT_end hB).mpr q) (by assumption))).trans (by simp only [hC])]
            exact hz
          · exact absurd h_4 (by omega)
      · refine X_aload_n dX0_read_16 rfl ?_
        refine X_getr (a := 26) dX0_read_17 fkX0_15 rfl (k_24 hSh) (r_24_1 hSh) ?_
        refine X_iconst (v := nI 0) dX0_read_20 (by decide) ?_
        refine X_aload_n dX0_read_21 rfl ?_
        refine X_getr (a := 25) dX0_read_22 fkX0_11 rfl (k_24 hSh) (r_24_0 hSh) ?_
        refine X_iconst (v := nI 0) dX0_read_25 (by decide) ?_
        refine X_iload_n dX0_read_26 rfl ?_
        refine X_iconst (v := nI 3) dX0_read_27 (by decide) ?_
        refine X_imul dX0_read_28 ?_
        refine X_topi (pk_mul c 3) ?_
        refine X_copy 0 0 (c * 3) dX0_read_29 mkX0_28 (k_26 hSh) (k_25 hSh) rfl rfl rfl (by omega) (by omega) (by decide) (by decide) ?_
        refine X_aload_n dX0_read_32 rfl ?_
        refine X_iload_n dX0_read_33 rfl ?_
        refine X_puti dX0_read_34 fkX0_18 rfl rfl (k_24 hSh) ?_
        refine X_iconst (v := nI 1) dX0_read_37 (by decide) ?_
        exact X_zret (ty := .boolean) dX0_read_38 rfl (by decide) ⟨rfl, _, rfl, rfl, by rw [show bkR B n hx (f + 1) i0 c bk = .ok (c, bk) from if_pos ((byT_end hB).mp (by assumption))]; exact ⟨rfl, hS.2.1, up2_s, fun k hk q hq => by rw [up2_row (by omega)]; show (if 25 = 25 then _ else _) = _; rw [if_pos rfl, cpy0 (by omega)]; exact hS1.2.2.1 k hk q hq, hS1.2.2.2.1, hS1.2.2.2.2.1, fun i h1 h2 => by rw [up2_row (by omega)]; exact (funext fun j => if_neg (by omega)).trans (hS1.2.2.2.2.2 i h1 (by omega))⟩⟩
set_option maxRecDepth 100000 in
set_option maxHeartbeats 4000000 in
theorem c_Bread (Γ : pTG) (g : pGG) (mi : pMI) (ml : pML) (hSh : Sh g) (B : Nat → Int32) (n i0 hx : Nat) (hx8 : hx ≤ 8) (hB : ∀ k, k < n → ¬ B k = -1) (hT : TXT mi B n i0) : rI Γ 5 mX0_read [.ref 24, .ref 2, .int (nI hx)] g mi ml (fun v m l => l = ml ∧ BRZ mi B n hx (bkR B n hx 13 i0 0 (fun _ _ => 0)) v m) := by
  refine rI_of (by decide +kernel) (Nat.le_of_ble_eq_true rfl) ?_
  refine X_iconst (v := nI 0) dX0_read_0 (by decide) ?_
  refine X_istore_n dX0_read_1 (by decide) ?_
  refine X_L [(3, .int (nI 0)), (0, .ref 24), (1, .ref 2), (2, .int (nI hx))] ⟨rfl, rfl, rfl, rfl, trivial⟩ ?_
  exact bkX Γ g mi B n hx hB hSh hx8 13 mi ml i0 0 (fun _ _ => 0) ⟨hT, ⟨by decide, fun k hk => absurd hk (by omega)⟩, fun k hk => absurd hk (by omega), rfl, rfl, fun _ _ _ => rfl⟩ (by decide) (by decide)

/-! ===== habits read ===== -/
def frHd (m x : pMI) : Prop := ∀ i, i ≠ 2 → i ≠ 22 → i ≠ 23 → x i = m i
theorem frHd_u {m x : pMI} {a j : Nat} {v : Int32} (h : frHd m x) (ha : a = 2 ∨ a = 22 ∨ a = 23) : frHd m (up2 x a j v) := fun i h1 h2 h3 => by rw [up2_row (by omega)]; exact h i h1 h2 h3
def HST (m0 m : pMI) (B : Nat → Int32) (n i : Nat) (T : List Tok) (a : Bool) : Prop := TXT m B n i ∧ n ≤ 150 ∧ m 22 1 = nI T.length ∧ (∀ j, j < T.length → m 23 j = nI (scd (T.getD j (0, 0)))) ∧ m 22 2 = bI a ∧ T.length ≤ i ∧ m 2 3 = m0 2 3 ∧ m 2 4 = m0 2 4 ∧ frHd m0 m
def HER (m0 m : pMI) (k p : Nat) : Prop := m 2 3 = nI k ∧ m 2 4 = nI p ∧ (∃ s, s ≤ 150 ∧ m 22 1 = nI s) ∧ frHd m0 m
def HRS (m0 : pMI) (B : Nat → Int32) (n : Nat) (T : List Tok) (a : Bool) (r : hRs) (v : Int32) (m : pMI) : Prop := match r with
  | .error (k, p) => v = nI 0 ∧ HER m0 m k p
  | .ok (e, t, b) => v = nI 1 ∧ HST m0 m B n e (T ++ t) (a || b)
theorem HRS_b {m0 m : pMI} {B : Nat → Int32} {n : Nat} {T : List Tok} {a : Bool} {r : hRs} {v : Int32} (h : HRS m0 B n T a r v m) : narrow .boolean (.int v) = .int v := by
  unfold HRS at h
  split at h
  · rw [h.1]; decide
  · rw [h.1]; decide
theorem HST_at {m0 m : pMI} {B : Nat → Int32} {n i j : Nat} {T : List Tok} {a : Bool} (h : HST m0 m B n i T a) (hj : j ≤ n) (hij : i ≤ j) : HST m0 (up2 m 2 2 (nI j)) B n j T a := ⟨TXT_at h.1 hj, h.2.1, by rw [up2_row (by omega)]; exact h.2.2.1, fun k hk => by rw [up2_row (by omega)]; exact h.2.2.2.1 k hk, by rw [up2_row (by omega)]; exact h.2.2.2.2.1, Nat.le_trans h.2.2.2.2.2.1 hij, (up2_n (by omega)).trans h.2.2.2.2.2.2.1, (up2_n (by omega)).trans h.2.2.2.2.2.2.2.1, frHd_u h.2.2.2.2.2.2.2.2 (by omega)⟩
theorem HST_eq {m0 m : pMI} {B : Nat → Int32} {n i : Nat} {T T' : List Tok} {a a' : Bool} (h : HST m0 m B n i T a) (h1 : T = T') (h2 : a = a') : HST m0 m B n i T' a' := by rw [← h1, ← h2]; exact h
theorem getD_app {T : List Tok} {t : Tok} {j : Nat} (h : j < T.length + 1) : (T ++ [t]).getD j (0, 0) = if j < T.length then T.getD j (0, 0) else t := by
  by_cases q : j < T.length
  · rw [if_pos q, List.getD_eq_getElem?_getD, List.getD_eq_getElem?_getD, List.getElem?_append_left q]
  · rw [if_neg q, show j = T.length by omega, List.getD_eq_getElem?_getD, List.getElem?_append_right (Nat.le_refl _), Nat.sub_self]; rfl
theorem HST_put {m0 m : pMI} {B : Nat → Int32} {n i : Nat} {T : List Tok} {a : Bool} {t : Tok} {v : Int32} (h : HST m0 m B n i T a) (hl : T.length + 1 ≤ i) (hv : v = nI (scd t)) : HST m0 (up2 (up2 m 23 T.length v) 22 1 (nI (T.length + 1))) B n i (T ++ [t]) a := by
  subst hv
  obtain ⟨h1, h2, h3, h4, h5, h6, h7, h8, h9⟩ := h
  refine ⟨TXT_row h1 (by rw [up2_row (by omega), up2_row (by omega)]) (by rw [up2_row (by omega), up2_row (by omega)]) (by rw [up2_row (by omega), up2_row (by omega)]), h2, ?_, fun j hj => ?_, ?_, ?_, ?_, ?_, frHd_u (frHd_u h9 (by omega)) (by omega)⟩
  · rw [List.length_append, List.length_singleton]; exact up2_s
  · rw [List.length_append, List.length_singleton] at hj
    rw [up2_row (by omega), getD_app hj]
    by_cases q : j < T.length
    · rw [if_pos q, up2_n (by omega)]; exact h4 j q
    · rw [if_neg q, show j = T.length by omega]; exact up2_s
  · rw [up2_n (by omega), up2_row (by omega)]; exact h5
  · rw [List.length_append, List.length_singleton]; exact hl
  · rw [up2_row (by omega), up2_row (by omega)]; exact h7
  · rw [up2_row (by omega), up2_row (by omega)]; exact h8
theorem HST_ask {m0 m : pMI} {B : Nat → Int32} {n i : Nat} {T : List Tok} {a b : Bool} {v : Int32} (h : HST m0 m B n i T a) (hv : v = bI b) : HST m0 (up2 m 22 2 v) B n i T b := by
  obtain ⟨h1, h2, h3, h4, h5, h6, h7, h8, h9⟩ := h
  exact ⟨TXT_row h1 (by rw [up2_row (by omega)]) (by rw [up2_row (by omega)]) (by rw [up2_row (by omega)]), h2, (up2_n (by omega)).trans h3, fun j hj => by rw [up2_row (by omega)]; exact h4 j hj, up2_s.trans hv, h6, by rw [up2_row (by omega)]; exact h7, by rw [up2_row (by omega)]; exact h8, frHd_u h9 (by omega)⟩
theorem HER_of {m0 m x : pMI} {B : Nat → Int32} {n i k p : Nat} {T : List Tok} {a : Bool} (h : HST m0 m B n i T a) (hx : ∀ i, i ≠ 2 → x i = m i) (h3 : x 2 3 = nI k) (h4 : x 2 4 = nI p) : HER m0 x k p := ⟨h3, h4, ⟨T.length, by have := h.2.1; have := h.2.2.2.2.2.1; have := h.1.2.1; omega, by rw [hx 22 (by omega)]; exact h.2.2.1⟩, fun i a1 a2 a3 => (hx i a1).trans (h.2.2.2.2.2.2.2.2 i a1 a2 a3)⟩
theorem jnL_s {U : hFn} {O : Int32 → Option Nat} {B : Nat → Int32} {n f i op e : Nat} {t t2 : List Tok} {a a2 : Bool} (hO : O (byT B n (skT B n i)) = some op) (hU : U (skT B n i + 1) = .ok (e, t2, a2)) : jnL U O B n (f + 1) i t a = jnL U O B n f e (t ++ (t2 ++ [(op, 0)])) (a || a2) := by
  show (match O (byT B n (skT B n i)) with | none => _ | some op => _) = _
  rw [hO]
  show bS (U (skT B n i + 1)) _ = _
  rw [hU]
  rfl
theorem numR_sk {B : Nat → Int32} {n i lo hx : Nat} : numR B n (skT B n i) lo hx = numR B n i lo hx := by unfold numR; rw [skT_sk]
def HC (Γ : pTG) (g : pGG) (ml : pML) (B : Nat → Int32) (n D : Nat) (M : pMD) (op : Nat) (U : hFn) : Prop := ∀ (m0 mi : pMI) (i : Nat) (T : List Tok) (a : Bool), HST m0 mi B n i T a → rI Γ D M [.ref 22, .int (nI op)] g mi ml (fun v m l => l = ml ∧ HRS m0 B n T a (U i) v m)
theorem CT_q {Γ : pTG} {d k n : Nat} {M : pMD} {as : List Value} {g : pGG} {mi : pMI} {ml : pML} {Q Q' : pQ} (h : CT Γ d k n M as g mi ml Q) (hQ : ∀ o g m l, Q o g m l → Q' o g m l) : CT Γ d k n M as g mi ml Q' := by
  intro ad hok p e ha hc hk s m args below hf happ hP ht
  obtain ⟨n0, o, h1, h2, h3, hq⟩ := h ad hok p e ha hc hk s m args below hf happ hP ht
  refine ⟨n0, o, h1, h2, h3, ?_⟩
  rcases hq with ⟨⟨⟨v, g', mi', ml', ad', b1, b2, b3⟩, b4⟩, b5⟩ | ⟨q, b0, E, ce, L, ⟨⟨g', mi', ml', ad', b2, b3⟩, b4⟩, b5⟩
  · exact Or.inl ⟨⟨⟨v, g', mi', ml', ad', b1, hQ _ _ _ _ b2, b3⟩, b4⟩, b5⟩
  · exact Or.inr ⟨q, b0, E, ce, L, ⟨⟨g', mi', ml', ad', hQ _ _ _ _ b2, b3⟩, b4⟩, b5⟩
theorem rV_w {Γ : pTG} {d : Nat} {M : pMD} {as : List Value} {g : pGG} {mi : pMI} {ml : pML} {R R' : pMI → pML → Prop} (h : rV Γ d M as g mi ml R) (hR : ∀ m l, R m l → R' m l) : rV Γ d M as g mi ml R' := CT_q h (fun o g' m l q => ⟨q.1, q.2.1, hR m l q.2.2⟩)
set_option maxRecDepth 100000 in
set_option maxHeartbeats 4000000 in
theorem c_put (Γ : pTG) (g : pGG) (mi : pMI) (ml : pML) (hSh : Sh g) (s : Nat) (hs : mi 22 1 = nI s) (h15 : s < 150) (v : Int32) : cV Γ 1 mX5_put [.ref 22, .int v] g mi ml (up2 (up2 mi 23 s v) 22 1 (nI (s + 1))) ml := by
  refine cV_of (by decide +kernel) (Nat.le_of_ble_eq_true rfl) ?_
  refine X_aload_n dX5_put_0 rfl ?_
  refine X_geti dX5_put_1 fkX5_19 rfl (k_22 hSh) ?_
  rw [hs]
  refine X_aload_n dX5_put_4 rfl ?_
  refine X_getr (a := 23) dX5_put_5 fkX5_9 rfl (k_22 hSh) (r_22_0 hSh) ?_
  refine X_alen (len := 150) dX5_put_8 (k_23 hSh) (by decide) ?_
  refine X_icmp_geN (a := s) (b := 150) 32 dX5_put_9 (by decide) (by omega) (by omega) (fun h_1 => ?_) (fun h_1 => ?_)
  · exact absurd h_1 (by omega)
  · refine X_aload_n dX5_put_12 rfl ?_
    refine X_getr (a := 23) dX5_put_13 fkX5_9 rfl (k_22 hSh) (r_22_0 hSh) ?_
    refine X_aload_n dX5_put_16 rfl ?_
    refine X_geti dX5_put_17 fkX5_19 rfl (k_22 hSh) ?_
    rw [hs]
    refine X_iload_n dX5_put_20 rfl ?_
    refine X_iast s dX5_put_21 (k_23 hSh) rfl (by omega) ?_
    refine X_aload_n dX5_put_22 rfl ?_
    refine X_dup dX5_put_23 rfl ?_
    refine X_geti dX5_put_24 fkX5_19 rfl (k_22 hSh) ?_
    refine X_topi (show (up2 mi 23 s v) 22 1 = nI s by rw [up2_row (by omega)]; exact hs) ?_
    refine X_iconst (v := nI 1) dX5_put_27 (by decide) ?_
    refine X_iadd dX5_put_28 ?_
    refine X_topi (nI_add s 1) ?_
    refine X_puti dX5_put_29 fkX5_19 rfl rfl (k_22 hSh) ?_
    exact X_vret dX5_put_32 rfl ⟨rfl, rfl, rfl, rfl⟩
set_option maxRecDepth 100000 in
set_option maxHeartbeats 4000000 in
theorem c_putF (Γ : pTG) (g : pGG) (mi : pMI) (ml : pML) (hSh : Sh g) (hs : mi 22 1 = nI 150) (v : Int32) : cV Γ 1 mX5_put [.ref 22, .int v] g mi ml mi ml := by
  refine cV_of (by decide +kernel) (Nat.le_of_ble_eq_true rfl) ?_
  refine X_aload_n dX5_put_0 rfl ?_
  refine X_geti dX5_put_1 fkX5_19 rfl (k_22 hSh) ?_
  rw [hs]
  refine X_aload_n dX5_put_4 rfl ?_
  refine X_getr (a := 23) dX5_put_5 fkX5_9 rfl (k_22 hSh) (r_22_0 hSh) ?_
  refine X_alen (len := 150) dX5_put_8 (k_23 hSh) (by decide) ?_
  refine X_icmp_geN (a := 150) (b := 150) 32 dX5_put_9 (by decide) (by omega) (by omega) (fun h_1 => ?_) (fun h_1 => ?_)
  · exact X_vret dX5_put_32 rfl ⟨rfl, rfl, rfl, rfl⟩
  · exact absurd h_1 (by omega)
theorem c_putE (Γ : pTG) (g : pGG) (mi : pMI) (ml : pML) (hSh : Sh g) {m0 : pMI} {k p : Nat} (h : HER m0 mi k p) (v : Int32) : rV Γ 1 mX5_put [.ref 22, .int v] g mi ml (fun m l => HER m0 m k p ∧ l = ml) := by
  obtain ⟨h1, h2, ⟨s, hs, h3⟩, h4⟩ := h
  by_cases q : s < 150
  · have z := rV_c (c_put Γ g mi ml hSh s h3 q v)
    exact rV_w z (fun m l hm => by obtain ⟨rfl, rfl⟩ := hm; exact ⟨⟨by rw [up2_row (by omega), up2_row (by omega)]; exact h1, by rw [up2_row (by omega), up2_row (by omega)]; exact h2, ⟨s + 1, by omega, up2_s⟩, frHd_u (frHd_u h4 (by omega)) (by omega)⟩, rfl⟩)
  · have e : s = 150 := by omega
    subst e
    exact rV_w (rV_c (c_putF Γ g mi ml hSh h3 v)) (fun m l hm => by obtain ⟨rfl, rfl⟩ := hm; exact ⟨⟨h1, h2, ⟨150, by omega, h3⟩, h4⟩, rfl⟩)
set_option maxRecDepth 100000 in
set_option maxHeartbeats 4000000 in
theorem hc_prodL (Γ : pTG) (g : pGG) (ml : pML) (hSh : Sh g) (B : Nat → Int32) (n : Nat) (D op : Nat) (hD : 10 ≤ D) (U : hFn) (hU : HC Γ g ml B n D mX5_readUnit op U) (hUO : UOK n U) (m0 : pMI) (T : List Tok) (a : Bool) : ∀ (f : Nat) (mi : pMI) (i : Nat) (t : List Tok) (b : Bool) (j : Nat), HST m0 mi B n i (T ++ t) (a || b) → n < i + f → j < i → XW Γ (D + 1) 0 0 mX5_readProduct 8 [(2, .int (nI 1)), (3, .int (nI j)), (0, .ref 22), (1, .int (nI op))] [] g mi ml (qrI g (fun v m l => l = ml ∧ HRS m0 B n T a (jnL U tmO B n f i t b) v m))
  | 0, mi, i, t, b, j, hS, hf, hj => absurd hf (by have := hS.1.2.1; omega)
  | f + 1, mi, i, t, b, j, hS, hf, hj => by
    have hs1 := skT_le (B := B) hS.1.2.1
    have hs2 := skT_ge (B := B) (n := n) (i := i)
    have hn15 := hS.2.1
    have hin := hS.1.2.1
    by_cases q0 : byT B n (skT B n i) = nI 42
    · have hO : tmO (byT B n (skT B n i)) = some 4 := if_pos q0
      have hlt := by_lt q0
      refine X_iload_n dX5_readProduct_8 rfl ?_
      refine X_if_eqN (a := 1) 109 dX5_readProduct_9 (by decide) (by omega) (fun h_1 => ?_) (fun h_1 => ?_)
      · exact absurd h_1 (by omega)
      · refine X_iload_n dX5_readProduct_12 rfl ?_
        refine X_sipush (v := nI 150) dX5_readProduct_13 (by decide) ?_
        refine X_icmp_geN (a := j) (b := 150) 109 dX5_readProduct_16 (by decide) (by omega) (by omega) (fun h_2 => ?_) (fun h_2 => ?_)
        · exact absurd h_2 (by omega)
        · refine X_aload_n dX5_readProduct_19 rfl ?_
          refine X_getr (a := 2) dX5_readProduct_20 fkX5_15 rfl (k_22 hSh) (r_22_3 hSh) ?_
          refine X_callVI dX5_readProduct_23 mkX5_31 (k_2 hSh) (c_peek Γ g mi ml hSh B n i hS.1.1 hS.1.2.1 hS.1.2.2.1 hS.1.2.2.2.1 hS.1.2.2.2.2) rfl rfl (by omega) (Nat.le_of_ble_eq_true rfl) ?_
          refine X_istore dX5_readProduct_26 (by decide) ?_
          refine X_iload dX5_readProduct_28 rfl ?_
          refine X_bipush (v := nI 42) dX5_readProduct_30 (by decide) ?_
          refine X_icmp_eq 51 dX5_readProduct_32 (by decide) (fun h_3 => ?_) (fun h_3 => ?_)
          · refine X_aload_n dX5_readProduct_51 rfl ?_
            refine X_getr (a := 2) dX5_readProduct_52 fkX5_15 rfl (k_22 hSh) (r_22_3 hSh) ?_
            refine X_dup dX5_readProduct_55 rfl ?_
            refine X_geti dX5_readProduct_56 fkX5_37 rfl (k_2 hSh) ?_
            rw [up2_s]
            refine X_iconst (v := nI 1) dX5_readProduct_59 (by decide) ?_
            refine X_iadd dX5_readProduct_60 ?_
            refine X_topi (nI_add (skT B n i) 1) ?_
            refine X_puti dX5_readProduct_61 fkX5_37 rfl rfl (k_2 hSh) ?_
            refine X_mi up2_up2 ?_
            refine X_aload_n dX5_readProduct_64 rfl ?_
            refine X_iload_n dX5_readProduct_65 rfl ?_
            match hUr : U (skT B n i + 1) with
            | .error (k1, p1) =>
              refine X_callVrI dX5_readProduct_66 mkX5_53 (k_22 hSh) (hU m0 _ (skT B n i + 1) (T ++ t) (a || b) (HST_at hS hlt (by omega))) rfl rfl (by omega) (Nat.le_of_ble_eq_true rfl) (fun v1 m1 l1 hm1 => ?_)
              rw [hUr] at hm1
              obtain ⟨hl1, rfl, hm1⟩ := hm1
              rw [hl1]
              refine X_istore_n dX5_readProduct_69 (by decide) ?_
              refine X_aload_n dX5_readProduct_70 rfl ?_
              refine X_iload dX5_readProduct_71 rfl ?_
              refine X_bipush (v := nI 42) dX5_readProduct_73 (by decide) ?_
              refine X_icmp_ne 84 dX5_readProduct_75 (by decide) (fun h_4 => ?_) (fun h_4 => ?_)
              · exact absurd q0 h_4
              · refine X_sipush (v := nI 202) dX5_readProduct_78 (by decide) ?_
                refine X_goto 100 dX5_readProduct_81 (by decide) ?_
                refine X_callVrV dX5_readProduct_100 mkX5_49 (k_22 hSh) (c_putE Γ g m1 ml hSh hm1 (nI 202)) rfl rfl (by omega) (Nat.le_of_ble_eq_true rfl) (fun m2 l2 hm2 => ?_)
                obtain ⟨hm2, hl2⟩ := hm2
                rw [hl2]
                refine X_iinc (v := nI (j + 1)) dX5_readProduct_103 rfl (nI_1 _) (by decide) ?_
                refine X_goto 8 dX5_readProduct_106 (by decide) ?_
                refine X_iload_n dX5_readProduct_8 rfl ?_
                refine X_if_eqN (a := 0) 109 dX5_readProduct_9 (by decide) (by omega) (fun h_5 => ?_) (fun h_5 => ?_)
                · refine X_iload_n dX5_readProduct_109 rfl ?_
                  exact X_zret (ty := .boolean) dX5_readProduct_110 rfl (by decide) ⟨rfl, _, rfl, rfl, by rw [show jnL U tmO B n (f + 1) i t b = .error (k1, p1) from by unfold jnL; rw [hO]; dsimp only; rw [hUr]; rfl]; exact ⟨rfl, hm2⟩⟩
                · exact absurd h_5 (by omega)
            | .ok (e1, t1, b1) =>
              obtain ⟨hb1, hb2, hb3⟩ := (hUO (skT B n i + 1) hlt).1 e1 t1 b1 hUr
              refine X_callVrI dX5_readProduct_66 mkX5_53 (k_22 hSh) (hU m0 _ (skT B n i + 1) (T ++ t) (a || b) (HST_at hS hlt (by omega))) rfl rfl (by omega) (Nat.le_of_ble_eq_true rfl) (fun v1 m1 l1 hm1 => ?_)
              rw [hUr] at hm1
              obtain ⟨hl1, rfl, hm1⟩ := hm1
              rw [hl1]
              have hln := hm1.2.2.1
              have hle : ((T ++ t) ++ t1).length + 1 ≤ e1 := by rw [List.length_append]; have := hS.2.2.2.2.2.1; omega
              have he15 := hm1.2.1
              refine X_istore_n dX5_readProduct_69 (by decide) ?_
              refine X_aload_n dX5_readProduct_70 rfl ?_
              refine X_iload dX5_readProduct_71 rfl ?_
              refine X_bipush (v := nI 42) dX5_readProduct_73 (by decide) ?_
              refine X_icmp_ne 84 dX5_readProduct_75 (by decide) (fun h_6 => ?_) (fun h_6 => ?_)
              · exact absurd q0 h_6
              · refine X_sipush (v := nI 202) dX5_readProduct_78 (by decide) ?_
                refine X_goto 100 dX5_readProduct_81 (by decide) ?_
                have hp2 := HST_put (t := (4, 0)) (v := nI 202) hm1 hle rfl
                refine X_callVV dX5_readProduct_100 mkX5_49 (k_22 hSh) (c_put Γ g m1 ml hSh _ hln (by omega) (nI 202)) rfl rfl (by omega) (Nat.le_of_ble_eq_true rfl) ?_
                refine X_iinc (v := nI (j + 1)) dX5_readProduct_103 rfl (nI_1 _) (by decide) ?_
                refine X_goto 8 dX5_readProduct_106 (by decide) ?_
                refine X_L [(2, .int (nI 1)), (3, .int (nI (j + 1))), (0, .ref 22), (1, .int (nI op))] ⟨rfl, rfl, rfl, rfl, trivial⟩ ?_
                have hz := hc_prodL Γ g ml hSh B n D op hD U hU hUO m0 T a f _ e1 (t ++ (t1 ++ [(4, 0)])) (b || b1) (j + 1) (HST_eq hp2 (by simp [List.append_assoc]) (Bool.or_assoc _ _ _)) (by omega) (by omega)
                rw [show jnL U tmO B n (f + 1) i t b = jnL U tmO B n f e1 (t ++ (t1 ++ [(4, 0)])) (b || b1) from jnL_s hO hUr]
                exact hz
          · exact absurd q0 h_3
    by_cases q1 : byT B n (skT B n i) = nI 47
    · have hO : tmO (byT B n (skT B n i)) = some 5 := (if_neg q0).trans (if_pos q1)
      have hlt := by_lt q1
      refine X_iload_n dX5_readProduct_8 rfl ?_
      refine X_if_eqN (a := 1) 109 dX5_readProduct_9 (by decide) (by omega) (fun h_7 => ?_) (fun h_7 => ?_)
      · exact absurd h_7 (by omega)
      · refine X_iload_n dX5_readProduct_12 rfl ?_
        refine X_sipush (v := nI 150) dX5_readProduct_13 (by decide) ?_
        refine X_icmp_geN (a := j) (b := 150) 109 dX5_readProduct_16 (by decide) (by omega) (by omega) (fun h_8 => ?_) (fun h_8 => ?_)
        · exact absurd h_8 (by omega)
        · refine X_aload_n dX5_readProduct_19 rfl ?_
          refine X_getr (a := 2) dX5_readProduct_20 fkX5_15 rfl (k_22 hSh) (r_22_3 hSh) ?_
          refine X_callVI dX5_readProduct_23 mkX5_31 (k_2 hSh) (c_peek Γ g mi ml hSh B n i hS.1.1 hS.1.2.1 hS.1.2.2.1 hS.1.2.2.2.1 hS.1.2.2.2.2) rfl rfl (by omega) (Nat.le_of_ble_eq_true rfl) ?_
          refine X_istore dX5_readProduct_26 (by decide) ?_
          refine X_iload dX5_readProduct_28 rfl ?_
          refine X_bipush (v := nI 42) dX5_readProduct_30 (by decide) ?_
          refine X_icmp_eq 51 dX5_readProduct_32 (by decide) (fun h_9 => ?_) (fun h_9 => ?_)
          · exact absurd h_9 q0
          · refine X_iload dX5_readProduct_35 rfl ?_
            refine X_bipush (v := nI 47) dX5_readProduct_37 (by decide) ?_
            refine X_icmp_eq 51 dX5_readProduct_39 (by decide) (fun h_10 => ?_) (fun h_10 => ?_)
            · refine X_aload_n dX5_readProduct_51 rfl ?_
              refine X_getr (a := 2) dX5_readProduct_52 fkX5_15 rfl (k_22 hSh) (r_22_3 hSh) ?_
              refine X_dup dX5_readProduct_55 rfl ?_
              refine X_geti dX5_readProduct_56 fkX5_37 rfl (k_2 hSh) ?_
              rw [up2_s]
              refine X_iconst (v := nI 1) dX5_readProduct_59 (by decide) ?_
              refine X_iadd dX5_readProduct_60 ?_
              refine X_topi (nI_add (skT B n i) 1) ?_
              refine X_puti dX5_readProduct_61 fkX5_37 rfl rfl (k_2 hSh) ?_
              refine X_mi up2_up2 ?_
              refine X_aload_n dX5_readProduct_64 rfl ?_
              refine X_iload_n dX5_readProduct_65 rfl ?_
              match hUr : U (skT B n i + 1) with
              | .error (k1, p1) =>
                refine X_callVrI dX5_readProduct_66 mkX5_53 (k_22 hSh) (hU m0 _ (skT B n i + 1) (T ++ t) (a || b) (HST_at hS hlt (by omega))) rfl rfl (by omega) (Nat.le_of_ble_eq_true rfl) (fun v1 m1 l1 hm1 => ?_)
                rw [hUr] at hm1
                obtain ⟨hl1, rfl, hm1⟩ := hm1
                rw [hl1]
                refine X_istore_n dX5_readProduct_69 (by decide) ?_
                refine X_aload_n dX5_readProduct_70 rfl ?_
                refine X_iload dX5_readProduct_71 rfl ?_
                refine X_bipush (v := nI 42) dX5_readProduct_73 (by decide) ?_
                refine X_icmp_ne 84 dX5_readProduct_75 (by decide) (fun h_11 => ?_) (fun h_11 => ?_)
                · refine X_iload dX5_readProduct_84 rfl ?_
                  refine X_bipush (v := nI 47) dX5_readProduct_86 (by decide) ?_
                  refine X_icmp_ne 97 dX5_readProduct_88 (by decide) (fun h_12 => ?_) (fun h_12 => ?_)
                  · exact absurd q1 h_12
                  · refine X_sipush (v := nI 203) dX5_readProduct_91 (by decide) ?_
                    refine X_goto 100 dX5_readProduct_94 (by decide) ?_
                    refine X_callVrV dX5_readProduct_100 mkX5_49 (k_22 hSh) (c_putE Γ g m1 ml hSh hm1 (nI 203)) rfl rfl (by omega) (Nat.le_of_ble_eq_true rfl) (fun m2 l2 hm2 => ?_)
                    obtain ⟨hm2, hl2⟩ := hm2
                    rw [hl2]
                    refine X_iinc (v := nI (j + 1)) dX5_readProduct_103 rfl (nI_1 _) (by decide) ?_
                    refine X_goto 8 dX5_readProduct_106 (by decide) ?_
                    refine X_iload_n dX5_readProduct_8 rfl ?_
                    refine X_if_eqN (a := 0) 109 dX5_readProduct_9 (by decide) (by omega) (fun h_13 => ?_) (fun h_13 => ?_)
                    · refine X_iload_n dX5_readProduct_109 rfl ?_
                      exact X_zret (ty := .boolean) dX5_readProduct_110 rfl (by decide) ⟨rfl, _, rfl, rfl, by rw [show jnL U tmO B n (f + 1) i t b = .error (k1, p1) from by unfold jnL; rw [hO]; dsimp only; rw [hUr]; rfl]; exact ⟨rfl, hm2⟩⟩
                    · exact absurd h_13 (by omega)
                · exact absurd h_11 q0
              | .ok (e1, t1, b1) =>
                obtain ⟨hb1, hb2, hb3⟩ := (hUO (skT B n i + 1) hlt).1 e1 t1 b1 hUr
                refine X_callVrI dX5_readProduct_66 mkX5_53 (k_22 hSh) (hU m0 _ (skT B n i + 1) (T ++ t) (a || b) (HST_at hS hlt (by omega))) rfl rfl (by omega) (Nat.le_of_ble_eq_true rfl) (fun v1 m1 l1 hm1 => ?_)
                rw [hUr] at hm1
                obtain ⟨hl1, rfl, hm1⟩ := hm1
                rw [hl1]
                have hln := hm1.2.2.1
                have hle : ((T ++ t) ++ t1).length + 1 ≤ e1 := by rw [List.length_append]; have := hS.2.2.2.2.2.1; omega
                have he15 := hm1.2.1
                refine X_istore_n dX5_readProduct_69 (by decide) ?_
                refine X_aload_n dX5_readProduct_70 rfl ?_
                refine X_iload dX5_readProduct_71 rfl ?_
                refine X_bipush (v := nI 42) dX5_readProduct_73 (by decide) ?_
                refine X_icmp_ne 84 dX5_readProduct_75 (by decide) (fun h_14 => ?_) (fun h_14 => ?_)
                · refine X_iload dX5_readProduct_84 rfl ?_
                  refine X_bipush (v := nI 47) dX5_readProduct_86 (by decide) ?_
                  refine X_icmp_ne 97 dX5_readProduct_88 (by decide) (fun h_15 => ?_) (fun h_15 => ?_)
                  · exact absurd q1 h_15
                  · refine X_sipush (v := nI 203) dX5_readProduct_91 (by decide) ?_
                    refine X_goto 100 dX5_readProduct_94 (by decide) ?_
                    have hp2 := HST_put (t := (5, 0)) (v := nI 203) hm1 hle rfl
                    refine X_callVV dX5_readProduct_100 mkX5_49 (k_22 hSh) (c_put Γ g m1 ml hSh _ hln (by omega) (nI 203)) rfl rfl (by omega) (Nat.le_of_ble_eq_true rfl) ?_
                    refine X_iinc (v := nI (j + 1)) dX5_readProduct_103 rfl (nI_1 _) (by decide) ?_
                    refine X_goto 8 dX5_readProduct_106 (by decide) ?_
                    refine X_L [(2, .int (nI 1)), (3, .int (nI (j + 1))), (0, .ref 22), (1, .int (nI op))] ⟨rfl, rfl, rfl, rfl, trivial⟩ ?_
                    have hz := hc_prodL Γ g ml hSh B n D op hD U hU hUO m0 T a f _ e1 (t ++ (t1 ++ [(5, 0)])) (b || b1) (j + 1) (HST_eq hp2 (by simp [List.append_assoc]) (Bool.or_assoc _ _ _)) (by omega) (by omega)
                    rw [show jnL U tmO B n (f + 1) i t b = jnL U tmO B n f e1 (t ++ (t1 ++ [(5, 0)])) (b || b1) from jnL_s hO hUr]
                    exact hz
                · exact absurd h_14 q0
            · exact absurd q1 h_10
    by_cases q2 : byT B n (skT B n i) = nI 37
    · have hO : tmO (byT B n (skT B n i)) = some 6 := (if_neg q0).trans ((if_neg q1).trans (if_pos q2))
      have hlt := by_lt q2
      refine X_iload_n dX5_readProduct_8 rfl ?_
      refine X_if_eqN (a := 1) 109 dX5_readProduct_9 (by decide) (by omega) (fun h_16 => ?_) (fun h_16 => ?_)
      · exact absurd h_16 (by omega)
      · refine X_iload_n dX5_readProduct_12 rfl ?_
        refine X_sipush (v := nI 150) dX5_readProduct_13 (by decide) ?_
        refine X_icmp_geN (a := j) (b := 150) 109 dX5_readProduct_16 (by decide) (by omega) (by omega) (fun h_17 => ?_) (fun h_17 => ?_)
        · exact absurd h_17 (by omega)
        · refine X_aload_n dX5_readProduct_19 rfl ?_
          refine X_getr (a := 2) dX5_readProduct_20 fkX5_15 rfl (k_22 hSh) (r_22_3 hSh) ?_
          refine X_callVI dX5_readProduct_23 mkX5_31 (k_2 hSh) (c_peek Γ g mi ml hSh B n i hS.1.1 hS.1.2.1 hS.1.2.2.1 hS.1.2.2.2.1 hS.1.2.2.2.2) rfl rfl (by omega) (Nat.le_of_ble_eq_true rfl) ?_
          refine X_istore dX5_readProduct_26 (by decide) ?_
          refine X_iload dX5_readProduct_28 rfl ?_
          refine X_bipush (v := nI 42) dX5_readProduct_30 (by decide) ?_
          refine X_icmp_eq 51 dX5_readProduct_32 (by decide) (fun h_18 => ?_) (fun h_18 => ?_)
          · exact absurd h_18 q0
          · refine X_iload dX5_readProduct_35 rfl ?_
            refine X_bipush (v := nI 47) dX5_readProduct_37 (by decide) ?_
            refine X_icmp_eq 51 dX5_readProduct_39 (by decide) (fun h_19 => ?_) (fun h_19 => ?_)
            · exact absurd h_19 q1
            · refine X_iload dX5_readProduct_42 rfl ?_
              refine X_bipush (v := nI 37) dX5_readProduct_44 (by decide) ?_
              refine X_icmp_eq 51 dX5_readProduct_46 (by decide) (fun h_20 => ?_) (fun h_20 => ?_)
              · refine X_aload_n dX5_readProduct_51 rfl ?_
                refine X_getr (a := 2) dX5_readProduct_52 fkX5_15 rfl (k_22 hSh) (r_22_3 hSh) ?_
                refine X_dup dX5_readProduct_55 rfl ?_
                refine X_geti dX5_readProduct_56 fkX5_37 rfl (k_2 hSh) ?_
                rw [up2_s]
                refine X_iconst (v := nI 1) dX5_readProduct_59 (by decide) ?_
                refine X_iadd dX5_readProduct_60 ?_
                refine X_topi (nI_add (skT B n i) 1) ?_
                refine X_puti dX5_readProduct_61 fkX5_37 rfl rfl (k_2 hSh) ?_
                refine X_mi up2_up2 ?_
                refine X_aload_n dX5_readProduct_64 rfl ?_
                refine X_iload_n dX5_readProduct_65 rfl ?_
                match hUr : U (skT B n i + 1) with
                | .error (k1, p1) =>
                  refine X_callVrI dX5_readProduct_66 mkX5_53 (k_22 hSh) (hU m0 _ (skT B n i + 1) (T ++ t) (a || b) (HST_at hS hlt (by omega))) rfl rfl (by omega) (Nat.le_of_ble_eq_true rfl) (fun v1 m1 l1 hm1 => ?_)
                  rw [hUr] at hm1
                  obtain ⟨hl1, rfl, hm1⟩ := hm1
                  rw [hl1]
                  refine X_istore_n dX5_readProduct_69 (by decide) ?_
                  refine X_aload_n dX5_readProduct_70 rfl ?_
                  refine X_iload dX5_readProduct_71 rfl ?_
                  refine X_bipush (v := nI 42) dX5_readProduct_73 (by decide) ?_
                  refine X_icmp_ne 84 dX5_readProduct_75 (by decide) (fun h_21 => ?_) (fun h_21 => ?_)
                  · refine X_iload dX5_readProduct_84 rfl ?_
                    refine X_bipush (v := nI 47) dX5_readProduct_86 (by decide) ?_
                    refine X_icmp_ne 97 dX5_readProduct_88 (by decide) (fun h_22 => ?_) (fun h_22 => ?_)
                    · refine X_sipush (v := nI 204) dX5_readProduct_97 (by decide) ?_
                      refine X_callVrV dX5_readProduct_100 mkX5_49 (k_22 hSh) (c_putE Γ g m1 ml hSh hm1 (nI 204)) rfl rfl (by omega) (Nat.le_of_ble_eq_true rfl) (fun m2 l2 hm2 => ?_)
                      obtain ⟨hm2, hl2⟩ := hm2
                      rw [hl2]
                      refine X_iinc (v := nI (j + 1)) dX5_readProduct_103 rfl (nI_1 _) (by decide) ?_
                      refine X_goto 8 dX5_readProduct_106 (by decide) ?_
                      refine X_iload_n dX5_readProduct_8 rfl ?_
                      refine X_if_eqN (a := 0) 109 dX5_readProduct_9 (by decide) (by omega) (fun h_23 => ?_) (fun h_23 => ?_)
                      · refine X_iload_n dX5_readProduct_109 rfl ?_
                        exact X_zret (ty := .boolean) dX5_readProduct_110 rfl (by decide) ⟨rfl, _, rfl, rfl, by rw [show jnL U tmO B n (f + 1) i t b = .error (k1, p1) from by unfold jnL; rw [hO]; dsimp only; rw [hUr]; rfl]; exact ⟨rfl, hm2⟩⟩
                      · exact absurd h_23 (by omega)
                    · exact absurd h_22 q1
                  · exact absurd h_21 q0
                | .ok (e1, t1, b1) =>
                  obtain ⟨hb1, hb2, hb3⟩ := (hUO (skT B n i + 1) hlt).1 e1 t1 b1 hUr
                  refine X_callVrI dX5_readProduct_66 mkX5_53 (k_22 hSh) (hU m0 _ (skT B n i + 1) (T ++ t) (a || b) (HST_at hS hlt (by omega))) rfl rfl (by omega) (Nat.le_of_ble_eq_true rfl) (fun v1 m1 l1 hm1 => ?_)
                  rw [hUr] at hm1
                  obtain ⟨hl1, rfl, hm1⟩ := hm1
                  rw [hl1]
                  have hln := hm1.2.2.1
                  have hle : ((T ++ t) ++ t1).length + 1 ≤ e1 := by rw [List.length_append]; have := hS.2.2.2.2.2.1; omega
                  have he15 := hm1.2.1
                  refine X_istore_n dX5_readProduct_69 (by decide) ?_
                  refine X_aload_n dX5_readProduct_70 rfl ?_
                  refine X_iload dX5_readProduct_71 rfl ?_
                  refine X_bipush (v := nI 42) dX5_readProduct_73 (by decide) ?_
                  refine X_icmp_ne 84 dX5_readProduct_75 (by decide) (fun h_24 => ?_) (fun h_24 => ?_)
                  · refine X_iload dX5_readProduct_84 rfl ?_
                    refine X_bipush (v := nI 47) dX5_readProduct_86 (by decide) ?_
                    refine X_icmp_ne 97 dX5_readProduct_88 (by decide) (fun h_25 => ?_) (fun h_25 => ?_)
                    · refine X_sipush (v := nI 204) dX5_readProduct_97 (by decide) ?_
                      have hp2 := HST_put (t := (6, 0)) (v := nI 204) hm1 hle rfl
                      refine X_callVV dX5_readProduct_100 mkX5_49 (k_22 hSh) (c_put Γ g m1 ml hSh _ hln (by omega) (nI 204)) rfl rfl (by omega) (Nat.le_of_ble_eq_true rfl) ?_
                      refine X_iinc (v := nI (j + 1)) dX5_readProduct_103 rfl (nI_1 _) (by decide) ?_
                      refine X_goto 8 dX5_readProduct_106 (by decide) ?_
                      refine X_L [(2, .int (nI 1)), (3, .int (nI (j + 1))), (0, .ref 22), (1, .int (nI op))] ⟨rfl, rfl, rfl, rfl, trivial⟩ ?_
                      have hz := hc_prodL Γ g ml hSh B n D op hD U hU hUO m0 T a f _ e1 (t ++ (t1 ++ [(6, 0)])) (b || b1) (j + 1) (HST_eq hp2 (by simp [List.append_assoc]) (Bool.or_assoc _ _ _)) (by omega) (by omega)
                      rw [show jnL U tmO B n (f + 1) i t b = jnL U tmO B n f e1 (t ++ (t1 ++ [(6, 0)])) (b || b1) from jnL_s hO hUr]
                      exact hz
                    · exact absurd h_25 q1
                  · exact absurd h_24 q0
              · exact absurd q2 h_20
    · have hO : tmO (byT B n (skT B n i)) = none := (if_neg q0).trans ((if_neg q1).trans ((if_neg q2)))
      refine X_iload_n dX5_readProduct_8 rfl ?_
      refine X_if_eqN (a := 1) 109 dX5_readProduct_9 (by decide) (by omega) (fun h_26 => ?_) (fun h_26 => ?_)
      · exact absurd h_26 (by omega)
      · refine X_iload_n dX5_readProduct_12 rfl ?_
        refine X_sipush (v := nI 150) dX5_readProduct_13 (by decide) ?_
        refine X_icmp_geN (a := j) (b := 150) 109 dX5_readProduct_16 (by decide) (by omega) (by omega) (fun h_27 => ?_) (fun h_27 => ?_)
        · exact absurd h_27 (by omega)
        · refine X_aload_n dX5_readProduct_19 rfl ?_
          refine X_getr (a := 2) dX5_readProduct_20 fkX5_15 rfl (k_22 hSh) (r_22_3 hSh) ?_
          refine X_callVI dX5_readProduct_23 mkX5_31 (k_2 hSh) (c_peek Γ g mi ml hSh B n i hS.1.1 hS.1.2.1 hS.1.2.2.1 hS.1.2.2.2.1 hS.1.2.2.2.2) rfl rfl (by omega) (Nat.le_of_ble_eq_true rfl) ?_
          refine X_istore dX5_readProduct_26 (by decide) ?_
          refine X_iload dX5_readProduct_28 rfl ?_
          refine X_bipush (v := nI 42) dX5_readProduct_30 (by decide) ?_
          refine X_icmp_eq 51 dX5_readProduct_32 (by decide) (fun h_28 => ?_) (fun h_28 => ?_)
          · exact absurd h_28 q0
          · refine X_iload dX5_readProduct_35 rfl ?_
            refine X_bipush (v := nI 47) dX5_readProduct_37 (by decide) ?_
            refine X_icmp_eq 51 dX5_readProduct_39 (by decide) (fun h_29 => ?_) (fun h_29 => ?_)
            · exact absurd h_29 q1
            · refine X_iload dX5_readProduct_42 rfl ?_
              refine X_bipush (v := nI 37) dX5_readProduct_44 (by decide) ?_
              refine X_icmp_eq 51 dX5_readProduct_46 (by decide) (fun h_30 => ?_) (fun h_30 => ?_)
              · exact absurd h_30 q2
              · refine X_iconst (v := nI 1) dX5_readProduct_49 (by decide) ?_
                exact X_zret (ty := .boolean) dX5_readProduct_50 rfl (by decide) ⟨rfl, _, rfl, rfl, by rw [show jnL U tmO B n (f + 1) i t b = .ok (skT B n i, t, b) from by unfold jnL; rw [hO]]; exact ⟨rfl, HST_at hS (skT_le hS.1.2.1) skT_ge⟩⟩
set_option maxRecDepth 100000 in
set_option maxHeartbeats 4000000 in
theorem hc_prod (Γ : pTG) (g : pGG) (ml : pML) (hSh : Sh g) (B : Nat → Int32) (n : Nat) (D op : Nat) (hD : 10 ≤ D) (U : hFn) (hU : HC Γ g ml B n D mX5_readUnit op U) (hUO : UOK n U) : HC Γ g ml B n (D + 1) mX5_readProduct op (jnR U tmO B n) := by
  intro m0 mi i T a hS
  refine rI_of (by decide +kernel) (Nat.le_of_ble_eq_true rfl) ?_
  refine X_aload_n dX5_readProduct_0 rfl ?_
  refine X_iload_n dX5_readProduct_1 rfl ?_
  match hUr : U i with
  | .error (k1, p1) =>
    refine X_callVrI dX5_readProduct_2 mkX5_53 (k_22 hSh) (hU m0 mi i T a hS) rfl rfl (by omega) (Nat.le_of_ble_eq_true rfl) (fun v1 m1 l1 hm1 => ?_)
    rw [hUr] at hm1
    obtain ⟨hl1, rfl, hm1⟩ := hm1
    rw [hl1]
    refine X_istore_n dX5_readProduct_5 (by decide) ?_
    refine X_iconst (v := nI 0) dX5_readProduct_6 (by decide) ?_
    refine X_istore_n dX5_readProduct_7 (by decide) ?_
    refine X_iload_n dX5_readProduct_8 rfl ?_
    refine X_if_eqN (a := 0) 109 dX5_readProduct_9 (by decide) (by omega) (fun h_1 => ?_) (fun h_1 => ?_)
    · refine X_iload_n dX5_readProduct_109 rfl ?_
      exact X_zret (ty := .boolean) dX5_readProduct_110 rfl (by decide) ⟨rfl, _, rfl, rfl, by rw [show jnR U tmO B n i = .error (k1, p1) from by unfold jnR; rw [hUr]; rfl]; exact ⟨rfl, hm1⟩⟩
    · exact absurd h_1 (by omega)
  | .ok (e1, t1, b1) =>
    obtain ⟨hb1, hb2, hb3⟩ := (hUO i hS.1.2.1).1 e1 t1 b1 hUr
    refine X_callVrI dX5_readProduct_2 mkX5_53 (k_22 hSh) (hU m0 mi i T a hS) rfl rfl (by omega) (Nat.le_of_ble_eq_true rfl) (fun v1 m1 l1 hm1 => ?_)
    rw [hUr] at hm1
    obtain ⟨hl1, rfl, hm1⟩ := hm1
    rw [hl1]
    refine X_istore_n dX5_readProduct_5 (by decide) ?_
    refine X_iconst (v := nI 0) dX5_readProduct_6 (by decide) ?_
    refine X_istore_n dX5_readProduct_7 (by decide) ?_
    refine X_L [(2, .int (nI 1)), (3, .int (nI 0)), (0, .ref 22), (1, .int (nI op))] ⟨rfl, rfl, rfl, rfl, trivial⟩ ?_
    rw [show jnR U tmO B n i = jnL U tmO B n (n + 1) e1 t1 b1 from by unfold jnR; rw [hUr]; rfl]
    exact hc_prodL Γ g ml hSh B n D op hD U hU hUO m0 T a (n + 1) m1 e1 t1 b1 0 hm1 (by omega) (by omega)
set_option maxRecDepth 100000 in
set_option maxHeartbeats 4000000 in
theorem hc_sumL (Γ : pTG) (g : pGG) (ml : pML) (hSh : Sh g) (B : Nat → Int32) (n : Nat) (D op : Nat) (hD : 10 ≤ D) (U : hFn) (hU : HC Γ g ml B n D mX5_readProduct op U) (hUO : UOK n U) (m0 : pMI) (T : List Tok) (a : Bool) : ∀ (f : Nat) (mi : pMI) (i : Nat) (t : List Tok) (b : Bool) (j : Nat), HST m0 mi B n i (T ++ t) (a || b) → n < i + f → j < i → XW Γ (D + 1) 0 0 mX5_readSum 8 [(2, .int (nI 1)), (3, .int (nI j)), (0, .ref 22), (1, .int (nI op))] [] g mi ml (qrI g (fun v m l => l = ml ∧ HRS m0 B n T a (jnL U plO B n f i t b) v m))
  | 0, mi, i, t, b, j, hS, hf, hj => absurd hf (by have := hS.1.2.1; omega)
  | f + 1, mi, i, t, b, j, hS, hf, hj => by
    have hs1 := skT_le (B := B) hS.1.2.1
    have hs2 := skT_ge (B := B) (n := n) (i := i)
    have hn15 := hS.2.1
    have hin := hS.1.2.1
    by_cases q0 : byT B n (skT B n i) = nI 43
    · have hO : plO (byT B n (skT B n i)) = some 2 := if_pos q0
      have hlt := by_lt q0
      refine X_iload_n dX5_readSum_8 rfl ?_
      refine X_if_eqN (a := 1) 89 dX5_readSum_9 (by decide) (by omega) (fun h_1 => ?_) (fun h_1 => ?_)
      · exact absurd h_1 (by omega)
      · refine X_iload_n dX5_readSum_12 rfl ?_
        refine X_sipush (v := nI 150) dX5_readSum_13 (by decide) ?_
        refine X_icmp_geN (a := j) (b := 150) 89 dX5_readSum_16 (by decide) (by omega) (by omega) (fun h_2 => ?_) (fun h_2 => ?_)
        · exact absurd h_2 (by omega)
        · refine X_aload_n dX5_readSum_19 rfl ?_
          refine X_getr (a := 2) dX5_readSum_20 fkX5_15 rfl (k_22 hSh) (r_22_3 hSh) ?_
          refine X_callVI dX5_readSum_23 mkX5_31 (k_2 hSh) (c_peek Γ g mi ml hSh B n i hS.1.1 hS.1.2.1 hS.1.2.2.1 hS.1.2.2.2.1 hS.1.2.2.2.2) rfl rfl (by omega) (Nat.le_of_ble_eq_true rfl) ?_
          refine X_istore dX5_readSum_26 (by decide) ?_
          refine X_iload dX5_readSum_28 rfl ?_
          refine X_bipush (v := nI 43) dX5_readSum_30 (by decide) ?_
          refine X_icmp_eq 44 dX5_readSum_32 (by decide) (fun h_3 => ?_) (fun h_3 => ?_)
          · refine X_aload_n dX5_readSum_44 rfl ?_
            refine X_getr (a := 2) dX5_readSum_45 fkX5_15 rfl (k_22 hSh) (r_22_3 hSh) ?_
            refine X_dup dX5_readSum_48 rfl ?_
            refine X_geti dX5_readSum_49 fkX5_37 rfl (k_2 hSh) ?_
            rw [up2_s]
            refine X_iconst (v := nI 1) dX5_readSum_52 (by decide) ?_
            refine X_iadd dX5_readSum_53 ?_
            refine X_topi (nI_add (skT B n i) 1) ?_
            refine X_puti dX5_readSum_54 fkX5_37 rfl rfl (k_2 hSh) ?_
            refine X_mi up2_up2 ?_
            refine X_aload_n dX5_readSum_57 rfl ?_
            refine X_iload_n dX5_readSum_58 rfl ?_
            match hUr : U (skT B n i + 1) with
            | .error (k1, p1) =>
              refine X_callVrI dX5_readSum_59 mkX5_44 (k_22 hSh) (hU m0 _ (skT B n i + 1) (T ++ t) (a || b) (HST_at hS hlt (by omega))) rfl rfl (by omega) (Nat.le_of_ble_eq_true rfl) (fun v1 m1 l1 hm1 => ?_)
              rw [hUr] at hm1
              obtain ⟨hl1, rfl, hm1⟩ := hm1
              rw [hl1]
              refine X_istore_n dX5_readSum_62 (by decide) ?_
              refine X_aload_n dX5_readSum_63 rfl ?_
              refine X_iload dX5_readSum_64 rfl ?_
              refine X_bipush (v := nI 43) dX5_readSum_66 (by decide) ?_
              refine X_icmp_ne 77 dX5_readSum_68 (by decide) (fun h_4 => ?_) (fun h_4 => ?_)
              · exact absurd q0 h_4
              · refine X_sipush (v := nI 200) dX5_readSum_71 (by decide) ?_
                refine X_goto 80 dX5_readSum_74 (by decide) ?_
                refine X_callVrV dX5_readSum_80 mkX5_49 (k_22 hSh) (c_putE Γ g m1 ml hSh hm1 (nI 200)) rfl rfl (by omega) (Nat.le_of_ble_eq_true rfl) (fun m2 l2 hm2 => ?_)
                obtain ⟨hm2, hl2⟩ := hm2
                rw [hl2]
                refine X_iinc (v := nI (j + 1)) dX5_readSum_83 rfl (nI_1 _) (by decide) ?_
                refine X_goto 8 dX5_readSum_86 (by decide) ?_
                refine X_iload_n dX5_readSum_8 rfl ?_
                refine X_if_eqN (a := 0) 89 dX5_readSum_9 (by decide) (by omega) (fun h_5 => ?_) (fun h_5 => ?_)
                · refine X_iload_n dX5_readSum_89 rfl ?_
                  exact X_zret (ty := .boolean) dX5_readSum_90 rfl (by decide) ⟨rfl, _, rfl, rfl, by rw [show jnL U plO B n (f + 1) i t b = .error (k1, p1) from by unfold jnL; rw [hO]; dsimp only; rw [hUr]; rfl]; exact ⟨rfl, hm2⟩⟩
                · exact absurd h_5 (by omega)
            | .ok (e1, t1, b1) =>
              obtain ⟨hb1, hb2, hb3⟩ := (hUO (skT B n i + 1) hlt).1 e1 t1 b1 hUr
              refine X_callVrI dX5_readSum_59 mkX5_44 (k_22 hSh) (hU m0 _ (skT B n i + 1) (T ++ t) (a || b) (HST_at hS hlt (by omega))) rfl rfl (by omega) (Nat.le_of_ble_eq_true rfl) (fun v1 m1 l1 hm1 => ?_)
              rw [hUr] at hm1
              obtain ⟨hl1, rfl, hm1⟩ := hm1
              rw [hl1]
              have hln := hm1.2.2.1
              have hle : ((T ++ t) ++ t1).length + 1 ≤ e1 := by rw [List.length_append]; have := hS.2.2.2.2.2.1; omega
              have he15 := hm1.2.1
              refine X_istore_n dX5_readSum_62 (by decide) ?_
              refine X_aload_n dX5_readSum_63 rfl ?_
              refine X_iload dX5_readSum_64 rfl ?_
              refine X_bipush (v := nI 43) dX5_readSum_66 (by decide) ?_
              refine X_icmp_ne 77 dX5_readSum_68 (by decide) (fun h_6 => ?_) (fun h_6 => ?_)
              · exact absurd q0 h_6
              · refine X_sipush (v := nI 200) dX5_readSum_71 (by decide) ?_
                refine X_goto 80 dX5_readSum_74 (by decide) ?_
                have hp2 := HST_put (t := (2, 0)) (v := nI 200) hm1 hle rfl
                refine X_callVV dX5_readSum_80 mkX5_49 (k_22 hSh) (c_put Γ g m1 ml hSh _ hln (by omega) (nI 200)) rfl rfl (by omega) (Nat.le_of_ble_eq_true rfl) ?_
                refine X_iinc (v := nI (j + 1)) dX5_readSum_83 rfl (nI_1 _) (by decide) ?_
                refine X_goto 8 dX5_readSum_86 (by decide) ?_
                refine X_L [(2, .int (nI 1)), (3, .int (nI (j + 1))), (0, .ref 22), (1, .int (nI op))] ⟨rfl, rfl, rfl, rfl, trivial⟩ ?_
                have hz := hc_sumL Γ g ml hSh B n D op hD U hU hUO m0 T a f _ e1 (t ++ (t1 ++ [(2, 0)])) (b || b1) (j + 1) (HST_eq hp2 (by simp [List.append_assoc]) (Bool.or_assoc _ _ _)) (by omega) (by omega)
                rw [show jnL U plO B n (f + 1) i t b = jnL U plO B n f e1 (t ++ (t1 ++ [(2, 0)])) (b || b1) from jnL_s hO hUr]
                exact hz
          · exact absurd q0 h_3
    by_cases q1 : byT B n (skT B n i) = nI 45
    · have hO : plO (byT B n (skT B n i)) = some 3 := (if_neg q0).trans (if_pos q1)
      have hlt := by_lt q1
      refine X_iload_n dX5_readSum_8 rfl ?_
      refine X_if_eqN (a := 1) 89 dX5_readSum_9 (by decide) (by omega) (fun h_7 => ?_) (fun h_7 => ?_)
      · exact absurd h_7 (by omega)
      · refine X_iload_n dX5_readSum_12 rfl ?_
        refine X_sipush (v := nI 150) dX5_readSum_13 (by decide) ?_
        refine X_icmp_geN (a := j) (b := 150) 89 dX5_readSum_16 (by decide) (by omega) (by omega) (fun h_8 => ?_) (fun h_8 => ?_)
        · exact absurd h_8 (by omega)
        · refine X_aload_n dX5_readSum_19 rfl ?_
          refine X_getr (a := 2) dX5_readSum_20 fkX5_15 rfl (k_22 hSh) (r_22_3 hSh) ?_
          refine X_callVI dX5_readSum_23 mkX5_31 (k_2 hSh) (c_peek Γ g mi ml hSh B n i hS.1.1 hS.1.2.1 hS.1.2.2.1 hS.1.2.2.2.1 hS.1.2.2.2.2) rfl rfl (by omega) (Nat.le_of_ble_eq_true rfl) ?_
          refine X_istore dX5_readSum_26 (by decide) ?_
          refine X_iload dX5_readSum_28 rfl ?_
          refine X_bipush (v := nI 43) dX5_readSum_30 (by decide) ?_
          refine X_icmp_eq 44 dX5_readSum_32 (by decide) (fun h_9 => ?_) (fun h_9 => ?_)
          · exact absurd h_9 q0
          · refine X_iload dX5_readSum_35 rfl ?_
            refine X_bipush (v := nI 45) dX5_readSum_37 (by decide) ?_
            refine X_icmp_eq 44 dX5_readSum_39 (by decide) (fun h_10 => ?_) (fun h_10 => ?_)
            · refine X_aload_n dX5_readSum_44 rfl ?_
              refine X_getr (a := 2) dX5_readSum_45 fkX5_15 rfl (k_22 hSh) (r_22_3 hSh) ?_
              refine X_dup dX5_readSum_48 rfl ?_
              refine X_geti dX5_readSum_49 fkX5_37 rfl (k_2 hSh) ?_
              rw [up2_s]
              refine X_iconst (v := nI 1) dX5_readSum_52 (by decide) ?_
              refine X_iadd dX5_readSum_53 ?_
              refine X_topi (nI_add (skT B n i) 1) ?_
              refine X_puti dX5_readSum_54 fkX5_37 rfl rfl (k_2 hSh) ?_
              refine X_mi up2_up2 ?_
              refine X_aload_n dX5_readSum_57 rfl ?_
              refine X_iload_n dX5_readSum_58 rfl ?_
              match hUr : U (skT B n i + 1) with
              | .error (k1, p1) =>
                refine X_callVrI dX5_readSum_59 mkX5_44 (k_22 hSh) (hU m0 _ (skT B n i + 1) (T ++ t) (a || b) (HST_at hS hlt (by omega))) rfl rfl (by omega) (Nat.le_of_ble_eq_true rfl) (fun v1 m1 l1 hm1 => ?_)
                rw [hUr] at hm1
                obtain ⟨hl1, rfl, hm1⟩ := hm1
                rw [hl1]
                refine X_istore_n dX5_readSum_62 (by decide) ?_
                refine X_aload_n dX5_readSum_63 rfl ?_
                refine X_iload dX5_readSum_64 rfl ?_
                refine X_bipush (v := nI 43) dX5_readSum_66 (by decide) ?_
                refine X_icmp_ne 77 dX5_readSum_68 (by decide) (fun h_11 => ?_) (fun h_11 => ?_)
                · refine X_sipush (v := nI 201) dX5_readSum_77 (by decide) ?_
                  refine X_callVrV dX5_readSum_80 mkX5_49 (k_22 hSh) (c_putE Γ g m1 ml hSh hm1 (nI 201)) rfl rfl (by omega) (Nat.le_of_ble_eq_true rfl) (fun m2 l2 hm2 => ?_)
                  obtain ⟨hm2, hl2⟩ := hm2
                  rw [hl2]
                  refine X_iinc (v := nI (j + 1)) dX5_readSum_83 rfl (nI_1 _) (by decide) ?_
                  refine X_goto 8 dX5_readSum_86 (by decide) ?_
                  refine X_iload_n dX5_readSum_8 rfl ?_
                  refine X_if_eqN (a := 0) 89 dX5_readSum_9 (by decide) (by omega) (fun h_12 => ?_) (fun h_12 => ?_)
                  · refine X_iload_n dX5_readSum_89 rfl ?_
                    exact X_zret (ty := .boolean) dX5_readSum_90 rfl (by decide) ⟨rfl, _, rfl, rfl, by rw [show jnL U plO B n (f + 1) i t b = .error (k1, p1) from by unfold jnL; rw [hO]; dsimp only; rw [hUr]; rfl]; exact ⟨rfl, hm2⟩⟩
                  · exact absurd h_12 (by omega)
                · exact absurd h_11 q0
              | .ok (e1, t1, b1) =>
                obtain ⟨hb1, hb2, hb3⟩ := (hUO (skT B n i + 1) hlt).1 e1 t1 b1 hUr
                refine X_callVrI dX5_readSum_59 mkX5_44 (k_22 hSh) (hU m0 _ (skT B n i + 1) (T ++ t) (a || b) (HST_at hS hlt (by omega))) rfl rfl (by omega) (Nat.le_of_ble_eq_true rfl) (fun v1 m1 l1 hm1 => ?_)
                rw [hUr] at hm1
                obtain ⟨hl1, rfl, hm1⟩ := hm1
                rw [hl1]
                have hln := hm1.2.2.1
                have hle : ((T ++ t) ++ t1).length + 1 ≤ e1 := by rw [List.length_append]; have := hS.2.2.2.2.2.1; omega
                have he15 := hm1.2.1
                refine X_istore_n dX5_readSum_62 (by decide) ?_
                refine X_aload_n dX5_readSum_63 rfl ?_
                refine X_iload dX5_readSum_64 rfl ?_
                refine X_bipush (v := nI 43) dX5_readSum_66 (by decide) ?_
                refine X_icmp_ne 77 dX5_readSum_68 (by decide) (fun h_13 => ?_) (fun h_13 => ?_)
                · refine X_sipush (v := nI 201) dX5_readSum_77 (by decide) ?_
                  have hp2 := HST_put (t := (3, 0)) (v := nI 201) hm1 hle rfl
                  refine X_callVV dX5_readSum_80 mkX5_49 (k_22 hSh) (c_put Γ g m1 ml hSh _ hln (by omega) (nI 201)) rfl rfl (by omega) (Nat.le_of_ble_eq_true rfl) ?_
                  refine X_iinc (v := nI (j + 1)) dX5_readSum_83 rfl (nI_1 _) (by decide) ?_
                  refine X_goto 8 dX5_readSum_86 (by decide) ?_
                  refine X_L [(2, .int (nI 1)), (3, .int (nI (j + 1))), (0, .ref 22), (1, .int (nI op))] ⟨rfl, rfl, rfl, rfl, trivial⟩ ?_
                  have hz := hc_sumL Γ g ml hSh B n D op hD U hU hUO m0 T a f _ e1 (t ++ (t1 ++ [(3, 0)])) (b || b1) (j + 1) (HST_eq hp2 (by simp [List.append_assoc]) (Bool.or_assoc _ _ _)) (by omega) (by omega)
                  rw [show jnL U plO B n (f + 1) i t b = jnL U plO B n f e1 (t ++ (t1 ++ [(3, 0)])) (b || b1) from jnL_s hO hUr]
                  exact hz
                · exact absurd h_13 q0
            · exact absurd q1 h_10
    · have hO : plO (byT B n (skT B n i)) = none := (if_neg q0).trans ((if_neg q1))
      refine X_iload_n dX5_readSum_8 rfl ?_
      refine X_if_eqN (a := 1) 89 dX5_readSum_9 (by decide) (by omega) (fun h_14 => ?_) (fun h_14 => ?_)
      · exact absurd h_14 (by omega)
      · refine X_iload_n dX5_readSum_12 rfl ?_
        refine X_sipush (v := nI 150) dX5_readSum_13 (by decide) ?_
        refine X_icmp_geN (a := j) (b := 150) 89 dX5_readSum_16 (by decide) (by omega) (by omega) (fun h_15 => ?_) (fun h_15 => ?_)
        · exact absurd h_15 (by omega)
        · refine X_aload_n dX5_readSum_19 rfl ?_
          refine X_getr (a := 2) dX5_readSum_20 fkX5_15 rfl (k_22 hSh) (r_22_3 hSh) ?_
          refine X_callVI dX5_readSum_23 mkX5_31 (k_2 hSh) (c_peek Γ g mi ml hSh B n i hS.1.1 hS.1.2.1 hS.1.2.2.1 hS.1.2.2.2.1 hS.1.2.2.2.2) rfl rfl (by omega) (Nat.le_of_ble_eq_true rfl) ?_
          refine X_istore dX5_readSum_26 (by decide) ?_
          refine X_iload dX5_readSum_28 rfl ?_
          refine X_bipush (v := nI 43) dX5_readSum_30 (by decide) ?_
          refine X_icmp_eq 44 dX5_readSum_32 (by decide) (fun h_16 => ?_) (fun h_16 => ?_)
          · exact absurd h_16 q0
          · refine X_iload dX5_readSum_35 rfl ?_
            refine X_bipush (v := nI 45) dX5_readSum_37 (by decide) ?_
            refine X_icmp_eq 44 dX5_readSum_39 (by decide) (fun h_17 => ?_) (fun h_17 => ?_)
            · exact absurd h_17 q1
            · refine X_iconst (v := nI 1) dX5_readSum_42 (by decide) ?_
              exact X_zret (ty := .boolean) dX5_readSum_43 rfl (by decide) ⟨rfl, _, rfl, rfl, by rw [show jnL U plO B n (f + 1) i t b = .ok (skT B n i, t, b) from by unfold jnL; rw [hO]]; exact ⟨rfl, HST_at hS (skT_le hS.1.2.1) skT_ge⟩⟩
set_option maxRecDepth 100000 in
set_option maxHeartbeats 4000000 in
theorem hc_sum (Γ : pTG) (g : pGG) (ml : pML) (hSh : Sh g) (B : Nat → Int32) (n : Nat) (D op : Nat) (hD : 10 ≤ D) (U : hFn) (hU : HC Γ g ml B n D mX5_readProduct op U) (hUO : UOK n U) : HC Γ g ml B n (D + 1) mX5_readSum op (jnR U plO B n) := by
  intro m0 mi i T a hS
  refine rI_of (by decide +kernel) (Nat.le_of_ble_eq_true rfl) ?_
  refine X_aload_n dX5_readSum_0 rfl ?_
  refine X_iload_n dX5_readSum_1 rfl ?_
  match hUr : U i with
  | .error (k1, p1) =>
    refine X_callVrI dX5_readSum_2 mkX5_44 (k_22 hSh) (hU m0 mi i T a hS) rfl rfl (by omega) (Nat.le_of_ble_eq_true rfl) (fun v1 m1 l1 hm1 => ?_)
    rw [hUr] at hm1
    obtain ⟨hl1, rfl, hm1⟩ := hm1
    rw [hl1]
    refine X_istore_n dX5_readSum_5 (by decide) ?_
    refine X_iconst (v := nI 0) dX5_readSum_6 (by decide) ?_
    refine X_istore_n dX5_readSum_7 (by decide) ?_
    refine X_iload_n dX5_readSum_8 rfl ?_
    refine X_if_eqN (a := 0) 89 dX5_readSum_9 (by decide) (by omega) (fun h_1 => ?_) (fun h_1 => ?_)
    · refine X_iload_n dX5_readSum_89 rfl ?_
      exact X_zret (ty := .boolean) dX5_readSum_90 rfl (by decide) ⟨rfl, _, rfl, rfl, by rw [show jnR U plO B n i = .error (k1, p1) from by unfold jnR; rw [hUr]; rfl]; exact ⟨rfl, hm1⟩⟩
    · exact absurd h_1 (by omega)
  | .ok (e1, t1, b1) =>
    obtain ⟨hb1, hb2, hb3⟩ := (hUO i hS.1.2.1).1 e1 t1 b1 hUr
    refine X_callVrI dX5_readSum_2 mkX5_44 (k_22 hSh) (hU m0 mi i T a hS) rfl rfl (by omega) (Nat.le_of_ble_eq_true rfl) (fun v1 m1 l1 hm1 => ?_)
    rw [hUr] at hm1
    obtain ⟨hl1, rfl, hm1⟩ := hm1
    rw [hl1]
    refine X_istore_n dX5_readSum_5 (by decide) ?_
    refine X_iconst (v := nI 0) dX5_readSum_6 (by decide) ?_
    refine X_istore_n dX5_readSum_7 (by decide) ?_
    refine X_L [(2, .int (nI 1)), (3, .int (nI 0)), (0, .ref 22), (1, .int (nI op))] ⟨rfl, rfl, rfl, rfl, trivial⟩ ?_
    rw [show jnR U plO B n i = jnL U plO B n (n + 1) e1 t1 b1 from by unfold jnR; rw [hUr]; rfl]
    exact hc_sumL Γ g ml hSh B n D op hD U hU hUO m0 T a (n + 1) m1 e1 t1 b1 0 hm1 (by omega) (by omega)

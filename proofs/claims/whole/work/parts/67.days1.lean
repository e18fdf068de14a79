/-! ===== Days: what they are asked ===== -/
def cL (Γ : pTG) (d : Nat) (M : pMD) (as : List Value) (g : pGG) (mi : pMI) (ml : pML) (r : Int64) (mi' : pMI) : Prop := CT Γ d 0 0 M as g mi ml (fun o g' mi'' ml' => o = .inl (some (.long r)) ∧ g' = g ∧ mi'' = mi' ∧ ml' = ml)
def qL (g : pGG) (r : Int64) (mi' : pMI) (ml : pML) : pQ := fun o g' mi'' ml' => o = .inl (some (.long r)) ∧ g' = g ∧ mi'' = mi' ∧ ml' = ml
theorem cL_of {Γ : pTG} {d : Nat} {M : pMD} {as : List Value} {g : pGG} {mi : pMI} {ml : pML} {r : Int64} {mi' : pMI} (hy : plainName M.1.cls = true) (hl : (lg_sl as).length ≤ M.2.2.1) (h : XW Γ d 0 0 M 0 (lv_args 0 as) [] g mi ml (qL g r mi' ml)) : cL Γ d M as g mi ml r mi' := CT_of hy hl h
theorem X_callVL {Γ : pTG} {d k n : Nat} {M : pMD} {pc : Nat} {L : List (Nat × Value)} {S : List Value} {g : pGG} {mi : pMI} {ml : pML} {Q : pQ} {d' idx o c z na : Nat} {M' : pMD} {As S0 : List Value} {r : Int64} {mi' : pMI} (hd : decode M.2.1 pc = .ok (.invokevirtual idx, 3)) (hm : MLV M.1.cls idx M' c na) (hk : g.2.1 o = (c, z)) (hC : cL Γ d' M' (.ref o :: As) g mi ml r mi') (hS0 : S0 = As.reverse ++ .ref o :: S) (hA : As.length = na) (hd' : d' + 1 ≤ d) (hcat : (S.map (fun v => v.category)).sum ≤ 8) (kk : XW Γ d k n M (pc + 3) L (.long r :: S) g mi' ml Q) : XW Γ d k n M pc L S0 g mi ml Q :=
  X_callV hd hm hk hC hS0 hA hd' (Nat.zero_le _) (Nat.zero_le _) hcat (fun E _ _ _ h => by cases h.1) (fun v _ _ _ h => by obtain ⟨h1, rfl, rfl, rfl⟩ := h; cases h1; exact kk)
def anB (p : Nat → Bool) : Nat → Bool
  | 0 => false
  | n + 1 => anB p n || p n
theorem anB_t {p : Nat → Bool} {i : Nat} (hp : p i = true) : ∀ {n : Nat}, i < n → anB p n = true
  | n + 1, h => by
    unfold anB
    by_cases e : i = n
    · subst e; rw [hp, Bool.or_true]
    · rw [anB_t hp (by omega)]; rfl
theorem anB_f {p : Nat → Bool} : ∀ {n : Nat}, anB p n = false ↔ ∀ b, b < n → p b = false
  | 0 => ⟨fun _ b hb => absurd hb (by omega), fun _ => rfl⟩
  | n + 1 => by
    unfold anB
    rw [Bool.or_eq_false_iff, anB_f]
    refine ⟨fun h b hb => ?_, fun h => ⟨fun b hb => h b (by omega), h n (by omega)⟩⟩
    by_cases e : b = n
    · rw [e]; exact h.2
    · exact h.1 b (by omega)
/-- the first of which p is true -/
def fE (p : Nat → Bool) : Nat → Option Nat
  | 0 => none
  | n + 1 => match fE p n with
    | some e => some e
    | none => if p n then some n else none
theorem fE_n {p : Nat → Bool} : ∀ {n : Nat}, fE p n = none ↔ ∀ b, b < n → p b = false
  | 0 => ⟨fun _ b hb => absurd hb (by omega), fun _ => rfl⟩
  | n + 1 => by
    unfold fE
    cases h : fE p n with
    | some e =>
      refine ⟨fun q => (by cases q), fun q => ?_⟩
      have := (fE_n (p := p) (n := n)).mpr (fun b hb => q b (by omega))
      rw [h] at this; cases this
    | none =>
      dsimp only
      have ih := fE_n.mp h
      refine ⟨fun q b hb => ?_, fun q => ?_⟩
      · by_cases e : b = n
        · subst e
          cases hp : p b with
          | false => rfl
          | true => rw [hp] at q; cases q
        · exact ih b (by omega)
      · rw [q n (by omega)]; rfl
theorem fE_s {p : Nat → Bool} {i : Nat} (h0 : ∀ b, b < i → p b = false) (hp : p i = true) : ∀ {n : Nat}, i < n → fE p n = some i
  | n + 1, h => by
    unfold fE
    by_cases e : i = n
    · subst e; rw [fE_n.mpr h0]; dsimp only; rw [hp]; rfl
    · rw [fE_s h0 hp (by omega)]
theorem fE_i {p : Nat → Bool} : ∀ {n i : Nat}, fE p n = some i → i < n ∧ p i = true ∧ ∀ b, b < i → p b = false
  | n + 1, i, h => by
    unfold fE at h
    cases hq : fE p n with
    | some e =>
      rw [hq] at h; cases h
      obtain ⟨h1, h2, h3⟩ := fE_i hq
      exact ⟨by omega, h2, h3⟩
    | none =>
      rw [hq] at h
      dsimp only at h
      cases hp : p n with
      | false => rw [hp] at h; cases h
      | true => rw [hp] at h; cases h; exact ⟨by omega, hp, fE_n.mp hq⟩
theorem lcm0 {x y : Int64} : lg_cmp x y = 0 ↔ x = y := by
  unfold lg_cmp
  by_cases h : x = y
  · subst h; simp
  · refine ⟨fun q => ?_, fun q => absurd q h⟩
    split at q
    · exact absurd q (by decide)
    · first | exact absurd q (by decide) | (split at q; exact absurd ‹x = y› h; exact absurd q (by decide))
def srW (dd : Nat) (ask : Bool) (l : pML) (d : Nat) (m : pMI) : pMI := if ask = true then m else match fE (fun e => decide (l (dd + 3) e = l (dd + 3) d)) d with
  | none => m
  | some e => up2 (up2 m dd 8 (nI e)) dd 9 (nI (d - e))
set_option maxRecDepth 100000 in
set_option maxHeartbeats 4000000 in
theorem c_packed27 (Γ : pTG) (g : pGG) (mi : pMI) (ml : pML) (hSh : Sh g) (nG : Nat) (hG : mi 3 10 = nI nG) (h8 : nG ≤ 8) (cm : Nat → Nat) (hcm : ∀ b, b < nG → mi 29 b = nI (cm b)) : cL Γ 1 mX3_packed [.ref 27] g mi ml (pkL cm nG) mi := by
  refine cL_of (by decide +kernel) (Nat.le_of_ble_eq_true rfl) ?_
  refine X_lconst (v := 0) dX3_packed_0 (by decide) ?_
  refine X_lstore_n dX3_packed_1 (by decide) ?_
  refine X_iconst (v := nI 0) dX3_packed_2 (by decide) ?_
  refine X_istore_n dX3_packed_3 (by decide) ?_
  refine X_L [(3, .int (nI 0)), (1, .long 0), (0, .ref 27)] ⟨rfl, rfl, rfl, trivial⟩ ?_
  refine X_for2 (σ := Unit) 4 (fun i x => [(3, .int (nI i)), (1, .long (pkL cm i)), (0, .ref 27)]) (fun x => mi) (fun x => ml) (fun _ x => x) (fun _ _ => True) nG ?_ nG 0 () (by omega) trivial ?_
  · intro i x hi hI
    refine ⟨trivial, fun hn => ?_⟩
    refine X_iload_n dX3_packed_4 rfl ?_
    refine X_aload_n dX3_packed_5 rfl ?_
    refine X_getr (a := 3) dX3_packed_6 fkX3_25 rfl (k_27 hSh) (r_27_0 hSh) ?_
    refine X_geti dX3_packed_9 fkX3_82 rfl (k_3 hSh) ?_
    rw [hG]
    refine X_icmp_geN (a := i) (b := nG) 35 dX3_packed_12 (by decide) (by omega) (by omega) (fun h_1 => ?_) (fun h_1 => ?_)
    · exact absurd hi (by omega)
    · refine X_lload_n dX3_packed_15 rfl ?_
      refine X_aload_n dX3_packed_16 rfl ?_
      refine X_getr (a := 29) dX3_packed_17 fkX3_15 rfl (k_27 hSh) (r_27_4 hSh) ?_
      refine X_iload_n dX3_packed_20 rfl ?_
      refine X_iald i dX3_packed_21 (k_29 hSh) rfl (by omega) ?_
      rw [(hcm i (by omega))]
      refine X_i2l dX3_packed_22 ?_
      refine X_iload_n dX3_packed_23 rfl ?_
      refine X_iconst (v := nI 5) dX3_packed_24 (by decide) ?_
      refine X_imul dX3_packed_25 ?_
      refine X_topi (pk_mul i 5) ?_
      refine X_lshl dX3_packed_26 ?_
      refine X_lor dX3_packed_27 ?_
      refine X_lstore_n dX3_packed_28 (by decide) ?_
      refine X_iinc (v := nI (i + 1)) dX3_packed_29 rfl (nI_1 _) (by decide) ?_
      refine X_goto 4 dX3_packed_32 (by decide) ?_
      refine X_L [(3, .int (nI (i + 1))), (1, .long ((pkL cm i) ||| (((nI (cm i)).toInt64) <<< ((nI (i * 5)).toInt64 &&& 63)))), (0, .ref 27)] ⟨rfl, rfl, rfl, trivial⟩ ?_
      exact hn
  · intro x hI
    refine X_iload_n dX3_packed_4 rfl ?_
    refine X_aload_n dX3_packed_5 rfl ?_
    refine X_getr (a := 3) dX3_packed_6 fkX3_25 rfl (k_27 hSh) (r_27_0 hSh) ?_
    refine X_geti dX3_packed_9 fkX3_82 rfl (k_3 hSh) ?_
    rw [hG]
    refine X_icmp_geN (a := nG) (b := nG) 35 dX3_packed_12 (by decide) (by omega) (by omega) (fun h_2 => ?_) (fun h_2 => ?_)
    · refine X_lload_n dX3_packed_35 rfl ?_
      exact X_lret dX3_packed_36 rfl ⟨rfl, rfl, rfl, rfl⟩
    · exact absurd h_2 (by omega)
set_option maxRecDepth 100000 in
set_option maxHeartbeats 4000000 in
theorem c_halfOf27 (Γ : pTG) (g : pGG) (mi : pMI) (ml : pML) (hSh : Sh g) (d b : Nat) (hd : d < 200) (hb : b < 8) : cI Γ 1 mX3_halfOf [.ref 27, .int (nI d), .int (nI b)] g mi ml (hfL (ml 30 d) b) mi := by
  refine cI_of (by decide +kernel) (Nat.le_of_ble_eq_true rfl) ?_
  refine X_aload_n dX3_halfOf_0 rfl ?_
  refine X_getr (a := 30) dX3_halfOf_1 fkX3_18 rfl (k_27 hSh) (r_27_5 hSh) ?_
  refine X_iload_n dX3_halfOf_4 rfl ?_
  refine X_lald d dX3_halfOf_5 (k_30 hSh) rfl (by omega) ?_
  refine X_iload_n dX3_halfOf_6 rfl ?_
  refine X_iconst (v := nI 5) dX3_halfOf_7 (by decide) ?_
  refine X_imul dX3_halfOf_8 ?_
  refine X_topi (pk_mul b 5) ?_
  refine X_lushr dX3_halfOf_9 ?_
  refine X_l2i dX3_halfOf_10 ?_
  refine X_bipush (v := nI 31) dX3_halfOf_11 (by decide) ?_
  refine X_iand dX3_halfOf_13 ?_
  exact X_iret dX3_halfOf_14 rfl ⟨by rfl, rfl, rfl, rfl⟩
set_option maxRecDepth 100000 in
set_option maxHeartbeats 4000000 in
theorem c_tell27 (Γ : pTG) (g : pGG) (mi : pMI) (ml : pML) (hSh : Sh g) (nG : Nat) (hG : mi 3 10 = nI nG) (h8 : nG ≤ 8) (d to : Nat) (hd : d < 200) (hkt : g.2.1 to = (20, 8)) (ht3 : 3 ≠ to) : cV Γ 2 mX3_tell [.ref 27, .int (nI d), .ref to] g mi ml (fillR mi to nG (fun b => hfL (ml 30 d) b)) ml := by
  refine cV_of (by decide +kernel) (Nat.le_of_ble_eq_true rfl) ?_
  refine X_iconst (v := nI 0) dX3_tell_0 (by decide) ?_
  refine X_istore_n dX3_tell_1 (by decide) ?_
  refine X_L [(3, .int (nI 0)), (0, .ref 27), (1, .int (nI d)), (2, .ref to)] ⟨rfl, rfl, rfl, rfl, trivial⟩ ?_
  refine X_mi (fill_0 mi to (fun b => hfL (ml 30 d) b)).symm ?_
  refine X_for3 2 (fun i => [(3, .int (nI i)), (0, .ref 27), (1, .int (nI d)), (2, .ref to)]) (fun i => fillR mi to i (fun b => hfL (ml 30 d) b)) nG ?_ nG 0 (by omega) ?_
  · intro i hi hn
    refine X_iload_n dX3_tell_2 rfl ?_
    refine X_aload_n dX3_tell_3 rfl ?_
    refine X_getr (a := 3) dX3_tell_4 fkX3_25 rfl (k_27 hSh) (r_27_0 hSh) ?_
    refine X_geti dX3_tell_7 fkX3_82 rfl (k_3 hSh) ?_
    rw [((fill_row (by omega)).trans hG)]
    refine X_icmp_geN (a := i) (b := nG) 28 dX3_tell_10 (by decide) (by omega) (by omega) (fun h_1 => ?_) (fun h_1 => ?_)
    · exact absurd hi (by omega)
    · refine X_aload_n dX3_tell_13 rfl ?_
      refine X_iload_n dX3_tell_14 rfl ?_
      refine X_aload_n dX3_tell_15 rfl ?_
      refine X_iload_n dX3_tell_16 rfl ?_
      refine X_iload_n dX3_tell_17 rfl ?_
      refine X_callVI dX3_tell_18 mkX3_92 (k_27 hSh) (c_halfOf27 Γ g (fillR mi to i (fun b => hfL (ml 30 d) b)) ml hSh d i hd (by omega)) rfl rfl (by decide) (Nat.le_of_ble_eq_true rfl) ?_
      refine X_iast i dX3_tell_21 hkt rfl (by omega) ?_
      refine X_iinc (v := nI (i + 1)) dX3_tell_22 rfl (nI_1 _) (by decide) ?_
      refine X_goto 2 dX3_tell_25 (by decide) ?_
      refine X_L [(3, .int (nI (i + 1))), (0, .ref 27), (1, .int (nI d)), (2, .ref to)] ⟨rfl, rfl, rfl, rfl, trivial⟩ ?_
      refine X_mi (fill_s mi to i (fun b => hfL (ml 30 d) b)) ?_
      exact hn
  · refine X_iload_n dX3_tell_2 rfl ?_
    refine X_aload_n dX3_tell_3 rfl ?_
    refine X_getr (a := 3) dX3_tell_4 fkX3_25 rfl (k_27 hSh) (r_27_0 hSh) ?_
    refine X_geti dX3_tell_7 fkX3_82 rfl (k_3 hSh) ?_
    rw [((fill_row (by omega)).trans hG)]
    refine X_icmp_geN (a := nG) (b := nG) 28 dX3_tell_10 (by decide) (by omega) (by omega) (fun h_2 => ?_) (fun h_2 => ?_)
    · exact X_vret dX3_tell_28 rfl ⟨rfl, rfl, rfl, rfl⟩
    · exact absurd h_2 (by omega)
theorem X_forE {Γ : pTG} {d k n : Nat} {M : pMD} {S : List Value} {g : pGG} {mi : pMI} {ml : pML} {Q : pQ} (head : Nat) (Lf : Nat → List (Nat × Value)) (p : Nat → Bool) (e : Nat)
    (hb : ∀ i, i < e → (∀ b, b < i → p b = false) → (p i = true → XW Γ d k n M head (Lf i) S g mi ml Q) ∧ (p i = false → XW Γ d k n M head (Lf (i + 1)) S g mi ml Q → XW Γ d k n M head (Lf i) S g mi ml Q))
    (hx : (∀ b, b < e → p b = false) → XW Γ d k n M head (Lf e) S g mi ml Q) (c i : Nat) (he : i + c = e) (h0 : ∀ b, b < i → p b = false) : XW Γ d k n M head (Lf i) S g mi ml Q := by
  induction c generalizing i with
  | zero => have : i = e := by omega
            subst this; exact hx h0
  | succ c ih =>
    obtain ⟨h1, h2⟩ := hb i (by omega) h0
    cases hp : p i with
    | true => exact h1 hp
    | false => exact h2 hp (ih (i + 1) (by omega) (fun b hb2 => by
        by_cases e2 : b = i
        · rw [e2]; exact hp
        · exact h0 b (by omega)))
set_option maxRecDepth 100000 in
set_option maxHeartbeats 4000000 in
theorem c_asksDay27 (Γ : pTG) (g : pGG) (mi : pMI) (ml : pML) (hSh : Sh g) (nG : Nat) (hG : mi 3 10 = nI nG) (h8 : nG ≤ 8) (ask : Nat → Bool) (hA : mi 17 5 = mkB ask) (wh : Nat → Nat) (hw : ∀ b, b < nG → mi 28 b = nI (wh b) ∧ wh b < 8) : cI Γ 1 mX3_asksDay [.ref 27] g mi ml (bI (anB (fun b => ask (wh b)) nG)) mi := by
  refine cI_of (by decide +kernel) (Nat.le_of_ble_eq_true rfl) ?_
  refine X_iconst (v := nI 0) dX3_asksDay_0 (by decide) ?_
  refine X_istore_n dX3_asksDay_1 (by decide) ?_
  refine X_L [(1, .int (nI 0)), (0, .ref 27)] ⟨rfl, rfl, trivial⟩ ?_
  refine X_forE 2 (fun i => [(1, .int (nI i)), (0, .ref 27)]) (fun b => ask (wh b)) nG ?_ ?_ nG 0 (by omega) (fun b hb => absurd hb (by omega))
  · intro i hi h0
    refine ⟨fun hp => ?_, fun hp hn => ?_⟩
    · refine X_iload_n dX3_asksDay_2 rfl ?_
      refine X_aload_n dX3_asksDay_3 rfl ?_
      refine X_getr (a := 3) dX3_asksDay_4 fkX3_25 rfl (k_27 hSh) (r_27_0 hSh) ?_
      refine X_geti dX3_asksDay_7 fkX3_82 rfl (k_3 hSh) ?_
      rw [hG]
      refine X_icmp_geN (a := i) (b := nG) 40 dX3_asksDay_10 (by decide) (by first | omega | (have := (hw i (by assumption)).2; omega)) (by first | omega | (have := (hw i (by assumption)).2; omega)) (fun h_1 => ?_) (fun h_1 => ?_)
      · exact absurd hi (by omega)
      · refine X_aload_n dX3_asksDay_13 rfl ?_
        refine X_getr (a := 17) dX3_asksDay_14 fkX3_29 rfl (k_27 hSh) (r_27_1 hSh) ?_
        refine X_geti dX3_asksDay_17 fkX3_89 rfl (k_17 hSh) ?_
        rw [hA]
        refine X_aload_n dX3_asksDay_20 rfl ?_
        refine X_getr (a := 28) dX3_asksDay_21 fkX3_9 rfl (k_27 hSh) (r_27_3 hSh) ?_
        refine X_iload_n dX3_asksDay_24 rfl ?_
        refine X_iald i dX3_asksDay_25 (k_28 hSh) rfl (by first | omega | (have := (hw i (by assumption)).2; omega)) ?_
        rw [(hw i (by omega)).1]
        refine X_ishr dX3_asksDay_26 ?_
        refine X_iconst (v := nI 1) dX3_asksDay_27 (by decide) ?_
        refine X_iand dX3_asksDay_28 ?_
        refine X_topi (mkB_ask (k := wh i) (by have := (hw i hi).2; omega)) ?_
        refine X_topi (show bI (ask (wh i)) = bI true by rw [hp]) ?_
        refine X_if_eq 34 dX3_asksDay_29 (by decide) (fun h_2 => ?_) (fun h_2 => ?_)
        · exact absurd h_2 (by decide)
        · refine X_iconst (v := nI 1) dX3_asksDay_32 (by decide) ?_
          exact X_zret (ty := .boolean) dX3_asksDay_33 rfl (by first | decide | (rcases bI_01 _ with q | q <;> rw [q] <;> decide)) ⟨by rw [anB_t (p := fun b => ask (wh b)) hp hi]; rfl, rfl, rfl, rfl⟩
    · refine X_iload_n dX3_asksDay_2 rfl ?_
      refine X_aload_n dX3_asksDay_3 rfl ?_
      refine X_getr (a := 3) dX3_asksDay_4 fkX3_25 rfl (k_27 hSh) (r_27_0 hSh) ?_
      refine X_geti dX3_asksDay_7 fkX3_82 rfl (k_3 hSh) ?_
      rw [hG]
      refine X_icmp_geN (a := i) (b := nG) 40 dX3_asksDay_10 (by decide) (by first | omega | (have := (hw i (by assumption)).2; omega)) (by first | omega | (have := (hw i (by assumption)).2; omega)) (fun h_3 => ?_) (fun h_3 => ?_)
      · exact absurd hi (by omega)
      · refine X_aload_n dX3_asksDay_13 rfl ?_
        refine X_getr (a := 17) dX3_asksDay_14 fkX3_29 rfl (k_27 hSh) (r_27_1 hSh) ?_
        refine X_geti dX3_asksDay_17 fkX3_89 rfl (k_17 hSh) ?_
        rw [hA]
        refine X_aload_n dX3_asksDay_20 rfl ?_
        refine X_getr (a := 28) dX3_asksDay_21 fkX3_9 rfl (k_27 hSh) (r_27_3 hSh) ?_
        refine X_iload_n dX3_asksDay_24 rfl ?_
        refine X_iald i dX3_asksDay_25 (k_28 hSh) rfl (by first | omega | (have := (hw i (by assumption)).2; omega)) ?_
        rw [(hw i (by omega)).1]
        refine X_ishr dX3_asksDay_26 ?_
        refine X_iconst (v := nI 1) dX3_asksDay_27 (by decide) ?_
        refine X_iand dX3_asksDay_28 ?_
        refine X_topi (mkB_ask (k := wh i) (by have := (hw i hi).2; omega)) ?_
        refine X_topi (show bI (ask (wh i)) = bI false by rw [hp]) ?_
        refine X_if_eq 34 dX3_asksDay_29 (by decide) (fun h_4 => ?_) (fun h_4 => ?_)
        · refine X_iinc (v := nI (i + 1)) dX3_asksDay_34 rfl (nI_1 _) (by decide) ?_
          refine X_goto 2 dX3_asksDay_37 (by decide) ?_
          refine X_L [(1, .int (nI (i + 1))), (0, .ref 27)] ⟨rfl, rfl, trivial⟩ ?_
          exact hn
        · exact absurd rfl h_4
  · intro h0
    refine X_iload_n dX3_asksDay_2 rfl ?_
    refine X_aload_n dX3_asksDay_3 rfl ?_
    refine X_getr (a := 3) dX3_asksDay_4 fkX3_25 rfl (k_27 hSh) (r_27_0 hSh) ?_
    refine X_geti dX3_asksDay_7 fkX3_82 rfl (k_3 hSh) ?_
    rw [hG]
    refine X_icmp_geN (a := nG) (b := nG) 40 dX3_asksDay_10 (by decide) (by first | omega | (have := (hw i (by assumption)).2; omega)) (by first | omega | (have := (hw i (by assumption)).2; omega)) (fun h_5 => ?_) (fun h_5 => ?_)
    · refine X_iconst (v := nI 0) dX3_asksDay_40 (by decide) ?_
      exact X_zret (ty := .boolean) dX3_asksDay_41 rfl (by first | decide | (rcases bI_01 _ with q | q <;> rw [q] <;> decide)) ⟨by rw [anB_f.mpr h0]; rfl, rfl, rfl, rfl⟩
    · exact absurd h_5 (by omega)
set_option maxRecDepth 100000 in
set_option maxHeartbeats 4000000 in
theorem c_wasSeated27 (Γ : pTG) (g : pGG) (mi : pMI) (ml : pML) (hSh : Sh g) (d b : Nat) (hd : d < 200) (hb : b < 8) : cI Γ 1 mX3_wasSeated [.ref 27, .int (nI d), .int (nI b)] g mi ml (bI (bt (mi 31 d) b)) mi := by
  refine cI_of (by decide +kernel) (Nat.le_of_ble_eq_true rfl) ?_
  refine X_aload_n dX3_wasSeated_0 rfl ?_
  refine X_getr (a := 31) dX3_wasSeated_1 fkX3_22 rfl (k_27 hSh) (r_27_6 hSh) ?_
  refine X_iload_n dX3_wasSeated_4 rfl ?_
  refine X_iald d dX3_wasSeated_5 (k_31 hSh) rfl (by omega) ?_
  refine X_iload_n dX3_wasSeated_6 rfl ?_
  refine X_ishr dX3_wasSeated_7 ?_
  refine X_iconst (v := nI 1) dX3_wasSeated_8 (by decide) ?_
  refine X_iand dX3_wasSeated_9 ?_
  refine X_topi (bit_ask (k := b) (by omega)) ?_
  cases hbt : bt (mi 31 d) b with
  | false =>
    refine X_if_eq 17 dX3_wasSeated_10 (by decide) (fun h_1 => ?_) (fun h_1 => ?_)
    · refine X_iconst (v := nI 0) dX3_wasSeated_17 (by decide) ?_
      exact X_zret (ty := .boolean) dX3_wasSeated_18 rfl (by first | decide | (rcases bI_01 _ with q | q <;> rw [q] <;> decide)) ⟨by first | rfl | (rw [hbt]; rfl), rfl, rfl, rfl⟩
    · exact absurd rfl h_1
  | true =>
    refine X_if_eq 17 dX3_wasSeated_10 (by decide) (fun h_2 => ?_) (fun h_2 => ?_)
    · exact absurd h_2 (by decide)
    · refine X_iconst (v := nI 1) dX3_wasSeated_13 (by decide) ?_
      refine X_goto 18 dX3_wasSeated_14 (by decide) ?_
      exact X_zret (ty := .boolean) dX3_wasSeated_18 rfl (by first | decide | (rcases bI_01 _ with q | q <;> rw [q] <;> decide)) ⟨by first | rfl | (rw [hbt]; rfl), rfl, rfl, rfl⟩
set_option maxRecDepth 100000 in
set_option maxHeartbeats 4000000 in
theorem c_seekRound27 (Γ : pTG) (g : pGG) (mi : pMI) (ml : pML) (hSh : Sh g) (nG : Nat) (hG : mi 3 10 = nI nG) (h8 : nG ≤ 8) (ask : Nat → Bool) (hA : mi 17 5 = mkB ask) (wh : Nat → Nat) (hw : ∀ b, b < nG → mi 28 b = nI (wh b) ∧ wh b < 8) (d : Nat) (hd : d < 200) : cV Γ 2 mX3_seekRound [.ref 27, .int (nI d)] g mi ml (srW 27 (anB (fun b => ask (wh b)) nG) ml d mi) ml := by
  refine cV_of (by decide +kernel) (Nat.le_of_ble_eq_true rfl) ?_
  refine X_aload_n dX3_seekRound_0 rfl ?_
  refine X_callVI dX3_seekRound_1 mkX3_85 (k_27 hSh) (c_asksDay27 Γ g mi ml hSh nG hG h8 ask hA wh hw) rfl rfl (by decide) (Nat.le_of_ble_eq_true rfl) ?_
  cases han : anB (fun b => ask (wh b)) nG with
  | false =>
    refine X_if_eq 8 dX3_seekRound_4 (by decide) (fun h_1 => ?_) (fun h_1 => ?_)
    · refine X_iconst (v := nI 0) dX3_seekRound_8 (by decide) ?_
      refine X_istore_n dX3_seekRound_9 (by decide) ?_
      refine X_L [(2, .int (nI 0)), (0, .ref 27), (1, .int (nI d))] ⟨rfl, rfl, rfl, trivial⟩ ?_
      refine X_forE 10 (fun i => [(2, .int (nI i)), (0, .ref 27), (1, .int (nI d))]) (fun e => decide (ml 30 e = ml 30 d)) d ?_ ?_ d 0 (by omega) (fun b hb => absurd hb (by omega))
      · intro i hi h0
        refine ⟨fun hp => ?_, fun hp hn => ?_⟩
        · refine X_iload_n dX3_seekRound_10 rfl ?_
          refine X_iload_n dX3_seekRound_11 rfl ?_
          refine X_icmp_geN (a := i) (b := d) 50 dX3_seekRound_12 (by decide) (by omega) (by omega) (fun h_2 => ?_) (fun h_2 => ?_)
          · exact absurd hi (by omega)
          · refine X_aload_n dX3_seekRound_15 rfl ?_
            refine X_getr (a := 30) dX3_seekRound_16 fkX3_18 rfl (k_27 hSh) (r_27_5 hSh) ?_
            refine X_iload_n dX3_seekRound_19 rfl ?_
            refine X_lald i dX3_seekRound_20 (k_30 hSh) rfl (by omega) ?_
            refine X_aload_n dX3_seekRound_21 rfl ?_
            refine X_getr (a := 30) dX3_seekRound_22 fkX3_18 rfl (k_27 hSh) (r_27_5 hSh) ?_
            refine X_iload_n dX3_seekRound_25 rfl ?_
            refine X_lald d dX3_seekRound_26 (k_30 hSh) rfl (by omega) ?_
            refine X_lcmp dX3_seekRound_27 ?_
            refine X_if_ne 44 dX3_seekRound_28 (by decide) (fun h_3 => ?_) (fun h_3 => ?_)
            · exact absurd (lcm0.mpr (of_decide_eq_true hp)) h_3
            · refine X_aload_n dX3_seekRound_31 rfl ?_
              refine X_iload_n dX3_seekRound_32 rfl ?_
              refine X_puti dX3_seekRound_33 fkX3_46 rfl rfl (k_27 hSh) ?_
              refine X_aload_n dX3_seekRound_36 rfl ?_
              refine X_iload_n dX3_seekRound_37 rfl ?_
              refine X_iload_n dX3_seekRound_38 rfl ?_
              refine X_isub dX3_seekRound_39 ?_
              refine X_topi (pk_sub (a := d) (b := i) (by omega)) ?_
              refine X_puti dX3_seekRound_40 fkX3_49 rfl rfl (k_27 hSh) ?_
              exact X_vret dX3_seekRound_43 rfl ⟨rfl, rfl, by unfold srW; rw [if_neg (by decide), fE_s h0 hp hi], rfl⟩
        · refine X_iload_n dX3_seekRound_10 rfl ?_
          refine X_iload_n dX3_seekRound_11 rfl ?_
          refine X_icmp_geN (a := i) (b := d) 50 dX3_seekRound_12 (by decide) (by omega) (by omega) (fun h_4 => ?_) (fun h_4 => ?_)
          · exact absurd hi (by omega)
          · refine X_aload_n dX3_seekRound_15 rfl ?_
            refine X_getr (a := 30) dX3_seekRound_16 fkX3_18 rfl (k_27 hSh) (r_27_5 hSh) ?_
            refine X_iload_n dX3_seekRound_19 rfl ?_
            refine X_lald i dX3_seekRound_20 (k_30 hSh) rfl (by omega) ?_
            refine X_aload_n dX3_seekRound_21 rfl ?_
            refine X_getr (a := 30) dX3_seekRound_22 fkX3_18 rfl (k_27 hSh) (r_27_5 hSh) ?_
            refine X_iload_n dX3_seekRound_25 rfl ?_
            refine X_lald d dX3_seekRound_26 (k_30 hSh) rfl (by omega) ?_
            refine X_lcmp dX3_seekRound_27 ?_
            refine X_if_ne 44 dX3_seekRound_28 (by decide) (fun h_5 => ?_) (fun h_5 => ?_)
            · refine X_iinc (v := nI (i + 1)) dX3_seekRound_44 rfl (nI_1 _) (by decide) ?_
              refine X_goto 10 dX3_seekRound_47 (by decide) ?_
              refine X_L [(2, .int (nI (i + 1))), (0, .ref 27), (1, .int (nI d))] ⟨rfl, rfl, rfl, trivial⟩ ?_
              exact hn
            · exact absurd (lcm0.mp h_5) (of_decide_eq_false hp)
      · intro h0
        refine X_iload_n dX3_seekRound_10 rfl ?_
        refine X_iload_n dX3_seekRound_11 rfl ?_
        refine X_icmp_geN (a := d) (b := d) 50 dX3_seekRound_12 (by decide) (by omega) (by omega) (fun h_6 => ?_) (fun h_6 => ?_)
        · exact X_vret dX3_seekRound_50 rfl ⟨rfl, rfl, by unfold srW; rw [if_neg (by decide), fE_n.mpr h0], rfl⟩
        · exact absurd h_6 (by omega)
    · exact absurd rfl h_1
  | true =>
    refine X_if_eq 8 dX3_seekRound_4 (by decide) (fun h_7 => ?_) (fun h_7 => ?_)
    · exact absurd h_7 (by decide)
    · exact X_vret dX3_seekRound_7 rfl ⟨rfl, rfl, by unfold srW; rw [if_pos rfl], rfl⟩
set_option maxRecDepth 100000 in
set_option maxHeartbeats 4000000 in
theorem c_packed42 (Γ : pTG) (g : pGG) (mi : pMI) (ml : pML) (hSh : Sh g) (nG : Nat) (hG : mi 3 10 = nI nG) (h8 : nG ≤ 8) (cm : Nat → Nat) (hcm : ∀ b, b < nG → mi 44 b = nI (cm b)) : cL Γ 1 mX3_packed [.ref 42] g mi ml (pkL cm nG) mi := by
  refine cL_of (by decide +kernel) (Nat.le_of_ble_eq_true rfl) ?_
  refine X_lconst (v := 0) dX3_packed_0 (by decide) ?_
  refine X_lstore_n dX3_packed_1 (by decide) ?_
  refine X_iconst (v := nI 0) dX3_packed_2 (by decide) ?_
  refine X_istore_n dX3_packed_3 (by decide) ?_
  refine X_L [(3, .int (nI 0)), (1, .long 0), (0, .ref 42)] ⟨rfl, rfl, rfl, trivial⟩ ?_
  refine X_for2 (σ := Unit) 4 (fun i x => [(3, .int (nI i)), (1, .long (pkL cm i)), (0, .ref 42)]) (fun x => mi) (fun x => ml) (fun _ x => x) (fun _ _ => True) nG ?_ nG 0 () (by omega) trivial ?_
  · intro i x hi hI
    refine ⟨trivial, fun hn => ?_⟩
    refine X_iload_n dX3_packed_4 rfl ?_
    refine X_aload_n dX3_packed_5 rfl ?_
    refine X_getr (a := 3) dX3_packed_6 fkX3_25 rfl (k_42 hSh) (r_42_0 hSh) ?_
    refine X_geti dX3_packed_9 fkX3_82 rfl (k_3 hSh) ?_
    rw [hG]
    refine X_icmp_geN (a := i) (b := nG) 35 dX3_packed_12 (by decide) (by omega) (by omega) (fun h_1 => ?_) (fun h_1 => ?_)
    · exact absurd hi (by omega)
    · refine X_lload_n dX3_packed_15 rfl ?_
      refine X_aload_n dX3_packed_16 rfl ?_
      refine X_getr (a := 44) dX3_packed_17 fkX3_15 rfl (k_42 hSh) (r_42_4 hSh) ?_
      refine X_iload_n dX3_packed_20 rfl ?_
      refine X_iald i dX3_packed_21 (k_44 hSh) rfl (by omega) ?_
      rw [(hcm i (by omega))]
      refine X_i2l dX3_packed_22 ?_
      refine X_iload_n dX3_packed_23 rfl ?_
      refine X_iconst (v := nI 5) dX3_packed_24 (by decide) ?_
      refine X_imul dX3_packed_25 ?_
      refine X_topi (pk_mul i 5) ?_
      refine X_lshl dX3_packed_26 ?_
      refine X_lor dX3_packed_27 ?_
      refine X_lstore_n dX3_packed_28 (by decide) ?_
      refine X_iinc (v := nI (i + 1)) dX3_packed_29 rfl (nI_1 _) (by decide) ?_
      refine X_goto 4 dX3_packed_32 (by decide) ?_
      refine X_L [(3, .int (nI (i + 1))), (1, .long ((pkL cm i) ||| (((nI (cm i)).toInt64) <<< ((nI (i * 5)).toInt64 &&& 63)))), (0, .ref 42)] ⟨rfl, rfl, rfl, trivial⟩ ?_
      exact hn
  · intro x hI
    refine X_iload_n dX3_packed_4 rfl ?_
    refine X_aload_n dX3_packed_5 rfl ?_
    refine X_getr (a := 3) dX3_packed_6 fkX3_25 rfl (k_42 hSh) (r_42_0 hSh) ?_
    refine X_geti dX3_packed_9 fkX3_82 rfl (k_3 hSh) ?_
    rw [hG]
    refine X_icmp_geN (a := nG) (b := nG) 35 dX3_packed_12 (by decide) (by omega) (by omega) (fun h_2 => ?_) (fun h_2 => ?_)
    · refine X_lload_n dX3_packed_35 rfl ?_
      exact X_lret dX3_packed_36 rfl ⟨rfl, rfl, rfl, rfl⟩
    · exact absurd h_2 (by omega)
set_option maxRecDepth 100000 in
set_option maxHeartbeats 4000000 in
theorem c_halfOf42 (Γ : pTG) (g : pGG) (mi : pMI) (ml : pML) (hSh : Sh g) (d b : Nat) (hd : d < 200) (hb : b < 8) : cI Γ 1 mX3_halfOf [.ref 42, .int (nI d), .int (nI b)] g mi ml (hfL (ml 45 d) b) mi := by
  refine cI_of (by decide +kernel) (Nat.le_of_ble_eq_true rfl) ?_
  refine X_aload_n dX3_halfOf_0 rfl ?_
  refine X_getr (a := 45) dX3_halfOf_1 fkX3_18 rfl (k_42 hSh) (r_42_5 hSh) ?_
  refine X_iload_n dX3_halfOf_4 rfl ?_
  refine X_lald d dX3_halfOf_5 (k_45 hSh) rfl (by omega) ?_
  refine X_iload_n dX3_halfOf_6 rfl ?_
  refine X_iconst (v := nI 5) dX3_halfOf_7 (by decide) ?_
  refine X_imul dX3_halfOf_8 ?_
  refine X_topi (pk_mul b 5) ?_
  refine X_lushr dX3_halfOf_9 ?_
  refine X_l2i dX3_halfOf_10 ?_
  refine X_bipush (v := nI 31) dX3_halfOf_11 (by decide) ?_
  refine X_iand dX3_halfOf_13 ?_
  exact X_iret dX3_halfOf_14 rfl ⟨by rfl, rfl, rfl, rfl⟩
set_option maxRecDepth 100000 in
set_option maxHeartbeats 4000000 in
theorem c_tell42 (Γ : pTG) (g : pGG) (mi : pMI) (ml : pML) (hSh : Sh g) (nG : Nat) (hG : mi 3 10 = nI nG) (h8 : nG ≤ 8) (d to : Nat) (hd : d < 200) (hkt : g.2.1 to = (20, 8)) (ht3 : 3 ≠ to) : cV Γ 2 mX3_tell [.ref 42, .int (nI d), .ref to] g mi ml (fillR mi to nG (fun b => hfL (ml 45 d) b)) ml := by
  refine cV_of (by decide +kernel) (Nat.le_of_ble_eq_true rfl) ?_
  refine X_iconst (v := nI 0) dX3_tell_0 (by decide) ?_
  refine X_istore_n dX3_tell_1 (by decide) ?_
  refine X_L [(3, .int (nI 0)), (0, .ref 42), (1, .int (nI d)), (2, .ref to)] ⟨rfl, rfl, rfl, rfl, trivial⟩ ?_
  refine X_mi (fill_0 mi to (fun b => hfL (ml 45 d) b)).symm ?_
  refine X_for3 2 (fun i => [(3, .int (nI i)), (0, .ref 42), (1, .int (nI d)), (2, .ref to)]) (fun i => fillR mi to i (fun b => hfL (ml 45 d) b)) nG ?_ nG 0 (by omega) ?_
  · intro i hi hn
    refine X_iload_n dX3_tell_2 rfl ?_
    refine X_aload_n dX3_tell_3 rfl ?_
    refine X_getr (a := 3) dX3_tell_4 fkX3_25 rfl (k_42 hSh) (r_42_0 hSh) ?_
    refine X_geti dX3_tell_7 fkX3_82 rfl (k_3 hSh) ?_
    rw [((fill_row (by omega)).trans hG)]
    refine X_icmp_geN (a := i) (b := nG) 28 dX3_tell_10 (by decide) (by omega) (by omega) (fun h_1 => ?_) (fun h_1 => ?_)
    · exact absurd hi (by omega)
    · refine X_aload_n dX3_tell_13 rfl ?_
      refine X_iload_n dX3_tell_14 rfl ?_
      refine X_aload_n dX3_tell_15 rfl ?_
      refine X_iload_n dX3_tell_16 rfl ?_
      refine X_iload_n dX3_tell_17 rfl ?_
      refine X_callVI dX3_tell_18 mkX3_92 (k_42 hSh) (c_halfOf42 Γ g (fillR mi to i (fun b => hfL (ml 45 d) b)) ml hSh d i hd (by omega)) rfl rfl (by decide) (Nat.le_of_ble_eq_true rfl) ?_
      refine X_iast i dX3_tell_21 hkt rfl (by omega) ?_
      refine X_iinc (v := nI (i + 1)) dX3_tell_22 rfl (nI_1 _) (by decide) ?_
      refine X_goto 2 dX3_tell_25 (by decide) ?_
      refine X_L [(3, .int (nI (i + 1))), (0, .ref 42), (1, .int (nI d)), (2, .ref to)] ⟨rfl, rfl, rfl, rfl, trivial⟩ ?_
      refine X_mi (fill_s mi to i (fun b => hfL (ml 45 d) b)) ?_
      exact hn
  · refine X_iload_n dX3_tell_2 rfl ?_
    refine X_aload_n dX3_tell_3 rfl ?_
    refine X_getr (a := 3) dX3_tell_4 fkX3_25 rfl (k_42 hSh) (r_42_0 hSh) ?_
    refine X_geti dX3_tell_7 fkX3_82 rfl (k_3 hSh) ?_
    rw [((fill_row (by omega)).trans hG)]
    refine X_icmp_geN (a := nG) (b := nG) 28 dX3_tell_10 (by decide) (by omega) (by omega) (fun h_2 => ?_) (fun h_2 => ?_)
    · exact X_vret dX3_tell_28 rfl ⟨rfl, rfl, rfl, rfl⟩
    · exact absurd h_2 (by omega)
set_option maxRecDepth 100000 in
set_option maxHeartbeats 4000000 in
theorem c_asksDay42 (Γ : pTG) (g : pGG) (mi : pMI) (ml : pML) (hSh : Sh g) (nG : Nat) (hG : mi 3 10 = nI nG) (h8 : nG ≤ 8) (ask : Nat → Bool) (hA : mi 17 5 = mkB ask) (wh : Nat → Nat) (hw : ∀ b, b < nG → mi 43 b = nI (wh b) ∧ wh b < 8) : cI Γ 1 mX3_asksDay [.ref 42] g mi ml (bI (anB (fun b => ask (wh b)) nG)) mi := by
  refine cI_of (by decide +kernel) (Nat.le_of_ble_eq_true rfl) ?_
  refine X_iconst (v := nI 0) dX3_asksDay_0 (by decide) ?_
  refine X_istore_n dX3_asksDay_1 (by decide) ?_
  refine X_L [(1, .int (nI 0)), (0, .ref 42)] ⟨rfl, rfl, trivial⟩ ?_
  refine X_forE 2 (fun i => [(1, .int (nI i)), (0, .ref 42)]) (fun b => ask (wh b)) nG ?_ ?_ nG 0 (by omega) (fun b hb => absurd hb (by omega))
  · intro i hi h0
    refine ⟨fun hp => ?_, fun hp hn => ?_⟩
    · refine X_iload_n dX3_asksDay_2 rfl ?_
      refine X_aload_n dX3_asksDay_3 rfl ?_
      refine X_getr (a := 3) dX3_asksDay_4 fkX3_25 rfl (k_42 hSh) (r_42_0 hSh) ?_
      refine X_geti dX3_asksDay_7 fkX3_82 rfl (k_3 hSh) ?_
      rw [hG]
      refine X_icmp_geN (a := i) (b := nG) 40 dX3_asksDay_10 (by decide) (by first | omega | (have := (hw i (by assumption)).2; omega)) (by first | omega | (have := (hw i (by assumption)).2; omega)) (fun h_1 => ?_) (fun h_1 => ?_)
      · exact absurd hi (by omega)
      · refine X_aload_n dX3_asksDay_13 rfl ?_
        refine X_getr (a := 17) dX3_asksDay_14 fkX3_29 rfl (k_42 hSh) (r_42_1 hSh) ?_
        refine X_geti dX3_asksDay_17 fkX3_89 rfl (k_17 hSh) ?_
        rw [hA]
        refine X_aload_n dX3_asksDay_20 rfl ?_
        refine X_getr (a := 43) dX3_asksDay_21 fkX3_9 rfl (k_42 hSh) (r_42_3 hSh) ?_
        refine X_iload_n dX3_asksDay_24 rfl ?_
        refine X_iald i dX3_asksDay_25 (k_43 hSh) rfl (by first | omega | (have := (hw i (by assumption)).2; omega)) ?_
        rw [(hw i (by omega)).1]
        refine X_ishr dX3_asksDay_26 ?_
        refine X_iconst (v := nI 1) dX3_asksDay_27 (by decide) ?_
        refine X_iand dX3_asksDay_28 ?_
        refine X_topi (mkB_ask (k := wh i) (by have := (hw i hi).2; omega)) ?_
        refine X_topi (show bI (ask (wh i)) = bI true by rw [hp]) ?_
        refine X_if_eq 34 dX3_asksDay_29 (by decide) (fun h_2 => ?_) (fun h_2 => ?_)
        · exact absurd h_2 (by decide)
        · refine X_iconst (v := nI 1) dX3_asksDay_32 (by decide) ?_
          exact X_zret (ty := .boolean) dX3_asksDay_33 rfl (by first | decide | (rcases bI_01 _ with q | q <;> rw [q] <;> decide)) ⟨by rw [anB_t (p := fun b => ask (wh b)) hp hi]; rfl, rfl, rfl, rfl⟩
    · refine X_iload_n dX3_asksDay_2 rfl ?_
      refine X_aload_n dX3_asksDay_3 rfl ?_
      refine X_getr (a := 3) dX3_asksDay_4 fkX3_25 rfl (k_42 hSh) (r_42_0 hSh) ?_
      refine X_geti dX3_asksDay_7 fkX3_82 rfl (k_3 hSh) ?_
      rw [hG]
      refine X_icmp_geN (a := i) (b := nG) 40 dX3_asksDay_10 (by decide) (by first | omega | (have := (hw i (by assumption)).2; omega)) (by first | omega | (have := (hw i (by assumption)).2; omega)) (fun h_3 => ?_) (fun h_3 => ?_)
      · exact absurd hi (by omega)
      · refine X_aload_n dX3_asksDay_13 rfl ?_
        refine X_getr (a := 17) dX3_asksDay_14 fkX3_29 rfl (k_42 hSh) (r_42_1 hSh) ?_
        refine X_geti dX3_asksDay_17 fkX3_89 rfl (k_17 hSh) ?_
        rw [hA]
        refine X_aload_n dX3_asksDay_20 rfl ?_
        refine X_getr (a := 43) dX3_asksDay_21 fkX3_9 rfl (k_42 hSh) (r_42_3 hSh) ?_
        refine X_iload_n dX3_asksDay_24 rfl ?_
        refine X_iald i dX3_asksDay_25 (k_43 hSh) rfl (by first | omega | (have := (hw i (by assumption)).2; omega)) ?_
        rw [(hw i (by omega)).1]
        refine X_ishr dX3_asksDay_26 ?_
        refine X_iconst (v := nI 1) dX3_asksDay_27 (by decide) ?_
        refine X_iand dX3_asksDay_28 ?_
        refine X_topi (mkB_ask (k := wh i) (by have := (hw i hi).2; omega)) ?_
        refine X_topi (show bI (ask (wh i)) = bI false by rw [hp]) ?_
        refine X_if_eq 34 dX3_asksDay_29 (by decide) (fun h_4 => ?_) (fun h_4 => ?_)
        · refine X_iinc (v := nI (i + 1)) dX3_asksDay_34 rfl (nI_1 _) (by decide) ?_
          refine X_goto 2 dX3_asksDay_37 (by decide) ?_
          refine X_L [(1, .int (nI (i + 1))), (0, .ref 42)] ⟨rfl, rfl, trivial⟩ ?_
          exact hn
        · exact absurd rfl h_4
  · intro h0
    refine X_iload_n dX3_asksDay_2 rfl ?_
    refine X_aload_n dX3_asksDay_3 rfl ?_
    refine X_getr (a := 3) dX3_asksDay_4 fkX3_25 rfl (k_42 hSh) (r_42_0 hSh) ?_
    refine X_geti dX3_asksDay_7 fkX3_82 rfl (k_3 hSh) ?_
    rw [hG]
    refine X_icmp_geN (a := nG) (b := nG) 40 dX3_asksDay_10 (by decide) (by first | omega | (have := (hw i (by assumption)).2; omega)) (by first | omega | (have := (hw i (by assumption)).2; omega)) (fun h_5 => ?_) (fun h_5 => ?_)
    · refine X_iconst (v := nI 0) dX3_asksDay_40 (by decide) ?_
      exact X_zret (ty := .boolean) dX3_asksDay_41 rfl (by first | decide | (rcases bI_01 _ with q | q <;> rw [q] <;> decide)) ⟨by rw [anB_f.mpr h0]; rfl, rfl, rfl, rfl⟩
    · exact absurd h_5 (by omega)
set_option maxRecDepth 100000 in
set_option maxHeartbeats 4000000 in
theorem c_wasSeated42 (Γ : pTG) (g : pGG) (mi : pMI) (ml : pML) (hSh : Sh g) (d b : Nat) (hd : d < 200) (hb : b < 8) : cI Γ 1 mX3_wasSeated [.ref 42, .int (nI d), .int (nI b)] g mi ml (bI (bt (mi 46 d) b)) mi := by
  refine cI_of (by decide +kernel) (Nat.le_of_ble_eq_true rfl) ?_
  refine X_aload_n dX3_wasSeated_0 rfl ?_
  refine X_getr (a := 46) dX3_wasSeated_1 fkX3_22 rfl (k_42 hSh) (r_42_6 hSh) ?_
  refine X_iload_n dX3_wasSeated_4 rfl ?_
  refine X_iald d dX3_wasSeated_5 (k_46 hSh) rfl (by omega) ?_
  refine X_iload_n dX3_wasSeated_6 rfl ?_
  refine X_ishr dX3_wasSeated_7 ?_
  refine X_iconst (v := nI 1) dX3_wasSeated_8 (by decide) ?_
  refine X_iand dX3_wasSeated_9 ?_
  refine X_topi (bit_ask (k := b) (by omega)) ?_
  cases hbt : bt (mi 46 d) b with
  | false =>
    refine X_if_eq 17 dX3_wasSeated_10 (by decide) (fun h_1 => ?_) (fun h_1 => ?_)
    · refine X_iconst (v := nI 0) dX3_wasSeated_17 (by decide) ?_
      exact X_zret (ty := .boolean) dX3_wasSeated_18 rfl (by first | decide | (rcases bI_01 _ with q | q <;> rw [q] <;> decide)) ⟨by first | rfl | (rw [hbt]; rfl), rfl, rfl, rfl⟩
    · exact absurd rfl h_1
  | true =>
    refine X_if_eq 17 dX3_wasSeated_10 (by decide) (fun h_2 => ?_) (fun h_2 => ?_)
    · exact absurd h_2 (by decide)
    · refine X_iconst (v := nI 1) dX3_wasSeated_13 (by decide) ?_
      refine X_goto 18 dX3_wasSeated_14 (by decide) ?_
      exact X_zret (ty := .boolean) dX3_wasSeated_18 rfl (by first | decide | (rcases bI_01 _ with q | q <;> rw [q] <;> decide)) ⟨by first | rfl | (rw [hbt]; rfl), rfl, rfl, rfl⟩
set_option maxRecDepth 100000 in
set_option maxHeartbeats 4000000 in
theorem c_seekRound42 (Γ : pTG) (g : pGG) (mi : pMI) (ml : pML) (hSh : Sh g) (nG : Nat) (hG : mi 3 10 = nI nG) (h8 : nG ≤ 8) (ask : Nat → Bool) (hA : mi 17 5 = mkB ask) (wh : Nat → Nat) (hw : ∀ b, b < nG → mi 43 b = nI (wh b) ∧ wh b < 8) (d : Nat) (hd : d < 200) : cV Γ 2 mX3_seekRound [.ref 42, .int (nI d)] g mi ml (srW 42 (anB (fun b => ask (wh b)) nG) ml d mi) ml := by
  refine cV_of (by decide +kernel) (Nat.le_of_ble_eq_true rfl) ?_
  refine X_aload_n dX3_seekRound_0 rfl ?_
  refine X_callVI dX3_seekRound_1 mkX3_85 (k_42 hSh) (c_asksDay42 Γ g mi ml hSh nG hG h8 ask hA wh hw) rfl rfl (by decide) (Nat.le_of_ble_eq_true rfl) ?_
  cases han : anB (fun b => ask (wh b)) nG with
  | false =>
    refine X_if_eq 8 dX3_seekRound_4 (by decide) (fun h_1 => ?_) (fun h_1 => ?_)
    · refine X_iconst (v := nI 0) dX3_seekRound_8 (by decide) ?_
      refine X_istore_n dX3_seekRound_9 (by decide) ?_
      refine X_L [(2, .int (nI 0)), (0, .ref 42), (1, .int (nI d))] ⟨rfl, rfl, rfl, trivial⟩ ?_
      refine X_forE 10 (fun i => [(2, .int (nI i)), (0, .ref 42), (1, .int (nI d))]) (fun e => decide (ml 45 e = ml 45 d)) d ?_ ?_ d 0 (by omega) (fun b hb => absurd hb (by omega))
      · intro i hi h0
        refine ⟨fun hp => ?_, fun hp hn => ?_⟩
        · refine X_iload_n dX3_seekRound_10 rfl ?_
          refine X_iload_n dX3_seekRound_11 rfl ?_
          refine X_icmp_geN (a := i) (b := d) 50 dX3_seekRound_12 (by decide) (by omega) (by omega) (fun h_2 => ?_) (fun h_2 => ?_)
          · exact absurd hi (by omega)
          · refine X_aload_n dX3_seekRound_15 rfl ?_
            refine X_getr (a := 45) dX3_seekRound_16 fkX3_18 rfl (k_42 hSh) (r_42_5 hSh) ?_
            refine X_iload_n dX3_seekRound_19 rfl ?_
            refine X_lald i dX3_seekRound_20 (k_45 hSh) rfl (by omega) ?_
            refine X_aload_n dX3_seekRound_21 rfl ?_
            refine X_getr (a := 45) dX3_seekRound_22 fkX3_18 rfl (k_42 hSh) (r_42_5 hSh) ?_
            refine X_iload_n dX3_seekRound_25 rfl ?_
            refine X_lald d dX3_seekRound_26 (k_45 hSh) rfl (by omega) ?_
            refine X_lcmp dX3_seekRound_27 ?_
            refine X_if_ne 44 dX3_seekRound_28 (by decide) (fun h_3 => ?_) (fun h_3 => ?_)
            · exact absurd (lcm0.mpr (of_decide_eq_true hp)) h_3
            · refine X_aload_n dX3_seekRound_31 rfl ?_
              refine X_iload_n dX3_seekRound_32 rfl ?_
              refine X_puti dX3_seekRound_33 fkX3_46 rfl rfl (k_42 hSh) ?_
              refine X_aload_n dX3_seekRound_36 rfl ?_
              refine X_iload_n dX3_seekRound_37 rfl ?_
              refine X_iload_n dX3_seekRound_38 rfl ?_
              refine X_isub dX3_seekRound_39 ?_
              refine X_topi (pk_sub (a := d) (b := i) (by omega)) ?_
              refine X_puti dX3_seekRound_40 fkX3_49 rfl rfl (k_42 hSh) ?_
              exact X_vret dX3_seekRound_43 rfl ⟨rfl, rfl, by unfold srW; rw [if_neg (by decide), fE_s h0 hp hi], rfl⟩
        · refine X_iload_n dX3_seekRound_10 rfl ?_
          refine X_iload_n dX3_seekRound_11 rfl ?_
          refine X_icmp_geN (a := i) (b := d) 50 dX3_seekRound_12 (by decide) (by omega) (by omega) (fun h_4 => ?_) (fun h_4 => ?_)
          · exact absurd hi (by omega)
          · refine X_aload_n dX3_seekRound_15 rfl ?_
            refine X_getr (a := 45) dX3_seekRound_16 fkX3_18 rfl (k_42 hSh) (r_42_5 hSh) ?_
            refine X_iload_n dX3_seekRound_19 rfl ?_
            refine X_lald i dX3_seekRound_20 (k_45 hSh) rfl (by omega) ?_
            refine X_aload_n dX3_seekRound_21 rfl ?_
            refine X_getr (a := 45) dX3_seekRound_22 fkX3_18 rfl (k_42 hSh) (r_42_5 hSh) ?_
            refine X_iload_n dX3_seekRound_25 rfl ?_
            refine X_lald d dX3_seekRound_26 (k_45 hSh) rfl (by omega) ?_
            refine X_lcmp dX3_seekRound_27 ?_
            refine X_if_ne 44 dX3_seekRound_28 (by decide) (fun h_5 => ?_) (fun h_5 => ?_)
            · refine X_iinc (v := nI (i + 1)) dX3_seekRound_44 rfl (nI_1 _) (by decide) ?_
              refine X_goto 10 dX3_seekRound_47 (by decide) ?_
              refine X_L [(2, .int (nI (i + 1))), (0, .ref 42), (1, .int (nI d))] ⟨rfl, rfl, rfl, trivial⟩ ?_
              exact hn
            · exact absurd (lcm0.mp h_5) (of_decide_eq_false hp)
      · intro h0
        refine X_iload_n dX3_seekRound_10 rfl ?_
        refine X_iload_n dX3_seekRound_11 rfl ?_
        refine X_icmp_geN (a := d) (b := d) 50 dX3_seekRound_12 (by decide) (by omega) (by omega) (fun h_6 => ?_) (fun h_6 => ?_)
        · exact X_vret dX3_seekRound_50 rfl ⟨rfl, rfl, by unfold srW; rw [if_neg (by decide), fE_n.mpr h0], rfl⟩
        · exact absurd h_6 (by omega)
    · exact absurd rfl h_1
  | true =>
    refine X_if_eq 8 dX3_seekRound_4 (by decide) (fun h_7 => ?_) (fun h_7 => ?_)
    · exact absurd h_7 (by decide)
    · exact X_vret dX3_seekRound_7 rfl ⟨rfl, rfl, by unfold srW; rw [if_pos rfl], rfl⟩
set_option maxRecDepth 100000 in
set_option maxHeartbeats 4000000 in
theorem c_tellWaking (Γ : pTG) (g : pGG) (mi : pMI) (ml : pML) (hSh : Sh g) (to : Nat) (hkt : g.2.1 to = (20, 8)) : cV Γ 1 mX8_tellWaking [.ref 3, .ref to] g mi ml (fun i j => if i = to then va_cpy (mi 6) (mi to) 0 0 8 j else mi i j) ml := by
  refine cV_of (by decide +kernel) (Nat.le_of_ble_eq_true rfl) ?_
  refine X_aload_n dX8_tellWaking_0 rfl ?_
  refine X_getr (a := 6) dX8_tellWaking_1 fkX8_18 rfl (k_3 hSh) (r_3_2 hSh) ?_
  refine X_iconst (v := nI 0) dX8_tellWaking_4 (by decide) ?_
  refine X_aload_n dX8_tellWaking_5 rfl ?_
  refine X_iconst (v := nI 0) dX8_tellWaking_6 (by decide) ?_
  refine X_bipush (v := nI 8) dX8_tellWaking_7 (by decide) ?_
  refine X_copy 0 0 8 dX8_tellWaking_9 mkX8_46 (k_6 hSh) hkt rfl rfl rfl (by omega) (by omega) (by decide) (by decide) ?_
  exact X_vret dX8_tellWaking_12 rfl ⟨rfl, rfl, rfl, rfl⟩

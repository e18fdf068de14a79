/-! ===== habit ===== -/
theorem Vx_len : ∀ (n : Nat) (L : List Tok) (f : (Nat → Int32) → Int32) (d : Nat), Vx n L f d → 0 < L.length
  | 0, _, _, _, h => h.elim
  | n + 1, L, f, d, h => by
    rcases h with ⟨v, hv, h1, h2, h3⟩ | ⟨k, hk, h1, h2, h3⟩ | ⟨op, A, B, fa, fb, da, db, h1, h2, hA, hB, h5, h6, hda, hdb⟩ | ⟨op, A, B, C, D, fa, fb, fc, fd, da, db, dc, dd, h1, h2, hA, hB, hC, hD, h5, h6, hda, hdb, hdc, hdd⟩
    · rw [h1]; exact Nat.zero_lt_one
    · rw [h1]; exact Nat.zero_lt_one
    · have := Vx_len n A fa da hA
      rw [h5, List.length_append]; omega
    · have := Vx_len n A fa da hA
      rw [h5, List.length_append]; omega
def hbA (A : AS) (b : Nat) (t : List Tok) (f : (Nat → Int32) → Int32) (a : Bool) : AS := (A.1, ud (aH A) b (t, f), ud (aK A) b a, (aBn A, aB A), A.2.2.2.2.1, A.2.2.2.2.2.1, A.2.2.2.2.2.2.1, (0, aT A), -1, aR A)
theorem ok_hb {A : AS} {b : Nat} {t : List Tok} {f : (Nat → Int32) → Int32} {a : Bool} {N d : Nat} (hA : okAS A) (ht : t.length ≤ 150) (hv : Vx N t f d) (hd : d ≤ 40) (hn : a = false → nd6 f) : okAS (hbA A b t f a) := by
  obtain ⟨h1, h2, h3, h4, h5, h6, h7, h8, h9, h10, h11⟩ := hA
  refine ⟨h1, fun o ho => ?_, fun o ho => ?_, h4, h5, h6, h7, h8, h9, by show 0 ≤ 600; omega, fun k hk => absurd hk (by show ¬ k < 0; omega)⟩
  · show (ud (aH A) b (t, f) o).1.length ≤ 150 ∧ ∃ n d, Vx n (ud (aH A) b (t, f) o).1 (ud (aH A) b (t, f) o).2 d ∧ d ≤ 40
    by_cases q : o = b
    · rw [q, ud_s]; exact ⟨ht, N, d, hv, hd⟩
    · rw [ud_n q]; exact h2 o ho
  · show ud (aK A) b a o = false → ∀ k1 k2 : Nat → Int32, (∀ k, k ≠ 6 → k1 k = k2 k) → (ud (aH A) b (t, f) o).2 k1 = (ud (aH A) b (t, f) o).2 k2
    by_cases q : o = b
    · rw [q, ud_s, ud_s]; exact hn
    · rw [ud_n q, ud_n q]; exact h3 o ho
/-- what a habit's text gives -/
theorem habR_o {B : Nat → Int32} {n : Nat} {t : List Tok} {a : Bool} (h : habR B n = .ok (t, a)) : ∃ e, sumR (unitN B n 6) B n 0 = .ok (e, t, a) ∧ n ≤ skT B n e ∧ t.length ≤ e ∧ e ≤ n ∧ ∃ N f, Vx N t f 29 ∧ (a = false → nd6 f) := by
  unfold habR at h
  cases hs : sumR (unitN B n 6) B n 0 with
  | error e => rw [hs] at h; cases h
  | ok e =>
    obtain ⟨e, t', a'⟩ := e
    rw [hs] at h
    dsimp only at h
    by_cases q : n ≤ skT B n e
    · rw [if_pos q] at h
      cases h
      have := ((sumN_ok (B := B) (n := n) (k := 6)) 0 (Nat.zero_le _)).1 e t a hs
      exact ⟨e, rfl, q, by omega, this.2.1, sumN_V 0 e t a hs⟩
    · rw [if_neg q] at h; cases h
theorem habR_e {B : Nat → Int32} {n c p : Nat} (h : habR B n = .error (c, p)) : sumR (unitN B n 6) B n 0 = .error (c, p) ∨ ∃ e t a, sumR (unitN B n 6) B n 0 = .ok (e, t, a) ∧ skT B n e < n ∧ e ≤ n ∧ c = 1 ∧ p = skT B n e := by
  unfold habR at h
  cases hs : sumR (unitN B n 6) B n 0 with
  | error e => rw [hs] at h; dsimp only at h; cases h; exact Or.inl rfl
  | ok e =>
    obtain ⟨e, t', a'⟩ := e
    rw [hs] at h
    dsimp only at h
    by_cases q : n ≤ skT B n e
    · rw [if_pos q] at h; cases h
    · rw [if_neg q] at h
      cases h
      have := ((sumN_ok (B := B) (n := n) (k := 6)) 0 (Nat.zero_le _)).1 e t' a' hs
      exact Or.inr ⟨e, t', a', rfl, by omega, this.2.1, rfl, rfl⟩
def cpO (m : pMI) (a b dp n : Nat) : pMI := fun i j => if i = b then va_cpy (m a) (m b) 0 dp n j else m i j
theorem cpO_row {m : pMI} {a b dp n i : Nat} (h : i ≠ b) : cpO m a b dp n i = m i := by funext j; exact if_neg h
theorem cpO_in {m : pMI} {a b dp n j : Nat} (h : j < n) : cpO m a b dp n b (dp + j) = m a j := by
  unfold cpO va_cpy
  rw [if_pos rfl, if_pos ⟨by omega, by omega⟩, show 0 + (dp + j - dp) = j by omega]
theorem cpO_out {m : pMI} {a b dp n j : Nat} (h : j < dp ∨ dp + n ≤ j) : cpO m a b dp n b j = m b j := by
  unfold cpO va_cpy
  rw [if_pos rfl, if_neg (by omega)]
def HKP (b tl : Nat) (K : Nat → Bool) (a : Bool) (m x : pMI) : Prop := (∀ j, j < tl → x 18 (b * 150 + j) = m 23 j) ∧ (∀ j, j < b * 150 ∨ b * 150 + tl ≤ j → x 18 j = m 18 j) ∧ x 19 b = nI tl ∧ (∀ o, o ≠ b → x 19 o = m 19 o) ∧ x 17 5 = mkB (ud K b a) ∧ ∀ i, i ≠ 17 → i ≠ 18 → i ≠ 19 → x i = m i
set_option maxRecDepth 100000 in
set_option maxHeartbeats 4000000 in
theorem c_Hkeep_t (Γ : pTG) (g : pGG) (mi : pMI) (ml : pML) (hSh : Sh g) (b tl : Nat) (hb : b < 8) (htl : tl ≤ 150) (K : Nat → Bool) (h221 : mi 22 1 = nI tl) (h222 : mi 22 2 = nI 1) (h175 : mi 17 5 = mkB K) : rV Γ 1 mX6_keep [.ref 17, .int (nI b), .ref 22] g mi ml (fun m l => HKP b tl K true mi m ∧ l = ml) := by
  refine rV_of (by decide +kernel) (Nat.le_of_ble_eq_true rfl) ?_
  refine X_aload_n dX6_keep_0 rfl ?_
  refine X_getr (a := 23) dX6_keep_1 fkX6_28 rfl (k_22 hSh) (r_22_0 hSh) ?_
  refine X_iconst (v := nI 0) dX6_keep_4 (by decide) ?_
  refine X_aload_n dX6_keep_5 rfl ?_
  refine X_getr (a := 18) dX6_keep_6 fkX6_9 rfl (k_17 hSh) (r_17_0 hSh) ?_
  refine X_iload_n dX6_keep_9 rfl ?_
  refine X_sipush (v := nI 150) dX6_keep_10 (by decide) ?_
  refine X_imul dX6_keep_13 ?_
  refine X_topi (pk_mul b 150) ?_
  refine X_aload_n dX6_keep_14 rfl ?_
  refine X_geti dX6_keep_15 fkX6_31 rfl (k_22 hSh) ?_
  rw [h221]
  refine X_copy 0 (b * 150) tl dX6_keep_18 mkX6_34 (k_23 hSh) (k_18 hSh) rfl rfl rfl (by omega) (by omega) (by decide) (by decide) ?_
  refine X_mi (show _ = (cpO mi 23 18 (b * 150) tl) from rfl) ?_
  refine X_aload_n dX6_keep_21 rfl ?_
  refine X_getr (a := 19) dX6_keep_22 fkX6_15 rfl (k_17 hSh) (r_17_1 hSh) ?_
  refine X_iload_n dX6_keep_25 rfl ?_
  refine X_aload_n dX6_keep_26 rfl ?_
  refine X_geti dX6_keep_27 fkX6_31 rfl (k_22 hSh) ?_
  rw [(show (cpO mi 23 18 (b * 150) tl) 22 1 = nI tl by rw [cpO_row (by omega)]; exact h221)]
  refine X_iast b dX6_keep_30 (k_19 hSh) rfl (by omega) ?_
  refine X_aload_n dX6_keep_31 rfl ?_
  refine X_aload_n dX6_keep_32 rfl ?_
  refine X_geti dX6_keep_33 fkX6_40 rfl (k_22 hSh) ?_
  rw [(show (up2 (cpO mi 23 18 (b * 150) tl) 19 b (nI tl)) 22 2 = nI 1 by rw [up2_row (by omega), cpO_row (by omega)]; exact h222)]
  refine X_if_eqN (a := 1) 50 dX6_keep_36 (by decide) (by omega) (fun h_1 => ?_) (fun h_1 => ?_)
  · exact absurd h_1 (by omega)
  · refine X_aload_n dX6_keep_39 rfl ?_
    refine X_geti dX6_keep_40 fkX6_24 rfl (k_17 hSh) ?_
    rw [(show (up2 (cpO mi 23 18 (b * 150) tl) 19 b (nI tl)) 17 5 = mkB K by rw [up2_row (by omega), cpO_row (by omega)]; exact h175)]
    refine X_iconst (v := nI 1) dX6_keep_43 (by decide) ?_
    refine X_iload_n dX6_keep_44 rfl ?_
    refine X_ishl dX6_keep_45 ?_
    refine X_ior dX6_keep_46 ?_
    refine X_goto 60 dX6_keep_47 (by decide) ?_
    refine X_topi (mkB_or (p := K) (k := b) (by omega)) ?_
    refine X_puti dX6_keep_60 fkX6_24 rfl rfl (k_17 hSh) ?_
    exact X_vret dX6_keep_63 rfl ⟨rfl, rfl, ⟨fun j hj => by rw [up2_row (by omega), up2_row (by omega)]; exact cpO_in hj, fun j hj => by rw [up2_row (by omega), up2_row (by omega)]; exact cpO_out hj, by rw [up2_row (by omega), up2_s], fun o ho => by rw [up2_row (by omega), up2_n ho, cpO_row (by omega)], up2_s, fun i h1 h2 h3 => by rw [up2_row h1, up2_row h3, cpO_row h2]⟩, rfl⟩
set_option maxRecDepth 100000 in
set_option maxHeartbeats 4000000 in
theorem c_Hkeep_f (Γ : pTG) (g : pGG) (mi : pMI) (ml : pML) (hSh : Sh g) (b tl : Nat) (hb : b < 8) (htl : tl ≤ 150) (K : Nat → Bool) (h221 : mi 22 1 = nI tl) (h222 : mi 22 2 = nI 0) (h175 : mi 17 5 = mkB K) : rV Γ 1 mX6_keep [.ref 17, .int (nI b), .ref 22] g mi ml (fun m l => HKP b tl K false mi m ∧ l = ml) := by
  refine rV_of (by decide +kernel) (Nat.le_of_ble_eq_true rfl) ?_
  refine X_aload_n dX6_keep_0 rfl ?_
  refine X_getr (a := 23) dX6_keep_1 fkX6_28 rfl (k_22 hSh) (r_22_0 hSh) ?_
  refine X_iconst (v := nI 0) dX6_keep_4 (by decide) ?_
  refine X_aload_n dX6_keep_5 rfl ?_
  refine X_getr (a := 18) dX6_keep_6 fkX6_9 rfl (k_17 hSh) (r_17_0 hSh) ?_
  refine X_iload_n dX6_keep_9 rfl ?_
  refine X_sipush (v := nI 150) dX6_keep_10 (by decide) ?_
  refine X_imul dX6_keep_13 ?_
  refine X_topi (pk_mul b 150) ?_
  refine X_aload_n dX6_keep_14 rfl ?_
  refine X_geti dX6_keep_15 fkX6_31 rfl (k_22 hSh) ?_
  rw [h221]
  refine X_copy 0 (b * 150) tl dX6_keep_18 mkX6_34 (k_23 hSh) (k_18 hSh) rfl rfl rfl (by omega) (by omega) (by decide) (by decide) ?_
  refine X_mi (show _ = (cpO mi 23 18 (b * 150) tl) from rfl) ?_
  refine X_aload_n dX6_keep_21 rfl ?_
  refine X_getr (a := 19) dX6_keep_22 fkX6_15 rfl (k_17 hSh) (r_17_1 hSh) ?_
  refine X_iload_n dX6_keep_25 rfl ?_
  refine X_aload_n dX6_keep_26 rfl ?_
  refine X_geti dX6_keep_27 fkX6_31 rfl (k_22 hSh) ?_
  rw [(show (cpO mi 23 18 (b * 150) tl) 22 1 = nI tl by rw [cpO_row (by omega)]; exact h221)]
  refine X_iast b dX6_keep_30 (k_19 hSh) rfl (by omega) ?_
  refine X_aload_n dX6_keep_31 rfl ?_
  refine X_aload_n dX6_keep_32 rfl ?_
  refine X_geti dX6_keep_33 fkX6_40 rfl (k_22 hSh) ?_
  rw [(show (up2 (cpO mi 23 18 (b * 150) tl) 19 b (nI tl)) 22 2 = nI 0 by rw [up2_row (by omega), cpO_row (by omega)]; exact h222)]
  refine X_if_eqN (a := 0) 50 dX6_keep_36 (by decide) (by omega) (fun h_1 => ?_) (fun h_1 => ?_)
  · refine X_aload_n dX6_keep_50 rfl ?_
    refine X_geti dX6_keep_51 fkX6_24 rfl (k_17 hSh) ?_
    rw [(show (up2 (cpO mi 23 18 (b * 150) tl) 19 b (nI tl)) 17 5 = mkB K by rw [up2_row (by omega), cpO_row (by omega)]; exact h175)]
    refine X_iconst (v := nI 1) dX6_keep_54 (by decide) ?_
    refine X_iload_n dX6_keep_55 rfl ?_
    refine X_ishl dX6_keep_56 ?_
    refine X_iconst (v := -1) dX6_keep_57 (by decide) ?_
    refine X_ixor dX6_keep_58 ?_
    refine X_iand dX6_keep_59 ?_
    refine X_topi (mkB_clr (p := K) (k := b) (by omega)) ?_
    refine X_puti dX6_keep_60 fkX6_24 rfl rfl (k_17 hSh) ?_
    exact X_vret dX6_keep_63 rfl ⟨rfl, rfl, ⟨fun j hj => by rw [up2_row (by omega), up2_row (by omega)]; exact cpO_in hj, fun j hj => by rw [up2_row (by omega), up2_row (by omega)]; exact cpO_out hj, by rw [up2_row (by omega), up2_s], fun o ho => by rw [up2_row (by omega), up2_n ho, cpO_row (by omega)], up2_s, fun i h1 h2 h3 => by rw [up2_row h1, up2_row h3, cpO_row h2]⟩, rfl⟩
  · exact absurd h_1 (by omega)
theorem c_Hkeep (Γ : pTG) (g : pGG) (mi : pMI) (ml : pML) (hSh : Sh g) (b tl : Nat) (hb : b < 8) (htl : tl ≤ 150) (K : Nat → Bool) (a : Bool) (h221 : mi 22 1 = nI tl) (h222 : mi 22 2 = bI a) (h175 : mi 17 5 = mkB K) : rV Γ 1 mX6_keep [.ref 17, .int (nI b), .ref 22] g mi ml (fun m l => HKP b tl K a mi m ∧ l = ml) := by
  cases a with
  | true => exact c_Hkeep_t Γ g mi ml hSh b tl hb htl K h221 h222 h175
  | false => exact c_Hkeep_f Γ g mi ml hSh b tl hb htl K h221 h222 h175
theorem CI_hab {A : AS} {g : pGG} {m m1 m2 x : pMI} {l : pML} {k b r im st : Nat} {qi : Nat → Nat} {si : Nat} {t : List Tok} {f : (Nat → Int32) → Int32} {a : Bool} (hA : okAS A) (hC : CI A g m l) (h : CIx A g m l r im st qi si) (hb : b < 8) (ht : t.length ≤ 150) (h23 : ∀ j, j < t.length → m1 23 j = nI (scd (t.getD j (0, 0)))) (h24 : m1 2 4 = tx0 m k 2 4) (hfr : frHd (tx0 m k) m1) (hK : HKP b t.length (aK A) a m1 m2) (hF : FGD st si m2 x) : CI (hbA A b t f a) g x l ∧ frK m x := by
  have hST := CI_STC hC
  have hcl := CI_cl hC
  obtain ⟨c1, c2, c3, c4, c5, c6, c7, c8, c9, c10, c11, c12, c13⟩ := h
  have hs4 : st = 1 → 451 ≤ si := fun q => (c12.2.2.2.2.2.2.2.2 q).2.2.1
  have ex : ∀ i, i < 451 → i ≠ 0 → i ≠ 27 → x i = m2 i := fun i h0 h1 h2 => hF.1 i h1 h2 (fun q => by have := hs4 q; omega)
  have em : ∀ i, i ≠ 0 → i ≠ 2 → i ≠ 17 → i ≠ 18 → i ≠ 19 → i ≠ 22 → i ≠ 23 → m2 i = m i := fun i h0 h1 h2 h3 h4 h5 h6 => by rw [hK.2.2.2.2.2 i h2 h3 h4, hfr i h1 h5 h6]; exact tx0_row h0 h1
  have e1 : ∀ i, i < 451 → i ≠ 0 → i ≠ 2 → i ≠ 17 → i ≠ 18 → i ≠ 19 → i ≠ 22 → i ≠ 23 → i ≠ 27 → x i = m i := fun i h0 h1 h2 h3 h4 h5 h6 h7 h8 => (ex i h0 h1 h8).trans (em i h1 h2 h3 h4 h5 h6 h7)
  have e0 : ∀ j, j ≠ 17 → j ≠ 19 → x 0 j = m 0 j := fun j h1 h3 => by rw [hF.2.1 j h3, hK.2.2.2.2.2 0 (by omega) (by omega) (by omega), hfr 0 (by omega) (by omega) (by omega)]; exact tx0_0 h1
  refine ⟨CI_mk c1 c12 (clP_row (fun i h1 h2 => e1 i (by omega) (by omega) (by omega) (by omega) (by omega) (by omega) (by omega) (by omega) (by omega)) hcl) (fun o ho => ?_) ?_ (STC_row hST (fun i hi => e1 i (by omega) (by omega) (by omega) (by omega) (by omega) (by omega) (by omega) (by omega) (by omega))) ⟨hF.2.2.2.1, hF.2.2.2.2.1⟩ ⟨?_, fun q hq z hz => ?_⟩ ?_ ⟨?_, chR_row c5.2 (e1 82 (by omega) (by omega) (by omega) (by omega) (by omega) (by omega) (by omega) (by omega) (by omega))⟩ ⟨?_, c6.2.1, fun q hq => ?_⟩ ⟨?_, fun q hq => absurd hq (by show ¬ q < 0; omega)⟩ ⟨?_, fun j hj => ?_⟩ hF.2.2.1 ?_ hF.2.2.2.2.2, fun i h1 h2 => e1 i (by omega) (by omega) (by omega) (by omega) (by omega) (by omega) (by omega) (by omega) (by omega)⟩
  · show x 19 o = nI (ud (aH A) b (t, f) o).1.length ∧ ∀ i, i < (ud (aH A) b (t, f) o).1.length → x 18 (o * 150 + i) = nI (scd ((ud (aH A) b (t, f) o).1.getD i (0, 0)))
    rw [ex 19 (by omega) (by omega) (by omega), ex 18 (by omega) (by omega) (by omega)]
    by_cases q : o = b
    · rw [q, ud_s]
      exact ⟨hK.2.2.1, fun i hi => (hK.1 i hi).trans (h23 i hi)⟩
    · rw [ud_n q]
      have h9 := (c2.2.1 o ho)
      have hl := (hA.2.1 o ho).1
      have ef : ∀ i, i = 18 ∨ i = 19 → m1 i = m i := fun i hi => by rw [hfr i (by omega) (by omega) (by omega)]; exact tx0_row (by omega) (by omega)
      refine ⟨by rw [hK.2.2.2.1 o q, ef 19 (by omega)]; exact h9.1, fun i hi => ?_⟩
      rw [hK.2.1 (o * 150 + i) (by omega), ef 18 (by omega)]
      exact h9.2 i hi
  · rw [ex 17 (by omega) (by omega) (by omega)]; exact hK.2.2.2.2.1
  · rw [e1 24 (by omega) (by omega) (by omega) (by omega) (by omega) (by omega) (by omega) (by omega) (by omega)]; exact c3.1
  · rw [e1 25 (by omega) (by omega) (by omega) (by omega) (by omega) (by omega) (by omega) (by omega) (by omega)]; exact c3.2 q hq z hz
  · rw [e0 18 (by omega) (by omega)]; exact c4
  · rw [e1 81 (by omega) (by omega) (by omega) (by omega) (by omega) (by omega) (by omega) (by omega) (by omega)]; exact c5.1
  · rw [e1 81 (by omega) (by omega) (by omega) (by omega) (by omega) (by omega) (by omega) (by omega) (by omega)]; exact c6.1
  · have hq : q < aIn A := hq
    have hq9 := c12.2.2.2.2.2.1 q (Nat.lt_of_lt_of_le hq c6.2.1)
    have hq3 := hq9.2.2.1
    have hsi : ∀ i, qi q ≤ i → i < qi q + 3 → (st = 1 → i ≠ si) := fun i h1 h2 z => by
      have := (c12.2.2.2.2.2.2.2.2 z).2.2.2.2 q (Nat.lt_of_lt_of_le hq c6.2.1)
      omega
    have e2 : ∀ i, qi q ≤ i → i < qi q + 3 → x i = m i := fun i h1 h2 => (hF.1 i (by omega) (by omega) (hsi i h1 h2)).trans (em i (by omega) (by omega) (by omega) (by omega) (by omega) (by omega) (by omega))
    exact imC_row (c6.2.2 q hq) (e2 _ (by omega) (by omega)) (e2 _ (by omega) (by omega)) (e2 _ (by omega) (by omega))
  · rw [hF.2.1 17 (by omega), hK.2.2.2.2.2 0 (by omega) (by omega) (by omega), hfr 0 (by omega) (by omega) (by omega), tx0_17]; rfl
  · rw [ex 2 (by omega) (by omega) (by omega), hK.2.2.2.2.2 2 (by omega) (by omega) (by omega), h24, tx0_24]; rfl
  · rw [e1 86 (by omega) (by omega) (by omega) (by omega) (by omega) (by omega) (by omega) (by omega) (by omega)]; exact c8.2 j hj
  · have e77 := e1 77 (by omega) (by omega) (by omega) (by omega) (by omega) (by omega) (by omega) (by omega) (by omega)
    rw [e77]
    rcases c11 with q | ⟨q1, q2⟩
    · exact Or.inl q
    · exact Or.inr ⟨q1, GOK_row q2 (by rw [e77]) (e1 78 (by omega) (by omega) (by omega) (by omega) (by omega) (by omega) (by omega) (by omega) (by omega)) (e1 80 (by omega) (by omega) (by omega) (by omega) (by omega) (by omega) (by omega) (by omega) (by omega))⟩
theorem RI_hb {A : AS} {m x : pMI} {b : Nat} {t : List Tok} {f : (Nat → Int32) → Int32} {a : Bool} (hA : okAS A) (h : RI A m) (hb : b < 8) (ht : 0 < t.length) (e : ∀ i, 88 ≤ i → i < 450 → ¬ rsR i → i ≠ 129 → i ≠ 193 → i ≠ 134 + b → x i = m i) (e7 : ∀ j, 28 ≤ j → j ≤ 31 → x 87 j = m 87 j) (h1 : x 87 1 = nI 0) (h3 : x 87 3 = -1) (h129 : x 129 b = nI t.length ∧ ∀ o, o ≠ b → x 129 o = m 129 o) (h193 : x 193 b = bI a ∧ ∀ o, o ≠ b → x 193 o = m 193 o) (hc : ∀ i, i < t.length → x (134 + b) (2 * i) = nI (t.getD i (0, 0)).1 ∧ x (134 + b) (2 * i + 1) = nI (t.getD i (0, 0)).2) : RI (hbA A b t f a) x := by
  have hc2 := hA.2.2.2.2.2.1
  have hi := hA.2.2.2.2.2.2.2.1
  have hb12 := hA.2.2.2.1.1
  obtain ⟨r1, r2, r3, r4, r5, r6, r7, r8, r9, r10⟩ := h
  have e' : ∀ i, i = 89 ∨ i = 91 ∨ (102 ≤ i ∧ i ≤ 109) ∨ (121 ≤ i ∧ i ≤ 128) ∨ (143 ≤ i ∧ i ≤ 154) ∨ (169 ≤ i ∧ i ≤ 192) → x i = m i := fun i hi => e i (by omega) (by omega) (by unfold rsR; omega) (by omega) (by omega) (by omega)
  refine ⟨rfP_w hA.1 r1 (fun i hi => e' i (by omega)), fun o ho => ?_, fun o ho => ?_, ⟨(e7 28 (by omega) (by omega)).trans r4.1, fun k hk q hq => ?_⟩, (e7 29 (by omega) (by omega)).trans r5, ⟨(e7 30 (by omega) (by omega)).trans r6.1, fun k hk => rfSn_row (r6.2 k hk) (e' _ (by have hk : k < aCn A := hk; omega))⟩, ⟨(e7 31 (by omega) (by omega)).trans r7.1, fun k hk => rfIm_row (r7.2 k hk) (e' _ (by have hk : k < aIn A := hk; omega))⟩, ⟨h1, fun k hk => absurd hk (by show ¬ k < 0; omega)⟩, h3, fun j hj => by rw [e' 89 (by omega)]; exact r10 j hj⟩
  · show (x 129 o = nI 0 ∧ (ud (aH A) b (t, f) o).2 = fun kn => kn 8) ∨ (0 < (ud (aH A) b (t, f) o).1.length ∧ x 129 o = nI (ud (aH A) b (t, f) o).1.length ∧ ∀ i, i < (ud (aH A) b (t, f) o).1.length → x (134 + o) (2 * i) = nI ((ud (aH A) b (t, f) o).1.getD i (0, 0)).1 ∧ x (134 + o) (2 * i + 1) = nI ((ud (aH A) b (t, f) o).1.getD i (0, 0)).2)
    by_cases q : o = b
    · rw [q, ud_s]; exact Or.inr ⟨ht, h129.1, hc⟩
    · rw [ud_n q, h129.2 o q, e (134 + o) (by omega) (by omega) (by unfold rsR; omega) (by omega) (by omega) (by omega)]; exact r2 o ho
  · show x 193 o = bI (ud (aK A) b a o)
    by_cases q : o = b
    · rw [q, ud_s]; exact h193.1
    · rw [ud_n q, h193.2 o q]; exact r3 o ho
  · have hk : k < aBn A := hk
    rw [e' (143 + k) (by omega)]; exact r4.2 k hk q hq
set_option maxRecDepth 100000 in
set_option maxHeartbeats 4000000 in
theorem k_habit_f0 (Γ : pTG) (g : pGG) (mi : pMI) (ml : pML) (A : AS) (hA : okAS A) (hC : CI A g mi ml) (v : Int32) (hf : ¬ ∃ b, b < aG A ∧ v = nI b) (w : Int32) : CT Γ 60 20 5000 mX11_habit [.ref 0, .int v, .int w] g mi ml (CQ (rfA A 0) (.inr 0) mi ml) := by
  refine CT_of (by decide +kernel) (Nat.le_of_ble_eq_true rfl) ?_
  have hSh := CI_Sh hC
  have hcl := CI_cl hC
  have hP := hA.1
  have hG8 : aG A ≤ 8 := hP.2.1
  have hC8 : (aP A).1 ≤ 8 := hP.1
  have hT6 := hA.2.2.2.2.2.2.2.2.2.1
  refine X_aload_n dX11_habit_0 rfl ?_
  refine X_iload_n dX11_habit_1 rfl ?_
  exact X_need dX11_habit_2 mkX11_147 (k_0 hSh) (c_needGuest Γ g mi ml hSh v) rfl rfl (by decide) (by decide) (by decide) (by decide) (fun _ => ⟨rfl, CI_rf (by decide) hC, frK_86, rfl⟩) (fun h => absurd ((gd_iff hG8).mp (by rw [← hcl.2.1]; exact h)) hf)
set_option maxRecDepth 100000 in
set_option maxHeartbeats 4000000 in
theorem k_habit_f1 (Γ : pTG) (g : pGG) (mi : pMI) (ml : pML) (A : AS) (hA : okAS A) (hC : CI A g mi ml) (b : Nat) (hb : b < aG A) (w : Int32) (hf : ¬ (nI 0 ≤ w ∧ w ≤ nI (min (aTn A) 150))) : CT Γ 60 20 5000 mX11_habit [.ref 0, .int (nI b), .int w] g mi ml (CQ (rfA A 1) (.inr 1) mi ml) := by
  refine CT_of (by decide +kernel) (Nat.le_of_ble_eq_true rfl) ?_
  have hSh := CI_Sh hC
  have hcl := CI_cl hC
  have hP := hA.1
  have hG8 : aG A ≤ 8 := hP.2.1
  have hC8 : (aP A).1 ≤ 8 := hP.1
  have hT6 := hA.2.2.2.2.2.2.2.2.2.1
  refine X_aload_n dX11_habit_0 rfl ?_
  refine X_iload_n dX11_habit_1 rfl ?_
  refine X_need dX11_habit_2 mkX11_147 (k_0 hSh) (c_needGuest Γ g mi ml hSh (nI b)) rfl rfl (by decide) (by decide) (by decide) (by decide) (fun h => absurd (by rw [hcl.2.1]; exact (gd_iff hG8).mpr ⟨b, hb, rfl⟩) h) (fun _ => ?_)
  refine X_aload_n dX11_habit_5 rfl ?_
  refine X_iload_n dX11_habit_6 rfl ?_
  refine X_iconst (v := nI 0) dX11_habit_7 (by decide) ?_
  refine X_aload_n dX11_habit_8 rfl ?_
  refine X_geti dX11_habit_9 fkX11_108 rfl (k_0 hSh) ?_
  rw [(CI_k hC).2.2.2.2.1.1]
  refine X_sipush (v := nI 150) dX11_habit_12 (by decide) ?_
  refine X_min dX11_habit_15 mkX11_150 (by decide) (Nat.le_of_ble_eq_true rfl) ?_
  refine X_topi (nI_minJ (a := aTn A) (b := 150) (by omega) (by omega)) ?_
  exact X_need dX11_habit_18 mkX11_116 (k_0 hSh) (c_needWithin Γ g mi ml hSh w (nI 0) (nI (min (aTn A) 150))) rfl rfl (by decide) (by decide) (by decide) (by decide) (fun _ => ⟨rfl, CI_rf (by decide) hC, frK_86, rfl⟩) (fun h => absurd h hf)
set_option maxRecDepth 100000 in
set_option maxHeartbeats 4000000 in
theorem r_habit_f0 (Γ : pTG) (g : pGG) (mi : pMI) (ml : pML) (A : AS) (hA : okAS A) (hSh : Sh g) (hR : RI A mi) (v : Int32) (hf : ¬ ∃ b, b < aG A ∧ v = nI b) (w : Int32) : CT Γ 60 0 0 mX12_habit [.ref 87, .int v, .int w] g mi ml (RQ (rfA A 0) (.inr 0) cd2 g mi ml) := by
  refine CT_of (by decide +kernel) (Nat.le_of_ble_eq_true rfl) ?_
  have hP := hA.1
  have hG8 : aG A ≤ 8 := hP.2.1
  have hC8 : (aP A).1 ≤ 8 := hP.1
  have hT6 := hA.2.2.2.2.2.2.2.2.2.1
  refine X_aload_n dX12_habit_0 rfl ?_
  refine X_iconst (v := nI 0) dX12_habit_1 (by decide) ?_
  refine X_puti dX12_habit_2 fkX12_158 rfl rfl (k_87 hSh) ?_
  refine X_aload_n dX12_habit_5 rfl ?_
  refine X_aload_n dX12_habit_6 rfl ?_
  refine X_iload_n dX12_habit_7 rfl ?_
  refine X_callVI dX12_habit_8 mkX12_285 (k_87 hSh) (c_isGuest Γ g (up2 mi 87 0 (nI 0)) ml hSh v) rfl rfl (by decide) (Nat.le_of_ble_eq_true rfl) ?_
  refine X_topi (show bI (decide (nI 0 ≤ v) && decide (v ≤ (up2 mi 87 0 (nI 0)) 91 1 - nI 1)) = nI 0 from congrArg bI (show (decide (nI 0 ≤ v) && decide (v ≤ (up2 mi 87 0 (nI 0)) 91 1 - nI 1)) = false from Bool.eq_false_iff.mpr (fun q => hf ((gd_ref hG8).mp (by rw [(show (up2 mi 87 0 (nI 0)) 91 1 = nI (aG A) from ((congrFun (up2_row (by omega)) _).trans hR.1.2.1))] at q; exact q))))) ?_
  refine X_if_neN (a := 0) 18 dX12_habit_11 (by decide) (by omega) (fun h_1 => ?_) (fun h_1 => ?_)
  · exact absurd h_1 (by omega)
  · refine X_iconst (v := nI 1) dX12_habit_14 (by decide) ?_
    refine X_goto 19 dX12_habit_15 (by decide) ?_
    refine X_iconst (v := nI 1) dX12_habit_19 (by decide) ?_
    refine X_iconst (v := nI 0) dX12_habit_20 (by decide) ?_
    refine X_callVI dX12_habit_21 mkX12_228 (k_87 hSh) (c_bad1 Γ g (up2 mi 87 0 (nI 0)) ml hSh 1 0 (by decide) (by decide) (by decide) up2_s) rfl rfl (by decide) (Nat.le_of_ble_eq_true rfl) ?_
    refine X_mi (show _ = mB mi 1 0 from rfl) ?_
    refine X_if_neN (a := 1) 60 dX12_habit_24 (by decide) (by omega) (fun h_2 => ?_) (fun h_2 => ?_)
    · refine X_iconst (v := nI 0) dX12_habit_60 (by decide) ?_
      exact X_iret dX12_habit_61 rfl ⟨rfl, rfl, RI_rf hA (by decide) hR, fr2_B, _, rfl, mB_0⟩
    · exact absurd h_2 (by omega)
set_option maxRecDepth 100000 in
set_option maxHeartbeats 4000000 in
theorem r_habit_f1a (Γ : pTG) (g : pGG) (mi : pMI) (ml : pML) (A : AS) (hA : okAS A) (hSh : Sh g) (hR : RI A mi) (b : Nat) (hb : b < aG A) (w : Int32) (hf : ¬ (nI 0 ≤ w ∧ w ≤ nI (aTn A))) : CT Γ 60 0 0 mX12_habit [.ref 87, .int (nI b), .int w] g mi ml (RQ (rfA A 1) (.inr 1) cd2 g mi ml) := by
  refine CT_of (by decide +kernel) (Nat.le_of_ble_eq_true rfl) ?_
  have hP := hA.1
  have hG8 : aG A ≤ 8 := hP.2.1
  have hC8 : (aP A).1 ≤ 8 := hP.1
  have hT6 := hA.2.2.2.2.2.2.2.2.2.1
  refine X_aload_n dX12_habit_0 rfl ?_
  refine X_iconst (v := nI 0) dX12_habit_1 (by decide) ?_
  refine X_puti dX12_habit_2 fkX12_158 rfl rfl (k_87 hSh) ?_
  refine X_aload_n dX12_habit_5 rfl ?_
  refine X_aload_n dX12_habit_6 rfl ?_
  refine X_iload_n dX12_habit_7 rfl ?_
  refine X_callVI dX12_habit_8 mkX12_285 (k_87 hSh) (c_isGuest Γ g (up2 mi 87 0 (nI 0)) ml hSh (nI b)) rfl rfl (by decide) (Nat.le_of_ble_eq_true rfl) ?_
  refine X_topi (show bI (decide (nI 0 ≤ nI b) && decide (nI b ≤ (up2 mi 87 0 (nI 0)) 91 1 - nI 1)) = nI 1 from congrArg bI (show (decide (nI 0 ≤ nI b) && decide (nI b ≤ (up2 mi 87 0 (nI 0)) 91 1 - nI 1)) = true from by rw [(show (up2 mi 87 0 (nI 0)) 91 1 = nI (aG A) from ((congrFun (up2_row (by omega)) _).trans hR.1.2.1))]; exact (gd_ref hG8).mpr ⟨b, hb, rfl⟩)) ?_
  refine X_if_neN (a := 1) 18 dX12_habit_11 (by decide) (by omega) (fun h_1 => ?_) (fun h_1 => ?_)
  · refine X_iconst (v := nI 0) dX12_habit_18 (by decide) ?_
    refine X_iconst (v := nI 1) dX12_habit_19 (by decide) ?_
    refine X_iconst (v := nI 0) dX12_habit_20 (by decide) ?_
    refine X_callVI dX12_habit_21 mkX12_228 (k_87 hSh) (c_bad0 Γ g (up2 mi 87 0 (nI 0)) ml hSh 1 0 up2_s) rfl rfl (by decide) (Nat.le_of_ble_eq_true rfl) ?_
    refine X_if_neN (a := 0) 60 dX12_habit_24 (by decide) (by omega) (fun h_2 => ?_) (fun h_2 => ?_)
    · exact absurd h_2 (by omega)
    · refine X_aload_n dX12_habit_27 rfl ?_
      refine X_iload_n dX12_habit_28 rfl ?_
      refine X_iconst (v := nI 0) dX12_habit_29 (by decide) ?_
      refine X_aload_n dX12_habit_30 rfl ?_
      refine X_geti dX12_habit_31 fkX12_161 rfl (k_87 hSh) ?_
      refine X_topi (show (up2 mi 87 0 (nI 0)) 87 1 = nI (aTn A) by rw [up2_n (by omega)]; exact hR.2.2.2.2.2.2.2.1.1) ?_
      refine X_callSI dX12_habit_34 mkX12_192 (c_in Γ g (up2 mi 87 0 (nI 0)) ml w (nI 0) (nI (aTn A))) rfl rfl (by decide) (Nat.le_of_ble_eq_true rfl) ?_
      refine X_topi (show bI (decide (nI 0 ≤ w) && decide (w ≤ nI (aTn A))) = nI 0 from congrArg bI (show (decide (nI 0 ≤ w) && decide (w ≤ nI (aTn A))) = false from Bool.eq_false_iff.mpr (fun q => hf (by rw [Bool.and_eq_true, decide_eq_true_eq, decide_eq_true_eq] at q; exact q)))) ?_
      refine X_if_eqN (a := 0) 47 dX12_habit_37 (by decide) (by omega) (fun h_3 => ?_) (fun h_3 => ?_)
      · refine X_iconst (v := nI 1) dX12_habit_47 (by decide) ?_
        refine X_goto 52 dX12_habit_48 (by decide) ?_
        refine X_iconst (v := nI 2) dX12_habit_52 (by decide) ?_
        refine X_iconst (v := nI 1) dX12_habit_53 (by decide) ?_
        refine X_callVI dX12_habit_54 mkX12_228 (k_87 hSh) (c_bad1 Γ g (up2 mi 87 0 (nI 0)) ml hSh 2 1 (by decide) (by decide) (by decide) up2_s) rfl rfl (by decide) (Nat.le_of_ble_eq_true rfl) ?_
        refine X_mi (show _ = mB mi 2 1 from rfl) ?_
        refine X_if_eqN (a := 1) 62 dX12_habit_57 (by decide) (by omega) (fun h_4 => ?_) (fun h_4 => ?_)
        · exact absurd h_4 (by omega)
        · refine X_iconst (v := nI 0) dX12_habit_60 (by decide) ?_
          exact X_iret dX12_habit_61 rfl ⟨rfl, rfl, RI_rf hA (by decide) hR, fr2_B, _, rfl, mB_0⟩
      · exact absurd h_3 (by omega)
  · exact absurd h_1 (by omega)
set_option maxRecDepth 100000 in
set_option maxHeartbeats 4000000 in
theorem r_habit_f1b (Γ : pTG) (g : pGG) (mi : pMI) (ml : pML) (A : AS) (hA : okAS A) (hSh : Sh g) (hR : RI A mi) (b : Nat) (hb : b < aG A) (k : Nat) (hka : 0 ≤ k) (hk : k ≤ (aTn A)) (hk5 : 150 < k) : CT Γ 60 0 0 mX12_habit [.ref 87, .int (nI b), .int (nI k)] g mi ml (RQ (rfA A 1) (.inr 1) cd2 g mi ml) := by
  refine CT_of (by decide +kernel) (Nat.le_of_ble_eq_true rfl) ?_
  have hP := hA.1
  have hG8 : aG A ≤ 8 := hP.2.1
  have hC8 : (aP A).1 ≤ 8 := hP.1
  have hT6 := hA.2.2.2.2.2.2.2.2.2.1
  refine X_aload_n dX12_habit_0 rfl ?_
  refine X_iconst (v := nI 0) dX12_habit_1 (by decide) ?_
  refine X_puti dX12_habit_2 fkX12_158 rfl rfl (k_87 hSh) ?_
  refine X_aload_n dX12_habit_5 rfl ?_
  refine X_aload_n dX12_habit_6 rfl ?_
  refine X_iload_n dX12_habit_7 rfl ?_
  refine X_callVI dX12_habit_8 mkX12_285 (k_87 hSh) (c_isGuest Γ g (up2 mi 87 0 (nI 0)) ml hSh (nI b)) rfl rfl (by decide) (Nat.le_of_ble_eq_true rfl) ?_
  refine X_topi (show bI (decide (nI 0 ≤ nI b) && decide (nI b ≤ (up2 mi 87 0 (nI 0)) 91 1 - nI 1)) = nI 1 from congrArg bI (show (decide (nI 0 ≤ nI b) && decide (nI b ≤ (up2 mi 87 0 (nI 0)) 91 1 - nI 1)) = true from by rw [(show (up2 mi 87 0 (nI 0)) 91 1 = nI (aG A) from ((congrFun (up2_row (by omega)) _).trans hR.1.2.1))]; exact (gd_ref hG8).mpr ⟨b, hb, rfl⟩)) ?_
  refine X_if_neN (a := 1) 18 dX12_habit_11 (by decide) (by omega) (fun h_1 => ?_) (fun h_1 => ?_)
  · refine X_iconst (v := nI 0) dX12_habit_18 (by decide) ?_
    refine X_iconst (v := nI 1) dX12_habit_19 (by decide) ?_
    refine X_iconst (v := nI 0) dX12_habit_20 (by decide) ?_
    refine X_callVI dX12_habit_21 mkX12_228 (k_87 hSh) (c_bad0 Γ g (up2 mi 87 0 (nI 0)) ml hSh 1 0 up2_s) rfl rfl (by decide) (Nat.le_of_ble_eq_true rfl) ?_
    refine X_if_neN (a := 0) 60 dX12_habit_24 (by decide) (by omega) (fun h_2 => ?_) (fun h_2 => ?_)
    · exact absurd h_2 (by omega)
    · refine X_aload_n dX12_habit_27 rfl ?_
      refine X_iload_n dX12_habit_28 rfl ?_
      refine X_iconst (v := nI 0) dX12_habit_29 (by decide) ?_
      refine X_aload_n dX12_habit_30 rfl ?_
      refine X_geti dX12_habit_31 fkX12_161 rfl (k_87 hSh) ?_
      refine X_topi (show (up2 mi 87 0 (nI 0)) 87 1 = nI (aTn A) by rw [up2_n (by omega)]; exact hR.2.2.2.2.2.2.2.1.1) ?_
      refine X_callSI dX12_habit_34 mkX12_192 (c_in Γ g (up2 mi 87 0 (nI 0)) ml (nI k) (nI 0) (nI (aTn A))) rfl rfl (by decide) (Nat.le_of_ble_eq_true rfl) ?_
      refine X_topi (show bI (decide (nI 0 ≤ nI k) && decide (nI k ≤ nI (aTn A))) = nI 1 from congrArg bI (show (decide (nI 0 ≤ nI k) && decide (nI k ≤ nI (aTn A))) = true from by rw [decide_eq_true (nI_le (by omega) (by omega)), decide_eq_true (nI_le (by omega) (by omega))]; rfl)) ?_
      refine X_if_eqN (a := 1) 47 dX12_habit_37 (by decide) (by omega) (fun h_3 => ?_) (fun h_3 => ?_)
      · exact absurd h_3 (by omega)
      · refine X_iload_n dX12_habit_40 rfl ?_
        refine X_sipush (v := nI 150) dX12_habit_41 (by decide) ?_
        refine X_icmp_leN (a := k) (b := 150) 51 dX12_habit_44 (by decide) (by omega) (by omega) (fun h_4 => ?_) (fun h_4 => ?_)
        · exact absurd h_4 (by omega)
        · refine X_iconst (v := nI 1) dX12_habit_47 (by decide) ?_
          refine X_goto 52 dX12_habit_48 (by decide) ?_
          refine X_iconst (v := nI 2) dX12_habit_52 (by decide) ?_
          refine X_iconst (v := nI 1) dX12_habit_53 (by decide) ?_
          refine X_callVI dX12_habit_54 mkX12_228 (k_87 hSh) (c_bad1 Γ g (up2 mi 87 0 (nI 0)) ml hSh 2 1 (by decide) (by decide) (by decide) up2_s) rfl rfl (by decide) (Nat.le_of_ble_eq_true rfl) ?_
          refine X_mi (show _ = mB mi 2 1 from rfl) ?_
          refine X_if_eqN (a := 1) 62 dX12_habit_57 (by decide) (by omega) (fun h_5 => ?_) (fun h_5 => ?_)
          · exact absurd h_5 (by omega)
          · refine X_iconst (v := nI 0) dX12_habit_60 (by decide) ?_
            exact X_iret dX12_habit_61 rfl ⟨rfl, rfl, RI_rf hA (by decide) hR, fr2_B, _, rfl, mB_0⟩
  · exact absurd h_1 (by omega)
set_option maxRecDepth 100000 in
set_option maxHeartbeats 4000000 in
theorem k_habit_e (Γ : pTG) (g : pGG) (mi : pMI) (ml : pML) (A : AS) (hA : okAS A) (hC : CI A g mi ml) (b : Nat) (hb : b < aG A) (k : Nat) (hka : 0 ≤ k) (hk : k ≤ (min (aTn A) 150)) (c1 p1 : Nat) (hr : habR (aT A) k = .error (c1, p1)) : CT Γ 60 20 5000 mX11_habit [.ref 0, .int (nI b), .int (nI k)] g mi ml (CQ (tbA A (aBn A, aB A) (nI p1)) (.inl (nI c1 - nI 10)) mi ml) := by
  refine CT_of (by decide +kernel) (Nat.le_of_ble_eq_true rfl) ?_
  have hSh := CI_Sh hC
  have hcl := CI_cl hC
  have hP := hA.1
  have hG8 : aG A ≤ 8 := hP.2.1
  have hC8 : (aP A).1 ≤ 8 := hP.1
  have hT6 := hA.2.2.2.2.2.2.2.2.2.1
  refine X_aload_n dX11_habit_0 rfl ?_
  refine X_iload_n dX11_habit_1 rfl ?_
  refine X_need dX11_habit_2 mkX11_147 (k_0 hSh) (c_needGuest Γ g mi ml hSh (nI b)) rfl rfl (by decide) (by decide) (by decide) (by decide) (fun h => absurd (by rw [hcl.2.1]; exact (gd_iff hG8).mpr ⟨b, hb, rfl⟩) h) (fun _ => ?_)
  refine X_aload_n dX11_habit_5 rfl ?_
  refine X_iload_n dX11_habit_6 rfl ?_
  refine X_iconst (v := nI 0) dX11_habit_7 (by decide) ?_
  refine X_aload_n dX11_habit_8 rfl ?_
  refine X_geti dX11_habit_9 fkX11_108 rfl (k_0 hSh) ?_
  rw [(CI_k hC).2.2.2.2.1.1]
  refine X_sipush (v := nI 150) dX11_habit_12 (by decide) ?_
  refine X_min dX11_habit_15 mkX11_150 (by decide) (Nat.le_of_ble_eq_true rfl) ?_
  refine X_topi (nI_minJ (a := aTn A) (b := 150) (by omega) (by omega)) ?_
  refine X_need dX11_habit_18 mkX11_116 (k_0 hSh) (c_needWithin Γ g mi ml hSh (nI k) (nI 0) (nI (min (aTn A) 150))) rfl rfl (by decide) (by decide) (by decide) (by decide) (fun h => absurd (⟨nI_le (by omega) (by omega), nI_le (by omega) (by omega)⟩) h) (fun _ => ?_)
  refine X_aload_n dX11_habit_21 rfl ?_
  refine X_iload_n dX11_habit_22 rfl ?_
  refine X_callVV dX11_habit_23 mkX11_120 (k_0 hSh) (c_startText Γ g mi ml hSh k) rfl rfl (by decide) (Nat.le_of_ble_eq_true rfl) ?_
  have hT0 := tx0_T hA hC (show k ≤ aTn A by omega)
  refine X_aload_n dX11_habit_26 rfl ?_
  refine X_getr (a := 22) dX11_habit_27 fkX11_44 rfl (k_0 hSh) (r_0_5 hSh) ?_
  refine X_callVrI dX11_habit_30 mkX11_156 (k_22 hSh) (c_Hread Γ g (tx0 mi k) ml hSh (aT A) k (by omega) (fun q hq => hA.2.2.2.2.2.2.2.2.2.2 q (by omega)) hT0) rfl rfl (by decide) (Nat.le_of_ble_eq_true rfl) (fun v1 m1 l1 hm1 => ?_)
  obtain ⟨hl1, hm1⟩ := hm1
  rw [hr] at hm1
  obtain ⟨hv1, hE1, hE2, hE4, hE3⟩ := hm1
  rw [hl1, hv1]
  refine X_if_neN (a := 0) 47 dX11_habit_33 (by decide) (by omega) (fun h_1 => ?_) (fun h_1 => ?_)
  · exact absurd h_1 (by omega)
  · refine X_aload_n dX11_habit_36 rfl ?_
    refine X_getr (a := 2) dX11_habit_37 fkX11_18 rfl (k_0 hSh) (r_0_1 hSh) ?_
    refine X_geti dX11_habit_40 fkX11_127 rfl (k_2 hSh) ?_
    rw [hE1]
    refine X_bipush (v := nI 10) dX11_habit_43 (by decide) ?_
    refine X_isub dX11_habit_45 ?_
    exact X_iret dX11_habit_46 rfl ⟨rfl, CI_tb hC (fun i h1 h2 h3 h4 h5 h6 => by rw [hE3 i h4 (fun q => h2 (by unfold scR; omega)) (fun q => h2 (by unfold scR; omega))]; exact tx0_row h3 h4) (fun j hj => by rw [hE3 0 (by omega) (by omega) (by omega)]; exact tx0_0 hj) (by rw [hE3 0 (by omega) (by omega) (by omega)]; exact tx0_17) (by rw [hE3 24 (by omega) (by omega) (by omega), tx0_row (by omega) (by omega)]; exact (CI_bk hC).1) (fun q hq z hz => by rw [hE3 25 (by omega) (by omega) (by omega), tx0_row (by omega) (by omega)]; exact (CI_bk hC).2 q hq z hz) hE2, fun i h1 h2 => by rw [hE3 i (by omega) (by omega) (by omega)]; exact tx0_row (by omega) (by omega), rfl⟩
set_option maxRecDepth 100000 in
set_option maxHeartbeats 4000000 in
theorem k_habit_o (Γ : pTG) (g : pGG) (mi : pMI) (ml : pML) (A : AS) (hA : okAS A) (hC : CI A g mi ml) (b : Nat) (hb : b < aG A) (k : Nat) (hka : 0 ≤ k) (hk : k ≤ (min (aTn A) 150)) (t : List Tok) (a : Bool) (f : (Nat → Int32) → Int32) (ht0 : 0 < t.length) (ht : t.length ≤ 150) (hr : habR (aT A) k = .ok (t, a)) : CT Γ 60 20 5000 mX11_habit [.ref 0, .int (nI b), .int (nI k)] g mi ml (CQ (hbA A b t f a) (.inl (nI 1)) mi ml) := by
  refine CT_of (by decide +kernel) (Nat.le_of_ble_eq_true rfl) ?_
  have hSh := CI_Sh hC
  have hcl := CI_cl hC
  have hP := hA.1
  have hG8 : aG A ≤ 8 := hP.2.1
  have hC8 : (aP A).1 ≤ 8 := hP.1
  have hT6 := hA.2.2.2.2.2.2.2.2.2.1
  obtain ⟨r, im, st, qi, si, hx⟩ := CI_dyn hC
  have hd := hx.2.2.2.2.2.2.2.2.2.2.2.1
  refine X_aload_n dX11_habit_0 rfl ?_
  refine X_iload_n dX11_habit_1 rfl ?_
  refine X_need dX11_habit_2 mkX11_147 (k_0 hSh) (c_needGuest Γ g mi ml hSh (nI b)) rfl rfl (by decide) (by decide) (by decide) (by decide) (fun h => absurd (by rw [hcl.2.1]; exact (gd_iff hG8).mpr ⟨b, hb, rfl⟩) h) (fun _ => ?_)
  refine X_aload_n dX11_habit_5 rfl ?_
  refine X_iload_n dX11_habit_6 rfl ?_
  refine X_iconst (v := nI 0) dX11_habit_7 (by decide) ?_
  refine X_aload_n dX11_habit_8 rfl ?_
  refine X_geti dX11_habit_9 fkX11_108 rfl (k_0 hSh) ?_
  rw [(CI_k hC).2.2.2.2.1.1]
  refine X_sipush (v := nI 150) dX11_habit_12 (by decide) ?_
  refine X_min dX11_habit_15 mkX11_150 (by decide) (Nat.le_of_ble_eq_true rfl) ?_
  refine X_topi (nI_minJ (a := aTn A) (b := 150) (by omega) (by omega)) ?_
  refine X_need dX11_habit_18 mkX11_116 (k_0 hSh) (c_needWithin Γ g mi ml hSh (nI k) (nI 0) (nI (min (aTn A) 150))) rfl rfl (by decide) (by decide) (by decide) (by decide) (fun h => absurd (⟨nI_le (by omega) (by omega), nI_le (by omega) (by omega)⟩) h) (fun _ => ?_)
  refine X_aload_n dX11_habit_21 rfl ?_
  refine X_iload_n dX11_habit_22 rfl ?_
  refine X_callVV dX11_habit_23 mkX11_120 (k_0 hSh) (c_startText Γ g mi ml hSh k) rfl rfl (by decide) (Nat.le_of_ble_eq_true rfl) ?_
  have hT0 := tx0_T hA hC (show k ≤ aTn A by omega)
  refine X_aload_n dX11_habit_26 rfl ?_
  refine X_getr (a := 22) dX11_habit_27 fkX11_44 rfl (k_0 hSh) (r_0_5 hSh) ?_
  refine X_callVrI dX11_habit_30 mkX11_156 (k_22 hSh) (c_Hread Γ g (tx0 mi k) ml hSh (aT A) k (by omega) (fun q hq => hA.2.2.2.2.2.2.2.2.2.2 q (by omega)) hT0) rfl rfl (by decide) (Nat.le_of_ble_eq_true rfl) (fun v1 m1 l1 hm1 => ?_)
  obtain ⟨hl1, hm1⟩ := hm1
  rw [hr] at hm1
  obtain ⟨hv1, hS1, hS2, hS3, hS4, hS5, hS6, hS7⟩ := hm1
  rw [hl1, hv1]
  refine X_if_neN (a := 1) 47 dX11_habit_33 (by decide) (by omega) (fun h_1 => ?_) (fun h_1 => ?_)
  · refine X_aload_n dX11_habit_47 rfl ?_
    refine X_getr (a := 17) dX11_habit_48 fkX11_35 rfl (k_0 hSh) (r_0_4 hSh) ?_
    refine X_iload_n dX11_habit_51 rfl ?_
    refine X_aload_n dX11_habit_52 rfl ?_
    refine X_getr (a := 22) dX11_habit_53 fkX11_44 rfl (k_0 hSh) (r_0_5 hSh) ?_
    refine X_callVrV dX11_habit_56 mkX11_159 (k_17 hSh) (c_Hkeep Γ g m1 ml hSh b t.length (by omega) ht (aK A) a hS1 hS4 (by rw [hS7 17 (by omega) (by omega) (by omega), tx0_row (by omega) (by omega)]; exact hx.2.1.2.2.1)) rfl rfl (by decide) (Nat.le_of_ble_eq_true rfl) (fun m2 l2 hm2 => ?_)
    obtain ⟨hK2, hl2⟩ := hm2
    rw [hl2]
    refine X_aload_n dX11_habit_59 rfl ?_
    refine X_callVrV dX11_habit_60 mkX11_141 (k_0 hSh) (c_forgetD Γ g m2 ml hSh im st si qi hd) rfl rfl (by decide) (Nat.le_of_ble_eq_true rfl) (fun m4 l4 hm4 => ?_)
    obtain ⟨hF4, hl4⟩ := hm4
    rw [hl4]
    have hfin := CI_hab (f := f) hA hC hx (show b < 8 by omega) ht hS3 hS6 hS7 hK2 hF4
    refine X_iconst (v := nI 1) dX11_habit_63 (by decide) ?_
    exact X_iret dX11_habit_64 rfl ⟨rfl, hfin.1, hfin.2, rfl⟩
  · exact absurd h_1 (by omega)
set_option maxRecDepth 100000 in
set_option maxHeartbeats 4000000 in
theorem r_habit_e1 (Γ : pTG) (g : pGG) (mi : pMI) (ml : pML) (A : AS) (hA : okAS A) (hSh : Sh g) (hR : RI A mi) (b : Nat) (hb : b < aG A) (k : Nat) (hka : 0 ≤ k) (hk : k ≤ (min (aTn A) 150)) (c1 p1 : Nat) (hr : sumR (unitN (aT A) k 6) (aT A) k 0 = .error (c1, p1)) : CT Γ 60 0 0 mX12_habit [.ref 87, .int (nI b), .int (nI k)] g mi ml (RQ (tbA A (aBn A, aB A) (nI p1)) (.inl (nI c1 - nI 10)) cd2 g mi ml) := by
  refine CT_of (by decide +kernel) (Nat.le_of_ble_eq_true rfl) ?_
  have hP := hA.1
  have hG8 : aG A ≤ 8 := hP.2.1
  have hC8 : (aP A).1 ≤ 8 := hP.1
  have hT6 := hA.2.2.2.2.2.2.2.2.2.1
  refine X_aload_n dX12_habit_0 rfl ?_
  refine X_iconst (v := nI 0) dX12_habit_1 (by decide) ?_
  refine X_puti dX12_habit_2 fkX12_158 rfl rfl (k_87 hSh) ?_
  refine X_aload_n dX12_habit_5 rfl ?_
  refine X_aload_n dX12_habit_6 rfl ?_
  refine X_iload_n dX12_habit_7 rfl ?_
  refine X_callVI dX12_habit_8 mkX12_285 (k_87 hSh) (c_isGuest Γ g (up2 mi 87 0 (nI 0)) ml hSh (nI b)) rfl rfl (by decide) (Nat.le_of_ble_eq_true rfl) ?_
  refine X_topi (show bI (decide (nI 0 ≤ nI b) && decide (nI b ≤ (up2 mi 87 0 (nI 0)) 91 1 - nI 1)) = nI 1 from congrArg bI (show (decide (nI 0 ≤ nI b) && decide (nI b ≤ (up2 mi 87 0 (nI 0)) 91 1 - nI 1)) = true from by rw [(show (up2 mi 87 0 (nI 0)) 91 1 = nI (aG A) from ((congrFun (up2_row (by omega)) _).trans hR.1.2.1))]; exact (gd_ref hG8).mpr ⟨b, hb, rfl⟩)) ?_
  refine X_if_neN (a := 1) 18 dX12_habit_11 (by decide) (by omega) (fun h_1 => ?_) (fun h_1 => ?_)
  · refine X_iconst (v := nI 0) dX12_habit_18 (by decide) ?_
    refine X_iconst (v := nI 1) dX12_habit_19 (by decide) ?_
    refine X_iconst (v := nI 0) dX12_habit_20 (by decide) ?_
    refine X_callVI dX12_habit_21 mkX12_228 (k_87 hSh) (c_bad0 Γ g (up2 mi 87 0 (nI 0)) ml hSh 1 0 up2_s) rfl rfl (by decide) (Nat.le_of_ble_eq_true rfl) ?_
    refine X_if_neN (a := 0) 60 dX12_habit_24 (by decide) (by omega) (fun h_2 => ?_) (fun h_2 => ?_)
    · exact absurd h_2 (by omega)
    · refine X_aload_n dX12_habit_27 rfl ?_
      refine X_iload_n dX12_habit_28 rfl ?_
      refine X_iconst (v := nI 0) dX12_habit_29 (by decide) ?_
      refine X_aload_n dX12_habit_30 rfl ?_
      refine X_geti dX12_habit_31 fkX12_161 rfl (k_87 hSh) ?_
      refine X_topi (show (up2 mi 87 0 (nI 0)) 87 1 = nI (aTn A) by rw [up2_n (by omega)]; exact hR.2.2.2.2.2.2.2.1.1) ?_
      refine X_callSI dX12_habit_34 mkX12_192 (c_in Γ g (up2 mi 87 0 (nI 0)) ml (nI k) (nI 0) (nI (aTn A))) rfl rfl (by decide) (Nat.le_of_ble_eq_true rfl) ?_
      refine X_topi (show bI (decide (nI 0 ≤ nI k) && decide (nI k ≤ nI (aTn A))) = nI 1 from congrArg bI (show (decide (nI 0 ≤ nI k) && decide (nI k ≤ nI (aTn A))) = true from by rw [decide_eq_true (nI_le (by omega) (by omega)), decide_eq_true (nI_le (by omega) (by omega))]; rfl)) ?_
      refine X_if_eqN (a := 1) 47 dX12_habit_37 (by decide) (by omega) (fun h_3 => ?_) (fun h_3 => ?_)
      · exact absurd h_3 (by omega)
      · refine X_iload_n dX12_habit_40 rfl ?_
        refine X_sipush (v := nI 150) dX12_habit_41 (by decide) ?_
        refine X_icmp_leN (a := k) (b := 150) 51 dX12_habit_44 (by decide) (by omega) (by omega) (fun h_4 => ?_) (fun h_4 => ?_)
        · refine X_iconst (v := nI 0) dX12_habit_51 (by decide) ?_
          refine X_iconst (v := nI 2) dX12_habit_52 (by decide) ?_
          refine X_iconst (v := nI 1) dX12_habit_53 (by decide) ?_
          refine X_callVI dX12_habit_54 mkX12_228 (k_87 hSh) (c_bad0 Γ g (up2 mi 87 0 (nI 0)) ml hSh 2 1 up2_s) rfl rfl (by decide) (Nat.le_of_ble_eq_true rfl) ?_
          refine X_if_eqN (a := 0) 62 dX12_habit_57 (by decide) (by omega) (fun h_5 => ?_) (fun h_5 => ?_)
          · refine X_aload_n dX12_habit_62 rfl ?_
            refine X_iload_n dX12_habit_63 rfl ?_
            refine X_callVV dX12_habit_64 mkX12_232 (k_87 hSh) (c_starts Γ g (up2 mi 87 0 (nI 0)) ml hSh (aT A) k (by omega) (fun q hq => by rw [up2_row (by omega)]; exact hR.2.2.2.2.2.2.2.1.2 q (by omega))) rfl rfl (by decide) (Nat.le_of_ble_eq_true rfl) ?_
            refine X_aload_n dX12_habit_67 rfl ?_
            refine X_iconst (v := nI 0) dX12_habit_68 (by decide) ?_
            refine X_puti dX12_habit_69 fkX12_253 rfl rfl (k_87 hSh) ?_
            refine X_aload_n dX12_habit_72 rfl ?_
            refine X_iconst (v := nI 0) dX12_habit_73 (by decide) ?_
            refine X_putz dX12_habit_74 fkX12_281 rfl (by first | exact Or.inl rfl | exact Or.inr rfl | assumption) rfl (k_87 hSh) ?_
            refine X_aload_n dX12_habit_77 rfl ?_
            obtain ⟨x1, x2, x3, x4, x5, x6⟩ := rs_x hA hR (show k ≤ aTn A by omega)
            have hRH : RST (up2 (up2 (up2 (stW (up2 mi 87 0 (nI 0)) k) 87 4 (nI (skT (aT A) k 0))) 87 27 (nI 0)) 87 33 (nI 0)) (up2 (up2 (up2 (stW (up2 mi 87 0 (nI 0)) k) 87 4 (nI (skT (aT A) k 0))) 87 27 (nI 0)) 87 33 (nI 0)) (aT A) k (skT (aT A) k 0) [] false (6 - 6) := ⟨RTX_v (RTX_v x1 (by omega)) (by omega), by omega, by rw [up2_n (by omega), up2_n (by omega)]; exact x3, by rw [up2_n (by omega)]; exact up2_s, fun j hj => absurd hj (Nat.not_lt_zero _), up2_s, by rw [up2_n (by omega), up2_n (by omega)]; exact x6, Nat.zero_le _, rfl, ⟨fun _ _ _ => rfl, fun _ _ _ _ _ _ _ => rfl⟩⟩
            refine X_callVrV dX12_habit_78 mkX12_275 (k_87 hSh) (rc_all Γ g ml hSh (aT A) k 6 (Nat.le_refl 6) (up2 (up2 (up2 (stW (up2 mi 87 0 (nI 0)) k) 87 4 (nI (skT (aT A) k 0))) 87 27 (nI 0)) 87 33 (nI 0)) (up2 (up2 (up2 (stW (up2 mi 87 0 (nI 0)) k) 87 4 (nI (skT (aT A) k 0))) 87 27 (nI 0)) 87 33 (nI 0)) (skT (aT A) k 0) [] false hRH) rfl rfl (by decide) (Nat.le_of_ble_eq_true rfl) (fun m1 l1 hm1 => ?_)
            obtain ⟨hm1, hl1⟩ := hm1
            rw [hl1]
            rw [sumN_sk, hr] at hm1
            have hE1 : m1 87 5 = nI c1 := hm1.1
            have hE2 : 1 ≤ c1 := hm1.2.1
            have hE3 : c1 ≤ 3 := hm1.2.2.1
            have hfr := hm1.2.2.2.2.1
            obtain ⟨q0, hq0⟩ := hm1.2.2.2.2.2
            refine X_aload_n dX12_habit_81 rfl ?_
            refine X_callVV dX12_habit_82 mkX12_180 (k_87 hSh) (c_blanks Γ g m1 ml hSh (aT A) k q0 hq0) rfl rfl (by decide) (Nat.le_of_ble_eq_true rfl) ?_
            refine X_aload_n dX12_habit_85 rfl ?_
            refine X_geti dX12_habit_86 fkX12_174 rfl (k_87 hSh) ?_
            refine X_topi (show (up2 m1 87 4 (nI (skT (aT A) k q0))) 87 5 = nI c1 by rw [up2_n (by omega)]; exact hE1) ?_
            refine X_if_neN (a := c1) 112 dX12_habit_89 (by decide) (by omega) (fun h_6 => ?_) (fun h_6 => ?_)
            · refine X_aload_n dX12_habit_112 rfl ?_
              refine X_geti dX12_habit_113 fkX12_174 rfl (k_87 hSh) ?_
              refine X_topi (show (up2 m1 87 4 (nI (skT (aT A) k q0))) 87 5 = nI c1 by rw [up2_n (by omega)]; exact hE1) ?_
              refine X_if_eqN (a := c1) 124 dX12_habit_116 (by decide) (by omega) (fun h_7 => ?_) (fun h_7 => ?_)
              · exact absurd h_7 (by omega)
              · refine X_aload_n dX12_habit_119 rfl ?_
                refine X_callVI dX12_habit_120 mkX12_238 (k_87 hSh) (c_ends Γ g (up2 m1 87 4 (nI (skT (aT A) k q0))) ml hSh) rfl rfl (by decide) (Nat.le_of_ble_eq_true rfl) ?_
                exact X_iret dX12_habit_123 rfl ⟨rfl, rfl, RI_tb hA hR hA.2.2.2.1.1 (fun i h1 h2 h3 h4 => by rw [up2_row (by omega), up2_row (by omega), hfr.1 i (by omega) (fun z => h3 (by unfold rsR; omega)), up2_row (by omega), up2_row (by omega)]; exact rs_1 (by omega)) (fun j h1 h2 => by rw [up2_n (by omega), up2_n (by omega), hfr.2 j (by omega) (by omega) (by omega) (by omega) (by omega) (by omega), up2_n (by omega), up2_n (by omega), rs_87 (by omega), if_neg (by omega)]) (by rw [up2_n (by omega), up2_n (by omega), hfr.2 1 (by omega) (by omega) (by omega) (by omega) (by omega) (by omega), up2_n (by omega), up2_n (by omega)]; exact x2) (by rw [up2_s, up2_n (by omega)]; exact hm1.2.2.2.1) (by rw [up2_n (by omega), up2_n (by omega), hfr.2 28 (by omega) (by omega) (by omega) (by omega) (by omega) (by omega), up2_n (by omega), up2_n (by omega), rs_87 (by omega), if_neg (by omega)]; exact hR.2.2.2.1.1) (fun q hq z hz => by have hq : q < aBn A := hq; have hb12 := hA.2.2.2.1.1; rw [up2_row (by omega), up2_row (by omega), hfr.1 (143 + q) (by omega) (by omega), up2_row (by omega), up2_row (by omega), rs_1 (by omega)]; exact hR.2.2.2.1.2 q hq z hz), fun i hi => by rw [up2_row (by omega), up2_row (by omega), hfr.1 i (by omega) (by omega), up2_row (by omega), up2_row (by omega)]; exact rs_1 (by omega), _, rfl, by rw [up2_n (by omega), hE1], by rw [up2_n (by omega), up2_n (by omega), hfr.2 0 (by omega) (by omega) (by omega) (by omega) (by omega) (by omega), up2_n (by omega), up2_n (by omega), rs_87 (by omega), if_pos rfl]⟩
            · exact absurd h_6 (by omega)
          · exact absurd h_5 (by omega)
        · exact absurd h_4 (by omega)
  · exact absurd h_1 (by omega)
set_option maxRecDepth 100000 in
set_option maxHeartbeats 4000000 in
theorem r_habit_e2 (Γ : pTG) (g : pGG) (mi : pMI) (ml : pML) (A : AS) (hA : okAS A) (hSh : Sh g) (hR : RI A mi) (b : Nat) (hb : b < aG A) (k : Nat) (hka : 0 ≤ k) (hk : k ≤ (min (aTn A) 150)) (e : Nat) (t : List Tok) (a : Bool) (hr : sumR (unitN (aT A) k 6) (aT A) k 0 = .ok (e, t, a)) (he : e ≤ k) (hs : skT (aT A) k e < k) : CT Γ 60 0 0 mX12_habit [.ref 87, .int (nI b), .int (nI k)] g mi ml (RQ (tbA A (aBn A, aB A) (nI (skT (aT A) k e))) (.inl (nI 1 - nI 10)) cd2 g mi ml) := by
  refine CT_of (by decide +kernel) (Nat.le_of_ble_eq_true rfl) ?_
  have hP := hA.1
  have hG8 : aG A ≤ 8 := hP.2.1
  have hC8 : (aP A).1 ≤ 8 := hP.1
  have hT6 := hA.2.2.2.2.2.2.2.2.2.1
  refine X_aload_n dX12_habit_0 rfl ?_
  refine X_iconst (v := nI 0) dX12_habit_1 (by decide) ?_
  refine X_puti dX12_habit_2 fkX12_158 rfl rfl (k_87 hSh) ?_
  refine X_aload_n dX12_habit_5 rfl ?_
  refine X_aload_n dX12_habit_6 rfl ?_
  refine X_iload_n dX12_habit_7 rfl ?_
  refine X_callVI dX12_habit_8 mkX12_285 (k_87 hSh) (c_isGuest Γ g (up2 mi 87 0 (nI 0)) ml hSh (nI b)) rfl rfl (by decide) (Nat.le_of_ble_eq_true rfl) ?_
  refine X_topi (show bI (decide (nI 0 ≤ nI b) && decide (nI b ≤ (up2 mi 87 0 (nI 0)) 91 1 - nI 1)) = nI 1 from congrArg bI (show (decide (nI 0 ≤ nI b) && decide (nI b ≤ (up2 mi 87 0 (nI 0)) 91 1 - nI 1)) = true from by rw [(show (up2 mi 87 0 (nI 0)) 91 1 = nI (aG A) from ((congrFun (up2_row (by omega)) _).trans hR.1.2.1))]; exact (gd_ref hG8).mpr ⟨b, hb, rfl⟩)) ?_
  refine X_if_neN (a := 1) 18 dX12_habit_11 (by decide) (by omega) (fun h_1 => ?_) (fun h_1 => ?_)
  · refine X_iconst (v := nI 0) dX12_habit_18 (by decide) ?_
    refine X_iconst (v := nI 1) dX12_habit_19 (by decide) ?_
    refine X_iconst (v := nI 0) dX12_habit_20 (by decide) ?_
    refine X_callVI dX12_habit_21 mkX12_228 (k_87 hSh) (c_bad0 Γ g (up2 mi 87 0 (nI 0)) ml hSh 1 0 up2_s) rfl rfl (by decide) (Nat.le_of_ble_eq_true rfl) ?_
    refine X_if_neN (a := 0) 60 dX12_habit_24 (by decide) (by omega) (fun h_2 => ?_) (fun h_2 => ?_)
    · exact absurd h_2 (by omega)
    · refine X_aload_n dX12_habit_27 rfl ?_
      refine X_iload_n dX12_habit_28 rfl ?_
      refine X_iconst (v := nI 0) dX12_habit_29 (by decide) ?_
      refine X_aload_n dX12_habit_30 rfl ?_
      refine X_geti dX12_habit_31 fkX12_161 rfl (k_87 hSh) ?_
      refine X_topi (show (up2 mi 87 0 (nI 0)) 87 1 = nI (aTn A) by rw [up2_n (by omega)]; exact hR.2.2.2.2.2.2.2.1.1) ?_
      refine X_callSI dX12_habit_34 mkX12_192 (c_in Γ g (up2 mi 87 0 (nI 0)) ml (nI k) (nI 0) (nI (aTn A))) rfl rfl (by decide) (Nat.le_of_ble_eq_true rfl) ?_
      refine X_topi (show bI (decide (nI 0 ≤ nI k) && decide (nI k ≤ nI (aTn A))) = nI 1 from congrArg bI (show (decide (nI 0 ≤ nI k) && decide (nI k ≤ nI (aTn A))) = true from by rw [decide_eq_true (nI_le (by omega) (by omega)), decide_eq_true (nI_le (by omega) (by omega))]; rfl)) ?_
      refine X_if_eqN (a := 1) 47 dX12_habit_37 (by decide) (by omega) (fun h_3 => ?_) (fun h_3 => ?_)
      · exact absurd h_3 (by omega)
      · refine X_iload_n dX12_habit_40 rfl ?_
        refine X_sipush (v := nI 150) dX12_habit_41 (by decide) ?_
        refine X_icmp_leN (a := k) (b := 150) 51 dX12_habit_44 (by decide) (by omega) (by omega) (fun h_4 => ?_) (fun h_4 => ?_)
        · refine X_iconst (v := nI 0) dX12_habit_51 (by decide) ?_
          refine X_iconst (v := nI 2) dX12_habit_52 (by decide) ?_
          refine X_iconst (v := nI 1) dX12_habit_53 (by decide) ?_
          refine X_callVI dX12_habit_54 mkX12_228 (k_87 hSh) (c_bad0 Γ g (up2 mi 87 0 (nI 0)) ml hSh 2 1 up2_s) rfl rfl (by decide) (Nat.le_of_ble_eq_true rfl) ?_
          refine X_if_eqN (a := 0) 62 dX12_habit_57 (by decide) (by omega) (fun h_5 => ?_) (fun h_5 => ?_)
          · refine X_aload_n dX12_habit_62 rfl ?_
            refine X_iload_n dX12_habit_63 rfl ?_
            refine X_callVV dX12_habit_64 mkX12_232 (k_87 hSh) (c_starts Γ g (up2 mi 87 0 (nI 0)) ml hSh (aT A) k (by omega) (fun q hq => by rw [up2_row (by omega)]; exact hR.2.2.2.2.2.2.2.1.2 q (by omega))) rfl rfl (by decide) (Nat.le_of_ble_eq_true rfl) ?_
            refine X_aload_n dX12_habit_67 rfl ?_
            refine X_iconst (v := nI 0) dX12_habit_68 (by decide) ?_
            refine X_puti dX12_habit_69 fkX12_253 rfl rfl (k_87 hSh) ?_
            refine X_aload_n dX12_habit_72 rfl ?_
            refine X_iconst (v := nI 0) dX12_habit_73 (by decide) ?_
            refine X_putz dX12_habit_74 fkX12_281 rfl (by first | exact Or.inl rfl | exact Or.inr rfl | assumption) rfl (k_87 hSh) ?_
            refine X_aload_n dX12_habit_77 rfl ?_
            obtain ⟨x1, x2, x3, x4, x5, x6⟩ := rs_x hA hR (show k ≤ aTn A by omega)
            have hRH : RST (up2 (up2 (up2 (stW (up2 mi 87 0 (nI 0)) k) 87 4 (nI (skT (aT A) k 0))) 87 27 (nI 0)) 87 33 (nI 0)) (up2 (up2 (up2 (stW (up2 mi 87 0 (nI 0)) k) 87 4 (nI (skT (aT A) k 0))) 87 27 (nI 0)) 87 33 (nI 0)) (aT A) k (skT (aT A) k 0) [] false (6 - 6) := ⟨RTX_v (RTX_v x1 (by omega)) (by omega), by omega, by rw [up2_n (by omega), up2_n (by omega)]; exact x3, by rw [up2_n (by omega)]; exact up2_s, fun j hj => absurd hj (Nat.not_lt_zero _), up2_s, by rw [up2_n (by omega), up2_n (by omega)]; exact x6, Nat.zero_le _, rfl, ⟨fun _ _ _ => rfl, fun _ _ _ _ _ _ _ => rfl⟩⟩
            refine X_callVrV dX12_habit_78 mkX12_275 (k_87 hSh) (rc_all Γ g ml hSh (aT A) k 6 (Nat.le_refl 6) (up2 (up2 (up2 (stW (up2 mi 87 0 (nI 0)) k) 87 4 (nI (skT (aT A) k 0))) 87 27 (nI 0)) 87 33 (nI 0)) (up2 (up2 (up2 (stW (up2 mi 87 0 (nI 0)) k) 87 4 (nI (skT (aT A) k 0))) 87 27 (nI 0)) 87 33 (nI 0)) (skT (aT A) k 0) [] false hRH) rfl rfl (by decide) (Nat.le_of_ble_eq_true rfl) (fun m1 l1 hm1 => ?_)
            obtain ⟨hm1, hl1⟩ := hm1
            rw [hl1]
            rw [sumN_sk, hr] at hm1
            have hX1 := hm1.1
            have hE1 : m1 87 5 = nI 0 := hm1.2.2.1
            have hE27 : m1 87 27 = nI t.length := hm1.2.2.2.1
            have hE32 := hm1.2.2.2.2.1
            have hE33 : m1 87 33 = bI a := hm1.2.2.2.2.2.1
            have hfr := hm1.2.2.2.2.2.2.2.2.2
            refine X_aload_n dX12_habit_81 rfl ?_
            refine X_callVV dX12_habit_82 mkX12_180 (k_87 hSh) (c_blanks Γ g m1 ml hSh (aT A) k e hX1) rfl rfl (by decide) (Nat.le_of_ble_eq_true rfl) ?_
            refine X_aload_n dX12_habit_85 rfl ?_
            refine X_geti dX12_habit_86 fkX12_174 rfl (k_87 hSh) ?_
            refine X_topi (show (up2 m1 87 4 (nI (skT (aT A) k e))) 87 5 = nI 0 by rw [up2_n (by omega)]; exact hE1) ?_
            refine X_if_neN (a := 0) 112 dX12_habit_89 (by decide) (by omega) (fun h_6 => ?_) (fun h_6 => ?_)
            · exact absurd h_6 (by omega)
            · refine X_aload_n dX12_habit_92 rfl ?_
              refine X_geti dX12_habit_93 fkX12_167 rfl (k_87 hSh) ?_
              refine X_topi (show (up2 m1 87 4 (nI (skT (aT A) k e))) 87 4 = nI (skT (aT A) k e) by rw [up2_s]) ?_
              refine X_aload_n dX12_habit_96 rfl ?_
              refine X_geti dX12_habit_97 fkX12_164 rfl (k_87 hSh) ?_
              refine X_topi (show (up2 m1 87 4 (nI (skT (aT A) k e))) 87 2 = nI k by rw [up2_n (by omega)]; exact hX1.2.2.2.1) ?_
              refine X_icmp_geN (a := skT (aT A) k e) (b := k) 112 dX12_habit_100 (by decide) (by omega) (by omega) (fun h_7 => ?_) (fun h_7 => ?_)
              · exact absurd h_7 (by omega)
              · refine X_aload_n dX12_habit_103 rfl ?_
                refine X_iconst (v := nI 1) dX12_habit_104 (by decide) ?_
                refine X_aload_n dX12_habit_105 rfl ?_
                refine X_geti dX12_habit_106 fkX12_167 rfl (k_87 hSh) ?_
                refine X_topi (show (up2 m1 87 4 (nI (skT (aT A) k e))) 87 4 = nI (skT (aT A) k e) by rw [up2_s]) ?_
                refine X_callVV dX12_habit_109 mkX12_187 (k_87 hSh) (c_wrong0 Γ g (up2 m1 87 4 (nI (skT (aT A) k e))) ml hSh (by rw [up2_n (by omega)]; exact hE1) (nI 1) (nI (skT (aT A) k e))) rfl rfl (by decide) (Nat.le_of_ble_eq_true rfl) ?_
                refine X_aload_n dX12_habit_112 rfl ?_
                refine X_geti dX12_habit_113 fkX12_174 rfl (k_87 hSh) ?_
                refine X_topi (show (up2 (up2 (up2 m1 87 4 (nI (skT (aT A) k e))) 87 5 (nI 1)) 87 6 (nI (skT (aT A) k e))) 87 5 = nI 1 by rw [up2_n (by omega), up2_s]) ?_
                refine X_if_eqN (a := 1) 124 dX12_habit_116 (by decide) (by omega) (fun h_8 => ?_) (fun h_8 => ?_)
                · exact absurd h_8 (by omega)
                · refine X_aload_n dX12_habit_119 rfl ?_
                  refine X_callVI dX12_habit_120 mkX12_238 (k_87 hSh) (c_ends Γ g (up2 (up2 (up2 m1 87 4 (nI (skT (aT A) k e))) 87 5 (nI 1)) 87 6 (nI (skT (aT A) k e))) ml hSh) rfl rfl (by decide) (Nat.le_of_ble_eq_true rfl) ?_
                  exact X_iret dX12_habit_123 rfl ⟨rfl, rfl, RI_tb hA hR hA.2.2.2.1.1 (fun i h1 h2 h3 h4 => by rw [up2_row (by omega), up2_row (by omega), up2_row (by omega), up2_row (by omega), hfr.1 i (by omega) (fun z => h3 (by unfold rsR; omega)), up2_row (by omega), up2_row (by omega)]; exact rs_1 (by omega)) (fun j h1 h2 => by rw [up2_n (by omega), up2_n (by omega), up2_n (by omega), up2_n (by omega), hfr.2 j (by omega) (by omega) (by omega) (by omega) (by omega) (by omega), up2_n (by omega), up2_n (by omega), rs_87 (by omega), if_neg (by omega)]) (by rw [up2_n (by omega), up2_n (by omega), up2_n (by omega), up2_n (by omega), hfr.2 1 (by omega) (by omega) (by omega) (by omega) (by omega) (by omega), up2_n (by omega), up2_n (by omega)]; exact x2) (by rw [up2_s, up2_s]) (by rw [up2_n (by omega), up2_n (by omega), up2_n (by omega), up2_n (by omega), hfr.2 28 (by omega) (by omega) (by omega) (by omega) (by omega) (by omega), up2_n (by omega), up2_n (by omega), rs_87 (by omega), if_neg (by omega)]; exact hR.2.2.2.1.1) (fun q hq z hz => by have hq : q < aBn A := hq; have hb12 := hA.2.2.2.1.1; rw [up2_row (by omega), up2_row (by omega), up2_row (by omega), up2_row (by omega), hfr.1 (143 + q) (by omega) (by omega), up2_row (by omega), up2_row (by omega), rs_1 (by omega)]; exact hR.2.2.2.1.2 q hq z hz), fun i hi => by rw [up2_row (by omega), up2_row (by omega), up2_row (by omega), up2_row (by omega), hfr.1 i (by omega) (by omega), up2_row (by omega), up2_row (by omega)]; exact rs_1 (by omega), _, rfl, by rw [up2_n (by omega), up2_s], by rw [up2_n (by omega), up2_n (by omega), up2_n (by omega), up2_n (by omega), hfr.2 0 (by omega) (by omega) (by omega) (by omega) (by omega) (by omega), up2_n (by omega), up2_n (by omega), rs_87 (by omega), if_pos rfl]⟩
          · exact absurd h_5 (by omega)
        · exact absurd h_4 (by omega)
  · exact absurd h_1 (by omega)
set_option maxRecDepth 100000 in
set_option maxHeartbeats 4000000 in
theorem r_habit_o (Γ : pTG) (g : pGG) (mi : pMI) (ml : pML) (A : AS) (hA : okAS A) (hSh : Sh g) (hR : RI A mi) (b : Nat) (hb : b < aG A) (k : Nat) (hka : 0 ≤ k) (hk : k ≤ (min (aTn A) 150)) (e : Nat) (t : List Tok) (a : Bool) (f : (Nat → Int32) → Int32) (ht0 : 0 < t.length) (ht : t.length ≤ 150) (hr : sumR (unitN (aT A) k 6) (aT A) k 0 = .ok (e, t, a)) (he : e ≤ k) (hs : k ≤ skT (aT A) k e) : CT Γ 60 0 0 mX12_habit [.ref 87, .int (nI b), .int (nI k)] g mi ml (RQ (hbA A b t f a) (.inl (nI 1)) cd2 g mi ml) := by
  refine CT_of (by decide +kernel) (Nat.le_of_ble_eq_true rfl) ?_
  have hP := hA.1
  have hG8 : aG A ≤ 8 := hP.2.1
  have hC8 : (aP A).1 ≤ 8 := hP.1
  have hT6 := hA.2.2.2.2.2.2.2.2.2.1
  have hba := bI_01 a
  have hsk9 : skT (aT A) k e ≤ k := skT_le he
  refine X_aload_n dX12_habit_0 rfl ?_
  refine X_iconst (v := nI 0) dX12_habit_1 (by decide) ?_
  refine X_puti dX12_habit_2 fkX12_158 rfl rfl (k_87 hSh) ?_
  refine X_aload_n dX12_habit_5 rfl ?_
  refine X_aload_n dX12_habit_6 rfl ?_
  refine X_iload_n dX12_habit_7 rfl ?_
  refine X_callVI dX12_habit_8 mkX12_285 (k_87 hSh) (c_isGuest Γ g (up2 mi 87 0 (nI 0)) ml hSh (nI b)) rfl rfl (by decide) (Nat.le_of_ble_eq_true rfl) ?_
  refine X_topi (show bI (decide (nI 0 ≤ nI b) && decide (nI b ≤ (up2 mi 87 0 (nI 0)) 91 1 - nI 1)) = nI 1 from congrArg bI (show (decide (nI 0 ≤ nI b) && decide (nI b ≤ (up2 mi 87 0 (nI 0)) 91 1 - nI 1)) = true from by rw [(show (up2 mi 87 0 (nI 0)) 91 1 = nI (aG A) from ((congrFun (up2_row (by omega)) _).trans hR.1.2.1))]; exact (gd_ref hG8).mpr ⟨b, hb, rfl⟩)) ?_
  refine X_if_neN (a := 1) 18 dX12_habit_11 (by decide) (by omega) (fun h_1 => ?_) (fun h_1 => ?_)
  · refine X_iconst (v := nI 0) dX12_habit_18 (by decide) ?_
    refine X_iconst (v := nI 1) dX12_habit_19 (by decide) ?_
    refine X_iconst (v := nI 0) dX12_habit_20 (by decide) ?_
    refine X_callVI dX12_habit_21 mkX12_228 (k_87 hSh) (c_bad0 Γ g (up2 mi 87 0 (nI 0)) ml hSh 1 0 up2_s) rfl rfl (by decide) (Nat.le_of_ble_eq_true rfl) ?_
    refine X_if_neN (a := 0) 60 dX12_habit_24 (by decide) (by omega) (fun h_2 => ?_) (fun h_2 => ?_)
    · exact absurd h_2 (by omega)
    · refine X_aload_n dX12_habit_27 rfl ?_
      refine X_iload_n dX12_habit_28 rfl ?_
      refine X_iconst (v := nI 0) dX12_habit_29 (by decide) ?_
      refine X_aload_n dX12_habit_30 rfl ?_
      refine X_geti dX12_habit_31 fkX12_161 rfl (k_87 hSh) ?_
      refine X_topi (show (up2 mi 87 0 (nI 0)) 87 1 = nI (aTn A) by rw [up2_n (by omega)]; exact hR.2.2.2.2.2.2.2.1.1) ?_
      refine X_callSI dX12_habit_34 mkX12_192 (c_in Γ g (up2 mi 87 0 (nI 0)) ml (nI k) (nI 0) (nI (aTn A))) rfl rfl (by decide) (Nat.le_of_ble_eq_true rfl) ?_
      refine X_topi (show bI (decide (nI 0 ≤ nI k) && decide (nI k ≤ nI (aTn A))) = nI 1 from congrArg bI (show (decide (nI 0 ≤ nI k) && decide (nI k ≤ nI (aTn A))) = true from by rw [decide_eq_true (nI_le (by omega) (by omega)), decide_eq_true (nI_le (by omega) (by omega))]; rfl)) ?_
      refine X_if_eqN (a := 1) 47 dX12_habit_37 (by decide) (by omega) (fun h_3 => ?_) (fun h_3 => ?_)
      · exact absurd h_3 (by omega)
      · refine X_iload_n dX12_habit_40 rfl ?_
        refine X_sipush (v := nI 150) dX12_habit_41 (by decide) ?_
        refine X_icmp_leN (a := k) (b := 150) 51 dX12_habit_44 (by decide) (by omega) (by omega) (fun h_4 => ?_) (fun h_4 => ?_)
        · refine X_iconst (v := nI 0) dX12_habit_51 (by decide) ?_
          refine X_iconst (v := nI 2) dX12_habit_52 (by decide) ?_
          refine X_iconst (v := nI 1) dX12_habit_53 (by decide) ?_
          refine X_callVI dX12_habit_54 mkX12_228 (k_87 hSh) (c_bad0 Γ g (up2 mi 87 0 (nI 0)) ml hSh 2 1 up2_s) rfl rfl (by decide) (Nat.le_of_ble_eq_true rfl) ?_
          refine X_if_eqN (a := 0) 62 dX12_habit_57 (by decide) (by omega) (fun h_5 => ?_) (fun h_5 => ?_)
          · refine X_aload_n dX12_habit_62 rfl ?_
            refine X_iload_n dX12_habit_63 rfl ?_
            refine X_callVV dX12_habit_64 mkX12_232 (k_87 hSh) (c_starts Γ g (up2 mi 87 0 (nI 0)) ml hSh (aT A) k (by omega) (fun q hq => by rw [up2_row (by omega)]; exact hR.2.2.2.2.2.2.2.1.2 q (by omega))) rfl rfl (by decide) (Nat.le_of_ble_eq_true rfl) ?_
            refine X_aload_n dX12_habit_67 rfl ?_
            refine X_iconst (v := nI 0) dX12_habit_68 (by decide) ?_
            refine X_puti dX12_habit_69 fkX12_253 rfl rfl (k_87 hSh) ?_
            refine X_aload_n dX12_habit_72 rfl ?_
            refine X_iconst (v := nI 0) dX12_habit_73 (by decide) ?_
            refine X_putz dX12_habit_74 fkX12_281 rfl (by first | exact Or.inl rfl | exact Or.inr rfl | assumption) rfl (k_87 hSh) ?_
            refine X_aload_n dX12_habit_77 rfl ?_
            obtain ⟨x1, x2, x3, x4, x5, x6⟩ := rs_x hA hR (show k ≤ aTn A by omega)
            have hRH : RST (up2 (up2 (up2 (stW (up2 mi 87 0 (nI 0)) k) 87 4 (nI (skT (aT A) k 0))) 87 27 (nI 0)) 87 33 (nI 0)) (up2 (up2 (up2 (stW (up2 mi 87 0 (nI 0)) k) 87 4 (nI (skT (aT A) k 0))) 87 27 (nI 0)) 87 33 (nI 0)) (aT A) k (skT (aT A) k 0) [] false (6 - 6) := ⟨RTX_v (RTX_v x1 (by omega)) (by omega), by omega, by rw [up2_n (by omega), up2_n (by omega)]; exact x3, by rw [up2_n (by omega)]; exact up2_s, fun j hj => absurd hj (Nat.not_lt_zero _), up2_s, by rw [up2_n (by omega), up2_n (by omega)]; exact x6, Nat.zero_le _, rfl, ⟨fun _ _ _ => rfl, fun _ _ _ _ _ _ _ => rfl⟩⟩
            refine X_callVrV dX12_habit_78 mkX12_275 (k_87 hSh) (rc_all Γ g ml hSh (aT A) k 6 (Nat.le_refl 6) (up2 (up2 (up2 (stW (up2 mi 87 0 (nI 0)) k) 87 4 (nI (skT (aT A) k 0))) 87 27 (nI 0)) 87 33 (nI 0)) (up2 (up2 (up2 (stW (up2 mi 87 0 (nI 0)) k) 87 4 (nI (skT (aT A) k 0))) 87 27 (nI 0)) 87 33 (nI 0)) (skT (aT A) k 0) [] false hRH) rfl rfl (by decide) (Nat.le_of_ble_eq_true rfl) (fun m1 l1 hm1 => ?_)
            obtain ⟨hm1, hl1⟩ := hm1
            rw [hl1]
            rw [sumN_sk, hr] at hm1
            have hX1 := hm1.1
            have hE1 : m1 87 5 = nI 0 := hm1.2.2.1
            have hE27 : m1 87 27 = nI t.length := hm1.2.2.2.1
            have hE32 := hm1.2.2.2.2.1
            have hE33 : m1 87 33 = bI a := hm1.2.2.2.2.2.1
            have hfr := hm1.2.2.2.2.2.2.2.2.2
            refine X_aload_n dX12_habit_81 rfl ?_
            refine X_callVV dX12_habit_82 mkX12_180 (k_87 hSh) (c_blanks Γ g m1 ml hSh (aT A) k e hX1) rfl rfl (by decide) (Nat.le_of_ble_eq_true rfl) ?_
            refine X_aload_n dX12_habit_85 rfl ?_
            refine X_geti dX12_habit_86 fkX12_174 rfl (k_87 hSh) ?_
            refine X_topi (show (up2 m1 87 4 (nI (skT (aT A) k e))) 87 5 = nI 0 by rw [up2_n (by omega)]; exact hE1) ?_
            refine X_if_neN (a := 0) 112 dX12_habit_89 (by decide) (by omega) (fun h_6 => ?_) (fun h_6 => ?_)
            · exact absurd h_6 (by omega)
            · refine X_aload_n dX12_habit_92 rfl ?_
              refine X_geti dX12_habit_93 fkX12_167 rfl (k_87 hSh) ?_
              refine X_topi (show (up2 m1 87 4 (nI (skT (aT A) k e))) 87 4 = nI (skT (aT A) k e) by rw [up2_s]) ?_
              refine X_aload_n dX12_habit_96 rfl ?_
              refine X_geti dX12_habit_97 fkX12_164 rfl (k_87 hSh) ?_
              refine X_topi (show (up2 m1 87 4 (nI (skT (aT A) k e))) 87 2 = nI k by rw [up2_n (by omega)]; exact hX1.2.2.2.1) ?_
              refine X_icmp_geN (a := skT (aT A) k e) (b := k) 112 dX12_habit_100 (by decide) (by omega) (by omega) (fun h_7 => ?_) (fun h_7 => ?_)
              · refine X_aload_n dX12_habit_112 rfl ?_
                refine X_geti dX12_habit_113 fkX12_174 rfl (k_87 hSh) ?_
                refine X_topi (show (up2 m1 87 4 (nI (skT (aT A) k e))) 87 5 = nI 0 by rw [up2_n (by omega)]; exact hE1) ?_
                refine X_if_eqN (a := 0) 124 dX12_habit_116 (by decide) (by omega) (fun h_8 => ?_) (fun h_8 => ?_)
                · refine X_aload_n dX12_habit_124 rfl ?_
                  refine X_iconst (v := -1) dX12_habit_125 (by decide) ?_
                  refine X_puti dX12_habit_126 fkX12_9 rfl rfl (k_87 hSh) ?_
                  refine X_aload_n dX12_habit_129 rfl ?_
                  refine X_getr (a := 129) dX12_habit_130 fkX12_40 rfl (k_87 hSh) (r_87_17 hSh) ?_
                  refine X_iload_n dX12_habit_133 rfl ?_
                  refine X_aload_n dX12_habit_134 rfl ?_
                  refine X_geti dX12_habit_135 fkX12_253 rfl (k_87 hSh) ?_
                  refine X_topi (show (up2 (up2 m1 87 4 (nI (skT (aT A) k e))) 87 3 (-1)) 87 27 = nI t.length by rw [up2_n (by omega), up2_n (by omega)]; exact hE27) ?_
                  refine X_iast b dX12_habit_138 (k_129 hSh) rfl (by omega) ?_
                  refine X_aload_n dX12_habit_139 rfl ?_
                  refine X_getr (a := 193) dX12_habit_140 fkX12_67 rfl (k_87 hSh) (r_87_26 hSh) ?_
                  refine X_iload_n dX12_habit_143 rfl ?_
                  refine X_aload_n dX12_habit_144 rfl ?_
                  refine X_geti dX12_habit_145 fkX12_281 rfl (k_87 hSh) ?_
                  refine X_topi (show (up2 (up2 (up2 m1 87 4 (nI (skT (aT A) k e))) 87 3 (-1)) 129 b (nI t.length)) 87 33 = bI a by rw [up2_row (by omega), up2_n (by omega), up2_n (by omega)]; exact hE33) ?_
                  refine X_zast b dX12_habit_148 (k_193 hSh) (by first | exact Or.inl rfl | exact Or.inr rfl | assumption) rfl (by omega) ?_
                  refine X_iconst (v := nI 0) dX12_habit_149 (by decide) ?_
                  refine X_istore_n dX12_habit_150 (by decide) ?_
                  refine X_L [(3, .int (nI 0)), (0, .ref 87), (1, .int (nI b)), (2, .int (nI k))] ⟨rfl, rfl, rfl, rfl, trivial⟩ ?_
                  refine X_forR (σ := pMI) 151 (fun i y => [(3, .int (nI i)), (0, .ref 87), (1, .int (nI b)), (2, .int (nI k))]) (fun y => y) (fun y => ml) (fun i y => (∀ j, j < i → y (134 + b) j = m1 132 j) ∧ ∀ q, q ≠ 134 + b → y q = (up2 (up2 (up2 (up2 m1 87 4 (nI (skT (aT A) k e))) 87 3 (-1)) 129 b (nI t.length)) 193 b (bI a)) q) (2 * t.length) ?_ ?_ (2 * t.length) 0 ((up2 (up2 (up2 (up2 m1 87 4 (nI (skT (aT A) k e))) 87 3 (-1)) 129 b (nI t.length)) 193 b (bI a))) (by omega) ⟨fun j hj => absurd hj (by omega), fun _ _ => rfl⟩
                  · intro i y hi hI hn
                    have h8727 : y 87 27 = nI t.length := by rw [hI.2 87 (by omega), up2_row (by omega), up2_row (by omega), up2_n (by omega), up2_n (by omega)]; exact hE27
                    refine X_iload_n dX12_habit_151 rfl ?_
                    refine X_iconst (v := nI 2) dX12_habit_152 (by decide) ?_
                    refine X_aload_n dX12_habit_153 rfl ?_
                    refine X_geti dX12_habit_154 fkX12_253 rfl (k_87 hSh) ?_
                    rw [h8727]
                    refine X_imul dX12_habit_157 ?_
                    refine X_topi (pk_mul 2 t.length) ?_
                    refine X_icmp_geN (a := i) (b := 2 * t.length) 181 dX12_habit_158 (by decide) (by omega) (by omega) (fun h_9 => ?_) (fun h_9 => ?_)
                    · exact absurd hi (by omega)
                    · refine X_aload_n dX12_habit_161 rfl ?_
                      refine X_getr (a := 133) dX12_habit_162 fkX12_52 rfl (k_87 hSh) (r_87_21 hSh) ?_
                      refine X_iload_n dX12_habit_165 rfl ?_
                      refine X_aaldr (b := 134 + b) b dX12_habit_166 (k_133 hSh) rfl (by omega) (o_133 hSh b (by omega)) ?_
                      refine X_iload_n dX12_habit_167 rfl ?_
                      refine X_aload_n dX12_habit_168 rfl ?_
                      refine X_getr (a := 132) dX12_habit_169 fkX12_49 rfl (k_87 hSh) (r_87_20 hSh) ?_
                      refine X_iload_n dX12_habit_172 rfl ?_
                      refine X_iald i dX12_habit_173 (k_132 hSh) rfl (by omega) ?_
                      refine X_iast i dX12_habit_174 (kr_133 hSh b (by omega)) rfl (by omega) ?_
                      refine X_iinc (v := nI (i + 1)) dX12_habit_175 rfl (nI_1 _) (by decide) ?_
                      refine X_goto 151 dX12_habit_178 (by decide) ?_
                      refine X_L [(3, .int (nI (i + 1))), (0, .ref 87), (1, .int (nI b)), (2, .int (nI k))] ⟨rfl, rfl, rfl, rfl, trivial⟩ ?_
                      refine hn _ ⟨fun j hj => ?_, fun q hq => (up2_row hq).trans (hI.2 q hq)⟩
                      by_cases z : j = i
                      · subst z; rw [up2_s, hI.2 132 (by omega), up2_row (by omega), up2_row (by omega), up2_row (by omega), up2_row (by omega)]
                      · rw [up2_n z]; exact hI.1 j (by omega)
                  · intro y hI
                    have h8727 : y 87 27 = nI t.length := by rw [hI.2 87 (by omega), up2_row (by omega), up2_row (by omega), up2_n (by omega), up2_n (by omega)]; exact hE27
                    refine X_iload_n dX12_habit_151 rfl ?_
                    refine X_iconst (v := nI 2) dX12_habit_152 (by decide) ?_
                    refine X_aload_n dX12_habit_153 rfl ?_
                    refine X_geti dX12_habit_154 fkX12_253 rfl (k_87 hSh) ?_
                    rw [h8727]
                    refine X_imul dX12_habit_157 ?_
                    refine X_topi (pk_mul 2 t.length) ?_
                    refine X_icmp_geN (a := (2 * t.length)) (b := 2 * t.length) 181 dX12_habit_158 (by decide) (by omega) (by omega) (fun h_10 => ?_) (fun h_10 => ?_)
                    · refine X_iconst (v := nI 1) dX12_habit_181 (by decide) ?_
                      exact X_iret dX12_habit_182 rfl ⟨rfl, rfl, RI_hb hA hR (show b < 8 by omega) ht0 (fun i h1 h2 h3 h4 h5 h6 => by rw [hI.2 i h6, up2_row (by omega), up2_row (by omega), up2_row (by omega), up2_row (by omega), hfr.1 i (by omega) (fun z => h3 (by unfold rsR; omega)), up2_row (by omega), up2_row (by omega)]; exact rs_1 (by omega)) (fun j h1 h2 => by rw [hI.2 87 (by omega), up2_row (by omega), up2_row (by omega), up2_n (by omega), up2_n (by omega), hfr.2 j (by omega) (by omega) (by omega) (by omega) (by omega) (by omega), up2_n (by omega), up2_n (by omega), rs_87 (by omega), if_neg (by omega)]) (by rw [hI.2 87 (by omega), up2_row (by omega), up2_row (by omega), up2_n (by omega), up2_n (by omega), hfr.2 1 (by omega) (by omega) (by omega) (by omega) (by omega) (by omega), up2_n (by omega), up2_n (by omega)]; exact x2) (by rw [hI.2 87 (by omega), up2_row (by omega), up2_row (by omega), up2_s]) ⟨by rw [hI.2 129 (by omega), up2_row (by omega), up2_s], fun o ho => by rw [hI.2 129 (by omega), up2_row (by omega), up2_n ho, up2_row (by omega), up2_row (by omega), hfr.1 129 (by omega) (by omega), up2_row (by omega), up2_row (by omega), rs_1 (by omega)]⟩ ⟨by rw [hI.2 193 (by omega), up2_s], fun o ho => by rw [hI.2 193 (by omega), up2_n ho, up2_row (by omega), up2_row (by omega), up2_row (by omega), hfr.1 193 (by omega) (by omega), up2_row (by omega), up2_row (by omega), rs_1 (by omega)]⟩ (fun i hi => ⟨(hI.1 _ (by omega)).trans (hE32 i hi).1, (hI.1 _ (by omega)).trans (hE32 i hi).2⟩), fun i hi => by rw [hI.2 i (by omega), up2_row (by omega), up2_row (by omega), up2_row (by omega), up2_row (by omega), hfr.1 i (by omega) (by omega), up2_row (by omega), up2_row (by omega)]; exact rs_1 (by omega), _, rfl, rfl, by rw [hI.2 87 (by omega), up2_row (by omega), up2_row (by omega), up2_n (by omega), up2_n (by omega), hfr.2 0 (by omega) (by omega) (by omega) (by omega) (by omega) (by omega), up2_n (by omega), up2_n (by omega), rs_87 (by omega), if_pos rfl]⟩
                    · exact absurd h_10 (by omega)
                · exact absurd h_8 (by omega)
              · exact absurd h_7 (by omega)
          · exact absurd h_5 (by omega)
        · exact absurd h_4 (by omega)
  · exact absurd h_1 (by omega)
theorem m_habit (A : AS) (hA : okAS A) (v w : Int32) : MOK mX11_habit mX12_habit cd2 [.int v, .int w] A := by
  have hT6 := hA.2.2.2.2.2.2.2.2.2.1
  have hG8 : aG A ≤ 8 := hA.1.2.1
  by_cases hg : ∃ b, b < aG A ∧ v = nI b
  · obtain ⟨b, hb, rfl⟩ := hg
    by_cases hg0 : nI 0 ≤ w ∧ w ≤ nI (min (aTn A) 150)
    · obtain ⟨k, hka, hk, rfl⟩ := (wi_iff (by decide) (by omega)).mp hg0
      cases hr : habR (aT A) k with
      | error e =>
        obtain ⟨c1, p1⟩ := e
        refine ⟨.inl (nI c1 - nI 10), tbA A (aBn A, aB A) (nI p1), ok_tb hA hA.2.2.2.1, fun j h => (by cases h), fun Γ g m l hC => k_habit_e Γ g m l A hA hC b hb k hka hk c1 p1 hr, fun Γ g m l hSh hR => ?_⟩
        rcases habR_e hr with q | ⟨e, t, a, q, h1, h2, rfl, rfl⟩
        · exact r_habit_e1 Γ g m l A hA hSh hR b hb k hka hk c1 p1 q
        · exact r_habit_e2 Γ g m l A hA hSh hR b hb k hka hk e t a q h2 h1
      | ok e =>
        obtain ⟨t, a⟩ := e
        obtain ⟨e, h1, h2, h3, h4, N, f, h5, h6⟩ := habR_o hr
        have ht0 := Vx_len N t f 29 h5
        have ht : t.length ≤ 150 := by omega
        exact ⟨.inl (nI 1), hbA A b t f a, ok_hb hA ht h5 (by omega) h6, fun j h => (by cases h), fun Γ g m l hC => k_habit_o Γ g m l A hA hC b hb k hka hk t a f ht0 ht hr, fun Γ g m l hSh hR => r_habit_o Γ g m l A hA hSh hR b hb k hka hk e t a f ht0 ht h1 h4 h2⟩
    · refine ⟨.inr 1, rfA A 1, ok_rf hA, fun j h => by cases h; decide, fun Γ g m l hC => k_habit_f1 Γ g m l A hA hC b hb w hg0, fun Γ g m l hSh hR => ?_⟩
      by_cases hg1 : nI 0 ≤ w ∧ w ≤ nI (aTn A)
      · obtain ⟨k, hka, hk, rfl⟩ := (wi_iff (by decide) (by omega)).mp hg1
        refine r_habit_f1b Γ g m l A hA hSh hR b hb k hka hk (Nat.lt_of_not_le (fun q => hg0 ?_))
        exact (wi_iff (by decide) (by omega)).mpr ⟨k, hka, by omega, rfl⟩
      · exact r_habit_f1a Γ g m l A hA hSh hR b hb w hg1
  · exact ⟨.inr 0, rfA A 0, ok_rf hA, fun j h => by cases h; decide, fun Γ g m l hC => k_habit_f0 Γ g m l A hA hC v hg w, fun Γ g m l hSh hR => r_habit_f0 Γ g m l A hA hSh hR v hg w⟩

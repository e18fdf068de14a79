/-! ===== a Course's beginning and end ===== -/
def rs (a n : Nat) (v : Int32) (m : pMI) : pMI := fun i j => if i = a ∧ j < n then v else m i j
theorem rs_0 {a : Nat} {v : Int32} {m : pMI} : rs a 0 v m = m := by funext i j; simp [rs]
theorem rs_s {a n : Nat} {v : Int32} {m : pMI} : up2 (rs a n v m) a n v = rs a (n + 1) v m := by
  funext i j; unfold up2 rs
  by_cases h1 : i = a
  · by_cases h2 : j = n
    · simp [h1, h2]
    · by_cases h3 : j < n
      · simp [h1, h2, h3, Nat.lt_succ_of_lt h3]
      · simp [h1, h2, h3, show ¬ j < n + 1 by omega]
  · simp [h1]
theorem rs_row {a n : Nat} {v : Int32} {m : pMI} {i : Nat} (h : i ≠ a) : rs a n v m i = m i := by funext j; simp [rs, h]
/-- a world as a Course's that has no guest yet -/
def toC (t : Nat) (W : pMI) (fr bz : Nat → Bool) : CS := (W, fun a b => W (t + 1) (a * 8 + b), fun a b => W (t + 2) (a * 3 + b), fun _ _ => none, fun a b => W (t + 8) (a * 24 + b), [], fr, bz)
theorem toC_w {t : Nat} {W : pMI} {fr bz : Nat → Bool} (h1 : W t 11 = nI 0) (h2 : W t 12 = mkB fr) (h3 : W t 13 = mkB bz) : W = wC t 0 (toC t W fr bz) := by
  funext i j
  unfold wC toC
  dsimp only
  by_cases e : i = t
  · subst e
    rw [if_pos rfl]
    by_cases e1 : j = 11
    · subst e1; rw [if_pos rfl, h1]; rfl
    rw [if_neg e1]
    by_cases e2 : j = 12
    · subst e2; rw [if_pos rfl, h2]
    rw [if_neg e2]
    by_cases e3 : j = 13
    · subst e3; rw [if_pos rfl, h3]
    rw [if_neg e3]
  rw [if_neg e]
  by_cases e1 : i = t + 1
  · rw [if_pos e1, e1, show j / 8 * 8 + j % 8 = j by omega]
  rw [if_neg e1]
  by_cases e2 : i = t + 2
  · rw [if_pos e2, e2, show j / 3 * 3 + j % 3 = j by omega]
  rw [if_neg e2, if_neg (by omega), if_neg (fun z => absurd z.2 (Nat.not_lt_zero _))]
  by_cases e3 : i = t + 8
  · rw [if_pos e3, e3, show j / 24 * 24 + j % 24 = j by omega]
  rw [if_neg e3]
theorem mkB_0 {p : Nat → Bool} (h : ∀ i, i < 32 → p i = false) : (0 : Int32) = mkB p := mkB_eq (fun i hi => by rw [b_0, h i hi])
theorem mkB_or2 {p : Nat → Bool} {a b : Nat} (ha : a < 32) (hb : b < 32) : mkB p ||| ((nI 1 <<< (nI a &&& 31)) ||| (nI 1 <<< (nI b &&& 31))) = mkB (ud (ud p a true) b true) :=
  mkB_eq (fun i hi => by
    rw [b_or, b_or, bit_one ha hi, bit_one hb hi, bt_mkB p hi]
    unfold ud
    by_cases e : i = a <;> by_cases e2 : i = b <;> simp [e, e2])
theorem mkB_lo : ∀ n, n ≤ 8 → (nI 1 <<< (nI n &&& 31)) - nI 1 = mkB (fun i => decide (i < n)) := by decide +kernel
/-- the halves in which the hotel goes by, up to the i-th -/
def hbz (go i k : Nat) : Bool := decide (k < i * go) && gB go k
theorem hbz_1 {go : Nat} : ∀ k, k < 32 → hbz go 1 k = false := fun k _ => by
  unfold hbz gB
  by_cases h : k < 1 * go
  · have h2 : k % go = k := Nat.mod_eq_of_lt (by omega)
    rw [h2]
    by_cases h3 : k = 0
    · simp [h3]
    · simp [h3]
  · have h' : ¬ k < go := by omega
    simp [h']
theorem hbz_s {go i : Nat} (hg : 0 < go) (hi : 0 < i) : ud (hbz go i) (i * go) true = hbz go (i + 1) := by
  funext k
  unfold ud hbz gB
  have e1 : (i + 1) * go = i * go + go := Nat.succ_mul i go
  by_cases h : k = i * go
  · subst h
    rw [if_pos rfl]
    have h2 : i * go % go = 0 := Nat.mul_mod_left i go
    have h3 : 0 < i * go := Nat.mul_pos hi hg
    simp [h2, h3, hg, e1]
  · rw [if_neg h]
    by_cases h4 : k < i * go
    · simp [h4, show k < (i + 1) * go by omega]
    · by_cases h5 : k < (i + 1) * go
      · have h6 : k % go ≠ 0 := by
          have : k = (k - i * go) + i * go := by omega
          rw [this, Nat.add_mul_mod_self_right, Nat.mod_eq_of_lt (by omega)]
          omega
        simp [h4, h6]
      · simp [h4, h5]
/-- a guest's facts at the beginning -/
def cgC (t b c e : Nat) (x : CS) : CS := sBz (ud (ud x.2.2.2.2.2.2.2 c true) e true) (sO 5 b none (sM (t + 4) b (-1) (sO 3 b none (sFa b 1 (-1) (sFa b 0 (nI c) (lpS (fun j s => sFa b j (nI 0) s) 0 8 x))))))
theorem lp_fa {b : Nat} : ∀ (n k : Nat) (x : CS), (lpS (fun j s => sFa b j (nI 0) s) k n x).1 = x.1 ∧ (lpS (fun j s => sFa b j (nI 0) s) k n x).2.2 = x.2.2
  | 0, k, x => ⟨rfl, rfl⟩
  | n + 1, k, x => lp_fa n (k + 1) (sFa b k (nI 0) x)
theorem cg_w {t b : Nat} {s : CS} {V : Int32} {f : Nat → Bool} (hV : V = mkB f) : up2 (up2 (up2 (up2 (wC t b s) (t + 3) b (-1)) (t + 4) b (-1)) (t + 5) b (-1)) t 13 V = wC t (b + 1) (sBz f (sO 5 b none (sM (t + 4) b (-1) (sO 3 b none s)))) := by
  have e1 : up2 (up2 (wC t b s) (t + 3) b (-1)) (t + 5) b (-1) = wC t (b + 1) (sO 5 b none (sO 3 b none s)) := by
    funext i j
    by_cases h1 : (i = t + 3 ∨ i = t + 5) ∧ j = b
    · obtain ⟨h2 | h2, rfl⟩ := h1 <;> subst h2
      · rw [cr_o3 (by omega), up2_row (by omega), up2_s]
        show _ = oI (up2 (up2 s.2.2.2.1 3 j none) 5 j none 3 j)
        rw [up2_row (by omega), up2_s]; rfl
      · rw [cr_o5 (by omega), up2_s]
        show _ = oI (up2 (up2 s.2.2.2.1 3 j none) 5 j none 5 j)
        rw [up2_s]; rfl
    · have h2 : up2 (up2 (wC t b s) (t + 3) b (-1)) (t + 5) b (-1) i j = wC t b s i j := by
        unfold up2; rw [if_neg (by omega), if_neg (by omega)]
      rw [h2]
      unfold wC
      by_cases h3 : (i = t + 3 ∨ i = t + 5) ∧ j < b
      · rw [if_pos h3, if_pos (show (i = t + 3 ∨ i = t + 5) ∧ j < b + 1 from ⟨h3.1, by omega⟩)]
        have h4 : (sO 5 b none (sO 3 b none s)).2.2.2.1 (i - t) j = s.2.2.2.1 (i - t) j := by
          show up2 (up2 s.2.2.2.1 3 b none) 5 b none (i - t) j = _
          unfold up2; rw [if_neg (by omega), if_neg (by omega)]
        rw [h4]; rfl
      · rw [if_neg h3, if_neg (show ¬ ((i = t + 3 ∨ i = t + 5) ∧ j < b + 1) by omega)]
        rfl
  have e2 : up2 (up2 (up2 (wC t b s) (t + 3) b (-1)) (t + 4) b (-1)) (t + 5) b (-1) = up2 (up2 (up2 (wC t b s) (t + 3) b (-1)) (t + 5) b (-1)) (t + 4) b (-1) := by
    funext i j; unfold up2
    by_cases h1 : i = t + 5 ∧ j = b
    · rw [if_pos h1, if_neg (by omega), if_pos h1]
    · rw [if_neg h1, if_neg h1]
  rw [e2, e1, cw_m (by omega), cw_bz hV]
  rfl
set_option maxRecDepth 100000 in
set_option maxHeartbeats 4000000 in
theorem c_clearGuest (Γ : pTG) (g : pGG) (ml : pML) (hSh : Sh g) (t : Nat) (hC : ShC g t) (ht : 32 ≤ t) (nG : Nat) (x : CS) (h8 : nG < 8) (c e : Nat) (hc : c < 24) (he : x.1 8 nG = nI e) (hel : e < 24) : cV Γ 1 mX2_clearGuest [.ref t, .int (nI nG), .int (nI c)] g (wC t nG x) ml (wC t (nG + 1) (cgC t nG c e x)) ml := by
  refine cV_of (by decide +kernel) (Nat.le_of_ble_eq_true rfl) ?_
  refine X_iconst (v := nI 0) dX2_clearGuest_0 (by decide) ?_
  refine X_istore_n dX2_clearGuest_1 (by decide) ?_
  refine X_L [(3, .int (nI 0)), (0, .ref t), (1, .int (nI nG)), (2, .int (nI c))] ⟨rfl, rfl, rfl, rfl, trivial⟩ ?_
  refine X_for2 (σ := CS) 2 (fun i y => [(3, .int (nI i)), (0, .ref t), (1, .int (nI nG)), (2, .int (nI c))]) (fun y => wC t nG y) (fun y => ml) (fun i y => sFa nG i (nI 0) y) (fun i y => y = lpS (fun j s => sFa nG j (nI 0) s) 0 i x) 8 ?_ 8 0 (x) (by omega) rfl ?_
  · intro i y hi hI
    refine ⟨by rw [lpS_snoc, ← hI, Nat.zero_add], fun hn => ?_⟩
    refine X_iload_n dX2_clearGuest_2 rfl ?_
    refine X_bipush (v := nI 8) dX2_clearGuest_3 (by decide) ?_
    refine X_icmp_geN (a := i) (b := 8) 26 dX2_clearGuest_5 (by decide) (by omega) (by omega) (fun h_1 => ?_) (fun h_1 => ?_)
    · exact absurd hi (by omega)
    · refine X_aload_n dX2_clearGuest_8 rfl ?_
      refine X_getr (a := t + 1) dX2_clearGuest_9 fkX2_9 rfl (sck_0 hC) (scr_1 hC) ?_
      refine X_iload_n dX2_clearGuest_12 rfl ?_
      refine X_bipush (v := nI 8) dX2_clearGuest_13 (by decide) ?_
      refine X_imul dX2_clearGuest_15 ?_
      refine X_topi (pk_mul nG 8) ?_
      refine X_iload_n dX2_clearGuest_16 rfl ?_
      refine X_iadd dX2_clearGuest_17 ?_
      refine X_topi (nI_add (nG * 8) i) ?_
      refine X_iconst (v := nI 0) dX2_clearGuest_18 (by decide) ?_
      refine X_iast ((nG * 8) + i) dX2_clearGuest_19 (sck_1 hC) rfl (by omega) ?_
      refine X_mi (cw_fa (by omega)) ?_
      refine X_iinc (v := nI (i + 1)) dX2_clearGuest_20 rfl (nI_1 _) (by decide) ?_
      refine X_goto 2 dX2_clearGuest_23 (by decide) ?_
      refine X_L [(3, .int (nI (i + 1))), (0, .ref t), (1, .int (nI nG)), (2, .int (nI c))] ⟨rfl, rfl, rfl, rfl, trivial⟩ ?_
      exact hn
  · intro y hI
    refine X_iload_n dX2_clearGuest_2 rfl ?_
    refine X_bipush (v := nI 8) dX2_clearGuest_3 (by decide) ?_
    refine X_icmp_geN (a := 8) (b := 8) 26 dX2_clearGuest_5 (by decide) (by omega) (by omega) (fun h_2 => ?_) (fun h_2 => ?_)
    · refine X_aload_n dX2_clearGuest_26 rfl ?_
      refine X_getr (a := t + 1) dX2_clearGuest_27 fkX2_9 rfl (sck_0 hC) (scr_1 hC) ?_
      refine X_iload_n dX2_clearGuest_30 rfl ?_
      refine X_bipush (v := nI 8) dX2_clearGuest_31 (by decide) ?_
      refine X_imul dX2_clearGuest_33 ?_
      refine X_topi (pk_mul nG 8) ?_
      refine X_iconst (v := nI 0) dX2_clearGuest_34 (by decide) ?_
      refine X_iadd dX2_clearGuest_35 ?_
      refine X_topi (nI_add (nG * 8) 0) ?_
      refine X_iload_n dX2_clearGuest_36 rfl ?_
      refine X_iast ((nG * 8) + 0) dX2_clearGuest_37 (sck_1 hC) rfl (by omega) ?_
      refine X_mi (cw_fa (by omega)) ?_
      refine X_aload_n dX2_clearGuest_38 rfl ?_
      refine X_getr (a := t + 1) dX2_clearGuest_39 fkX2_9 rfl (sck_0 hC) (scr_1 hC) ?_
      refine X_iload_n dX2_clearGuest_42 rfl ?_
      refine X_bipush (v := nI 8) dX2_clearGuest_43 (by decide) ?_
      refine X_imul dX2_clearGuest_45 ?_
      refine X_topi (pk_mul nG 8) ?_
      refine X_iconst (v := nI 1) dX2_clearGuest_46 (by decide) ?_
      refine X_iadd dX2_clearGuest_47 ?_
      refine X_topi (nI_add (nG * 8) 1) ?_
      refine X_iconst (v := -1) dX2_clearGuest_48 (by decide) ?_
      refine X_iast ((nG * 8) + 1) dX2_clearGuest_49 (sck_1 hC) rfl (by omega) ?_
      refine X_mi (cw_fa (by omega)) ?_
      refine X_aload_n dX2_clearGuest_50 rfl ?_
      refine X_getr (a := t + 3) dX2_clearGuest_51 fkX2_18 rfl (sck_0 hC) (scr_5 hC) ?_
      refine X_iload_n dX2_clearGuest_54 rfl ?_
      refine X_iconst (v := -1) dX2_clearGuest_55 (by decide) ?_
      refine X_iast nG dX2_clearGuest_56 (sck_3 hC) rfl (by omega) ?_
      refine X_aload_n dX2_clearGuest_57 rfl ?_
      refine X_getr (a := t + 4) dX2_clearGuest_58 fkX2_21 rfl (sck_0 hC) (scr_6 hC) ?_
      refine X_iload_n dX2_clearGuest_61 rfl ?_
      refine X_iconst (v := -1) dX2_clearGuest_62 (by decide) ?_
      refine X_iast nG dX2_clearGuest_63 (sck_4 hC) rfl (by omega) ?_
      refine X_aload_n dX2_clearGuest_64 rfl ?_
      refine X_getr (a := t + 5) dX2_clearGuest_65 fkX2_24 rfl (sck_0 hC) (scr_7 hC) ?_
      refine X_iload_n dX2_clearGuest_68 rfl ?_
      refine X_iconst (v := -1) dX2_clearGuest_69 (by decide) ?_
      refine X_iast nG dX2_clearGuest_70 (sck_5 hC) rfl (by omega) ?_
      have hbz : (up2 (up2 (up2 (wC t nG (sFa nG 1 (-1) (sFa nG 0 (nI c) y))) (t + 3) nG (-1)) (t + 4) nG (-1)) (t + 5) nG (-1)) t 13 = mkB x.2.2.2.2.2.2.2 := by rw [up2_row (by omega), up2_row (by omega), up2_row (by omega), cr_13]; show mkB y.2.2.2.2.2.2.2 = _; rw [hI, (lp_fa _ _ _).2]
      have hte : (up2 (up2 (up2 (wC t nG (sFa nG 1 (-1) (sFa nG 0 (nI c) y))) (t + 3) nG (-1)) (t + 4) nG (-1)) (t + 5) nG (-1)) 8 nG = nI e := by rw [up2_row (by omega), up2_row (by omega), up2_row (by omega), cr_out (by omega)]; show y.1 8 nG = _; rw [hI, (lp_fa _ _ _).1]; exact he
      refine X_aload_n dX2_clearGuest_71 rfl ?_
      refine X_dup dX2_clearGuest_72 rfl ?_
      refine X_geti dX2_clearGuest_73 fkX2_61 rfl (sck_0 hC) ?_
      rw [hbz]
      refine X_iconst (v := nI 1) dX2_clearGuest_76 (by decide) ?_
      refine X_iload_n dX2_clearGuest_77 rfl ?_
      refine X_ishl dX2_clearGuest_78 ?_
      refine X_iconst (v := nI 1) dX2_clearGuest_79 (by decide) ?_
      refine X_aload_n dX2_clearGuest_80 rfl ?_
      refine X_getr (a := 3) dX2_clearGuest_81 fkX2_33 rfl (sck_0 hC) (scr_0 hC) ?_
      refine X_getr (a := 8) dX2_clearGuest_84 fkX2_103 rfl (k_3 hSh) (r_3_4 hSh) ?_
      refine X_iload_n dX2_clearGuest_87 rfl ?_
      refine X_iald nG dX2_clearGuest_88 (k_8 hSh) rfl (by omega) ?_
      rw [hte]
      refine X_ishl dX2_clearGuest_89 ?_
      refine X_ior dX2_clearGuest_90 ?_
      refine X_ior dX2_clearGuest_91 ?_
      refine X_puti dX2_clearGuest_92 fkX2_61 rfl rfl (sck_0 hC) ?_
      refine X_mi (cg_w (mkB_or2 (a := c) (b := e) (by omega) (by omega))) ?_
      refine X_mi (show _ = wC t (nG + 1) (cgC t nG c e x) by unfold cgC; rw [hI]) ?_
      exact X_vret dX2_clearGuest_95 rfl ⟨rfl, rfl, rfl, rfl⟩
    · exact absurd h_2 (by omega)
def clW (t nC l8 l9 : Nat) (m : pMI) : pMI := up2 (up2 (up2 (rs (t + 9) l9 (nI 0) (rs (t + 8) l8 (-1) (rs (t + 2) 24 (nI 0) m))) t 11 (nI 0)) t 12 (mkB (fun i => decide (i < nC)))) t 14 (nI 23)
def hbE (go : Nat) : Nat → Bool := if go = 0 then fun _ => false else hbz go (23 / go + 1)
def cl0 (t nC go l8 l9 : Nat) (m : pMI) : CS := toC t (up2 (clW t nC l8 l9 m) t 13 (mkB (hbE go))) (fun i => decide (i < nC)) (hbE go)
def clC (t nC nG go l8 l9 : Nat) (cm T : Nat → Nat) (m : pMI) : CS := lpS (fun b s => cgC t b (cm b) (T b) s) 0 nG (cl0 t nC go l8 l9 m)
theorem cl0_w {t nC go l8 l9 : Nat} {m : pMI} : up2 (clW t nC l8 l9 m) t 13 (mkB (hbE go)) = wC t 0 (cl0 t nC go l8 l9 m) := by
  unfold cl0
  refine toC_w ?_ ?_ up2_s
  · rw [up2_n (by omega)]; unfold clW; rw [up2_n (by omega), up2_n (by omega), up2_s]
  · rw [up2_n (by omega)]; unfold clW; rw [up2_n (by omega), up2_s]
theorem rs_out {t nC l8 l9 i : Nat} {m : pMI} (h : i < t ∨ t + 9 < i ∨ i = t + 6) : clW t nC l8 l9 m i = m i := by
  unfold clW
  rw [up2_row (by omega), up2_row (by omega), up2_row (by omega), rs_row (by omega), rs_row (by omega), rs_row (by omega)]
theorem clW_t {t nC l8 l9 j : Nat} {m : pMI} (h : j ≠ 11 ∧ j ≠ 12 ∧ j ≠ 14) : clW t nC l8 l9 m t j = m t j := by
  unfold clW
  rw [up2_n h.2.2, up2_n h.2.1, up2_n h.1, rs_row (by omega), rs_row (by omega), rs_row (by omega)]
theorem cl0_out {t nC go l8 l9 i : Nat} {m : pMI} (h : i < t ∨ t + 9 < i ∨ i = t + 6) : (cl0 t nC go l8 l9 m).1 i = m i := (up2_row (by omega)).trans (rs_out h)
theorem cgC_q {t b c e : Nat} {x : CS} : (cgC t b c e x).1 = up2 x.1 (t + 4) b (-1) ∧ (cgC t b c e x).2.2.2.1 = up2 (up2 x.2.2.2.1 3 b none) 5 b none ∧ (cgC t b c e x).2.2.1 = x.2.2.1 ∧ (cgC t b c e x).2.2.2.2.1 = x.2.2.2.2.1 ∧ (cgC t b c e x).2.2.2.2.2.1 = x.2.2.2.2.2.1 ∧ (cgC t b c e x).2.2.2.2.2.2.1 = x.2.2.2.2.2.2.1 ∧ (cgC t b c e x).2.2.2.2.2.2.2 = ud (ud x.2.2.2.2.2.2.2 c true) e true := by
  unfold cgC
  have q := lp_fa (b := b) 8 0 x
  generalize lpS (fun j s => sFa b j (nI 0) s) 0 8 x = z at q ⊢
  refine ⟨?_, ?_, ?_, ?_, ?_, ?_, rfl⟩
  · show up2 z.1 (t + 4) b (-1) = _; rw [q.1]
  · show up2 (up2 z.2.2.2.1 3 b none) 5 b none = _; rw [q.2]
  · show z.2.2.1 = _; rw [q.2]
  · show z.2.2.2.2.1 = _; rw [q.2]
  · show z.2.2.2.2.2.1 = _; rw [q.2]
  · show z.2.2.2.2.2.2.1 = _; rw [q.2]
theorem FrC_cg {t b c e : Nat} {m : pMI} {x : CS} (h : FrC t m x) : FrC t m (cgC t b c e x) := fun i j hi => by
  rw [cgC_q.1]; unfold up2; rw [if_neg (by omega)]; exact h i j hi
theorem up2_up2 {m : pMI} {a b : Nat} {v w : Int32} : up2 (up2 m a b v) a b w = up2 m a b w := by
  funext i j; unfold up2; split <;> rfl
theorem X_for4 {Γ : pTG} {d k n : Nat} {M : pMD} {S : List Value} {g : pGG} {ml : pML} {Q : pQ} (head : Nat) (Lf : Nat → List (Nat × Value)) (mf : Nat → pMI) (e : Nat)
    (hb : ∀ i, i < e → 0 < i → XW Γ d k n M head (Lf (i + 1)) S g (mf (i + 1)) ml Q → XW Γ d k n M head (Lf i) S g (mf i) ml Q)
    (c i : Nat) (he : i + c = e) (h0 : 0 < i) (hx : XW Γ d k n M head (Lf e) S g (mf e) ml Q) : XW Γ d k n M head (Lf i) S g (mf i) ml Q := by
  induction c generalizing i with
  | zero => have : i = e := by omega
            subst this; exact hx
  | succ c ih => exact hb i (by omega) h0 (ih (i + 1) (by omega) (by omega))
set_option maxRecDepth 100000 in
set_option maxHeartbeats 4000000 in
theorem c_Cclear2 (Γ : pTG) (g : pGG) (mi : pMI) (ml : pML) (hSh : Sh g) (t : Nat) (hC : ShC g t) (ht : 32 ≤ t) (nC nG go l8 l9 hv : Nat) (F T cm : Nat → Nat) (hP : PoolC mi nC nG F T) (hgo : mi 3 6 = nI go) (hg24 : go < 24) (hk8 : g.2.1 (t + 8) = (20, l8)) (hk9 : g.2.1 (t + 9) = (20, l9)) (hl8 : l8 ≤ 192) (hl9 : l9 ≤ 24) (hkv : g.2.1 hv = (20, 8)) (hvt : hv < t ∨ t + 9 < hv) (hcm : ∀ b, b < nG → mi hv b = nI (cm b) ∧ cm b < 24) : cV Γ 2 mX2_clear [.ref t, .ref hv] g mi ml (wC t nG (clC t nC nG go l8 l9 cm T mi)) ml := by
  refine cV_of (by decide +kernel) (Nat.le_of_ble_eq_true rfl) ?_
  have hn8 := hP.2.2.2.1
  have hC8 := hP.2.2.1
  refine X_iconst (v := nI 0) dX2_clear_0 (by decide) ?_
  refine X_istore_n dX2_clear_1 (by decide) ?_
  refine X_L [(2, .int (nI 0)), (0, .ref t), (1, .ref hv)] ⟨rfl, rfl, rfl, trivial⟩ ?_
  refine X_mi (rs_0 (a := t + 2) (v := (nI 0))).symm ?_
  refine X_for3 2 (fun i => [(2, .int (nI i)), (0, .ref t), (1, .ref hv)]) (fun i => rs (t + 2) i (nI 0) mi) 24 ?_ 24 0 (by omega) ?_
  · intro i hi hn
    refine X_iload_n dX2_clear_2 rfl ?_
    refine X_aload_n dX2_clear_3 rfl ?_
    refine X_getr (a := t + 2) dX2_clear_4 fkX2_15 rfl (sck_0 hC) (scr_2 hC) ?_
    refine X_alen (len := 24) dX2_clear_7 (sck_2 hC) (by decide) ?_
    refine X_icmp_geN (a := i) (b := 24) 24 dX2_clear_8 (by decide) (by omega) (by omega) (fun h_1 => ?_) (fun h_1 => ?_)
    · exact absurd hi (by omega)
    · refine X_aload_n dX2_clear_11 rfl ?_
      refine X_getr (a := t + 2) dX2_clear_12 fkX2_15 rfl (sck_0 hC) (scr_2 hC) ?_
      refine X_iload_n dX2_clear_15 rfl ?_
      refine X_iconst (v := nI 0) dX2_clear_16 (by decide) ?_
      refine X_iast i dX2_clear_17 (sck_2 hC) rfl (by omega) ?_
      refine X_iinc (v := nI (i + 1)) dX2_clear_18 rfl (nI_1 _) (by decide) ?_
      refine X_goto 2 dX2_clear_21 (by decide) ?_
      refine X_L [(2, .int (nI (i + 1))), (0, .ref t), (1, .ref hv)] ⟨rfl, rfl, rfl, trivial⟩ ?_
      refine X_mi rs_s ?_
      exact hn
  · refine X_iload_n dX2_clear_2 rfl ?_
    refine X_aload_n dX2_clear_3 rfl ?_
    refine X_getr (a := t + 2) dX2_clear_4 fkX2_15 rfl (sck_0 hC) (scr_2 hC) ?_
    refine X_alen (len := 24) dX2_clear_7 (sck_2 hC) (by decide) ?_
    refine X_icmp_geN (a := 24) (b := 24) 24 dX2_clear_8 (by decide) (by omega) (by omega) (fun h_2 => ?_) (fun h_2 => ?_)
    · refine X_iconst (v := nI 0) dX2_clear_24 (by decide) ?_
      refine X_istore_n dX2_clear_25 (by decide) ?_
      refine X_L [(2, .int (nI 0)), (0, .ref t), (1, .ref hv)] ⟨rfl, rfl, rfl, trivial⟩ ?_
      refine X_mi (rs_0 (a := t + 8) (v := (-1))).symm ?_
      refine X_for3 26 (fun i => [(2, .int (nI i)), (0, .ref t), (1, .ref hv)]) (fun i => rs (t + 8) i (-1) (rs (t + 2) 24 (nI 0) mi)) l8 ?_ l8 0 (by omega) ?_
      · intro i hi hn
        refine X_iload_n dX2_clear_26 rfl ?_
        refine X_aload_n dX2_clear_27 rfl ?_
        refine X_getr (a := t + 8) dX2_clear_28 fkX2_41 rfl (sck_0 hC) (scr_3 hC) ?_
        refine X_alen (len := l8) dX2_clear_31 hk8 (by decide) ?_
        refine X_icmp_geN (a := i) (b := l8) 48 dX2_clear_32 (by decide) (by omega) (by omega) (fun h_3 => ?_) (fun h_3 => ?_)
        · exact absurd hi (by omega)
        · refine X_aload_n dX2_clear_35 rfl ?_
          refine X_getr (a := t + 8) dX2_clear_36 fkX2_41 rfl (sck_0 hC) (scr_3 hC) ?_
          refine X_iload_n dX2_clear_39 rfl ?_
          refine X_iconst (v := -1) dX2_clear_40 (by decide) ?_
          refine X_iast i dX2_clear_41 hk8 rfl (by omega) ?_
          refine X_iinc (v := nI (i + 1)) dX2_clear_42 rfl (nI_1 _) (by decide) ?_
          refine X_goto 26 dX2_clear_45 (by decide) ?_
          refine X_L [(2, .int (nI (i + 1))), (0, .ref t), (1, .ref hv)] ⟨rfl, rfl, rfl, trivial⟩ ?_
          refine X_mi rs_s ?_
          exact hn
      · refine X_iload_n dX2_clear_26 rfl ?_
        refine X_aload_n dX2_clear_27 rfl ?_
        refine X_getr (a := t + 8) dX2_clear_28 fkX2_41 rfl (sck_0 hC) (scr_3 hC) ?_
        refine X_alen (len := l8) dX2_clear_31 hk8 (by decide) ?_
        refine X_icmp_geN (a := l8) (b := l8) 48 dX2_clear_32 (by decide) (by omega) (by omega) (fun h_4 => ?_) (fun h_4 => ?_)
        · refine X_iconst (v := nI 0) dX2_clear_48 (by decide) ?_
          refine X_istore_n dX2_clear_49 (by decide) ?_
          refine X_L [(2, .int (nI 0)), (0, .ref t), (1, .ref hv)] ⟨rfl, rfl, rfl, trivial⟩ ?_
          refine X_mi (rs_0 (a := t + 9) (v := (nI 0))).symm ?_
          refine X_for3 50 (fun i => [(2, .int (nI i)), (0, .ref t), (1, .ref hv)]) (fun i => rs (t + 9) i (nI 0) (rs (t + 8) l8 (-1) (rs (t + 2) 24 (nI 0) mi))) l9 ?_ l9 0 (by omega) ?_
          · intro i hi hn
            refine X_iload_n dX2_clear_50 rfl ?_
            refine X_aload_n dX2_clear_51 rfl ?_
            refine X_getr (a := t + 9) dX2_clear_52 fkX2_44 rfl (sck_0 hC) (scr_4 hC) ?_
            refine X_alen (len := l9) dX2_clear_55 hk9 (by decide) ?_
            refine X_icmp_geN (a := i) (b := l9) 72 dX2_clear_56 (by decide) (by omega) (by omega) (fun h_5 => ?_) (fun h_5 => ?_)
            · exact absurd hi (by omega)
            · refine X_aload_n dX2_clear_59 rfl ?_
              refine X_getr (a := t + 9) dX2_clear_60 fkX2_44 rfl (sck_0 hC) (scr_4 hC) ?_
              refine X_iload_n dX2_clear_63 rfl ?_
              refine X_iconst (v := nI 0) dX2_clear_64 (by decide) ?_
              refine X_iast i dX2_clear_65 hk9 rfl (by omega) ?_
              refine X_iinc (v := nI (i + 1)) dX2_clear_66 rfl (nI_1 _) (by decide) ?_
              refine X_goto 50 dX2_clear_69 (by decide) ?_
              refine X_L [(2, .int (nI (i + 1))), (0, .ref t), (1, .ref hv)] ⟨rfl, rfl, rfl, trivial⟩ ?_
              refine X_mi rs_s ?_
              exact hn
          · refine X_iload_n dX2_clear_50 rfl ?_
            refine X_aload_n dX2_clear_51 rfl ?_
            refine X_getr (a := t + 9) dX2_clear_52 fkX2_44 rfl (sck_0 hC) (scr_4 hC) ?_
            refine X_alen (len := l9) dX2_clear_55 hk9 (by decide) ?_
            refine X_icmp_geN (a := l9) (b := l9) 72 dX2_clear_56 (by decide) (by omega) (by omega) (fun h_6 => ?_) (fun h_6 => ?_)
            · refine X_aload_n dX2_clear_72 rfl ?_
              refine X_iconst (v := nI 0) dX2_clear_73 (by decide) ?_
              refine X_puti dX2_clear_74 fkX2_85 rfl rfl (sck_0 hC) ?_
              refine X_aload_n dX2_clear_77 rfl ?_
              refine X_iconst (v := nI 1) dX2_clear_78 (by decide) ?_
              refine X_aload_n dX2_clear_79 rfl ?_
              refine X_getr (a := 3) dX2_clear_80 fkX2_33 rfl (sck_0 hC) (scr_0 hC) ?_
              refine X_geti dX2_clear_83 fkX2_88 rfl (k_3 hSh) ?_
              rw [(show (up2 (rs (t + 9) l9 (nI 0) (rs (t + 8) l8 (-1) (rs (t + 2) 24 (nI 0) mi))) t 11 (nI 0)) 3 9 = nI nC by rw [up2_row (by omega), rs_row (by omega), rs_row (by omega), rs_row (by omega)]; exact hP.1)]
              refine X_ishl dX2_clear_86 ?_
              refine X_iconst (v := nI 1) dX2_clear_87 (by decide) ?_
              refine X_isub dX2_clear_88 ?_
              refine X_topi (mkB_lo nC hP.2.2.1) ?_
              refine X_puti dX2_clear_89 fkX2_91 rfl rfl (sck_0 hC) ?_
              refine X_aload_n dX2_clear_92 rfl ?_
              refine X_bipush (v := nI 23) dX2_clear_93 (by decide) ?_
              refine X_puti dX2_clear_95 fkX2_94 rfl rfl (sck_0 hC) ?_
              refine X_mi (show _ = clW t nC l8 l9 mi from rfl) ?_
              refine X_aload_n dX2_clear_98 rfl ?_
              refine X_iconst (v := nI 0) dX2_clear_99 (by decide) ?_
              refine X_puti dX2_clear_100 fkX2_61 rfl rfl (sck_0 hC) ?_
              have hg0 : ∀ V, (up2 (clW t nC l8 l9 mi) t 13 V) 3 6 = nI go := fun V => by rw [up2_row (by omega), rs_out (by omega)]; exact hgo
              refine X_aload_n dX2_clear_103 rfl ?_
              refine X_getr (a := 3) dX2_clear_104 fkX2_33 rfl (sck_0 hC) (scr_0 hC) ?_
              refine X_geti dX2_clear_107 fkX2_97 rfl (k_3 hSh) ?_
              rw [(hg0 _)]
              refine X_istore_n dX2_clear_110 (by decide) ?_
              refine X_iload_n dX2_clear_111 rfl ?_
              refine X_istore_n dX2_clear_112 (by decide) ?_
              refine X_L [(3, .int (nI go)), (2, .int (nI go)), (0, .ref t), (1, .ref hv)] ⟨rfl, rfl, rfl, rfl, trivial⟩ ?_
              by_cases hgz : go = 0
              · refine X_mi (show _ = up2 (clW t nC l8 l9 mi) t 13 (mkB (hbE go)) by rw [show mkB (hbE go) = nI 0 from (mkB_0 (fun i _ => by unfold hbE; rw [if_pos hgz])).symm]) ?_
                refine X_iload_n dX2_clear_113 rfl ?_
                refine X_if_leN (a := go) 142 dX2_clear_114 (by decide) (by omega) (fun h_7 => ?_) (fun h_7 => ?_)
                · refine X_iconst (v := nI 0) dX2_clear_142 (by decide) ?_
                  refine X_istore_n dX2_clear_143 (by decide) ?_
                  refine X_L [(3, .int (nI 0)), (0, .ref t), (1, .ref hv)] ⟨rfl, rfl, rfl, trivial⟩ ?_
                  refine X_mi cl0_w ?_
                  have hF9 : ∀ i, FrC t (cl0 t nC go l8 l9 mi).1 (clC t nC i go l8 l9 cm T mi) := fun i => by unfold clC; exact lpS_inv (fun _ s => FrC t (cl0 t nC go l8 l9 mi).1 s) (e := i) (fun _ _ _ h => FrC_cg h) i 0 _ (by omega) FrC_r
                  refine X_for3 144 (fun i => [(3, .int (nI i)), (0, .ref t), (1, .ref hv)]) (fun i => wC t i (clC t nC i go l8 l9 cm T mi)) nG ?_ nG 0 (by omega) ?_
                  · intro i hi hn
                    have hci := hcm i hi
                    have hPi := hP.2.2.2.2 i hi
                    refine X_iload_n dX2_clear_144 rfl ?_
                    refine X_aload_n dX2_clear_145 rfl ?_
                    refine X_getr (a := 3) dX2_clear_146 fkX2_33 rfl (sck_0 hC) (scr_0 hC) ?_
                    refine X_geti dX2_clear_149 fkX2_50 rfl (k_3 hSh) ?_
                    rw [(show (wC t i (clC t nC i go l8 l9 cm T mi)) 3 10 = nI nG by rw [cr_out (by omega), hF9 i 3 10 (by omega), cl0_out (by omega)]; exact hP.2.1)]
                    refine X_icmp_geN (a := i) (b := nG) 169 dX2_clear_152 (by decide) (by omega) (by omega) (fun h_8 => ?_) (fun h_8 => ?_)
                    · exact absurd hi (by omega)
                    · refine X_aload_n dX2_clear_155 rfl ?_
                      refine X_iload_n dX2_clear_156 rfl ?_
                      refine X_aload_n dX2_clear_157 rfl ?_
                      refine X_iload_n dX2_clear_158 rfl ?_
                      refine X_iald i dX2_clear_159 hkv rfl (by omega) ?_
                      rw [(show (wC t i (clC t nC i go l8 l9 cm T mi)) hv i = nI (cm i) by rw [cr_out (by omega), hF9 i hv i (by omega), cl0_out (by omega)]; exact hci.1)]
                      refine X_callVV dX2_clear_160 mkX2_100 (sck_0 hC) (c_clearGuest Γ g ml hSh t hC ht i (clC t nC i go l8 l9 cm T mi) (by omega) (cm i) (T i) hci.2 (by rw [hF9 i 8 i (by omega), cl0_out (by omega)]; exact hPi.2.1) (by omega)) rfl rfl (by decide) (Nat.le_of_ble_eq_true rfl) ?_
                      refine X_iinc (v := nI (i + 1)) dX2_clear_163 rfl (nI_1 _) (by decide) ?_
                      refine X_goto 144 dX2_clear_166 (by decide) ?_
                      refine X_L [(3, .int (nI (i + 1))), (0, .ref t), (1, .ref hv)] ⟨rfl, rfl, rfl, trivial⟩ ?_
                      refine X_mi (show _ = wC t (i + 1) (clC t nC (i + 1) go l8 l9 cm T mi) by unfold clC; rw [lpS_snoc, Nat.zero_add]) ?_
                      exact hn
                  · refine X_iload_n dX2_clear_144 rfl ?_
                    refine X_aload_n dX2_clear_145 rfl ?_
                    refine X_getr (a := 3) dX2_clear_146 fkX2_33 rfl (sck_0 hC) (scr_0 hC) ?_
                    refine X_geti dX2_clear_149 fkX2_50 rfl (k_3 hSh) ?_
                    refine X_topi (show (wC t nG (clC t nC nG go l8 l9 cm T mi)) 3 10 = nI nG by refine (congrFun (cr_out (by omega)) _).trans ?_; first | exact (by rw [hF9 nG 3 10 (by omega), cl0_out (by omega)]; exact hP.2.1) | (simp only [sM, sFa, sCf, sO, sTw, sFr, sBz]; rw [up2_row (by omega)]; exact (by rw [hF9 nG 3 10 (by omega), cl0_out (by omega)]; exact hP.2.1)) | (simp only [sM, sFa, sCf, sO, sTw, sFr, sBz]; rw [up2_row (by omega), up2_row (by omega)]; exact (by rw [hF9 nG 3 10 (by omega), cl0_out (by omega)]; exact hP.2.1)) | (simp only [sM, sFa, sCf, sO, sTw, sFr, sBz]; simp [up2]; exact (by rw [hF9 nG 3 10 (by omega), cl0_out (by omega)]; exact hP.2.1))) ?_
                    refine X_icmp_geN (a := nG) (b := nG) 169 dX2_clear_152 (by decide) (by omega) (by omega) (fun h_9 => ?_) (fun h_9 => ?_)
                    · exact X_vret dX2_clear_169 rfl ⟨rfl, rfl, rfl, rfl⟩
                    · exact absurd h_9 (by omega)
                · exact absurd h_7 (by omega)
              · have hgp : 0 < go := by omega
                refine X_mi (show _ = up2 (clW t nC l8 l9 mi) t 13 (mkB (hbz go 1)) by rw [show mkB (hbz go 1) = nI 0 from (mkB_0 hbz_1).symm]) ?_
                refine X_L [(3, .int (nI (1 * go))), (2, .int (nI go)), (0, .ref t), (1, .ref hv)] ⟨by rw [Nat.one_mul]; rfl, rfl, rfl, rfl, trivial⟩ ?_
                refine X_for4 113 (fun i => [(3, .int (nI (i * go))), (2, .int (nI go)), (0, .ref t), (1, .ref hv)]) (fun i => up2 (clW t nC l8 l9 mi) t 13 (mkB (hbz go i))) (23 / go + 1) ?_ (23 / go) 1 (by omega) (by omega) ?_
                · intro i hi hi0 hn
                  have hig : i * go ≤ 23 := (Nat.le_div_iff_mul_le hgp).mp (by omega)
                  have hig0 : 0 < i * go := Nat.mul_pos hi0 hgp
                  refine X_iload_n dX2_clear_113 rfl ?_
                  refine X_if_leN (a := go) 142 dX2_clear_114 (by decide) (by omega) (fun h_10 => ?_) (fun h_10 => ?_)
                  · exact absurd h_10 (by omega)
                  · refine X_iload_n dX2_clear_117 rfl ?_
                    refine X_bipush (v := nI 24) dX2_clear_118 (by decide) ?_
                    refine X_icmp_geN (a := i * go) (b := 24) 142 dX2_clear_120 (by decide) (by omega) (by omega) (fun h_11 => ?_) (fun h_11 => ?_)
                    · exact absurd h_11 (by omega)
                    · refine X_aload_n dX2_clear_123 rfl ?_
                      refine X_dup dX2_clear_124 rfl ?_
                      refine X_geti dX2_clear_125 fkX2_61 rfl (sck_0 hC) ?_
                      rw [up2_s]
                      refine X_iconst (v := nI 1) dX2_clear_128 (by decide) ?_
                      refine X_iload_n dX2_clear_129 rfl ?_
                      refine X_ishl dX2_clear_130 ?_
                      refine X_ior dX2_clear_131 ?_
                      refine X_topi (mkB_or (k := i * go) (by omega)) ?_
                      refine X_puti dX2_clear_132 fkX2_61 rfl rfl (sck_0 hC) ?_
                      refine X_mi (show _ = up2 (clW t nC l8 l9 mi) t 13 (mkB (hbz go (i + 1))) by rw [up2_up2, hbz_s hgp hi0]) ?_
                      refine X_iload_n dX2_clear_135 rfl ?_
                      refine X_iload_n dX2_clear_136 rfl ?_
                      refine X_iadd dX2_clear_137 ?_
                      refine X_topi (nI_add (i * go) go) ?_
                      refine X_istore_n dX2_clear_138 (by decide) ?_
                      refine X_goto 113 dX2_clear_139 (by decide) ?_
                      refine X_L [(3, .int (nI ((i * go) + go))), (2, .int (nI go)), (0, .ref t), (1, .ref hv)] ⟨rfl, rfl, rfl, rfl, trivial⟩ ?_
                      rw [Nat.succ_mul] at hn
                      exact hn
                · have hig : 23 < (23 / go + 1) * go := by have h1 := Nat.div_add_mod 23 go; have h2 := Nat.mod_lt 23 hgp; rw [Nat.succ_mul, Nat.mul_comm]; omega
                  have hig2 : (23 / go + 1) * go < 100 := by have h1 := Nat.div_mul_le_self 23 go; rw [Nat.succ_mul]; omega
                  refine X_mi (show _ = up2 (clW t nC l8 l9 mi) t 13 (mkB (hbE go)) by rw [show hbE go = hbz go (23 / go + 1) from if_neg hgz]) ?_
                  refine X_iload_n dX2_clear_113 rfl ?_
                  refine X_if_leN (a := go) 142 dX2_clear_114 (by decide) (by omega) (fun h_12 => ?_) (fun h_12 => ?_)
                  · exact absurd h_12 (by omega)
                  · refine X_iload_n dX2_clear_117 rfl ?_
                    refine X_bipush (v := nI 24) dX2_clear_118 (by decide) ?_
                    refine X_icmp_geN (a := (23 / go + 1) * go) (b := 24) 142 dX2_clear_120 (by decide) (by omega) (by omega) (fun h_13 => ?_) (fun h_13 => ?_)
                    · refine X_iconst (v := nI 0) dX2_clear_142 (by decide) ?_
                      refine X_istore_n dX2_clear_143 (by decide) ?_
                      refine X_L [(3, .int (nI 0)), (0, .ref t), (1, .ref hv)] ⟨rfl, rfl, rfl, trivial⟩ ?_
                      refine X_mi cl0_w ?_
                      have hF9 : ∀ i, FrC t (cl0 t nC go l8 l9 mi).1 (clC t nC i go l8 l9 cm T mi) := fun i => by unfold clC; exact lpS_inv (fun _ s => FrC t (cl0 t nC go l8 l9 mi).1 s) (e := i) (fun _ _ _ h => FrC_cg h) i 0 _ (by omega) FrC_r
                      refine X_for3 144 (fun i => [(3, .int (nI i)), (0, .ref t), (1, .ref hv)]) (fun i => wC t i (clC t nC i go l8 l9 cm T mi)) nG ?_ nG 0 (by omega) ?_
                      · intro i hi hn
                        have hci := hcm i hi
                        have hPi := hP.2.2.2.2 i hi
                        refine X_iload_n dX2_clear_144 rfl ?_
                        refine X_aload_n dX2_clear_145 rfl ?_
                        refine X_getr (a := 3) dX2_clear_146 fkX2_33 rfl (sck_0 hC) (scr_0 hC) ?_
                        refine X_geti dX2_clear_149 fkX2_50 rfl (k_3 hSh) ?_
                        rw [(show (wC t i (clC t nC i go l8 l9 cm T mi)) 3 10 = nI nG by rw [cr_out (by omega), hF9 i 3 10 (by omega), cl0_out (by omega)]; exact hP.2.1)]
                        refine X_icmp_geN (a := i) (b := nG) 169 dX2_clear_152 (by decide) (by omega) (by omega) (fun h_14 => ?_) (fun h_14 => ?_)
                        · exact absurd hi (by omega)
                        · refine X_aload_n dX2_clear_155 rfl ?_
                          refine X_iload_n dX2_clear_156 rfl ?_
                          refine X_aload_n dX2_clear_157 rfl ?_
                          refine X_iload_n dX2_clear_158 rfl ?_
                          refine X_iald i dX2_clear_159 hkv rfl (by omega) ?_
                          rw [(show (wC t i (clC t nC i go l8 l9 cm T mi)) hv i = nI (cm i) by rw [cr_out (by omega), hF9 i hv i (by omega), cl0_out (by omega)]; exact hci.1)]
                          refine X_callVV dX2_clear_160 mkX2_100 (sck_0 hC) (c_clearGuest Γ g ml hSh t hC ht i (clC t nC i go l8 l9 cm T mi) (by omega) (cm i) (T i) hci.2 (by rw [hF9 i 8 i (by omega), cl0_out (by omega)]; exact hPi.2.1) (by omega)) rfl rfl (by decide) (Nat.le_of_ble_eq_true rfl) ?_
                          refine X_iinc (v := nI (i + 1)) dX2_clear_163 rfl (nI_1 _) (by decide) ?_
                          refine X_goto 144 dX2_clear_166 (by decide) ?_
                          refine X_L [(3, .int (nI (i + 1))), (0, .ref t), (1, .ref hv)] ⟨rfl, rfl, rfl, trivial⟩ ?_
                          refine X_mi (show _ = wC t (i + 1) (clC t nC (i + 1) go l8 l9 cm T mi) by unfold clC; rw [lpS_snoc, Nat.zero_add]) ?_
                          exact hn
                      · refine X_iload_n dX2_clear_144 rfl ?_
                        refine X_aload_n dX2_clear_145 rfl ?_
                        refine X_getr (a := 3) dX2_clear_146 fkX2_33 rfl (sck_0 hC) (scr_0 hC) ?_
                        refine X_geti dX2_clear_149 fkX2_50 rfl (k_3 hSh) ?_
                        refine X_topi (show (wC t nG (clC t nC nG go l8 l9 cm T mi)) 3 10 = nI nG by refine (congrFun (cr_out (by omega)) _).trans ?_; first | exact (by rw [hF9 nG 3 10 (by omega), cl0_out (by omega)]; exact hP.2.1) | (simp only [sM, sFa, sCf, sO, sTw, sFr, sBz]; rw [up2_row (by omega)]; exact (by rw [hF9 nG 3 10 (by omega), cl0_out (by omega)]; exact hP.2.1)) | (simp only [sM, sFa, sCf, sO, sTw, sFr, sBz]; rw [up2_row (by omega), up2_row (by omega)]; exact (by rw [hF9 nG 3 10 (by omega), cl0_out (by omega)]; exact hP.2.1)) | (simp only [sM, sFa, sCf, sO, sTw, sFr, sBz]; simp [up2]; exact (by rw [hF9 nG 3 10 (by omega), cl0_out (by omega)]; exact hP.2.1))) ?_
                        refine X_icmp_geN (a := nG) (b := nG) 169 dX2_clear_152 (by decide) (by omega) (by omega) (fun h_15 => ?_) (fun h_15 => ?_)
                        · exact X_vret dX2_clear_169 rfl ⟨rfl, rfl, rfl, rfl⟩
                        · exact absurd h_15 (by omega)
                    · exact absurd h_13 (by omega)
            · exact absurd h_6 (by omega)
        · exact absurd h_4 (by omega)
    · exact absurd h_2 (by omega)

/-- who waits, painted -/
def pwS (t b j : Nat) (s : CS) : CS := sM (t + 9) j (s.1 (t + 9) j ||| (nI 1 <<< (nI b &&& 31))) s
def pwC (t b v h : Nat) (x : CS) : CS := if t = 57 then lpS (pwS t b) v (h - v) x else x
def ewC (t b h v : Nat) (x : CS) : CS := sO 5 b none (pwC t b v h (sFa b 7 (x.2.1 b 7 + nI (h - v)) x))
theorem lp_pw {t b : Nat} : ∀ (n k : Nat) (x : CS), (lpS (pwS t b) k n x).2 = x.2 ∧ (∀ i, i ≠ t + 9 → (lpS (pwS t b) k n x).1 i = x.1 i)
  | 0, k, x => ⟨rfl, fun _ _ => rfl⟩
  | n + 1, k, x => by
    obtain ⟨h1, h2⟩ := lp_pw n (k + 1) (pwS t b k x)
    exact ⟨h1, fun i hi => (h2 i hi).trans (up2_row hi)⟩
theorem pwC_q {t b v h : Nat} {x : CS} : (pwC t b v h x).2 = x.2 ∧ (∀ i, i ≠ t + 9 → (pwC t b v h x).1 i = x.1 i) := by
  unfold pwC
  split
  · exact lp_pw _ _ _
  · exact ⟨rfl, fun _ _ => rfl⟩
set_option maxRecDepth 100000 in
set_option maxHeartbeats 4000000 in
theorem c_endWaiting (Γ : pTG) (g : pGG) (ml : pML) (hSh : Sh g) (t : Nat) (hC : ShC g t) (ht : 32 ≤ t) (nG : Nat) (x : CS) (hn8 : nG ≤ 8) (hpa : x.1 t 10 = bI (decide (t = 57))) (b h v : Nat) (hg : b < nG) (hv : x.2.2.2.1 5 b = some v) (hvh : v ≤ h) (hh : h < 24) : cV Γ 1 mX2_endWaiting [.ref t, .int (nI b), .int (nI h)] g (wC t nG x) ml (wC t nG (ewC t b h v x)) ml := by
  refine cV_of (by decide +kernel) (Nat.le_of_ble_eq_true rfl) ?_
  refine X_aload_n dX2_endWaiting_0 rfl ?_
  refine X_getr (a := t + 1) dX2_endWaiting_1 fkX2_9 rfl (sck_0 hC) (scr_1 hC) ?_
  refine X_iload_n dX2_endWaiting_4 rfl ?_
  refine X_bipush (v := nI 8) dX2_endWaiting_5 (by decide) ?_
  refine X_imul dX2_endWaiting_7 ?_
  refine X_topi (pk_mul b 8) ?_
  refine X_bipush (v := nI 7) dX2_endWaiting_8 (by decide) ?_
  refine X_iadd dX2_endWaiting_10 ?_
  refine X_topi (nI_add (b * 8) 7) ?_
  refine X_dup2 dX2_endWaiting_11 rfl rfl ?_
  refine X_iald ((b * 8) + 7) dX2_endWaiting_12 (sck_1 hC) rfl (by omega) ?_
  refine X_topi (show (wC t nG x) (t + 1) ((b * 8) + 7) = x.2.1 b 7 by refine (cr_fa (by omega)).trans ?_; first | rfl | (simp only [sM, sFa, sCf, sO, sTw, sFr, sBz]; rw [up2_row (by omega)]) | (simp only [sM, sFa, sCf, sO, sTw, sFr, sBz]; rw [up2_row (by omega), up2_row (by omega)]) | simp [sM, sFa, sCf, sO, sTw, sFr, sBz, up2, ud]) ?_
  refine X_iload_n dX2_endWaiting_13 rfl ?_
  refine X_aload_n dX2_endWaiting_14 rfl ?_
  refine X_getr (a := t + 5) dX2_endWaiting_15 fkX2_24 rfl (sck_0 hC) (scr_7 hC) ?_
  refine X_iload_n dX2_endWaiting_18 rfl ?_
  refine X_iald b dX2_endWaiting_19 (sck_5 hC) rfl (by omega) ?_
  refine X_topi (show (wC t nG x) (t + 5) b = nI v by refine (cr_o5 (by omega)).trans ?_; first | exact (show oI (x.2.2.2.1 5 b) = nI v by rw [hv]; rfl) | (simp only [sM, sFa, sCf, sO, sTw, sFr, sBz]; rw [up2_row (by omega)]; exact (show oI (x.2.2.2.1 5 b) = nI v by rw [hv]; rfl)) | (simp only [sM, sFa, sCf, sO, sTw, sFr, sBz]; rw [up2_row (by omega), up2_row (by omega)]; exact (show oI (x.2.2.2.1 5 b) = nI v by rw [hv]; rfl)) | (simp only [sM, sFa, sCf, sO, sTw, sFr, sBz]; simp [up2]; exact (show oI (x.2.2.2.1 5 b) = nI v by rw [hv]; rfl))) ?_
  refine X_isub dX2_endWaiting_20 ?_
  refine X_topi (pk_sub (a := h) (b := v) (by omega)) ?_
  refine X_iadd dX2_endWaiting_21 ?_
  refine X_iast ((b * 8) + 7) dX2_endWaiting_22 (sck_1 hC) rfl (by omega) ?_
  refine X_mi (cw_fa (by omega)) ?_
  by_cases h57 : t = 57
  · have hk9 : g.2.1 (t + 9) = (20, 24) := by rw [sck_9 hC, if_pos h57]
    refine X_aload_n dX2_endWaiting_23 rfl ?_
    refine X_geti dX2_endWaiting_24 fkX2_37 rfl (sck_0 hC) ?_
    refine X_topi (show (wC t nG (sFa b 7 ((x.2.1 b 7) + (nI (h - v))) x)) t 10 = nI 1 by refine (cr_f (by decide)).trans ?_; first | exact (hpa.trans (by rw [decide_eq_true h57]; rfl)) | (simp only [sM, sFa, sCf, sO, sTw, sFr, sBz]; rw [up2_row (by omega)]; exact (hpa.trans (by rw [decide_eq_true h57]; rfl))) | (simp only [sM, sFa, sCf, sO, sTw, sFr, sBz]; rw [up2_row (by omega), up2_row (by omega)]; exact (hpa.trans (by rw [decide_eq_true h57]; rfl))) | (simp only [sM, sFa, sCf, sO, sTw, sFr, sBz]; simp [up2]; exact (hpa.trans (by rw [decide_eq_true h57]; rfl)))) ?_
    refine X_if_eqN (a := 1) 60 dX2_endWaiting_27 (by decide) (by omega) (fun h_1 => ?_) (fun h_1 => ?_)
    · exact absurd h_1 (by omega)
    · refine X_aload_n dX2_endWaiting_30 rfl ?_
      refine X_getr (a := t + 5) dX2_endWaiting_31 fkX2_24 rfl (sck_0 hC) (scr_7 hC) ?_
      refine X_iload_n dX2_endWaiting_34 rfl ?_
      refine X_iald b dX2_endWaiting_35 (sck_5 hC) rfl (by omega) ?_
      refine X_topi (show (wC t nG (sFa b 7 ((x.2.1 b 7) + (nI (h - v))) x)) (t + 5) b = nI v by refine (cr_o5 (by omega)).trans ?_; first | exact (show oI (x.2.2.2.1 5 b) = nI v by rw [hv]; rfl) | (simp only [sM, sFa, sCf, sO, sTw, sFr, sBz]; rw [up2_row (by omega)]; exact (show oI (x.2.2.2.1 5 b) = nI v by rw [hv]; rfl)) | (simp only [sM, sFa, sCf, sO, sTw, sFr, sBz]; rw [up2_row (by omega), up2_row (by omega)]; exact (show oI (x.2.2.2.1 5 b) = nI v by rw [hv]; rfl)) | (simp only [sM, sFa, sCf, sO, sTw, sFr, sBz]; simp [up2]; exact (show oI (x.2.2.2.1 5 b) = nI v by rw [hv]; rfl))) ?_
      refine X_istore_n dX2_endWaiting_36 (by decide) ?_
      refine X_L [(3, .int (nI v)), (0, .ref t), (1, .int (nI b)), (2, .int (nI h))] ⟨rfl, rfl, rfl, rfl, trivial⟩ ?_
      refine X_for2 (σ := CS) 37 (fun i y => [(3, .int (nI i)), (0, .ref t), (1, .int (nI b)), (2, .int (nI h))]) (fun y => wC t nG y) (fun y => ml) (fun i y => pwS t b i y) (fun i y => y = lpS (pwS t b) v (i - v) (sFa b 7 (x.2.1 b 7 + nI (h - v)) x) ∧ v ≤ i) h ?_ (h - v) v (sFa b 7 ((x.2.1 b 7) + (nI (h - v))) x) (by omega) ⟨by rw [Nat.sub_self]; rfl, Nat.le_refl _⟩ ?_
      · intro i y hi hI
        refine ⟨⟨by rw [show i + 1 - v = (i - v) + 1 by omega, lpS_snoc, ← hI.1, show v + (i - v) = i by omega], by omega⟩, fun hn => ?_⟩
        refine X_iload_n dX2_endWaiting_37 rfl ?_
        refine X_iload_n dX2_endWaiting_38 rfl ?_
        refine X_icmp_geN (a := i) (b := h) 60 dX2_endWaiting_39 (by decide) (by omega) (by omega) (fun h_2 => ?_) (fun h_2 => ?_)
        · exact absurd hi (by omega)
        · refine X_aload_n dX2_endWaiting_42 rfl ?_
          refine X_getr (a := t + 9) dX2_endWaiting_43 fkX2_44 rfl (sck_0 hC) (scr_4 hC) ?_
          refine X_iload_n dX2_endWaiting_46 rfl ?_
          refine X_dup2 dX2_endWaiting_47 rfl rfl ?_
          refine X_iald i dX2_endWaiting_48 hk9 rfl (by omega) ?_
          refine X_topi (show (wC t nG y) (t + 9) i = y.1 (t + 9) i by refine (cr_9).trans ?_; first | rfl | (simp only [sM, sFa, sCf, sO, sTw, sFr, sBz]; rw [up2_row (by omega)]) | (simp only [sM, sFa, sCf, sO, sTw, sFr, sBz]; rw [up2_row (by omega), up2_row (by omega)]) | simp [sM, sFa, sCf, sO, sTw, sFr, sBz, up2, ud]) ?_
          refine X_iconst (v := nI 1) dX2_endWaiting_49 (by decide) ?_
          refine X_iload_n dX2_endWaiting_50 rfl ?_
          refine X_ishl dX2_endWaiting_51 ?_
          refine X_ior dX2_endWaiting_52 ?_
          refine X_iast i dX2_endWaiting_53 hk9 rfl (by omega) ?_
          refine X_mi (cw_m (by omega)) ?_
          refine X_iinc (v := nI (i + 1)) dX2_endWaiting_54 rfl (nI_1 _) (by decide) ?_
          refine X_goto 37 dX2_endWaiting_57 (by decide) ?_
          refine X_L [(3, .int (nI (i + 1))), (0, .ref t), (1, .int (nI b)), (2, .int (nI h))] ⟨rfl, rfl, rfl, rfl, trivial⟩ ?_
          exact hn
      · intro y hI
        refine X_iload_n dX2_endWaiting_37 rfl ?_
        refine X_iload_n dX2_endWaiting_38 rfl ?_
        refine X_icmp_geN (a := h) (b := h) 60 dX2_endWaiting_39 (by decide) (by omega) (by omega) (fun h_3 => ?_) (fun h_3 => ?_)
        · refine X_aload_n dX2_endWaiting_60 rfl ?_
          refine X_getr (a := t + 5) dX2_endWaiting_61 fkX2_24 rfl (sck_0 hC) (scr_7 hC) ?_
          refine X_iload_n dX2_endWaiting_64 rfl ?_
          refine X_iconst (v := -1) dX2_endWaiting_65 (by decide) ?_
          refine X_iast b dX2_endWaiting_66 (sck_5 hC) rfl (by omega) ?_
          refine X_mi (cw_on (k := 5) (by omega) (by omega)) ?_
          exact X_vret dX2_endWaiting_67 rfl ⟨rfl, rfl, by unfold ewC pwC; rw [if_pos h57, hI.1], rfl⟩
        · exact absurd h_3 (by omega)
  · refine X_aload_n dX2_endWaiting_23 rfl ?_
    refine X_geti dX2_endWaiting_24 fkX2_37 rfl (sck_0 hC) ?_
    refine X_topi (show (wC t nG (sFa b 7 ((x.2.1 b 7) + (nI (h - v))) x)) t 10 = nI 0 by refine (cr_f (by decide)).trans ?_; first | exact (hpa.trans (by rw [decide_eq_false h57]; rfl)) | (simp only [sM, sFa, sCf, sO, sTw, sFr, sBz]; rw [up2_row (by omega)]; exact (hpa.trans (by rw [decide_eq_false h57]; rfl))) | (simp only [sM, sFa, sCf, sO, sTw, sFr, sBz]; rw [up2_row (by omega), up2_row (by omega)]; exact (hpa.trans (by rw [decide_eq_false h57]; rfl))) | (simp only [sM, sFa, sCf, sO, sTw, sFr, sBz]; simp [up2]; exact (hpa.trans (by rw [decide_eq_false h57]; rfl)))) ?_
    refine X_if_eqN (a := 0) 60 dX2_endWaiting_27 (by decide) (by omega) (fun h_4 => ?_) (fun h_4 => ?_)
    · refine X_aload_n dX2_endWaiting_60 rfl ?_
      refine X_getr (a := t + 5) dX2_endWaiting_61 fkX2_24 rfl (sck_0 hC) (scr_7 hC) ?_
      refine X_iload_n dX2_endWaiting_64 rfl ?_
      refine X_iconst (v := -1) dX2_endWaiting_65 (by decide) ?_
      refine X_iast b dX2_endWaiting_66 (sck_5 hC) rfl (by omega) ?_
      refine X_mi (cw_on (k := 5) (by omega) (by omega)) ?_
      exact X_vret dX2_endWaiting_67 rfl ⟨rfl, rfl, by unfold ewC pwC; rw [if_neg h57], rfl⟩
    · exact absurd rfl h_4
/-- a queue laid over a world -/
def uq (t : Nat) (L : List Nat) (m : pMI) : pMI := fun a j => if a = t + 7 ∧ j < L.length then nI (L.getD j 0) else m a j
theorem uq_nil (t : Nat) (m : pMI) : uq t [] m = m := by funext a j; simp [uq]
theorem uq_row {t : Nat} {L : List Nat} {m : pMI} {a : Nat} (h : a ≠ t + 7) : uq t L m a = m a := by funext j; simp [uq, h]
theorem uq_at {t : Nat} {L : List Nat} {m : pMI} {j : Nat} (h : L.length ≤ j) : uq t L m (t + 7) j = m (t + 7) j := by simp [uq]; omega
theorem uq_s {t : Nat} {L : List Nat} {m : pMI} {v : Nat} : up2 (uq t L m) (t + 7) L.length (nI v) = uq t (L ++ [v]) m := by
  funext a j
  unfold up2 uq
  by_cases h1 : a = t + 7
  · by_cases h2 : j = L.length
    · subst h2; simp [h1]
    · by_cases h3 : j < L.length
      · simp [h1, h2, h3, Nat.lt_succ_of_lt h3, List.getElem?_append_left h3]
      · simp [h1, h2, h3, show ¬ j < L.length + 1 by omega]
  · simp [h1]
def sQ (L : List Nat) (t nG : Nat) (x : CS) : CS := ((fun a j => if a = t + 7 then wC t nG x (t + 7) j else x.1 a j), x.2.1, x.2.2.1, x.2.2.2.1, x.2.2.2.2.1, L, x.2.2.2.2.2.2)
theorem uq_done {t nG : Nat} {L : List Nat} {x : CS} : up2 (uq t L (wC t nG x)) t 11 (nI L.length) = wC t nG (sQ L t nG x) := by
  funext a j
  by_cases h1 : a = t
  · subst h1
    by_cases h2 : j = 11
    · subst h2; rw [up2_s, cr_11]; rfl
    · rw [up2_n h2, uq_row (by omega)]
      unfold wC
      rw [if_pos rfl, if_pos rfl, if_neg h2, if_neg h2]
      have : (sQ L a nG x).1 a j = x.1 a j := if_neg (by omega)
      rw [this]
      rfl
  · rw [up2_row h1]
    by_cases h3 : a = t + 7
    · subst h3
      by_cases h4 : j < L.length
      · rw [cr_7 (show j < (sQ L t nG x).2.2.2.2.2.1.length from h4)]
        unfold uq
        rw [if_pos ⟨rfl, h4⟩]
        rfl
      · rw [uq_at (by omega)]
        conv => rhs; unfold wC
        rw [if_neg (by omega), if_neg (by omega), if_neg (by omega), if_neg (by omega), if_neg (fun z => h4 z.2), if_neg (by omega)]
        exact (if_pos rfl).symm
    · rw [uq_row h3]
      unfold wC
      rw [if_neg h1, if_neg h1]
      have h5 : (sQ L t nG x).1 a j = x.1 a j := if_neg h3
      rw [h5, if_neg (show ¬ (a = t + 7 ∧ j < x.2.2.2.2.2.1.length) from fun z => h3 z.1), if_neg (show ¬ (a = t + 7 ∧ j < (sQ L t nG x).2.2.2.2.2.1.length) from fun z => h3 z.1)]
      rfl
def fq (b : Nat) (q : List Nat) (i : Nat) : List Nat := (q.take i).filter (fun z => z != b)
theorem fq_s {b : Nat} {q : List Nat} {i : Nat} (hi : i < q.length) : fq b q (i + 1) = if q.getD i 0 = b then fq b q i else fq b q i ++ [q.getD i 0] := by
  unfold fq
  rw [List.take_succ_eq_append_getElem hi, List.filter_append]
  have : q.getD i 0 = q[i] := by simp [List.getD, hi]
  rw [this]
  by_cases h : q[i] = b
  · simp [h]
  · simp [h]
theorem fq_le {b : Nat} {q : List Nat} {i : Nat} : (fq b q i).length ≤ i := Nat.le_trans (List.length_filter_le _ _) (List.length_take_le _ _)
theorem fq_all {b : Nat} {q : List Nat} : fq b q q.length = q.filter (fun z => z != b) := by unfold fq; rw [List.take_length]
def uqC (t nG b : Nat) (x : CS) : CS := sQ (x.2.2.2.2.2.1.filter (fun z => z != b)) t nG x
theorem getD_mem {q : List Nat} {i : Nat} (hi : i < q.length) : q.getD i 0 ∈ q := by
  have : q.getD i 0 = q[i] := by simp [List.getD, hi]
  rw [this]; exact List.getElem_mem hi
/-- a loop whose state is its counter's alone -/
theorem X_for3 {Γ : pTG} {d k n : Nat} {M : pMD} {S : List Value} {g : pGG} {ml : pML} {Q : pQ} (head : Nat) (Lf : Nat → List (Nat × Value)) (mf : Nat → pMI) (e : Nat)
    (hb : ∀ i, i < e → XW Γ d k n M head (Lf (i + 1)) S g (mf (i + 1)) ml Q → XW Γ d k n M head (Lf i) S g (mf i) ml Q)
    (c i : Nat) (he : i + c = e) (hx : XW Γ d k n M head (Lf e) S g (mf e) ml Q) : XW Γ d k n M head (Lf i) S g (mf i) ml Q := by
  induction c generalizing i with
  | zero => have : i = e := by omega
            subst this; exact hx
  | succ c ih => exact hb i (by omega) (ih (i + 1) (by omega))
set_option maxRecDepth 100000 in
set_option maxHeartbeats 4000000 in
theorem c_unqueue (Γ : pTG) (g : pGG) (ml : pML) (hSh : Sh g) (t : Nat) (hC : ShC g t) (ht : 32 ≤ t) (nG : Nat) (x : CS) (b : Nat) (hb : b < 8) (hq : ∀ z ∈ x.2.2.2.2.2.1, z < 8) (hl : x.2.2.2.2.2.1.length ≤ 8) : cV Γ 1 mX2_unqueue [.ref t, .int (nI b)] g (wC t nG x) ml (wC t nG (uqC t nG b x)) ml := by
  refine cV_of (by decide +kernel) (Nat.le_of_ble_eq_true rfl) ?_
  refine X_iconst (v := nI 0) dX2_unqueue_0 (by decide) ?_
  refine X_istore_n dX2_unqueue_1 (by decide) ?_
  refine X_iconst (v := nI 0) dX2_unqueue_2 (by decide) ?_
  refine X_istore_n dX2_unqueue_3 (by decide) ?_
  refine X_L [(3, .int (nI 0)), (2, .int (nI 0)), (0, .ref t), (1, .int (nI b))] ⟨rfl, rfl, rfl, rfl, trivial⟩ ?_
  refine X_mi (uq_nil t _).symm ?_
  refine X_for3 4 (fun i => [(3, .int (nI i)), (2, .int (nI (fq b x.2.2.2.2.2.1 i).length)), (0, .ref t), (1, .int (nI b))]) (fun i => uq t (fq b x.2.2.2.2.2.1 i) (wC t nG x)) x.2.2.2.2.2.1.length ?_ x.2.2.2.2.2.1.length 0 (by omega) ?_
  · intro i hi hn
    have hqb : x.2.2.2.2.2.1.getD i 0 < 8 := hq _ (getD_mem (by omega))
    refine X_iload_n dX2_unqueue_4 rfl ?_
    refine X_aload_n dX2_unqueue_5 rfl ?_
    refine X_geti dX2_unqueue_6 fkX2_85 rfl (sck_0 hC) ?_
    rw [(show (uq t (fq b x.2.2.2.2.2.1 i) (wC t nG x)) t 11 = nI x.2.2.2.2.2.1.length by rw [uq_row (by omega)]; exact cr_11)]
    refine X_icmp_geN (a := i) (b := x.2.2.2.2.2.1.length) 43 dX2_unqueue_9 (by decide) (by first | omega | (have hz1 := fq_le (b := b) (q := x.2.2.2.2.2.1) (i := i); omega)) (by first | omega | (have hz1 := fq_le (b := b) (q := x.2.2.2.2.2.1) (i := i); omega)) (fun h_1 => ?_) (fun h_1 => ?_)
    · exact absurd hi (by omega)
    · refine X_aload_n dX2_unqueue_12 rfl ?_
      refine X_getr (a := t + 7) dX2_unqueue_13 fkX2_30 rfl (sck_0 hC) (scr_9 hC) ?_
      refine X_iload_n dX2_unqueue_16 rfl ?_
      refine X_iald i dX2_unqueue_17 (sck_7 hC) rfl (by first | omega | (have hz1 := fq_le (b := b) (q := x.2.2.2.2.2.1) (i := i); omega)) ?_
      rw [(show (uq t (fq b x.2.2.2.2.2.1 i) (wC t nG x)) (t + 7) i = nI (x.2.2.2.2.2.1.getD i 0) by rw [uq_at fq_le]; exact cr_7 (by omega))]
      refine X_iload_n dX2_unqueue_18 rfl ?_
      refine X_icmp_eqN (a := x.2.2.2.2.2.1.getD i 0) (b := b) 37 dX2_unqueue_19 (by decide) (by first | omega | (have hz1 := fq_le (b := b) (q := x.2.2.2.2.2.1) (i := i); omega)) (by first | omega | (have hz1 := fq_le (b := b) (q := x.2.2.2.2.2.1) (i := i); omega)) (fun h_2 => ?_) (fun h_2 => ?_)
      · refine X_iinc (v := nI (i + 1)) dX2_unqueue_37 rfl (nI_1 _) (by decide) ?_
        refine X_goto 4 dX2_unqueue_40 (by decide) ?_
        refine X_L [(3, .int (nI (i + 1))), (2, .int (nI ((fq b x.2.2.2.2.2.1 i).length))), (0, .ref t), (1, .int (nI b))] ⟨rfl, rfl, rfl, rfl, trivial⟩ ?_
        rw [fq_s hi, if_pos (by assumption)] at hn
        exact hn
      · refine X_aload_n dX2_unqueue_22 rfl ?_
        refine X_getr (a := t + 7) dX2_unqueue_23 fkX2_30 rfl (sck_0 hC) (scr_9 hC) ?_
        refine X_iload_n dX2_unqueue_26 rfl ?_
        refine X_aload_n dX2_unqueue_27 rfl ?_
        refine X_getr (a := t + 7) dX2_unqueue_28 fkX2_30 rfl (sck_0 hC) (scr_9 hC) ?_
        refine X_iload_n dX2_unqueue_31 rfl ?_
        refine X_iald i dX2_unqueue_32 (sck_7 hC) rfl (by first | omega | (have hz1 := fq_le (b := b) (q := x.2.2.2.2.2.1) (i := i); omega)) ?_
        rw [(show (uq t (fq b x.2.2.2.2.2.1 i) (wC t nG x)) (t + 7) i = nI (x.2.2.2.2.2.1.getD i 0) by rw [uq_at fq_le]; exact cr_7 (by omega))]
        refine X_iast ((fq b x.2.2.2.2.2.1 i).length) dX2_unqueue_33 (sck_7 hC) rfl (by first | omega | (have hz1 := fq_le (b := b) (q := x.2.2.2.2.2.1) (i := i); omega)) ?_
        refine X_iinc (v := nI ((fq b x.2.2.2.2.2.1 i).length + 1)) dX2_unqueue_34 rfl (nI_1 _) (by decide) ?_
        refine X_iinc (v := nI (i + 1)) dX2_unqueue_37 rfl (nI_1 _) (by decide) ?_
        refine X_goto 4 dX2_unqueue_40 (by decide) ?_
        refine X_L [(3, .int (nI (i + 1))), (2, .int (nI ((fq b x.2.2.2.2.2.1 i).length + 1))), (0, .ref t), (1, .int (nI b))] ⟨rfl, rfl, rfl, rfl, trivial⟩ ?_
        rw [fq_s hi, if_neg (by assumption), List.length_append] at hn
        refine X_mi uq_s ?_
        exact hn
  · refine X_iload_n dX2_unqueue_4 rfl ?_
    refine X_aload_n dX2_unqueue_5 rfl ?_
    refine X_geti dX2_unqueue_6 fkX2_85 rfl (sck_0 hC) ?_
    rw [(show (uq t (fq b x.2.2.2.2.2.1 x.2.2.2.2.2.1.length) (wC t nG x)) t 11 = nI x.2.2.2.2.2.1.length by rw [uq_row (by omega)]; exact cr_11)]
    refine X_icmp_geN (a := x.2.2.2.2.2.1.length) (b := x.2.2.2.2.2.1.length) 43 dX2_unqueue_9 (by decide) (by first | omega | (have hz1 := fq_le (b := b) (q := x.2.2.2.2.2.1) (i := i); omega)) (by first | omega | (have hz1 := fq_le (b := b) (q := x.2.2.2.2.2.1) (i := i); omega)) (fun h_3 => ?_) (fun h_3 => ?_)
    · refine X_aload_n dX2_unqueue_43 rfl ?_
      refine X_iload_n dX2_unqueue_44 rfl ?_
      refine X_puti dX2_unqueue_45 fkX2_85 rfl rfl (sck_0 hC) ?_
      exact X_vret dX2_unqueue_48 rfl ⟨rfl, rfl, by unfold uqC; rw [← fq_all]; exact uq_done, rfl⟩
    · exact absurd h_3 (by omega)
def tbC (t b h c : Nat) (x : CS) : CS :=
  sFa b 5 (x.2.1 b 5 + nI 1) (if x.2.1 b 5 = 0 then sFa b 1 (nI c) (sCf c 2 (x.2.2.1 c 2 + nI 1) (sM (t + 4) b (nI h) (sO 3 b (some c) (sFr (ud x.2.2.2.2.2.2.1 c false) x)))) else (sCf c 2 (x.2.2.1 c 2 + nI 1) (sM (t + 4) b (nI h) (sO 3 b (some c) (sFr (ud x.2.2.2.2.2.2.1 c false) x)))))
def vC (m : pMI) (F T : Nat → Nat) (b h c : Nat) : Int32 := sW (m 4 c) (m 5 c) (max h (F b)) (T b)
def btC (t nC : Nat) (F T : Nat → Nat) (b h : Nat) (x : CS) : CS := match bsD (vC x.1 F T b h) x.2.2.2.2.2.2.1 nC with
  | none => x
  | some c => tbC t b h c x
def mostO (W : Nat → Int32) (o : Option Nat) : Int32 := match o with
  | none => -1
  | some b => W b
set_option maxRecDepth 100000 in
set_option maxHeartbeats 4000000 in
theorem c_takeBest (Γ : pTG) (g : pGG) (ml : pML) (hSh : Sh g) (t : Nat) (hC : ShC g t) (ht : 32 ≤ t) (nG : Nat) (x : CS) (nC : Nat) (F T : Nat → Nat) (hP : PoolC x.1 nC nG F T) (b h : Nat) (hg : b < nG) (hh : h < 24) (hW : ∀ c, c < nC → -1 < vC x.1 F T b h c) : cV Γ 3 mX2_takeBest [.ref t, .int (nI b), .int (nI h)] g (wC t nG x) ml (wC t nG (btC t nC F T b h x)) ml := by
  refine cV_of (by decide +kernel) (Nat.le_of_ble_eq_true rfl) ?_
  have hn8 : nG ≤ 8 := hP.2.2.2.1
  have hC8 : nC ≤ 8 := hP.2.2.1
  have hFb := hP.2.2.2.2 b hg
  refine X_iconst (v := -1) dX2_takeBest_0 (by decide) ?_
  refine X_istore_n dX2_takeBest_1 (by decide) ?_
  refine X_iconst (v := -1) dX2_takeBest_2 (by decide) ?_
  refine X_istore dX2_takeBest_3 (by decide) ?_
  refine X_iload_n dX2_takeBest_5 rfl ?_
  refine X_aload_n dX2_takeBest_6 rfl ?_
  refine X_getr (a := 3) dX2_takeBest_7 fkX2_33 rfl (sck_0 hC) (scr_0 hC) ?_
  refine X_getr (a := 7) dX2_takeBest_10 fkX2_115 rfl (k_3 hSh) (r_3_3 hSh) ?_
  refine X_iload_n dX2_takeBest_13 rfl ?_
  refine X_iald b dX2_takeBest_14 (k_7 hSh) rfl (by first | omega | (have hz := hP.2.2.2.2 b hg; omega)) ?_
  refine X_topi (show (wC t nG x) 7 b = nI (F b) by refine (congrFun (cr_out (by omega)) _).trans ?_; first | exact (hP.2.2.2.2 b hg).1 | (simp only [sM, sFa, sCf, sO, sTw, sFr, sBz]; rw [up2_row (by omega)]; exact (hP.2.2.2.2 b hg).1) | (simp only [sM, sFa, sCf, sO, sTw, sFr, sBz]; rw [up2_row (by omega), up2_row (by omega)]; exact (hP.2.2.2.2 b hg).1) | (simp only [sM, sFa, sCf, sO, sTw, sFr, sBz]; simp [up2]; exact (hP.2.2.2.2 b hg).1)) ?_
  refine X_join (S := []) 31 (fun v => v = nI (max h (F b))) (fun v hv => ?_) (fun hJ_1 => ?_)
  · rw [hv]
    refine X_istore dX2_takeBest_31 (by decide) ?_
    refine X_iconst (v := nI 0) dX2_takeBest_33 (by decide) ?_
    refine X_istore dX2_takeBest_34 (by decide) ?_
    refine X_L [(6, .int (nI 0)), (4, .int (-1)), (3, .int (-1)), (5, .int (nI (max h (F b)))), (0, .ref t), (1, .int (nI b)), (2, .int (nI h))] ⟨rfl, rfl, rfl, rfl, rfl, rfl, rfl, trivial⟩ ?_
    refine X_for3 36 (fun i => [(6, .int (nI i)), (4, .int (mostO (vC x.1 F T b h) (bsD (vC x.1 F T b h) x.2.2.2.2.2.2.1 i))), (3, .int (oI (bsD (vC x.1 F T b h) x.2.2.2.2.2.2.1 i))), (5, .int (nI (max h (F b)))), (0, .ref t), (1, .int (nI b)), (2, .int (nI h))]) (fun _ => wC t nG x) nC ?_ nC 0 (by omega) ?_
    · intro i hi hn
      cases hb : bsD (vC x.1 F T b h) x.2.2.2.2.2.2.1 i with
      | none =>
        refine X_iload dX2_takeBest_36 rfl ?_
        refine X_aload_n dX2_takeBest_38 rfl ?_
        refine X_getr (a := 3) dX2_takeBest_39 fkX2_33 rfl (sck_0 hC) (scr_0 hC) ?_
        refine X_geti dX2_takeBest_42 fkX2_88 rfl (k_3 hSh) ?_
        refine X_topi (show (wC t nG x) 3 9 = nI nC by refine (congrFun (cr_out (by omega)) _).trans ?_; first | exact hP.1 | (simp only [sM, sFa, sCf, sO, sTw, sFr, sBz]; rw [up2_row (by omega)]; exact hP.1) | (simp only [sM, sFa, sCf, sO, sTw, sFr, sBz]; rw [up2_row (by omega), up2_row (by omega)]; exact hP.1) | (simp only [sM, sFa, sCf, sO, sTw, sFr, sBz]; simp [up2]; exact hP.1)) ?_
        refine X_icmp_geN (a := i) (b := nC) 116 dX2_takeBest_45 (by decide) (by first | omega | (have hz := hP.2.2.2.2 b hg; omega)) (by first | omega | (have hz := hP.2.2.2.2 b hg; omega)) (fun h_2 => ?_) (fun h_2 => ?_)
        · exact absurd hi (by omega)
        · refine X_aload_n dX2_takeBest_48 rfl ?_
          refine X_geti dX2_takeBest_49 fkX2_91 rfl (sck_0 hC) ?_
          refine X_topi (show (wC t nG x) t 12 = mkB x.2.2.2.2.2.2.1 by exact cr_12) ?_
          refine X_iload dX2_takeBest_52 rfl ?_
          refine X_ishr dX2_takeBest_54 ?_
          refine X_iconst (v := nI 1) dX2_takeBest_55 (by decide) ?_
          refine X_iand dX2_takeBest_56 ?_
          refine X_topi (mkB_ask (by omega)) ?_
          refine X_if_eq 110 dX2_takeBest_57 (by decide) (fun h_3 => ?_) (fun h_3 => ?_)
          · refine X_iinc (v := nI (i + 1)) dX2_takeBest_110 rfl (nI_1 _) (by decide) ?_
            refine X_goto 36 dX2_takeBest_113 (by decide) ?_
            refine X_L [(6, .int (nI (i + 1))), (4, .int (-1)), (3, .int (-1)), (5, .int (nI (max h (F b)))), (0, .ref t), (1, .int (nI b)), (2, .int (nI h))] ⟨rfl, rfl, rfl, rfl, rfl, rfl, rfl, trivial⟩ ?_
            have e9 : bsD (vC x.1 F T b h) x.2.2.2.2.2.2.1 (i + 1) = none := by unfold bsD; rw [hb]; simp_all [bI_0, bI_n0, mostO, ← Int32.not_lt]
            rw [e9] at hn
            exact hn
          · refine X_aload_n dX2_takeBest_60 rfl ?_
            refine X_getr (a := 3) dX2_takeBest_61 fkX2_33 rfl (sck_0 hC) (scr_0 hC) ?_
            refine X_getr (a := 4) dX2_takeBest_64 fkX2_121 rfl (k_3 hSh) (r_3_0 hSh) ?_
            refine X_iload dX2_takeBest_67 rfl ?_
            refine X_iald i dX2_takeBest_69 (k_4 hSh) rfl (by first | omega | (have hz := hP.2.2.2.2 b hg; omega)) ?_
            refine X_topi (show (wC t nG x) 4 i = x.1 4 i by refine (congrFun (cr_out (by omega)) _).trans ?_; first | rfl | (simp only [sM, sFa, sCf, sO, sTw, sFr, sBz]; rw [up2_row (by omega)]) | (simp only [sM, sFa, sCf, sO, sTw, sFr, sBz]; rw [up2_row (by omega), up2_row (by omega)]) | simp [sM, sFa, sCf, sO, sTw, sFr, sBz, up2, ud]) ?_
            refine X_aload_n dX2_takeBest_70 rfl ?_
            refine X_getr (a := 3) dX2_takeBest_71 fkX2_33 rfl (sck_0 hC) (scr_0 hC) ?_
            refine X_getr (a := 5) dX2_takeBest_74 fkX2_124 rfl (k_3 hSh) (r_3_1 hSh) ?_
            refine X_iload dX2_takeBest_77 rfl ?_
            refine X_iald i dX2_takeBest_79 (k_5 hSh) rfl (by first | omega | (have hz := hP.2.2.2.2 b hg; omega)) ?_
            refine X_topi (show (wC t nG x) 5 i = x.1 5 i by refine (congrFun (cr_out (by omega)) _).trans ?_; first | rfl | (simp only [sM, sFa, sCf, sO, sTw, sFr, sBz]; rw [up2_row (by omega)]) | (simp only [sM, sFa, sCf, sO, sTw, sFr, sBz]; rw [up2_row (by omega), up2_row (by omega)]) | simp [sM, sFa, sCf, sO, sTw, sFr, sBz, up2, ud]) ?_
            refine X_iload dX2_takeBest_80 rfl ?_
            refine X_aload_n dX2_takeBest_82 rfl ?_
            refine X_getr (a := 3) dX2_takeBest_83 fkX2_33 rfl (sck_0 hC) (scr_0 hC) ?_
            refine X_getr (a := 8) dX2_takeBest_86 fkX2_103 rfl (k_3 hSh) (r_3_4 hSh) ?_
            refine X_iload_n dX2_takeBest_89 rfl ?_
            refine X_iald b dX2_takeBest_90 (k_8 hSh) rfl (by first | omega | (have hz := hP.2.2.2.2 b hg; omega)) ?_
            refine X_topi (show (wC t nG x) 8 b = nI (T b) by refine (congrFun (cr_out (by omega)) _).trans ?_; first | exact (hP.2.2.2.2 b hg).2.1 | (simp only [sM, sFa, sCf, sO, sTw, sFr, sBz]; rw [up2_row (by omega)]; exact (hP.2.2.2.2 b hg).2.1) | (simp only [sM, sFa, sCf, sO, sTw, sFr, sBz]; rw [up2_row (by omega), up2_row (by omega)]; exact (hP.2.2.2.2 b hg).2.1) | (simp only [sM, sFa, sCf, sO, sTw, sFr, sBz]; simp [up2]; exact (hP.2.2.2.2 b hg).2.1)) ?_
            refine X_callSI dX2_takeBest_91 mkX2_127 (c_stretch Γ g (wC t nG x) ml (x.1 4 i) (x.1 5 i) (max h (F b)) (T b) (by first | omega | (have hz := hP.2.2.2.2 b hg; omega)) (by first | omega | (have hz := hP.2.2.2.2 b hg; omega))) rfl rfl (by decide) (Nat.le_of_ble_eq_true rfl) ?_
            refine X_topi (show _ = vC x.1 F T b h i from rfl) ?_
            refine X_istore dX2_takeBest_94 (by decide) ?_
            refine X_iload dX2_takeBest_96 rfl ?_
            refine X_iload dX2_takeBest_98 rfl ?_
            refine X_icmp_le 110 dX2_takeBest_100 (by decide) (fun h_4 => ?_) (fun h_4 => ?_)
            · exact absurd h_4 (Int32.not_le.mpr (hW i hi))
            · refine X_iload dX2_takeBest_103 rfl ?_
              refine X_istore dX2_takeBest_105 (by decide) ?_
              refine X_iload dX2_takeBest_107 rfl ?_
              refine X_istore_n dX2_takeBest_109 (by decide) ?_
              refine X_iinc (v := nI (i + 1)) dX2_takeBest_110 rfl (nI_1 _) (by decide) ?_
              refine X_goto 36 dX2_takeBest_113 (by decide) ?_
              refine X_L [(6, .int (nI (i + 1))), (4, .int (vC x.1 F T b h i)), (3, .int (nI i)), (5, .int (nI (max h (F b)))), (0, .ref t), (1, .int (nI b)), (2, .int (nI h))] ⟨rfl, rfl, rfl, rfl, rfl, rfl, rfl, trivial⟩ ?_
              have e9 : bsD (vC x.1 F T b h) x.2.2.2.2.2.2.1 (i + 1) = some i := by unfold bsD; rw [hb]; simp_all [bI_0, bI_n0, mostO, ← Int32.not_lt]
              rw [e9] at hn
              exact hn
      | some q =>
        have hqi := (bsD_lt hb).1
        refine X_iload dX2_takeBest_36 rfl ?_
        refine X_aload_n dX2_takeBest_38 rfl ?_
        refine X_getr (a := 3) dX2_takeBest_39 fkX2_33 rfl (sck_0 hC) (scr_0 hC) ?_
        refine X_geti dX2_takeBest_42 fkX2_88 rfl (k_3 hSh) ?_
        refine X_topi (show (wC t nG x) 3 9 = nI nC by refine (congrFun (cr_out (by omega)) _).trans ?_; first | exact hP.1 | (simp only [sM, sFa, sCf, sO, sTw, sFr, sBz]; rw [up2_row (by omega)]; exact hP.1) | (simp only [sM, sFa, sCf, sO, sTw, sFr, sBz]; rw [up2_row (by omega), up2_row (by omega)]; exact hP.1) | (simp only [sM, sFa, sCf, sO, sTw, sFr, sBz]; simp [up2]; exact hP.1)) ?_
        refine X_icmp_geN (a := i) (b := nC) 116 dX2_takeBest_45 (by decide) (by first | omega | (have hz := hP.2.2.2.2 b hg; omega)) (by first | omega | (have hz := hP.2.2.2.2 b hg; omega)) (fun h_5 => ?_) (fun h_5 => ?_)
        · exact absurd hi (by omega)
        · refine X_aload_n dX2_takeBest_48 rfl ?_
          refine X_geti dX2_takeBest_49 fkX2_91 rfl (sck_0 hC) ?_
          refine X_topi (show (wC t nG x) t 12 = mkB x.2.2.2.2.2.2.1 by exact cr_12) ?_
          refine X_iload dX2_takeBest_52 rfl ?_
          refine X_ishr dX2_takeBest_54 ?_
          refine X_iconst (v := nI 1) dX2_takeBest_55 (by decide) ?_
          refine X_iand dX2_takeBest_56 ?_
          refine X_topi (mkB_ask (by omega)) ?_
          refine X_if_eq 110 dX2_takeBest_57 (by decide) (fun h_6 => ?_) (fun h_6 => ?_)
          · refine X_iinc (v := nI (i + 1)) dX2_takeBest_110 rfl (nI_1 _) (by decide) ?_
            refine X_goto 36 dX2_takeBest_113 (by decide) ?_
            refine X_L [(6, .int (nI (i + 1))), (4, .int (vC x.1 F T b h q)), (3, .int (nI q)), (5, .int (nI (max h (F b)))), (0, .ref t), (1, .int (nI b)), (2, .int (nI h))] ⟨rfl, rfl, rfl, rfl, rfl, rfl, rfl, trivial⟩ ?_
            have e9 : bsD (vC x.1 F T b h) x.2.2.2.2.2.2.1 (i + 1) = some q := by unfold bsD; rw [hb]; simp_all [bI_0, bI_n0, mostO, ← Int32.not_lt]
            rw [e9] at hn
            exact hn
          · refine X_aload_n dX2_takeBest_60 rfl ?_
            refine X_getr (a := 3) dX2_takeBest_61 fkX2_33 rfl (sck_0 hC) (scr_0 hC) ?_
            refine X_getr (a := 4) dX2_takeBest_64 fkX2_121 rfl (k_3 hSh) (r_3_0 hSh) ?_
            refine X_iload dX2_takeBest_67 rfl ?_
            refine X_iald i dX2_takeBest_69 (k_4 hSh) rfl (by first | omega | (have hz := hP.2.2.2.2 b hg; omega)) ?_
            refine X_topi (show (wC t nG x) 4 i = x.1 4 i by refine (congrFun (cr_out (by omega)) _).trans ?_; first | rfl | (simp only [sM, sFa, sCf, sO, sTw, sFr, sBz]; rw [up2_row (by omega)]) | (simp only [sM, sFa, sCf, sO, sTw, sFr, sBz]; rw [up2_row (by omega), up2_row (by omega)]) | simp [sM, sFa, sCf, sO, sTw, sFr, sBz, up2, ud]) ?_
            refine X_aload_n dX2_takeBest_70 rfl ?_
            refine X_getr (a := 3) dX2_takeBest_71 fkX2_33 rfl (sck_0 hC) (scr_0 hC) ?_
            refine X_getr (a := 5) dX2_takeBest_74 fkX2_124 rfl (k_3 hSh) (r_3_1 hSh) ?_
            refine X_iload dX2_takeBest_77 rfl ?_
            refine X_iald i dX2_takeBest_79 (k_5 hSh) rfl (by first | omega | (have hz := hP.2.2.2.2 b hg; omega)) ?_
            refine X_topi (show (wC t nG x) 5 i = x.1 5 i by refine (congrFun (cr_out (by omega)) _).trans ?_; first | rfl | (simp only [sM, sFa, sCf, sO, sTw, sFr, sBz]; rw [up2_row (by omega)]) | (simp only [sM, sFa, sCf, sO, sTw, sFr, sBz]; rw [up2_row (by omega), up2_row (by omega)]) | simp [sM, sFa, sCf, sO, sTw, sFr, sBz, up2, ud]) ?_
            refine X_iload dX2_takeBest_80 rfl ?_
            refine X_aload_n dX2_takeBest_82 rfl ?_
            refine X_getr (a := 3) dX2_takeBest_83 fkX2_33 rfl (sck_0 hC) (scr_0 hC) ?_
            refine X_getr (a := 8) dX2_takeBest_86 fkX2_103 rfl (k_3 hSh) (r_3_4 hSh) ?_
            refine X_iload_n dX2_takeBest_89 rfl ?_
            refine X_iald b dX2_takeBest_90 (k_8 hSh) rfl (by first | omega | (have hz := hP.2.2.2.2 b hg; omega)) ?_
            refine X_topi (show (wC t nG x) 8 b = nI (T b) by refine (congrFun (cr_out (by omega)) _).trans ?_; first | exact (hP.2.2.2.2 b hg).2.1 | (simp only [sM, sFa, sCf, sO, sTw, sFr, sBz]; rw [up2_row (by omega)]; exact (hP.2.2.2.2 b hg).2.1) | (simp only [sM, sFa, sCf, sO, sTw, sFr, sBz]; rw [up2_row (by omega), up2_row (by omega)]; exact (hP.2.2.2.2 b hg).2.1) | (simp only [sM, sFa, sCf, sO, sTw, sFr, sBz]; simp [up2]; exact (hP.2.2.2.2 b hg).2.1)) ?_
            refine X_callSI dX2_takeBest_91 mkX2_127 (c_stretch Γ g (wC t nG x) ml (x.1 4 i) (x.1 5 i) (max h (F b)) (T b) (by first | omega | (have hz := hP.2.2.2.2 b hg; omega)) (by first | omega | (have hz := hP.2.2.2.2 b hg; omega))) rfl rfl (by decide) (Nat.le_of_ble_eq_true rfl) ?_
            refine X_topi (show _ = vC x.1 F T b h i from rfl) ?_
            refine X_istore dX2_takeBest_94 (by decide) ?_
            refine X_iload dX2_takeBest_96 rfl ?_
            refine X_iload dX2_takeBest_98 rfl ?_
            refine X_icmp_le 110 dX2_takeBest_100 (by decide) (fun h_7 => ?_) (fun h_7 => ?_)
            · refine X_iinc (v := nI (i + 1)) dX2_takeBest_110 rfl (nI_1 _) (by decide) ?_
              refine X_goto 36 dX2_takeBest_113 (by decide) ?_
              refine X_L [(6, .int (nI (i + 1))), (4, .int (vC x.1 F T b h q)), (3, .int (nI q)), (5, .int (nI (max h (F b)))), (0, .ref t), (1, .int (nI b)), (2, .int (nI h))] ⟨rfl, rfl, rfl, rfl, rfl, rfl, rfl, trivial⟩ ?_
              have e9 : bsD (vC x.1 F T b h) x.2.2.2.2.2.2.1 (i + 1) = some q := by unfold bsD; rw [hb]; simp_all [bI_0, bI_n0, mostO, ← Int32.not_lt]
              rw [e9] at hn
              exact hn
            · refine X_iload dX2_takeBest_103 rfl ?_
              refine X_istore dX2_takeBest_105 (by decide) ?_
              refine X_iload dX2_takeBest_107 rfl ?_
              refine X_istore_n dX2_takeBest_109 (by decide) ?_
              refine X_iinc (v := nI (i + 1)) dX2_takeBest_110 rfl (nI_1 _) (by decide) ?_
              refine X_goto 36 dX2_takeBest_113 (by decide) ?_
              refine X_L [(6, .int (nI (i + 1))), (4, .int (vC x.1 F T b h i)), (3, .int (nI i)), (5, .int (nI (max h (F b)))), (0, .ref t), (1, .int (nI b)), (2, .int (nI h))] ⟨rfl, rfl, rfl, rfl, rfl, rfl, rfl, trivial⟩ ?_
              have e9 : bsD (vC x.1 F T b h) x.2.2.2.2.2.2.1 (i + 1) = some i := by unfold bsD; rw [hb]; simp_all [bI_0, bI_n0, mostO, ← Int32.not_lt]
              rw [e9] at hn
              exact hn
    · cases hb : bsD (vC x.1 F T b h) x.2.2.2.2.2.2.1 nC with
      | none =>
        refine X_iload dX2_takeBest_36 rfl ?_
        refine X_aload_n dX2_takeBest_38 rfl ?_
        refine X_getr (a := 3) dX2_takeBest_39 fkX2_33 rfl (sck_0 hC) (scr_0 hC) ?_
        refine X_geti dX2_takeBest_42 fkX2_88 rfl (k_3 hSh) ?_
        refine X_topi (show (wC t nG x) 3 9 = nI nC by refine (congrFun (cr_out (by omega)) _).trans ?_; first | exact hP.1 | (simp only [sM, sFa, sCf, sO, sTw, sFr, sBz]; rw [up2_row (by omega)]; exact hP.1) | (simp only [sM, sFa, sCf, sO, sTw, sFr, sBz]; rw [up2_row (by omega), up2_row (by omega)]; exact hP.1) | (simp only [sM, sFa, sCf, sO, sTw, sFr, sBz]; simp [up2]; exact hP.1)) ?_
        refine X_icmp_geN (a := nC) (b := nC) 116 dX2_takeBest_45 (by decide) (by first | omega | (have hz := hP.2.2.2.2 b hg; omega)) (by first | omega | (have hz := hP.2.2.2.2 b hg; omega)) (fun h_8 => ?_) (fun h_8 => ?_)
        · refine X_iload_n dX2_takeBest_116 rfl ?_
          refine X_iconst (v := -1) dX2_takeBest_117 (by decide) ?_
          refine X_icmp_ne 122 dX2_takeBest_118 (by decide) (fun h_9 => ?_) (fun h_9 => ?_)
          · exact absurd rfl h_9
          · exact X_vret dX2_takeBest_121 rfl ⟨rfl, rfl, by unfold btC; rw [hb], rfl⟩
        · exact absurd h_8 (by omega)
      | some c =>
        have hcl := (bsD_lt hb).1
        refine X_iload dX2_takeBest_36 rfl ?_
        refine X_aload_n dX2_takeBest_38 rfl ?_
        refine X_getr (a := 3) dX2_takeBest_39 fkX2_33 rfl (sck_0 hC) (scr_0 hC) ?_
        refine X_geti dX2_takeBest_42 fkX2_88 rfl (k_3 hSh) ?_
        refine X_topi (show (wC t nG x) 3 9 = nI nC by refine (congrFun (cr_out (by omega)) _).trans ?_; first | exact hP.1 | (simp only [sM, sFa, sCf, sO, sTw, sFr, sBz]; rw [up2_row (by omega)]; exact hP.1) | (simp only [sM, sFa, sCf, sO, sTw, sFr, sBz]; rw [up2_row (by omega), up2_row (by omega)]; exact hP.1) | (simp only [sM, sFa, sCf, sO, sTw, sFr, sBz]; simp [up2]; exact hP.1)) ?_
        refine X_icmp_geN (a := nC) (b := nC) 116 dX2_takeBest_45 (by decide) (by first | omega | (have hz := hP.2.2.2.2 b hg; omega)) (by first | omega | (have hz := hP.2.2.2.2 b hg; omega)) (fun h_10 => ?_) (fun h_10 => ?_)
        · refine X_iload_n dX2_takeBest_116 rfl ?_
          refine X_iconst (v := -1) dX2_takeBest_117 (by decide) ?_
          refine X_icmp_ne 122 dX2_takeBest_118 (by decide) (fun h_11 => ?_) (fun h_11 => ?_)
          · refine X_aload_n dX2_takeBest_122 rfl ?_
            refine X_dup dX2_takeBest_123 rfl ?_
            refine X_geti dX2_takeBest_124 fkX2_91 rfl (sck_0 hC) ?_
            refine X_topi (show (wC t nG x) t 12 = mkB x.2.2.2.2.2.2.1 by exact cr_12) ?_
            refine X_iconst (v := nI 1) dX2_takeBest_127 (by decide) ?_
            refine X_iload_n dX2_takeBest_128 rfl ?_
            refine X_ishl dX2_takeBest_129 ?_
            refine X_iconst (v := -1) dX2_takeBest_130 (by decide) ?_
            refine X_ixor dX2_takeBest_131 ?_
            refine X_iand dX2_takeBest_132 ?_
            refine X_puti dX2_takeBest_133 fkX2_91 rfl rfl (sck_0 hC) ?_
            refine X_mi (cw_fr (mkB_clr (by first | omega | (have hz := hP.2.2.2.2 b hg; omega)))) ?_
            refine X_aload_n dX2_takeBest_136 rfl ?_
            refine X_getr (a := t + 3) dX2_takeBest_137 fkX2_18 rfl (sck_0 hC) (scr_5 hC) ?_
            refine X_iload_n dX2_takeBest_140 rfl ?_
            refine X_iload_n dX2_takeBest_141 rfl ?_
            refine X_iast b dX2_takeBest_142 (sck_3 hC) rfl (by first | omega | (have hz := hP.2.2.2.2 b hg; omega)) ?_
            refine X_mi (cw_os (k := 3) (by omega) (by first | omega | (have hz := hP.2.2.2.2 b hg; omega))) ?_
            refine X_aload_n dX2_takeBest_143 rfl ?_
            refine X_getr (a := t + 4) dX2_takeBest_144 fkX2_21 rfl (sck_0 hC) (scr_6 hC) ?_
            refine X_iload_n dX2_takeBest_147 rfl ?_
            refine X_iload_n dX2_takeBest_148 rfl ?_
            refine X_iast b dX2_takeBest_149 (sck_4 hC) rfl (by first | omega | (have hz := hP.2.2.2.2 b hg; omega)) ?_
            refine X_mi (cw_m (by omega)) ?_
            refine X_aload_n dX2_takeBest_150 rfl ?_
            refine X_getr (a := t + 2) dX2_takeBest_151 fkX2_15 rfl (sck_0 hC) (scr_2 hC) ?_
            refine X_iload_n dX2_takeBest_154 rfl ?_
            refine X_iconst (v := nI 3) dX2_takeBest_155 (by decide) ?_
            refine X_imul dX2_takeBest_156 ?_
            refine X_topi (pk_mul c 3) ?_
            refine X_iconst (v := nI 2) dX2_takeBest_157 (by decide) ?_
            refine X_iadd dX2_takeBest_158 ?_
            refine X_topi (nI_add (c * 3) 2) ?_
            refine X_dup2 dX2_takeBest_159 rfl rfl ?_
            refine X_iald ((c * 3) + 2) dX2_takeBest_160 (sck_2 hC) rfl (by first | omega | (have hz := hP.2.2.2.2 b hg; omega)) ?_
            refine X_topi (show (wC t nG (sM (t + 4) b (nI h) (sO 3 b (some c) (sFr (ud x.2.2.2.2.2.2.1 c false) x)))) (t + 2) ((c * 3) + 2) = x.2.2.1 c 2 by refine (cr_cf (by first | omega | (have hz := hP.2.2.2.2 b hg; omega))).trans ?_; first | rfl | (simp only [sM, sFa, sCf, sO, sTw, sFr, sBz]; rw [up2_row (by omega)]) | (simp only [sM, sFa, sCf, sO, sTw, sFr, sBz]; rw [up2_row (by omega), up2_row (by omega)]) | simp [sM, sFa, sCf, sO, sTw, sFr, sBz, up2, ud]) ?_
            refine X_iconst (v := nI 1) dX2_takeBest_161 (by decide) ?_
            refine X_iadd dX2_takeBest_162 ?_
            refine X_iast ((c * 3) + 2) dX2_takeBest_163 (sck_2 hC) rfl (by first | omega | (have hz := hP.2.2.2.2 b hg; omega)) ?_
            refine X_mi (cw_cf (by first | omega | (have hz := hP.2.2.2.2 b hg; omega))) ?_
            refine X_aload_n dX2_takeBest_164 rfl ?_
            refine X_getr (a := t + 1) dX2_takeBest_165 fkX2_9 rfl (sck_0 hC) (scr_1 hC) ?_
            refine X_iload_n dX2_takeBest_168 rfl ?_
            refine X_bipush (v := nI 8) dX2_takeBest_169 (by decide) ?_
            refine X_imul dX2_takeBest_171 ?_
            refine X_topi (pk_mul b 8) ?_
            refine X_iconst (v := nI 5) dX2_takeBest_172 (by decide) ?_
            refine X_iadd dX2_takeBest_173 ?_
            refine X_topi (nI_add (b * 8) 5) ?_
            refine X_iald ((b * 8) + 5) dX2_takeBest_174 (sck_1 hC) rfl (by first | omega | (have hz := hP.2.2.2.2 b hg; omega)) ?_
            refine X_topi (show (wC t nG (sCf c 2 ((x.2.2.1 c 2) + (nI 1)) (sM (t + 4) b (nI h) (sO 3 b (some c) (sFr (ud x.2.2.2.2.2.2.1 c false) x))))) (t + 1) ((b * 8) + 5) = x.2.1 b 5 by refine (cr_fa (by first | omega | (have hz := hP.2.2.2.2 b hg; omega))).trans ?_; first | rfl | (simp only [sM, sFa, sCf, sO, sTw, sFr, sBz]; rw [up2_row (by omega)]) | (simp only [sM, sFa, sCf, sO, sTw, sFr, sBz]; rw [up2_row (by omega), up2_row (by omega)]) | simp [sM, sFa, sCf, sO, sTw, sFr, sBz, up2, ud]) ?_
            refine X_if_ne 190 dX2_takeBest_175 (by decide) (fun h_12 => ?_) (fun h_12 => ?_)
            · refine X_aload_n dX2_takeBest_190 rfl ?_
              refine X_getr (a := t + 1) dX2_takeBest_191 fkX2_9 rfl (sck_0 hC) (scr_1 hC) ?_
              refine X_iload_n dX2_takeBest_194 rfl ?_
              refine X_bipush (v := nI 8) dX2_takeBest_195 (by decide) ?_
              refine X_imul dX2_takeBest_197 ?_
              refine X_topi (pk_mul b 8) ?_
              refine X_iconst (v := nI 5) dX2_takeBest_198 (by decide) ?_
              refine X_iadd dX2_takeBest_199 ?_
              refine X_topi (nI_add (b * 8) 5) ?_
              refine X_dup2 dX2_takeBest_200 rfl rfl ?_
              refine X_iald ((b * 8) + 5) dX2_takeBest_201 (sck_1 hC) rfl (by first | omega | (have hz := hP.2.2.2.2 b hg; omega)) ?_
              refine X_topi (show (wC t nG (sCf c 2 ((x.2.2.1 c 2) + (nI 1)) (sM (t + 4) b (nI h) (sO 3 b (some c) (sFr (ud x.2.2.2.2.2.2.1 c false) x))))) (t + 1) ((b * 8) + 5) = x.2.1 b 5 by refine (cr_fa (by first | omega | (have hz := hP.2.2.2.2 b hg; omega))).trans ?_; first | rfl | (simp only [sM, sFa, sCf, sO, sTw, sFr, sBz]; rw [up2_row (by omega)]) | (simp only [sM, sFa, sCf, sO, sTw, sFr, sBz]; rw [up2_row (by omega), up2_row (by omega)]) | simp [sM, sFa, sCf, sO, sTw, sFr, sBz, up2, ud]) ?_
              refine X_iconst (v := nI 1) dX2_takeBest_202 (by decide) ?_
              refine X_iadd dX2_takeBest_203 ?_
              refine X_iast ((b * 8) + 5) dX2_takeBest_204 (sck_1 hC) rfl (by first | omega | (have hz := hP.2.2.2.2 b hg; omega)) ?_
              refine X_mi (cw_fa (by first | omega | (have hz := hP.2.2.2.2 b hg; omega))) ?_
              exact X_vret dX2_takeBest_205 rfl ⟨rfl, rfl, by unfold btC; rw [hb]; dsimp only; unfold tbC; rw [if_neg (by assumption)] <;> rfl, rfl⟩
            · refine X_aload_n dX2_takeBest_178 rfl ?_
              refine X_getr (a := t + 1) dX2_takeBest_179 fkX2_9 rfl (sck_0 hC) (scr_1 hC) ?_
              refine X_iload_n dX2_takeBest_182 rfl ?_
              refine X_bipush (v := nI 8) dX2_takeBest_183 (by decide) ?_
              refine X_imul dX2_takeBest_185 ?_
              refine X_topi (pk_mul b 8) ?_
              refine X_iconst (v := nI 1) dX2_takeBest_186 (by decide) ?_
              refine X_iadd dX2_takeBest_187 ?_
              refine X_topi (nI_add (b * 8) 1) ?_
              refine X_iload_n dX2_takeBest_188 rfl ?_
              refine X_iast ((b * 8) + 1) dX2_takeBest_189 (sck_1 hC) rfl (by first | omega | (have hz := hP.2.2.2.2 b hg; omega)) ?_
              refine X_mi (cw_fa (by first | omega | (have hz := hP.2.2.2.2 b hg; omega))) ?_
              refine X_aload_n dX2_takeBest_190 rfl ?_
              refine X_getr (a := t + 1) dX2_takeBest_191 fkX2_9 rfl (sck_0 hC) (scr_1 hC) ?_
              refine X_iload_n dX2_takeBest_194 rfl ?_
              refine X_bipush (v := nI 8) dX2_takeBest_195 (by decide) ?_
              refine X_imul dX2_takeBest_197 ?_
              refine X_topi (pk_mul b 8) ?_
              refine X_iconst (v := nI 5) dX2_takeBest_198 (by decide) ?_
              refine X_iadd dX2_takeBest_199 ?_
              refine X_topi (nI_add (b * 8) 5) ?_
              refine X_dup2 dX2_takeBest_200 rfl rfl ?_
              refine X_iald ((b * 8) + 5) dX2_takeBest_201 (sck_1 hC) rfl (by first | omega | (have hz := hP.2.2.2.2 b hg; omega)) ?_
              refine X_topi (show (wC t nG (sFa b 1 (nI c) (sCf c 2 ((x.2.2.1 c 2) + (nI 1)) (sM (t + 4) b (nI h) (sO 3 b (some c) (sFr (ud x.2.2.2.2.2.2.1 c false) x)))))) (t + 1) ((b * 8) + 5) = x.2.1 b 5 by refine (cr_fa (by first | omega | (have hz := hP.2.2.2.2 b hg; omega))).trans ?_; first | rfl | (simp only [sM, sFa, sCf, sO, sTw, sFr, sBz]; rw [up2_row (by omega)]) | (simp only [sM, sFa, sCf, sO, sTw, sFr, sBz]; rw [up2_row (by omega), up2_row (by omega)]) | simp [sM, sFa, sCf, sO, sTw, sFr, sBz, up2, ud]) ?_
              refine X_iconst (v := nI 1) dX2_takeBest_202 (by decide) ?_
              refine X_iadd dX2_takeBest_203 ?_
              refine X_iast ((b * 8) + 5) dX2_takeBest_204 (sck_1 hC) rfl (by first | omega | (have hz := hP.2.2.2.2 b hg; omega)) ?_
              refine X_mi (cw_fa (by first | omega | (have hz := hP.2.2.2.2 b hg; omega))) ?_
              exact X_vret dX2_takeBest_205 rfl ⟨rfl, rfl, by unfold btC; rw [hb]; dsimp only; unfold tbC; rw [if_pos (by assumption)] <;> rfl, rfl⟩
          · exact absurd h_11 (nI_m1 (by omega))
        · exact absurd h_10 (by omega)
  · refine X_icmp_geN (a := h) (b := F b) 30 dX2_takeBest_15 (by decide) (by first | omega | (have hz := hP.2.2.2.2 b hg; omega)) (by first | omega | (have hz := hP.2.2.2.2 b hg; omega)) (fun h_13 => ?_) (fun h_13 => ?_)
    · refine X_iload_n dX2_takeBest_30 rfl ?_
      exact hJ_1 _ (by first | rw [Nat.max_eq_right (by omega)] | rw [Nat.max_eq_left (by omega)])
    · refine X_aload_n dX2_takeBest_18 rfl ?_
      refine X_getr (a := 3) dX2_takeBest_19 fkX2_33 rfl (sck_0 hC) (scr_0 hC) ?_
      refine X_getr (a := 7) dX2_takeBest_22 fkX2_115 rfl (k_3 hSh) (r_3_3 hSh) ?_
      refine X_iload_n dX2_takeBest_25 rfl ?_
      refine X_iald b dX2_takeBest_26 (k_7 hSh) rfl (by first | omega | (have hz := hP.2.2.2.2 b hg; omega)) ?_
      refine X_topi (show (wC t nG x) 7 b = nI (F b) by refine (congrFun (cr_out (by omega)) _).trans ?_; first | exact (hP.2.2.2.2 b hg).1 | (simp only [sM, sFa, sCf, sO, sTw, sFr, sBz]; rw [up2_row (by omega)]; exact (hP.2.2.2.2 b hg).1) | (simp only [sM, sFa, sCf, sO, sTw, sFr, sBz]; rw [up2_row (by omega), up2_row (by omega)]; exact (hP.2.2.2.2 b hg).1) | (simp only [sM, sFa, sCf, sO, sTw, sFr, sBz]; simp [up2]; exact (hP.2.2.2.2 b hg).1)) ?_
      refine X_goto 31 dX2_takeBest_27 (by decide) ?_
      exact hJ_1 _ (by first | rw [Nat.max_eq_right (by omega)] | rw [Nat.max_eq_left (by omega)])

/-- one who comes in this half -/
def arS (t nC : Nat) (F T cm ord : Nat → Nat) (h i : Nat) (x : CS) : CS := if cm (ord i) = h ∧ h < T (ord i) then (if mkB x.2.2.2.2.2.2.1 = 0 then sO 5 (ord i) (some h) x else sM t 14 (nI h) (btC t nC F T (ord i) h x)) else x
def ktM (nG : Nat) (cm : Nat → Nat) (y : CS) : Prop := ∀ b, b < nG → y.2.1 b 0 = nI (cm b)
theorem tbC_fa {t b h c : Nat} {x : CS} : (tbC t b h c x).2.1 = up2 (if x.2.1 b 5 = 0 then up2 x.2.1 b 1 (nI c) else x.2.1) b 5 (x.2.1 b 5 + nI 1) := by unfold tbC; split <;> rfl
theorem btC_fa {t nC : Nat} {F T : Nat → Nat} {b h : Nat} {x : CS} {a j : Nat} (hj : j ≠ 1 ∧ j ≠ 5) : (btC t nC F T b h x).2.1 a j = x.2.1 a j := by
  unfold btC
  split
  · rfl
  · rw [tbC_fa, up2_nn (by omega)]
    split
    · exact up2_nn (by omega)
    · rfl
theorem ar_okC {t nC nG : Nat} {m : pMI} {F T cm ord : Nat → Nat} {h i : Nat} {y : CS} (hf : FrC t m y) (ho : ktM nG cm y) : FrC t m (arS t nC F T cm ord h i y) ∧ ktM nG cm (arS t nC F T cm ord h i y) := by
  unfold arS
  split
  · split
    · exact ⟨FrC_e hf rfl, ho⟩
    · exact ⟨FrC_m (FrC_bt hf) (Or.inr (Or.inr ⟨rfl, rfl⟩)), fun b hb => (btC_fa (by omega)).trans (ho b hb)⟩
  · exact ⟨hf, ho⟩
def ktS (t nC nG : Nat) (m : pMI) (F T ord : Nat → Nat) (h : Nat) : Prop := (∀ i, i < nG → m (t + 6) i = nI (ord i) ∧ ord i < nG) ∧ (∀ b c, b < nG → c < nC → -1 < vC m F T b h c)
set_option maxRecDepth 100000 in
set_option maxHeartbeats 4000000 in
theorem c_arrive (Γ : pTG) (g : pGG) (ml : pML) (hSh : Sh g) (t : Nat) (hC : ShC g t) (ht : 32 ≤ t) (nG : Nat) (x : CS) (nC : Nat) (F T : Nat → Nat) (hP : PoolC x.1 nC nG F T) (hpa : x.1 t 10 = bI (decide (t = 57))) (h : Nat) (hh : h < 24) (cm ord : Nat → Nat) (hcm : ∀ b, b < nG → cm b < 24) (hS : ktS t nC nG x.1 F T ord h) (ho : ktM nG cm x) : cV Γ 4 mX2_arrive [.ref t, .int (nI h)] g (wC t nG x) ml (wC t nG (lpS (arS t nC F T cm ord h) 0 nG x)) ml := by
  refine cV_of (by decide +kernel) (Nat.le_of_ble_eq_true rfl) ?_
  have hn8 : nG ≤ 8 := hP.2.2.2.1
  have hC8 : nC ≤ 8 := hP.2.2.1
  refine X_iconst (v := nI 0) dX2_arrive_0 (by decide) ?_
  refine X_istore_n dX2_arrive_1 (by decide) ?_
  refine X_L [(2, .int (nI 0)), (0, .ref t), (1, .int (nI h))] ⟨rfl, rfl, rfl, trivial⟩ ?_
  refine X_for2 (σ := CS) 2 (fun i y => [(2, .int (nI i)), (0, .ref t), (1, .int (nI h))]) (fun y => wC t nG y) (fun y => ml) (fun i y => arS t nC F T cm ord h i y) (fun i y => FrC t x.1 y ∧ ktM nG cm y ∧ y = lpS (arS t nC F T cm ord h) 0 i x) nG ?_ nG 0 (x) (by omega) ⟨FrC_r, ho, rfl⟩ ?_
  · intro i y hi hI
    refine ⟨⟨(ar_okC hI.1 hI.2.1).1, (ar_okC hI.1 hI.2.1).2, by rw [lpS_snoc, ← hI.2.2, Nat.zero_add]⟩, fun hn => ?_⟩
    have hPy := PoolC_fr hP hI.1 ht
    have hpy : y.1 t 10 = bI (decide (t = 57)) := (hI.1 _ _ (by omega)).trans hpa
    have hoi := (hS.1 i hi).2
    have hTi := (hPy.2.2.2.2 (ord i) hoi).2.2.2.1
    have hci := hcm (ord i) hoi
    refine X_iload_n dX2_arrive_2 rfl ?_
    refine X_aload_n dX2_arrive_3 rfl ?_
    refine X_getr (a := 3) dX2_arrive_4 fkX2_33 rfl (sck_0 hC) (scr_0 hC) ?_
    refine X_geti dX2_arrive_7 fkX2_50 rfl (k_3 hSh) ?_
    refine X_topi (show (wC t nG y) 3 10 = nI nG by refine (congrFun (cr_out (by omega)) _).trans ?_; first | exact hPy.2.1 | (simp only [sM, sFa, sCf, sO, sTw, sFr, sBz]; rw [up2_row (by omega)]; exact hPy.2.1) | (simp only [sM, sFa, sCf, sO, sTw, sFr, sBz]; rw [up2_row (by omega), up2_row (by omega)]; exact hPy.2.1) | (simp only [sM, sFa, sCf, sO, sTw, sFr, sBz]; simp [up2]; exact hPy.2.1)) ?_
    refine X_icmp_geN (a := i) (b := nG) 82 dX2_arrive_10 (by decide) (by omega) (by omega) (fun h_1 => ?_) (fun h_1 => ?_)
    · exact absurd hi (by omega)
    · refine X_aload_n dX2_arrive_13 rfl ?_
      refine X_getr (a := t + 6) dX2_arrive_14 fkX2_27 rfl (sck_0 hC) (scr_8 hC) ?_
      refine X_iload_n dX2_arrive_17 rfl ?_
      refine X_iald i dX2_arrive_18 (sck_6 hC) rfl (by omega) ?_
      refine X_topi (show (wC t nG y) (t + 6) i = nI (ord i) by refine (cr_6).trans ?_; first | exact ((hI.1 _ _ (by omega)).trans (hS.1 i hi).1) | (simp only [sM, sFa, sCf, sO, sTw, sFr, sBz]; rw [up2_row (by omega)]; exact ((hI.1 _ _ (by omega)).trans (hS.1 i hi).1)) | (simp only [sM, sFa, sCf, sO, sTw, sFr, sBz]; rw [up2_row (by omega), up2_row (by omega)]; exact ((hI.1 _ _ (by omega)).trans (hS.1 i hi).1)) | (simp only [sM, sFa, sCf, sO, sTw, sFr, sBz]; simp [up2]; exact ((hI.1 _ _ (by omega)).trans (hS.1 i hi).1))) ?_
      refine X_istore_n dX2_arrive_19 (by decide) ?_
      refine X_aload_n dX2_arrive_20 rfl ?_
      refine X_getr (a := t + 1) dX2_arrive_21 fkX2_9 rfl (sck_0 hC) (scr_1 hC) ?_
      refine X_iload_n dX2_arrive_24 rfl ?_
      refine X_bipush (v := nI 8) dX2_arrive_25 (by decide) ?_
      refine X_imul dX2_arrive_27 ?_
      refine X_topi (pk_mul (ord i) 8) ?_
      refine X_iconst (v := nI 0) dX2_arrive_28 (by decide) ?_
      refine X_iadd dX2_arrive_29 ?_
      refine X_topi (nI_add ((ord i) * 8) 0) ?_
      refine X_iald (((ord i) * 8) + 0) dX2_arrive_30 (sck_1 hC) rfl (by omega) ?_
      refine X_topi (show (wC t nG y) (t + 1) (((ord i) * 8) + 0) = nI (cm (ord i)) by refine (cr_fa (by omega)).trans ?_; first | exact (hI.2.1 _ hoi) | (simp only [sM, sFa, sCf, sO, sTw, sFr, sBz]; rw [up2_row (by omega)]; exact (hI.2.1 _ hoi)) | (simp only [sM, sFa, sCf, sO, sTw, sFr, sBz]; rw [up2_row (by omega), up2_row (by omega)]; exact (hI.2.1 _ hoi)) | (simp only [sM, sFa, sCf, sO, sTw, sFr, sBz]; simp [up2]; exact (hI.2.1 _ hoi))) ?_
      refine X_iload_n dX2_arrive_31 rfl ?_
      refine X_icmp_neN (a := cm (ord i)) (b := h) 76 dX2_arrive_32 (by decide) (by omega) (by omega) (fun h_2 => ?_) (fun h_2 => ?_)
      · refine X_iinc (v := nI (i + 1)) dX2_arrive_76 rfl (nI_1 _) (by decide) ?_
        refine X_goto 2 dX2_arrive_79 (by decide) ?_
        refine X_L [(2, .int (nI (i + 1))), (0, .ref t), (1, .int (nI h))] ⟨rfl, rfl, rfl, trivial⟩ ?_
        rw [show arS t nC F T cm ord h i y = y from by unfold arS; rw [if_neg (by omega)]] at hn
        exact hn
      · refine X_iload_n dX2_arrive_35 rfl ?_
        refine X_aload_n dX2_arrive_36 rfl ?_
        refine X_getr (a := 3) dX2_arrive_37 fkX2_33 rfl (sck_0 hC) (scr_0 hC) ?_
        refine X_getr (a := 8) dX2_arrive_40 fkX2_103 rfl (k_3 hSh) (r_3_4 hSh) ?_
        refine X_iload_n dX2_arrive_43 rfl ?_
        refine X_iald (ord i) dX2_arrive_44 (k_8 hSh) rfl (by omega) ?_
        refine X_topi (show (wC t nG y) 8 (ord i) = nI (T ((ord i))) by refine (congrFun (cr_out (by omega)) _).trans ?_; first | exact (hPy.2.2.2.2 ((ord i)) hoi).2.1 | (simp only [sM, sFa, sCf, sO, sTw, sFr, sBz]; rw [up2_row (by omega)]; exact (hPy.2.2.2.2 ((ord i)) hoi).2.1) | (simp only [sM, sFa, sCf, sO, sTw, sFr, sBz]; rw [up2_row (by omega), up2_row (by omega)]; exact (hPy.2.2.2.2 ((ord i)) hoi).2.1) | (simp only [sM, sFa, sCf, sO, sTw, sFr, sBz]; simp [up2]; exact (hPy.2.2.2.2 ((ord i)) hoi).2.1)) ?_
        refine X_icmp_geN (a := h) (b := T ((ord i))) 76 dX2_arrive_45 (by decide) (by omega) (by omega) (fun h_3 => ?_) (fun h_3 => ?_)
        · refine X_iinc (v := nI (i + 1)) dX2_arrive_76 rfl (nI_1 _) (by decide) ?_
          refine X_goto 2 dX2_arrive_79 (by decide) ?_
          refine X_L [(2, .int (nI (i + 1))), (0, .ref t), (1, .int (nI h))] ⟨rfl, rfl, rfl, trivial⟩ ?_
          rw [show arS t nC F T cm ord h i y = y from by unfold arS; rw [if_neg (by omega)]] at hn
          exact hn
        · refine X_aload_n dX2_arrive_48 rfl ?_
          refine X_geti dX2_arrive_49 fkX2_91 rfl (sck_0 hC) ?_
          refine X_topi (show (wC t nG y) t 12 = mkB y.2.2.2.2.2.2.1 by exact cr_12) ?_
          refine X_if_eq 69 dX2_arrive_52 (by decide) (fun h_4 => ?_) (fun h_4 => ?_)
          · refine X_aload_n dX2_arrive_69 rfl ?_
            refine X_getr (a := t + 5) dX2_arrive_70 fkX2_24 rfl (sck_0 hC) (scr_7 hC) ?_
            refine X_iload_n dX2_arrive_73 rfl ?_
            refine X_iload_n dX2_arrive_74 rfl ?_
            refine X_iast (ord i) dX2_arrive_75 (sck_5 hC) rfl (by omega) ?_
            refine X_mi (cw_os (k := 5) (by omega) (by omega)) ?_
            refine X_iinc (v := nI (i + 1)) dX2_arrive_76 rfl (nI_1 _) (by decide) ?_
            refine X_goto 2 dX2_arrive_79 (by decide) ?_
            refine X_L [(2, .int (nI (i + 1))), (0, .ref t), (1, .int (nI h))] ⟨rfl, rfl, rfl, trivial⟩ ?_
            rw [show arS t nC F T cm ord h i y = sO 5 (ord i) (some h) y from by unfold arS; rw [if_pos (by omega), if_pos (by assumption)]] at hn
            exact hn
          · refine X_aload_n dX2_arrive_55 rfl ?_
            refine X_iload_n dX2_arrive_56 rfl ?_
            refine X_iload_n dX2_arrive_57 rfl ?_
            refine X_callVV dX2_arrive_58 mkX2_118 (sck_0 hC) (c_takeBest Γ g ml hSh t hC ht nG y nC F T hPy (ord i) h hoi hh (fun c hc => by rw [vC_fr hI.1 ht]; exact hS.2 _ c hoi hc)) rfl rfl (by decide) (Nat.le_of_ble_eq_true rfl) ?_
            refine X_aload_n dX2_arrive_61 rfl ?_
            refine X_iload_n dX2_arrive_62 rfl ?_
            refine X_puti dX2_arrive_63 fkX2_94 rfl rfl (sck_0 hC) ?_
            refine X_mi (cw_m (by omega)) ?_
            refine X_goto 76 dX2_arrive_66 (by decide) ?_
            refine X_iinc (v := nI (i + 1)) dX2_arrive_76 rfl (nI_1 _) (by decide) ?_
            refine X_goto 2 dX2_arrive_79 (by decide) ?_
            refine X_L [(2, .int (nI (i + 1))), (0, .ref t), (1, .int (nI h))] ⟨rfl, rfl, rfl, trivial⟩ ?_
            rw [show arS t nC F T cm ord h i y = sM t 14 (nI h) (btC t nC F T (ord i) h y) from by unfold arS; rw [if_pos (by omega), if_neg (by assumption)]] at hn
            exact hn
  · intro y hI
    have hPy := PoolC_fr hP hI.1 ht
    have hpy : y.1 t 10 = bI (decide (t = 57)) := (hI.1 _ _ (by omega)).trans hpa
    refine X_iload_n dX2_arrive_2 rfl ?_
    refine X_aload_n dX2_arrive_3 rfl ?_
    refine X_getr (a := 3) dX2_arrive_4 fkX2_33 rfl (sck_0 hC) (scr_0 hC) ?_
    refine X_geti dX2_arrive_7 fkX2_50 rfl (k_3 hSh) ?_
    refine X_topi (show (wC t nG y) 3 10 = nI nG by refine (congrFun (cr_out (by omega)) _).trans ?_; first | exact hPy.2.1 | (simp only [sM, sFa, sCf, sO, sTw, sFr, sBz]; rw [up2_row (by omega)]; exact hPy.2.1) | (simp only [sM, sFa, sCf, sO, sTw, sFr, sBz]; rw [up2_row (by omega), up2_row (by omega)]; exact hPy.2.1) | (simp only [sM, sFa, sCf, sO, sTw, sFr, sBz]; simp [up2]; exact hPy.2.1)) ?_
    refine X_icmp_geN (a := nG) (b := nG) 82 dX2_arrive_10 (by decide) (by omega) (by omega) (fun h_5 => ?_) (fun h_5 => ?_)
    · exact X_vret dX2_arrive_82 rfl ⟨rfl, rfl, by rw [← hI.2.2], rfl⟩
    · exact absurd h_5 (by omega)
/-- those who wait from this half on come into the queue -/
def apS (t nG : Nat) (ord : Nat → Nat) (h i : Nat) (x : CS) : CS := if x.2.2.2.1 5 (ord i) = some h ∧ x.2.2.2.2.2.1.length < 8 then sQ (x.2.2.2.2.2.1 ++ [ord i]) t nG x else x
def fsC (t nC nG : Nat) (F T : Nat → Nat) (h : Nat) (x : CS) : CS := match x.2.2.2.2.2.1 with
  | [] => x
  | b :: _ => btC t nC F T b h (ewC t b h ((x.2.2.2.1 5 b).getD 0) (uqC t nG b x))
theorem FrC_uq {t nG b : Nat} {m : pMI} {x : CS} (h1 : FrC t m x) : FrC t m (uqC t nG b x) := FrC_q h1
theorem nI_dn (j : Nat) : nI j = nI (j + 1) + Int32.ofInt (-1) := by
  rw [← nI_1, Int32.add_assoc]
  exact (Int32.add_zero _).symm
/-- from n on down while it doesn't stop -/
def dnS {σ : Type} (st : σ → Bool) (f : σ → σ) : Nat → σ → σ
  | 0, y => y
  | n + 1, y => if st y = true then y else dnS st f n (f y)
theorem X_dn2 {Γ : pTG} {d k n : Nat} {M : pMD} {S : List Value} {g : pGG} {ml : pML} {Q : pQ} {σ : Type} (head : Nat) (Lf : Nat → List (Nat × Value)) (mf : σ → pMI) (st : σ → Bool) (f : σ → σ) (I : Nat → σ → Prop) (fin : σ)
    (hb : ∀ j y, I (j + 1) y → st y = false → I j (f y) ∧ (XW Γ d k n M head (Lf j) S g (mf (f y)) ml Q → XW Γ d k n M head (Lf (j + 1)) S g (mf y) ml Q))
    (hx : ∀ j y, I j y → (j = 0 ∨ st y = true) → fin = y → XW Γ d k n M head (Lf j) S g (mf y) ml Q) :
    ∀ (j : Nat) (y : σ), I j y → fin = dnS st f j y → XW Γ d k n M head (Lf j) S g (mf y) ml Q
  | 0, y, hI, hf => hx 0 y hI (Or.inl rfl) hf
  | j + 1, y, hI, hf => by
    unfold dnS at hf
    cases hs : st y with
    | true => rw [if_pos hs] at hf; exact hx (j + 1) y hI (Or.inr hs) hf
    | false =>
      rw [if_neg (by rw [hs]; decide)] at hf
      obtain ⟨h1, h2⟩ := hb j y hI hs
      exact h2 (X_dn2 head Lf mf st f I fin hb hx j (f y) h1 hf)
theorem uq_self {t nG : Nat} {x : CS} : uq t x.2.2.2.2.2.1 (wC t nG x) = wC t nG x := by
  funext a j
  by_cases h : a = t + 7 ∧ j < x.2.2.2.2.2.1.length
  · obtain ⟨rfl, h2⟩ := h; rw [cr_7 h2]; exact if_pos ⟨rfl, h2⟩
  · exact if_neg h
theorem cw_q {t nG b : Nat} {x : CS} : up2 (up2 (wC t nG x) (t + 7) x.2.2.2.2.2.1.length (nI b)) t 11 (nI (x.2.2.2.2.2.1.length + 1)) = wC t nG (sQ (x.2.2.2.2.2.1 ++ [b]) t nG x) := by
  have h := uq_s (t := t) (L := x.2.2.2.2.2.1) (m := wC t nG x) (v := b)
  rw [uq_self] at h
  rw [h, ← uq_done, List.length_append]
  rfl
def fzC (y : CS) : Bool := decide (mkB y.2.2.2.2.2.2.1 = 0)
def swC (t nC nG : Nat) (F T ord : Nat → Nat) (h : Nat) (x : CS) : CS := dnS fzC (fsC t nC nG F T h) (lpS (apS t nG ord h) 0 nG x).2.2.2.2.2.1.length (lpS (apS t nG ord h) 0 nG x)
theorem ap_ok {t nG : Nat} {m : pMI} {ord : Nat → Nat} {h i : Nat} {y : CS} (hf : FrC t m y) : FrC t m (apS t nG ord h i y) ∧ (apS t nG ord h i y).2.2.2.1 = y.2.2.2.1 := by
  unfold apS
  split
  · exact ⟨FrC_q hf, rfl⟩
  · exact ⟨hf, rfl⟩
/-- each of the queue waits, none stands in it twice -/
def ktW (nG h : Nat) (y : CS) : Prop := (∀ z, z ∈ y.2.2.2.2.2.1 → z < nG ∧ ∃ v, y.2.2.2.1 5 z = some v ∧ v ≤ h) ∧ y.2.2.2.2.2.1.Nodup
theorem btC_q {t nC : Nat} {F T : Nat → Nat} {b h : Nat} {x : CS} : (btC t nC F T b h x).2.2.2.2.2.1 = x.2.2.2.2.2.1 ∧ (btC t nC F T b h x).2.2.2.1 5 = x.2.2.2.1 5 := by
  unfold btC
  split
  · exact ⟨rfl, rfl⟩
  · unfold tbC
    rename_i c _
    split <;> exact ⟨rfl, (up2_row (show (5 : Nat) ≠ 3 by omega) : up2 x.2.2.2.1 3 b (some c) 5 = _)⟩
theorem flt_cons {b : Nat} {L : List Nat} (h : (b :: L).Nodup) : (b :: L).filter (fun z => z != b) = L := by
  rw [List.filter_cons]
  simp only [bne_self_eq_false, Bool.false_eq_true, if_false]
  rw [List.nodup_cons] at h
  rw [List.filter_eq_self]
  intro z hz
  simp only [bne_iff_ne, ne_eq]
  intro e; subst e; exact h.1 hz
theorem fs_ok {t nC nG h n : Nat} {m : pMI} {F T : Nat → Nat} {y : CS} (hf : FrC t m y) (ho : ktW nG h y) (hl : y.2.2.2.2.2.1.length = n + 1) : FrC t m (fsC t nC nG F T h y) ∧ ktW nG h (fsC t nC nG F T h y) ∧ (fsC t nC nG F T h y).2.2.2.2.2.1.length = n := by
  unfold fsC
  split
  · rename_i e; rw [e] at hl; cases hl
  · rename_i b L e
    have hn := ho.2
    rw [e] at hn hl
    have hQ : (btC t nC F T b h (ewC t b h ((y.2.2.2.1 5 b).getD 0) (uqC t nG b y))).2.2.2.2.2.1 = L := by
      rw [btC_q.1, ewC_q.2.2.1]
      show List.filter (fun z => z != b) y.2.2.2.2.2.1 = L
      rw [e]; exact flt_cons hn
    refine ⟨FrC_bt (FrC_ew (FrC_q hf)), ⟨fun z hz => ?_, ?_⟩, ?_⟩
    · rw [hQ] at hz
      obtain ⟨h1, v, h2, h3⟩ := ho.1 z (by rw [e]; exact List.mem_cons_of_mem _ hz)
      refine ⟨h1, v, ?_, h3⟩
      rw [btC_q.2, ewC_q.2.1]
      rw [List.nodup_cons] at hn
      have hzb : z ≠ b := fun q => hn.1 (q ▸ hz)
      unfold up2
      rw [if_neg (by omega)]
      exact h2
    · rw [hQ]; exact (List.nodup_cons.mp hn).2
    · rw [hQ]; exact Nat.succ.inj hl
set_option maxRecDepth 100000 in
set_option maxHeartbeats 4000000 in
theorem c_seatWaiting (Γ : pTG) (g : pGG) (ml : pML) (hSh : Sh g) (t : Nat) (hC : ShC g t) (ht : 32 ≤ t) (nG : Nat) (x : CS) (nC : Nat) (F T : Nat → Nat) (hP : PoolC x.1 nC nG F T) (hpa : x.1 t 10 = bI (decide (t = 57))) (h : Nat) (hh : h < 24) (ord : Nat → Nat) (hS : ktS t nC nG x.1 F T ord h) (hq8 : x.2.2.2.2.2.1.length ≤ 8) (hV : ∀ b, b < nG → ∀ v, x.2.2.2.1 5 b = some v → v < 24) (ho : ktW nG h (lpS (apS t nG ord h) 0 nG x)) : cV Γ 4 mX2_seatWaiting [.ref t, .int (nI h)] g (wC t nG x) ml (wC t nG (swC t nC nG F T ord h x)) ml := by
  refine cV_of (by decide +kernel) (Nat.le_of_ble_eq_true rfl) ?_
  have hn8 : nG ≤ 8 := hP.2.2.2.1
  have hC8 : nC ≤ 8 := hP.2.2.1
  refine X_iconst (v := nI 0) dX2_seatWaiting_0 (by decide) ?_
  refine X_istore_n dX2_seatWaiting_1 (by decide) ?_
  refine X_L [(2, .int (nI 0)), (0, .ref t), (1, .int (nI h))] ⟨rfl, rfl, rfl, trivial⟩ ?_
  refine X_for2 (σ := CS) 2 (fun i y => [(2, .int (nI i)), (0, .ref t), (1, .int (nI h))]) (fun y => wC t nG y) (fun y => ml) (fun i y => apS t nG ord h i y) (fun i y => FrC t x.1 y ∧ y.2.2.2.1 = x.2.2.2.1 ∧ y.2.2.2.2.2.1.length ≤ 8 ∧ y = lpS (apS t nG ord h) 0 i x) nG ?_ nG 0 (x) (by omega) ⟨FrC_r, rfl, hq8, rfl⟩ ?_
  · intro i y hi hI
    refine ⟨⟨(ap_ok hI.1).1, (ap_ok hI.1).2.trans hI.2.1, by unfold apS; split; (show (_ ++ [_]).length ≤ 8; rw [List.length_append]; simp only [List.length_singleton]; omega); exact hI.2.2.1, by rw [lpS_snoc, ← hI.2.2.2, Nat.zero_add]⟩, fun hn => ?_⟩
    have hPy := PoolC_fr hP hI.1 ht
    have hpy : y.1 t 10 = bI (decide (t = 57)) := (hI.1 _ _ (by omega)).trans hpa
    have hoi := (hS.1 i hi).2
    cases hv : y.2.2.2.1 5 (ord i) with
    | none =>
      refine X_iload_n dX2_seatWaiting_2 rfl ?_
      refine X_aload_n dX2_seatWaiting_3 rfl ?_
      refine X_getr (a := 3) dX2_seatWaiting_4 fkX2_33 rfl (sck_0 hC) (scr_0 hC) ?_
      refine X_geti dX2_seatWaiting_7 fkX2_50 rfl (k_3 hSh) ?_
      refine X_topi (show (wC t nG y) 3 10 = nI nG by refine (congrFun (cr_out (by omega)) _).trans ?_; first | exact hPy.2.1 | (simp only [sM, sFa, sCf, sO, sTw, sFr, sBz]; rw [up2_row (by omega)]; exact hPy.2.1) | (simp only [sM, sFa, sCf, sO, sTw, sFr, sBz]; rw [up2_row (by omega), up2_row (by omega)]; exact hPy.2.1) | (simp only [sM, sFa, sCf, sO, sTw, sFr, sBz]; simp [up2]; exact hPy.2.1)) ?_
      refine X_icmp_geN (a := i) (b := nG) 68 dX2_seatWaiting_10 (by decide) (by omega) (by omega) (fun h_1 => ?_) (fun h_1 => ?_)
      · exact absurd hi (by omega)
      · refine X_aload_n dX2_seatWaiting_13 rfl ?_
        refine X_getr (a := t + 5) dX2_seatWaiting_14 fkX2_24 rfl (sck_0 hC) (scr_7 hC) ?_
        refine X_aload_n dX2_seatWaiting_17 rfl ?_
        refine X_getr (a := t + 6) dX2_seatWaiting_18 fkX2_27 rfl (sck_0 hC) (scr_8 hC) ?_
        refine X_iload_n dX2_seatWaiting_21 rfl ?_
        refine X_iald i dX2_seatWaiting_22 (sck_6 hC) rfl (by omega) ?_
        refine X_topi (show (wC t nG y) (t + 6) i = nI (ord i) by refine (cr_6).trans ?_; first | exact ((hI.1 _ _ (by omega)).trans (hS.1 i hi).1) | (simp only [sM, sFa, sCf, sO, sTw, sFr, sBz]; rw [up2_row (by omega)]; exact ((hI.1 _ _ (by omega)).trans (hS.1 i hi).1)) | (simp only [sM, sFa, sCf, sO, sTw, sFr, sBz]; rw [up2_row (by omega), up2_row (by omega)]; exact ((hI.1 _ _ (by omega)).trans (hS.1 i hi).1)) | (simp only [sM, sFa, sCf, sO, sTw, sFr, sBz]; simp [up2]; exact ((hI.1 _ _ (by omega)).trans (hS.1 i hi).1))) ?_
        refine X_iald (ord i) dX2_seatWaiting_23 (sck_5 hC) rfl (by omega) ?_
        refine X_topi (show (wC t nG y) (t + 5) (ord i) = -1 by refine (cr_o5 (by omega)).trans ?_; first | exact (show oI (y.2.2.2.1 5 (ord i)) = -1 by rw [hv]; rfl) | (simp only [sM, sFa, sCf, sO, sTw, sFr, sBz]; rw [up2_row (by omega)]; exact (show oI (y.2.2.2.1 5 (ord i)) = -1 by rw [hv]; rfl)) | (simp only [sM, sFa, sCf, sO, sTw, sFr, sBz]; rw [up2_row (by omega), up2_row (by omega)]; exact (show oI (y.2.2.2.1 5 (ord i)) = -1 by rw [hv]; rfl)) | (simp only [sM, sFa, sCf, sO, sTw, sFr, sBz]; simp [up2]; exact (show oI (y.2.2.2.1 5 (ord i)) = -1 by rw [hv]; rfl))) ?_
        refine X_iload_n dX2_seatWaiting_24 rfl ?_
        refine X_icmp_ne 62 dX2_seatWaiting_25 (by decide) (fun h_2 => ?_) (fun h_2 => ?_)
        · refine X_iinc (v := nI (i + 1)) dX2_seatWaiting_62 rfl (nI_1 _) (by decide) ?_
          refine X_goto 2 dX2_seatWaiting_65 (by decide) ?_
          refine X_L [(2, .int (nI (i + 1))), (0, .ref t), (1, .int (nI h))] ⟨rfl, rfl, rfl, trivial⟩ ?_
          rw [show apS t nG ord h i y = y from by unfold apS; rw [if_neg (fun z => by rw [hv] at z; first | (have := Option.some.inj z.1; omega) | cases z.1)]] at hn
          exact hn
        · exact absurd h_2 (nI_m1' (by omega))
    | some v =>
      have hvl := hV _ hoi v (by rw [← hI.2.1]; exact hv)
      have hQl : y.2.2.2.2.2.1.length < 100 := by have := hI.2.2.1; omega
      refine X_iload_n dX2_seatWaiting_2 rfl ?_
      refine X_aload_n dX2_seatWaiting_3 rfl ?_
      refine X_getr (a := 3) dX2_seatWaiting_4 fkX2_33 rfl (sck_0 hC) (scr_0 hC) ?_
      refine X_geti dX2_seatWaiting_7 fkX2_50 rfl (k_3 hSh) ?_
      refine X_topi (show (wC t nG y) 3 10 = nI nG by refine (congrFun (cr_out (by omega)) _).trans ?_; first | exact hPy.2.1 | (simp only [sM, sFa, sCf, sO, sTw, sFr, sBz]; rw [up2_row (by omega)]; exact hPy.2.1) | (simp only [sM, sFa, sCf, sO, sTw, sFr, sBz]; rw [up2_row (by omega), up2_row (by omega)]; exact hPy.2.1) | (simp only [sM, sFa, sCf, sO, sTw, sFr, sBz]; simp [up2]; exact hPy.2.1)) ?_
      refine X_icmp_geN (a := i) (b := nG) 68 dX2_seatWaiting_10 (by decide) (by omega) (by omega) (fun h_3 => ?_) (fun h_3 => ?_)
      · exact absurd hi (by omega)
      · refine X_aload_n dX2_seatWaiting_13 rfl ?_
        refine X_getr (a := t + 5) dX2_seatWaiting_14 fkX2_24 rfl (sck_0 hC) (scr_7 hC) ?_
        refine X_aload_n dX2_seatWaiting_17 rfl ?_
        refine X_getr (a := t + 6) dX2_seatWaiting_18 fkX2_27 rfl (sck_0 hC) (scr_8 hC) ?_
        refine X_iload_n dX2_seatWaiting_21 rfl ?_
        refine X_iald i dX2_seatWaiting_22 (sck_6 hC) rfl (by omega) ?_
        refine X_topi (show (wC t nG y) (t + 6) i = nI (ord i) by refine (cr_6).trans ?_; first | exact ((hI.1 _ _ (by omega)).trans (hS.1 i hi).1) | (simp only [sM, sFa, sCf, sO, sTw, sFr, sBz]; rw [up2_row (by omega)]; exact ((hI.1 _ _ (by omega)).trans (hS.1 i hi).1)) | (simp only [sM, sFa, sCf, sO, sTw, sFr, sBz]; rw [up2_row (by omega), up2_row (by omega)]; exact ((hI.1 _ _ (by omega)).trans (hS.1 i hi).1)) | (simp only [sM, sFa, sCf, sO, sTw, sFr, sBz]; simp [up2]; exact ((hI.1 _ _ (by omega)).trans (hS.1 i hi).1))) ?_
        refine X_iald (ord i) dX2_seatWaiting_23 (sck_5 hC) rfl (by omega) ?_
        refine X_topi (show (wC t nG y) (t + 5) (ord i) = nI v by refine (cr_o5 (by omega)).trans ?_; first | exact (show oI (y.2.2.2.1 5 (ord i)) = nI v by rw [hv]; rfl) | (simp only [sM, sFa, sCf, sO, sTw, sFr, sBz]; rw [up2_row (by omega)]; exact (show oI (y.2.2.2.1 5 (ord i)) = nI v by rw [hv]; rfl)) | (simp only [sM, sFa, sCf, sO, sTw, sFr, sBz]; rw [up2_row (by omega), up2_row (by omega)]; exact (show oI (y.2.2.2.1 5 (ord i)) = nI v by rw [hv]; rfl)) | (simp only [sM, sFa, sCf, sO, sTw, sFr, sBz]; simp [up2]; exact (show oI (y.2.2.2.1 5 (ord i)) = nI v by rw [hv]; rfl))) ?_
        refine X_iload_n dX2_seatWaiting_24 rfl ?_
        refine X_icmp_neN (a := v) (b := h) 62 dX2_seatWaiting_25 (by decide) (by omega) (by omega) (fun h_4 => ?_) (fun h_4 => ?_)
        · refine X_iinc (v := nI (i + 1)) dX2_seatWaiting_62 rfl (nI_1 _) (by decide) ?_
          refine X_goto 2 dX2_seatWaiting_65 (by decide) ?_
          refine X_L [(2, .int (nI (i + 1))), (0, .ref t), (1, .int (nI h))] ⟨rfl, rfl, rfl, trivial⟩ ?_
          rw [show apS t nG ord h i y = y from by unfold apS; rw [if_neg (fun z => by rw [hv] at z; first | (have := Option.some.inj z.1; omega) | cases z.1)]] at hn
          exact hn
        · refine X_aload_n dX2_seatWaiting_28 rfl ?_
          refine X_geti dX2_seatWaiting_29 fkX2_85 rfl (sck_0 hC) ?_
          refine X_topi (show (wC t nG y) t 11 = nI y.2.2.2.2.2.1.length by exact cr_11) ?_
          refine X_bipush (v := nI 8) dX2_seatWaiting_32 (by decide) ?_
          refine X_icmp_geN (a := y.2.2.2.2.2.1.length) (b := 8) 62 dX2_seatWaiting_34 (by decide) (by omega) (by omega) (fun h_5 => ?_) (fun h_5 => ?_)
          · refine X_iinc (v := nI (i + 1)) dX2_seatWaiting_62 rfl (nI_1 _) (by decide) ?_
            refine X_goto 2 dX2_seatWaiting_65 (by decide) ?_
            refine X_L [(2, .int (nI (i + 1))), (0, .ref t), (1, .int (nI h))] ⟨rfl, rfl, rfl, trivial⟩ ?_
            rw [show apS t nG ord h i y = y from by unfold apS; rw [if_neg (fun z => by rw [hv] at z; first | (have := Option.some.inj z.1; omega) | cases z.1)]] at hn
            exact hn
          · refine X_aload_n dX2_seatWaiting_37 rfl ?_
            refine X_getr (a := t + 7) dX2_seatWaiting_38 fkX2_30 rfl (sck_0 hC) (scr_9 hC) ?_
            refine X_aload_n dX2_seatWaiting_41 rfl ?_
            refine X_geti dX2_seatWaiting_42 fkX2_85 rfl (sck_0 hC) ?_
            refine X_topi (show (wC t nG y) t 11 = nI y.2.2.2.2.2.1.length by exact cr_11) ?_
            refine X_aload_n dX2_seatWaiting_45 rfl ?_
            refine X_getr (a := t + 6) dX2_seatWaiting_46 fkX2_27 rfl (sck_0 hC) (scr_8 hC) ?_
            refine X_iload_n dX2_seatWaiting_49 rfl ?_
            refine X_iald i dX2_seatWaiting_50 (sck_6 hC) rfl (by omega) ?_
            refine X_topi (show (wC t nG y) (t + 6) i = nI (ord i) by refine (cr_6).trans ?_; first | exact ((hI.1 _ _ (by omega)).trans (hS.1 i hi).1) | (simp only [sM, sFa, sCf, sO, sTw, sFr, sBz]; rw [up2_row (by omega)]; exact ((hI.1 _ _ (by omega)).trans (hS.1 i hi).1)) | (simp only [sM, sFa, sCf, sO, sTw, sFr, sBz]; rw [up2_row (by omega), up2_row (by omega)]; exact ((hI.1 _ _ (by omega)).trans (hS.1 i hi).1)) | (simp only [sM, sFa, sCf, sO, sTw, sFr, sBz]; simp [up2]; exact ((hI.1 _ _ (by omega)).trans (hS.1 i hi).1))) ?_
            refine X_iast y.2.2.2.2.2.1.length dX2_seatWaiting_51 (sck_7 hC) rfl (by omega) ?_
            refine X_aload_n dX2_seatWaiting_52 rfl ?_
            refine X_dup dX2_seatWaiting_53 rfl ?_
            refine X_geti dX2_seatWaiting_54 fkX2_85 rfl (sck_0 hC) ?_
            rw [(show (up2 (wC t nG y) (t + 7) y.2.2.2.2.2.1.length (nI (ord i))) t 11 = nI y.2.2.2.2.2.1.length by rw [up2_row (by omega)]; exact cr_11)]
            refine X_iconst (v := nI 1) dX2_seatWaiting_57 (by decide) ?_
            refine X_iadd dX2_seatWaiting_58 ?_
            refine X_topi (nI_add y.2.2.2.2.2.1.length 1) ?_
            refine X_puti dX2_seatWaiting_59 fkX2_85 rfl rfl (sck_0 hC) ?_
            refine X_iinc (v := nI (i + 1)) dX2_seatWaiting_62 rfl (nI_1 _) (by decide) ?_
            refine X_goto 2 dX2_seatWaiting_65 (by decide) ?_
            refine X_L [(2, .int (nI (i + 1))), (0, .ref t), (1, .int (nI h))] ⟨rfl, rfl, rfl, trivial⟩ ?_
            rw [show apS t nG ord h i y = _ from by unfold apS; rw [hv, if_pos ⟨by congr 1, by omega⟩]] at hn
            refine X_mi cw_q ?_
            exact hn
  · intro y hI
    have hPy := PoolC_fr hP hI.1 ht
    have hpy : y.1 t 10 = bI (decide (t = 57)) := (hI.1 _ _ (by omega)).trans hpa
    refine X_iload_n dX2_seatWaiting_2 rfl ?_
    refine X_aload_n dX2_seatWaiting_3 rfl ?_
    refine X_getr (a := 3) dX2_seatWaiting_4 fkX2_33 rfl (sck_0 hC) (scr_0 hC) ?_
    refine X_geti dX2_seatWaiting_7 fkX2_50 rfl (k_3 hSh) ?_
    refine X_topi (show (wC t nG y) 3 10 = nI nG by refine (congrFun (cr_out (by omega)) _).trans ?_; first | exact hPy.2.1 | (simp only [sM, sFa, sCf, sO, sTw, sFr, sBz]; rw [up2_row (by omega)]; exact hPy.2.1) | (simp only [sM, sFa, sCf, sO, sTw, sFr, sBz]; rw [up2_row (by omega), up2_row (by omega)]; exact hPy.2.1) | (simp only [sM, sFa, sCf, sO, sTw, sFr, sBz]; simp [up2]; exact hPy.2.1)) ?_
    refine X_icmp_geN (a := nG) (b := nG) 68 dX2_seatWaiting_10 (by decide) (by omega) (by omega) (fun h_6 => ?_) (fun h_6 => ?_)
    · refine X_aload_n dX2_seatWaiting_68 rfl ?_
      refine X_geti dX2_seatWaiting_69 fkX2_85 rfl (sck_0 hC) ?_
      refine X_topi (show (wC t nG y) t 11 = nI y.2.2.2.2.2.1.length by exact cr_11) ?_
      refine X_istore_n dX2_seatWaiting_72 (by decide) ?_
      refine X_L [(2, .int (nI y.2.2.2.2.2.1.length)), (0, .ref t), (1, .int (nI h))] ⟨rfl, rfl, rfl, trivial⟩ ?_
      rw [← hI.2.2.2] at ho
      refine X_dn2 73 (fun j => [(2, .int (nI j)), (0, .ref t), (1, .int (nI h))]) (fun y => wC t nG y) fzC (fsC t nC nG F T h) (fun j y => FrC t x.1 y ∧ ktW nG h y ∧ y.2.2.2.2.2.1.length = j ∧ j ≤ 8) (swC t nC nG F T ord h x) ?_ ?_ _ _ ⟨hI.1, ho, rfl, hI.2.2.1⟩ (by unfold swC; rw [← hI.2.2.2])
      · intro j y hI hz
        have hPy := PoolC_fr hP hI.1 ht
        have hpy : y.1 t 10 = bI (decide (t = 57)) := (hI.1 _ _ (by omega)).trans hpa
        obtain ⟨a1, a2, a3⟩ := fs_ok (nC := nC) (F := F) (T := T) hI.1 hI.2.1 hI.2.2.1
        refine ⟨⟨a1, a2, a3, by omega⟩, fun hn => ?_⟩
        cases e : y.2.2.2.2.2.1 with
        | nil => exact absurd hI.2.2.1 (by rw [e]; exact (by omega : ¬ 0 = j + 1))
        | cons b L =>
          obtain ⟨hbl, v, hv, hvh⟩ := hI.2.1.1 b (by rw [e]; exact List.mem_cons_self)
          rw [show fsC t nC nG F T h y = btC t nC F T b h (ewC t b h v (uqC t nG b y)) by unfold fsC; rw [e]; dsimp only; rw [hv]; rfl] at hn
          refine X_iload_n dX2_seatWaiting_73 rfl ?_
          refine X_if_leN (a := j + 1) 114 dX2_seatWaiting_74 (by decide) (by omega) (fun h_7 => ?_) (fun h_7 => ?_)
          · exact absurd h_7 (by omega)
          · refine X_aload_n dX2_seatWaiting_77 rfl ?_
            refine X_geti dX2_seatWaiting_78 fkX2_91 rfl (sck_0 hC) ?_
            refine X_topi (show (wC t nG y) t 12 = mkB y.2.2.2.2.2.2.1 by exact cr_12) ?_
            refine X_if_eq 114 dX2_seatWaiting_81 (by decide) (fun h_8 => ?_) (fun h_8 => ?_)
            · exact absurd h_8 (of_decide_eq_false hz)
            · refine X_aload_n dX2_seatWaiting_84 rfl ?_
              refine X_getr (a := t + 7) dX2_seatWaiting_85 fkX2_30 rfl (sck_0 hC) (scr_9 hC) ?_
              refine X_iconst (v := nI 0) dX2_seatWaiting_88 (by decide) ?_
              refine X_iald 0 dX2_seatWaiting_89 (sck_7 hC) rfl (by omega) ?_
              rw [(show (wC t nG y) (t + 7) 0 = nI b by rw [cr_7 (by rw [e]; exact Nat.succ_pos _), e]; rfl)]
              refine X_istore_n dX2_seatWaiting_90 (by decide) ?_
              refine X_aload_n dX2_seatWaiting_91 rfl ?_
              refine X_iload_n dX2_seatWaiting_92 rfl ?_
              refine X_callVV dX2_seatWaiting_93 mkX2_109 (sck_0 hC) (c_unqueue Γ g ml hSh t hC ht nG y b (by omega) (fun z hz => Nat.lt_of_lt_of_le (hI.2.1.1 z hz).1 hn8) (by rw [hI.2.2.1]; omega)) rfl rfl (by decide) (Nat.le_of_ble_eq_true rfl) ?_
              refine X_aload_n dX2_seatWaiting_96 rfl ?_
              refine X_iload_n dX2_seatWaiting_97 rfl ?_
              refine X_iload_n dX2_seatWaiting_98 rfl ?_
              refine X_callVV dX2_seatWaiting_99 mkX2_112 (sck_0 hC) (c_endWaiting Γ g ml hSh t hC ht nG (uqC t nG b y) hn8 (((FrC_q hI.1) _ _ (by omega)).trans hpa) b h v hbl hv (by omega) hh) rfl rfl (by decide) (Nat.le_of_ble_eq_true rfl) ?_
              refine X_aload_n dX2_seatWaiting_102 rfl ?_
              refine X_iload_n dX2_seatWaiting_103 rfl ?_
              refine X_iload_n dX2_seatWaiting_104 rfl ?_
              refine X_callVV dX2_seatWaiting_105 mkX2_118 (sck_0 hC) (c_takeBest Γ g ml hSh t hC ht nG (ewC t b h v (uqC t nG b y)) nC F T (PoolC_fr hP (FrC_ew (FrC_uq hI.1)) ht) b h hbl hh (fun c hc => by rw [vC_fr (FrC_ew (FrC_uq hI.1)) ht]; exact hS.2 _ c hbl hc)) rfl rfl (by decide) (Nat.le_of_ble_eq_true rfl) ?_
              refine X_iinc dX2_seatWaiting_108 rfl rfl (by decide) ?_
              refine X_goto 73 dX2_seatWaiting_111 (by decide) ?_
              refine X_L [(2, .int ((nI (j + 1)) + Int32.ofInt (-1))), (0, .ref t), (1, .int (nI h))] ⟨rfl, rfl, rfl, trivial⟩ ?_
              refine X_L [(2, .int (nI j)), (0, .ref t), (1, .int (nI h))] ⟨by rw [show nI j = nI (j + 1) + Int32.ofInt (-1) from nI_dn j]; rfl, rfl, rfl, trivial⟩ ?_
              exact hn
      · intro j y hI hz hfin
        rcases hz with rfl | hz
        · refine X_iload_n dX2_seatWaiting_73 rfl ?_
          refine X_if_leN (a := 0) 114 dX2_seatWaiting_74 (by decide) (by omega) (fun h_9 => ?_) (fun h_9 => ?_)
          · exact X_vret dX2_seatWaiting_114 rfl ⟨rfl, rfl, by rw [hfin], rfl⟩
          · exact absurd h_9 (by omega)
        · refine X_iload_n dX2_seatWaiting_73 rfl ?_
          refine X_if_leN (a := j) 114 dX2_seatWaiting_74 (by decide) (by omega) (fun h_10 => ?_) (fun h_10 => ?_)
          · exact X_vret dX2_seatWaiting_114 rfl ⟨rfl, rfl, by rw [hfin], rfl⟩
          · refine X_aload_n dX2_seatWaiting_77 rfl ?_
            refine X_geti dX2_seatWaiting_78 fkX2_91 rfl (sck_0 hC) ?_
            refine X_topi (show (wC t nG y) t 12 = mkB y.2.2.2.2.2.2.1 by exact cr_12) ?_
            refine X_if_eq 114 dX2_seatWaiting_81 (by decide) (fun h_11 => ?_) (fun h_11 => ?_)
            · exact X_vret dX2_seatWaiting_114 rfl ⟨rfl, rfl, by rw [hfin], rfl⟩
            · exact absurd (of_decide_eq_true hz) h_11
    · exact absurd h_6 (by omega)

/-! ===== the halves of a Course ===== -/
theorem up2_nn {α : Type} {f : Nat → Nat → α} {a b i j : Nat} {v : α} (hn : ¬ (i = a ∧ j = b)) : up2 f a b v i j = f i j := if_neg hn
def uN (v : Int32) : Nat := v.toNatClampNeg
theorem uN_nI {k : Nat} (h : k < 2147483648) : uN (nI k) = k := nI_clamp h
/-- what a Course leaves as it was -/
def FrC (t : Nat) (m : pMI) (y : CS) : Prop := ∀ i j, (i < t ∨ t + 9 < i ∨ i = t + 6 ∨ (i = t ∧ j ≠ 14)) → y.1 i j = m i j
theorem FrC_r {t : Nat} {x : CS} : FrC t x.1 x := fun _ _ _ => rfl
theorem FrC_e {t : Nat} {m : pMI} {y z : CS} (h : FrC t m y) (e : z.1 = y.1) : FrC t m z := fun i j hi => by rw [e]; exact h i j hi
theorem FrC_m {t i j : Nat} {v : Int32} {m : pMI} {y : CS} (h : FrC t m y) (hi : i = t + 4 ∨ i = t + 9 ∨ (i = t ∧ j = 14)) : FrC t m (sM i j v y) := fun a b hab => by
  show up2 y.1 i j v a b = m a b
  unfold up2
  rw [if_neg (by omega)]
  exact h a b hab
theorem guC_q {t : Nat} {F : Nat → Nat} {b h c k : Nat} {x : CS} : (guC t F b h c k x).1 = x.1 ∧ (guC t F b h c k x).2.2.2.1 = up2 x.2.2.2.1 3 b none ∧ (guC t F b h c k x).2.2.2.2.2.1 = x.2.2.2.2.2.1 ∧ (guC t F b h c k x).2.2.2.2.2.2.1 = ud x.2.2.2.2.2.2.1 c true ∧ (guC t F b h c k x).2.2.2.2.2.2.2 = x.2.2.2.2.2.2.2 ∧ (guC t F b h c k x).2.1 = up2 (up2 x.2.1 b 2 (x.2.1 b 2 + nI (h - max k (F b)))) b 3 (x.2.1 b 3 + sW (x.1 4 c) (x.1 5 c) (max k (F b)) h) ∧ (guC t F b h c k x).2.2.1 = up2 (up2 x.2.2.1 c 0 (x.2.2.1 c 0 + nI (h - max k (F b)))) c 1 (x.2.2.1 c 1 + nI (h - k - (h - max k (F b)))) := by
  unfold guC
  have q := ptC_q (t := t) (c := c) (b := b) (k := k) (h := h) (x := sCf c 1 (x.2.2.1 c 1 + nI (h - k - (h - max k (F b)))) (sCf c 0 (x.2.2.1 c 0 + nI (h - max k (F b))) (sFa b 3 (x.2.1 b 3 + sW (x.1 4 c) (x.1 5 c) (max k (F b)) h) (sFa b 2 (x.2.1 b 2 + nI (h - max k (F b))) x))))
  refine ⟨?_, ?_, ?_, ?_, ?_, ?_, ?_⟩
  · show (ptC t c b k h _).1 = _; rw [q.1]; rfl
  · show up2 (ptC t c b k h _).2.2.2.1 3 b none = _; rw [q.2.2.2.1]; rfl
  · show (ptC t c b k h _).2.2.2.2.2.1 = _; rw [q.2.2.2.2]; rfl
  · rfl
  · show (ptC t c b k h _).2.2.2.2.2.2.2 = _; rw [q.2.2.2.2]; rfl
  · show (ptC t c b k h _).2.1 = _; rw [q.2.1]; rfl
  · show (ptC t c b k h _).2.2.1 = _; rw [q.2.2.1]; rfl
theorem ewC_q {t b h v : Nat} {x : CS} : (∀ i, i ≠ t + 9 → (ewC t b h v x).1 i = x.1 i) ∧ (ewC t b h v x).2.2.2.1 = up2 x.2.2.2.1 5 b none ∧ (ewC t b h v x).2.2.2.2.2 = x.2.2.2.2.2 ∧ (ewC t b h v x).2.1 = up2 x.2.1 b 7 (x.2.1 b 7 + nI (h - v)) ∧ (ewC t b h v x).2.2.1 = x.2.2.1 ∧ (ewC t b h v x).2.2.2.2.1 = x.2.2.2.2.1 := by
  unfold ewC
  have q := pwC_q (t := t) (b := b) (v := v) (h := h) (x := sFa b 7 (x.2.1 b 7 + nI (h - v)) x)
  refine ⟨fun i hi => ?_, ?_, ?_, ?_, ?_, ?_⟩
  · show (pwC t b v h _).1 i = _; rw [q.2 i hi]; rfl
  · show up2 (pwC t b v h _).2.2.2.1 5 b none = _; rw [q.1]; rfl
  · show (pwC t b v h _).2.2.2.2.2 = _; rw [q.1]; rfl
  · show (pwC t b v h _).2.1 = _; rw [q.1]; rfl
  · show (pwC t b v h _).2.2.1 = _; rw [q.1]; rfl
  · show (pwC t b v h _).2.2.2.2.1 = _; rw [q.1]; rfl
theorem FrC_gu {t : Nat} {m : pMI} {F : Nat → Nat} {b h c k : Nat} {x : CS} (h1 : FrC t m x) : FrC t m (guC t F b h c k x) := FrC_e h1 guC_q.1
theorem FrC_ew {t : Nat} {m : pMI} {b h v : Nat} {x : CS} (h1 : FrC t m x) : FrC t m (ewC t b h v x) := fun i j hi => by rw [ewC_q.1 i (by omega)]; exact h1 i j hi
theorem FrC_q {t nG : Nat} {m : pMI} {L : List Nat} {x : CS} (h1 : FrC t m x) : FrC t m (sQ L t nG x) := fun i j hi => by
  show (if i = t + 7 then _ else x.1 i j) = _
  rw [if_neg (by omega)]; exact h1 i j hi
theorem tbC_1 {t b h c : Nat} {x : CS} : (tbC t b h c x).1 = up2 x.1 (t + 4) b (nI h) := by unfold tbC; split <;> rfl
theorem FrC_bt {t nC : Nat} {m : pMI} {F T : Nat → Nat} {b h : Nat} {x : CS} (h1 : FrC t m x) : FrC t m (btC t nC F T b h x) := by
  unfold btC
  split
  · exact h1
  · exact FrC_e (FrC_m h1 (Or.inl rfl)) tbC_1
theorem PoolC_fr {t : Nat} {m : pMI} {y : CS} {nC nG : Nat} {F T : Nat → Nat} (hP : PoolC m nC nG F T) (h : FrC t m y) (ht : 32 ≤ t) : PoolC y.1 nC nG F T :=
  ⟨(h _ _ (by omega)).trans hP.1, (h _ _ (by omega)).trans hP.2.1, hP.2.2.1, hP.2.2.2.1, fun b hb => ⟨(h _ _ (by omega)).trans (hP.2.2.2.2 b hb).1, (h _ _ (by omega)).trans (hP.2.2.2.2 b hb).2.1, (hP.2.2.2.2 b hb).2.2⟩⟩
theorem vC_fr {t : Nat} {m : pMI} {y : CS} {F T : Nat → Nat} {b h c : Nat} (hf : FrC t m y) (ht : 32 ≤ t) : vC y.1 F T b h c = vC m F T b h c := by
  unfold vC; rw [hf _ _ (by omega), hf _ _ (by omega)]
def ktT (t nC nG h : Nat) (y : CS) : Prop := ∀ b, b < nG → ∀ c, y.2.2.2.1 3 b = some c → c < nC ∧ ∃ k, y.1 (t + 4) b = nI k ∧ k ≤ h
def ktQ (nG : Nat) (y : CS) : Prop := (∀ z, z ∈ y.2.2.2.2.2.1 → z < nG) ∧ y.2.2.2.2.2.1.length ≤ 8
def ktV (nG : Nat) (T : Nat → Nat) (y : CS) : Prop := ∀ b, b < nG → ∀ v, y.2.2.2.1 5 b = some v → v < T b
theorem up2_none {o : Nat → Nat → Option Nat} {a b i j v : Nat} (h : up2 o a b none i j = some v) : o i j = some v := by
  unfold up2 at h
  split at h
  · cases h
  · exact h
theorem ktT_gu {t nC nG h' : Nat} {F : Nat → Nat} {b h c k : Nat} {x : CS} (h1 : ktT t nC nG h' x) : ktT t nC nG h' (guC t F b h c k x) := fun a ha q hq => by
  rw [guC_q.2.1] at hq; rw [guC_q.1]; exact h1 a ha q (up2_none hq)
theorem ktT_ew {t nC nG h' : Nat} {b h v : Nat} {x : CS} (h1 : ktT t nC nG h' x) : ktT t nC nG h' (ewC t b h v x) := fun a ha q hq => by
  rw [ewC_q.2.1] at hq; rw [ewC_q.1 (t + 4) (by omega)]; exact h1 a ha q (up2_none hq)
theorem ktT_q {t nC nG h' nG' : Nat} {L : List Nat} {x : CS} (h1 : ktT t nC nG h' x) : ktT t nC nG h' (sQ L t nG' x) := fun a ha q hq => by
  obtain ⟨z1, k, hk, z2⟩ := h1 a ha q hq
  exact ⟨z1, k, by show (if t + 4 = t + 7 then _ else x.1 (t + 4) a) = _; rw [if_neg (by omega)]; exact hk, z2⟩
theorem ktV_gu {t nG : Nat} {T F : Nat → Nat} {b h c k : Nat} {x : CS} (h1 : ktV nG T x) : ktV nG T (guC t F b h c k x) := fun a ha q hq => by
  rw [guC_q.2.1] at hq; exact h1 a ha q (up2_none hq)
theorem ktV_ew {t nG : Nat} {T : Nat → Nat} {b h v : Nat} {x : CS} (h1 : ktV nG T x) : ktV nG T (ewC t b h v x) := fun a ha q hq => by
  rw [ewC_q.2.1] at hq; exact h1 a ha q (up2_none hq)
theorem ktQ_gu {t nG : Nat} {F : Nat → Nat} {b h c k : Nat} {x : CS} (h1 : ktQ nG x) : ktQ nG (guC t F b h c k x) := by
  unfold ktQ; rw [guC_q.2.2.1]; exact h1
theorem ktQ_ew {t nG : Nat} {b h v : Nat} {x : CS} (h1 : ktQ nG x) : ktQ nG (ewC t b h v x) := by
  unfold ktQ; rw [ewC_q.2.2.1]; exact h1
theorem ktQ_uq {t nG nG' b : Nat} {x : CS} (h1 : ktQ nG x) : ktQ nG (uqC t nG' b x) :=
  ⟨fun z hz => h1.1 z (List.mem_filter.mp hz).1, Nat.le_trans (List.length_filter_le _ _) h1.2⟩
/-- who must leave leaves -/
def lvS (t nG : Nat) (F T : Nat → Nat) (h b : Nat) (x : CS) : CS := if T b = h then (match x.2.2.2.1 3 b with
    | some c => guC t F b h c (uN (x.1 (t + 4) b)) x
    | none => match x.2.2.2.1 5 b with
      | some v => ewC t b h v (uqC t nG b x)
      | none => x) else x
def ktL (t nC nG : Nat) (T : Nat → Nat) (h : Nat) (y : CS) : Prop := ktT t nC nG h y ∧ ktQ nG y ∧ ktV nG T y
theorem lv_okC {t nC nG : Nat} {m : pMI} {F T : Nat → Nat} {h b : Nat} {y : CS} (hf : FrC t m y) (ho : ktL t nC nG T h y) : FrC t m (lvS t nG F T h b y) ∧ ktL t nC nG T h (lvS t nG F T h b y) := by
  unfold lvS
  split
  · split
    · exact ⟨FrC_gu hf, ktT_gu ho.1, ktQ_gu ho.2.1, ktV_gu ho.2.2⟩
    · split
      · exact ⟨FrC_ew (FrC_q hf), ktT_ew (ktT_q ho.1), ktQ_ew (ktQ_uq ho.2.1), ktV_ew ho.2.2⟩
      · exact ⟨hf, ho⟩
  · exact ⟨hf, ho⟩
set_option maxRecDepth 100000 in
set_option maxHeartbeats 4000000 in
theorem c_leave (Γ : pTG) (g : pGG) (ml : pML) (hSh : Sh g) (t : Nat) (hC : ShC g t) (ht : 32 ≤ t) (nG : Nat) (x : CS) (nC : Nat) (F T : Nat → Nat) (hP : PoolC x.1 nC nG F T) (hpa : x.1 t 10 = bI (decide (t = 57))) (h : Nat) (hh : h < 24) (ho : ktL t nC nG T h x) : cV Γ 3 mX2_leave [.ref t, .int (nI h)] g (wC t nG x) ml (wC t nG (lpS (lvS t nG F T h) 0 nG x)) ml := by
  refine cV_of (by decide +kernel) (Nat.le_of_ble_eq_true rfl) ?_
  have hn8 : nG ≤ 8 := hP.2.2.2.1
  have hC8 : nC ≤ 8 := hP.2.2.1
  refine X_iconst (v := nI 0) dX2_leave_0 (by decide) ?_
  refine X_istore_n dX2_leave_1 (by decide) ?_
  refine X_L [(2, .int (nI 0)), (0, .ref t), (1, .int (nI h))] ⟨rfl, rfl, rfl, trivial⟩ ?_
  refine X_for2 (σ := CS) 2 (fun i y => [(2, .int (nI i)), (0, .ref t), (1, .int (nI h))]) (fun y => wC t nG y) (fun y => ml) (fun i y => lvS t nG F T h i y) (fun i y => FrC t x.1 y ∧ ktL t nC nG T h y ∧ y = lpS (lvS t nG F T h) 0 i x) nG ?_ nG 0 (x) (by omega) ⟨FrC_r, ho, rfl⟩ ?_
  · intro i y hi hI
    refine ⟨⟨(lv_okC hI.1 hI.2.1).1, (lv_okC hI.1 hI.2.1).2, by rw [lpS_snoc, ← hI.2.2, Nat.zero_add]⟩, fun hn => ?_⟩
    have hPy := PoolC_fr hP hI.1 ht
    have hpy : y.1 t 10 = bI (decide (t = 57)) := (hI.1 _ _ (by omega)).trans hpa
    have hTi := (hPy.2.2.2.2 i hi).2.2.2.1
    cases hc : y.2.2.2.1 3 i with
    | some c =>
      obtain ⟨hcl, k, hk, hkh⟩ := hI.2.1.1 i hi c hc
      refine X_iload_n dX2_leave_2 rfl ?_
      refine X_aload_n dX2_leave_3 rfl ?_
      refine X_getr (a := 3) dX2_leave_4 fkX2_33 rfl (sck_0 hC) (scr_0 hC) ?_
      refine X_geti dX2_leave_7 fkX2_50 rfl (k_3 hSh) ?_
      refine X_topi (show (wC t nG y) 3 10 = nI nG by refine (congrFun (cr_out (by omega)) _).trans ?_; first | exact hPy.2.1 | (simp only [sM, sFa, sCf, sO, sTw, sFr, sBz]; rw [up2_row (by omega)]; exact hPy.2.1) | (simp only [sM, sFa, sCf, sO, sTw, sFr, sBz]; rw [up2_row (by omega), up2_row (by omega)]; exact hPy.2.1) | (simp only [sM, sFa, sCf, sO, sTw, sFr, sBz]; simp [up2]; exact hPy.2.1)) ?_
      refine X_icmp_geN (a := i) (b := nG) 72 dX2_leave_10 (by decide) (by omega) (by omega) (fun h_1 => ?_) (fun h_1 => ?_)
      · exact absurd hi (by omega)
      · refine X_aload_n dX2_leave_13 rfl ?_
        refine X_getr (a := 3) dX2_leave_14 fkX2_33 rfl (sck_0 hC) (scr_0 hC) ?_
        refine X_getr (a := 8) dX2_leave_17 fkX2_103 rfl (k_3 hSh) (r_3_4 hSh) ?_
        refine X_iload_n dX2_leave_20 rfl ?_
        refine X_iald i dX2_leave_21 (k_8 hSh) rfl (by omega) ?_
        refine X_topi (show (wC t nG y) 8 i = nI (T i) by refine (congrFun (cr_out (by omega)) _).trans ?_; first | exact (hPy.2.2.2.2 i hi).2.1 | (simp only [sM, sFa, sCf, sO, sTw, sFr, sBz]; rw [up2_row (by omega)]; exact (hPy.2.2.2.2 i hi).2.1) | (simp only [sM, sFa, sCf, sO, sTw, sFr, sBz]; rw [up2_row (by omega), up2_row (by omega)]; exact (hPy.2.2.2.2 i hi).2.1) | (simp only [sM, sFa, sCf, sO, sTw, sFr, sBz]; simp [up2]; exact (hPy.2.2.2.2 i hi).2.1)) ?_
        refine X_iload_n dX2_leave_22 rfl ?_
        refine X_icmp_neN (a := T i) (b := h) 66 dX2_leave_23 (by decide) (by omega) (by omega) (fun h_2 => ?_) (fun h_2 => ?_)
        · refine X_iinc (v := nI (i + 1)) dX2_leave_66 rfl (nI_1 _) (by decide) ?_
          refine X_goto 2 dX2_leave_69 (by decide) ?_
          refine X_L [(2, .int (nI (i + 1))), (0, .ref t), (1, .int (nI h))] ⟨rfl, rfl, rfl, trivial⟩ ?_
          rw [show lvS t nG F T h i y = y from by unfold lvS; rw [if_neg (by omega)]] at hn
          exact hn
        · refine X_aload_n dX2_leave_26 rfl ?_
          refine X_getr (a := t + 3) dX2_leave_27 fkX2_18 rfl (sck_0 hC) (scr_5 hC) ?_
          refine X_iload_n dX2_leave_30 rfl ?_
          refine X_iald i dX2_leave_31 (sck_3 hC) rfl (by omega) ?_
          refine X_topi (show (wC t nG y) (t + 3) i = nI c by refine (cr_o3 (by omega)).trans ?_; first | exact (show oI (y.2.2.2.1 3 i) = nI c by rw [hc]; rfl) | (simp only [sM, sFa, sCf, sO, sTw, sFr, sBz]; rw [up2_row (by omega)]; exact (show oI (y.2.2.2.1 3 i) = nI c by rw [hc]; rfl)) | (simp only [sM, sFa, sCf, sO, sTw, sFr, sBz]; rw [up2_row (by omega), up2_row (by omega)]; exact (show oI (y.2.2.2.1 3 i) = nI c by rw [hc]; rfl)) | (simp only [sM, sFa, sCf, sO, sTw, sFr, sBz]; simp [up2]; exact (show oI (y.2.2.2.1 3 i) = nI c by rw [hc]; rfl))) ?_
          refine X_iconst (v := -1) dX2_leave_32 (by decide) ?_
          refine X_icmp_eq 45 dX2_leave_33 (by decide) (fun h_3 => ?_) (fun h_3 => ?_)
          · exact absurd h_3 (nI_m1 (by omega))
          · refine X_aload_n dX2_leave_36 rfl ?_
            refine X_iload_n dX2_leave_37 rfl ?_
            refine X_iload_n dX2_leave_38 rfl ?_
            refine X_callVV dX2_leave_39 mkX2_106 (sck_0 hC) (c_giveUp Γ g ml hSh t hC ht nG y nC F T hPy hpy i h c k hi hc (by omega) hk hkh hh) rfl rfl (by decide) (Nat.le_of_ble_eq_true rfl) ?_
            refine X_goto 66 dX2_leave_42 (by decide) ?_
            refine X_iinc (v := nI (i + 1)) dX2_leave_66 rfl (nI_1 _) (by decide) ?_
            refine X_goto 2 dX2_leave_69 (by decide) ?_
            refine X_L [(2, .int (nI (i + 1))), (0, .ref t), (1, .int (nI h))] ⟨rfl, rfl, rfl, trivial⟩ ?_
            rw [show lvS t nG F T h i y = guC t F i h c k y from by unfold lvS; rw [if_pos (by omega)]; rw [hc]; dsimp only; rw [hk, uN_nI (by omega)]] at hn
            exact hn
    | none =>
      cases hv : y.2.2.2.1 5 i with
      | some v =>
        have hvl := hI.2.1.2.2 i hi v hv
        refine X_iload_n dX2_leave_2 rfl ?_
        refine X_aload_n dX2_leave_3 rfl ?_
        refine X_getr (a := 3) dX2_leave_4 fkX2_33 rfl (sck_0 hC) (scr_0 hC) ?_
        refine X_geti dX2_leave_7 fkX2_50 rfl (k_3 hSh) ?_
        refine X_topi (show (wC t nG y) 3 10 = nI nG by refine (congrFun (cr_out (by omega)) _).trans ?_; first | exact hPy.2.1 | (simp only [sM, sFa, sCf, sO, sTw, sFr, sBz]; rw [up2_row (by omega)]; exact hPy.2.1) | (simp only [sM, sFa, sCf, sO, sTw, sFr, sBz]; rw [up2_row (by omega), up2_row (by omega)]; exact hPy.2.1) | (simp only [sM, sFa, sCf, sO, sTw, sFr, sBz]; simp [up2]; exact hPy.2.1)) ?_
        refine X_icmp_geN (a := i) (b := nG) 72 dX2_leave_10 (by decide) (by omega) (by omega) (fun h_4 => ?_) (fun h_4 => ?_)
        · exact absurd hi (by omega)
        · refine X_aload_n dX2_leave_13 rfl ?_
          refine X_getr (a := 3) dX2_leave_14 fkX2_33 rfl (sck_0 hC) (scr_0 hC) ?_
          refine X_getr (a := 8) dX2_leave_17 fkX2_103 rfl (k_3 hSh) (r_3_4 hSh) ?_
          refine X_iload_n dX2_leave_20 rfl ?_
          refine X_iald i dX2_leave_21 (k_8 hSh) rfl (by omega) ?_
          refine X_topi (show (wC t nG y) 8 i = nI (T i) by refine (congrFun (cr_out (by omega)) _).trans ?_; first | exact (hPy.2.2.2.2 i hi).2.1 | (simp only [sM, sFa, sCf, sO, sTw, sFr, sBz]; rw [up2_row (by omega)]; exact (hPy.2.2.2.2 i hi).2.1) | (simp only [sM, sFa, sCf, sO, sTw, sFr, sBz]; rw [up2_row (by omega), up2_row (by omega)]; exact (hPy.2.2.2.2 i hi).2.1) | (simp only [sM, sFa, sCf, sO, sTw, sFr, sBz]; simp [up2]; exact (hPy.2.2.2.2 i hi).2.1)) ?_
          refine X_iload_n dX2_leave_22 rfl ?_
          refine X_icmp_neN (a := T i) (b := h) 66 dX2_leave_23 (by decide) (by omega) (by omega) (fun h_5 => ?_) (fun h_5 => ?_)
          · refine X_iinc (v := nI (i + 1)) dX2_leave_66 rfl (nI_1 _) (by decide) ?_
            refine X_goto 2 dX2_leave_69 (by decide) ?_
            refine X_L [(2, .int (nI (i + 1))), (0, .ref t), (1, .int (nI h))] ⟨rfl, rfl, rfl, trivial⟩ ?_
            rw [show lvS t nG F T h i y = y from by unfold lvS; rw [if_neg (by omega)]] at hn
            exact hn
          · refine X_aload_n dX2_leave_26 rfl ?_
            refine X_getr (a := t + 3) dX2_leave_27 fkX2_18 rfl (sck_0 hC) (scr_5 hC) ?_
            refine X_iload_n dX2_leave_30 rfl ?_
            refine X_iald i dX2_leave_31 (sck_3 hC) rfl (by omega) ?_
            refine X_topi (show (wC t nG y) (t + 3) i = -1 by refine (cr_o3 (by omega)).trans ?_; first | exact (show oI (y.2.2.2.1 3 i) = -1 by rw [hc]; rfl) | (simp only [sM, sFa, sCf, sO, sTw, sFr, sBz]; rw [up2_row (by omega)]; exact (show oI (y.2.2.2.1 3 i) = -1 by rw [hc]; rfl)) | (simp only [sM, sFa, sCf, sO, sTw, sFr, sBz]; rw [up2_row (by omega), up2_row (by omega)]; exact (show oI (y.2.2.2.1 3 i) = -1 by rw [hc]; rfl)) | (simp only [sM, sFa, sCf, sO, sTw, sFr, sBz]; simp [up2]; exact (show oI (y.2.2.2.1 3 i) = -1 by rw [hc]; rfl))) ?_
            refine X_iconst (v := -1) dX2_leave_32 (by decide) ?_
            refine X_icmp_eq 45 dX2_leave_33 (by decide) (fun h_6 => ?_) (fun h_6 => ?_)
            · refine X_aload_n dX2_leave_45 rfl ?_
              refine X_getr (a := t + 5) dX2_leave_46 fkX2_24 rfl (sck_0 hC) (scr_7 hC) ?_
              refine X_iload_n dX2_leave_49 rfl ?_
              refine X_iald i dX2_leave_50 (sck_5 hC) rfl (by omega) ?_
              refine X_topi (show (wC t nG y) (t + 5) i = nI v by refine (cr_o5 (by omega)).trans ?_; first | exact (show oI (y.2.2.2.1 5 i) = nI v by rw [hv]; rfl) | (simp only [sM, sFa, sCf, sO, sTw, sFr, sBz]; rw [up2_row (by omega)]; exact (show oI (y.2.2.2.1 5 i) = nI v by rw [hv]; rfl)) | (simp only [sM, sFa, sCf, sO, sTw, sFr, sBz]; rw [up2_row (by omega), up2_row (by omega)]; exact (show oI (y.2.2.2.1 5 i) = nI v by rw [hv]; rfl)) | (simp only [sM, sFa, sCf, sO, sTw, sFr, sBz]; simp [up2]; exact (show oI (y.2.2.2.1 5 i) = nI v by rw [hv]; rfl))) ?_
              refine X_iconst (v := -1) dX2_leave_51 (by decide) ?_
              refine X_icmp_eq 66 dX2_leave_52 (by decide) (fun h_7 => ?_) (fun h_7 => ?_)
              · exact absurd h_7 (nI_m1 (by omega))
              · refine X_aload_n dX2_leave_55 rfl ?_
                refine X_iload_n dX2_leave_56 rfl ?_
                refine X_callVV dX2_leave_57 mkX2_109 (sck_0 hC) (c_unqueue Γ g ml hSh t hC ht nG y i (by omega) (fun z hz => Nat.lt_of_lt_of_le (hI.2.1.2.1.1 z hz) hn8) hI.2.1.2.1.2) rfl rfl (by decide) (Nat.le_of_ble_eq_true rfl) ?_
                refine X_aload_n dX2_leave_60 rfl ?_
                refine X_iload_n dX2_leave_61 rfl ?_
                refine X_iload_n dX2_leave_62 rfl ?_
                refine X_callVV dX2_leave_63 mkX2_112 (sck_0 hC) (c_endWaiting Γ g ml hSh t hC ht nG (uqC t nG i y) hn8 (((FrC_q hI.1) _ _ (by omega)).trans hpa) i h v hi hv (by omega) hh) rfl rfl (by decide) (Nat.le_of_ble_eq_true rfl) ?_
                refine X_iinc (v := nI (i + 1)) dX2_leave_66 rfl (nI_1 _) (by decide) ?_
                refine X_goto 2 dX2_leave_69 (by decide) ?_
                refine X_L [(2, .int (nI (i + 1))), (0, .ref t), (1, .int (nI h))] ⟨rfl, rfl, rfl, trivial⟩ ?_
                rw [show lvS t nG F T h i y = ewC t i h v (uqC t nG i y) from by unfold lvS; rw [if_pos (by omega)]; rw [hc]; dsimp only; rw [hv]] at hn
                exact hn
            · exact absurd rfl h_6
      | none =>
        refine X_iload_n dX2_leave_2 rfl ?_
        refine X_aload_n dX2_leave_3 rfl ?_
        refine X_getr (a := 3) dX2_leave_4 fkX2_33 rfl (sck_0 hC) (scr_0 hC) ?_
        refine X_geti dX2_leave_7 fkX2_50 rfl (k_3 hSh) ?_
        refine X_topi (show (wC t nG y) 3 10 = nI nG by refine (congrFun (cr_out (by omega)) _).trans ?_; first | exact hPy.2.1 | (simp only [sM, sFa, sCf, sO, sTw, sFr, sBz]; rw [up2_row (by omega)]; exact hPy.2.1) | (simp only [sM, sFa, sCf, sO, sTw, sFr, sBz]; rw [up2_row (by omega), up2_row (by omega)]; exact hPy.2.1) | (simp only [sM, sFa, sCf, sO, sTw, sFr, sBz]; simp [up2]; exact hPy.2.1)) ?_
        refine X_icmp_geN (a := i) (b := nG) 72 dX2_leave_10 (by decide) (by omega) (by omega) (fun h_8 => ?_) (fun h_8 => ?_)
        · exact absurd hi (by omega)
        · refine X_aload_n dX2_leave_13 rfl ?_
          refine X_getr (a := 3) dX2_leave_14 fkX2_33 rfl (sck_0 hC) (scr_0 hC) ?_
          refine X_getr (a := 8) dX2_leave_17 fkX2_103 rfl (k_3 hSh) (r_3_4 hSh) ?_
          refine X_iload_n dX2_leave_20 rfl ?_
          refine X_iald i dX2_leave_21 (k_8 hSh) rfl (by omega) ?_
          refine X_topi (show (wC t nG y) 8 i = nI (T i) by refine (congrFun (cr_out (by omega)) _).trans ?_; first | exact (hPy.2.2.2.2 i hi).2.1 | (simp only [sM, sFa, sCf, sO, sTw, sFr, sBz]; rw [up2_row (by omega)]; exact (hPy.2.2.2.2 i hi).2.1) | (simp only [sM, sFa, sCf, sO, sTw, sFr, sBz]; rw [up2_row (by omega), up2_row (by omega)]; exact (hPy.2.2.2.2 i hi).2.1) | (simp only [sM, sFa, sCf, sO, sTw, sFr, sBz]; simp [up2]; exact (hPy.2.2.2.2 i hi).2.1)) ?_
          refine X_iload_n dX2_leave_22 rfl ?_
          refine X_icmp_neN (a := T i) (b := h) 66 dX2_leave_23 (by decide) (by omega) (by omega) (fun h_9 => ?_) (fun h_9 => ?_)
          · refine X_iinc (v := nI (i + 1)) dX2_leave_66 rfl (nI_1 _) (by decide) ?_
            refine X_goto 2 dX2_leave_69 (by decide) ?_
            refine X_L [(2, .int (nI (i + 1))), (0, .ref t), (1, .int (nI h))] ⟨rfl, rfl, rfl, trivial⟩ ?_
            rw [show lvS t nG F T h i y = y from by unfold lvS; rw [if_neg (by omega)]] at hn
            exact hn
          · refine X_aload_n dX2_leave_26 rfl ?_
            refine X_getr (a := t + 3) dX2_leave_27 fkX2_18 rfl (sck_0 hC) (scr_5 hC) ?_
            refine X_iload_n dX2_leave_30 rfl ?_
            refine X_iald i dX2_leave_31 (sck_3 hC) rfl (by omega) ?_
            refine X_topi (show (wC t nG y) (t + 3) i = -1 by refine (cr_o3 (by omega)).trans ?_; first | exact (show oI (y.2.2.2.1 3 i) = -1 by rw [hc]; rfl) | (simp only [sM, sFa, sCf, sO, sTw, sFr, sBz]; rw [up2_row (by omega)]; exact (show oI (y.2.2.2.1 3 i) = -1 by rw [hc]; rfl)) | (simp only [sM, sFa, sCf, sO, sTw, sFr, sBz]; rw [up2_row (by omega), up2_row (by omega)]; exact (show oI (y.2.2.2.1 3 i) = -1 by rw [hc]; rfl)) | (simp only [sM, sFa, sCf, sO, sTw, sFr, sBz]; simp [up2]; exact (show oI (y.2.2.2.1 3 i) = -1 by rw [hc]; rfl))) ?_
            refine X_iconst (v := -1) dX2_leave_32 (by decide) ?_
            refine X_icmp_eq 45 dX2_leave_33 (by decide) (fun h_10 => ?_) (fun h_10 => ?_)
            · refine X_aload_n dX2_leave_45 rfl ?_
              refine X_getr (a := t + 5) dX2_leave_46 fkX2_24 rfl (sck_0 hC) (scr_7 hC) ?_
              refine X_iload_n dX2_leave_49 rfl ?_
              refine X_iald i dX2_leave_50 (sck_5 hC) rfl (by omega) ?_
              refine X_topi (show (wC t nG y) (t + 5) i = -1 by refine (cr_o5 (by omega)).trans ?_; first | exact (show oI (y.2.2.2.1 5 i) = -1 by rw [hv]; rfl) | (simp only [sM, sFa, sCf, sO, sTw, sFr, sBz]; rw [up2_row (by omega)]; exact (show oI (y.2.2.2.1 5 i) = -1 by rw [hv]; rfl)) | (simp only [sM, sFa, sCf, sO, sTw, sFr, sBz]; rw [up2_row (by omega), up2_row (by omega)]; exact (show oI (y.2.2.2.1 5 i) = -1 by rw [hv]; rfl)) | (simp only [sM, sFa, sCf, sO, sTw, sFr, sBz]; simp [up2]; exact (show oI (y.2.2.2.1 5 i) = -1 by rw [hv]; rfl))) ?_
              refine X_iconst (v := -1) dX2_leave_51 (by decide) ?_
              refine X_icmp_eq 66 dX2_leave_52 (by decide) (fun h_11 => ?_) (fun h_11 => ?_)
              · refine X_iinc (v := nI (i + 1)) dX2_leave_66 rfl (nI_1 _) (by decide) ?_
                refine X_goto 2 dX2_leave_69 (by decide) ?_
                refine X_L [(2, .int (nI (i + 1))), (0, .ref t), (1, .int (nI h))] ⟨rfl, rfl, rfl, trivial⟩ ?_
                rw [show lvS t nG F T h i y = y from by unfold lvS; rw [if_pos (by omega)]; rw [hc]; dsimp only; rw [hv]] at hn
                exact hn
              · exact absurd rfl h_11
            · exact absurd rfl h_10
  · intro y hI
    have hPy := PoolC_fr hP hI.1 ht
    have hpy : y.1 t 10 = bI (decide (t = 57)) := (hI.1 _ _ (by omega)).trans hpa
    refine X_iload_n dX2_leave_2 rfl ?_
    refine X_aload_n dX2_leave_3 rfl ?_
    refine X_getr (a := 3) dX2_leave_4 fkX2_33 rfl (sck_0 hC) (scr_0 hC) ?_
    refine X_geti dX2_leave_7 fkX2_50 rfl (k_3 hSh) ?_
    refine X_topi (show (wC t nG y) 3 10 = nI nG by refine (congrFun (cr_out (by omega)) _).trans ?_; first | exact hPy.2.1 | (simp only [sM, sFa, sCf, sO, sTw, sFr, sBz]; rw [up2_row (by omega)]; exact hPy.2.1) | (simp only [sM, sFa, sCf, sO, sTw, sFr, sBz]; rw [up2_row (by omega), up2_row (by omega)]; exact hPy.2.1) | (simp only [sM, sFa, sCf, sO, sTw, sFr, sBz]; simp [up2]; exact hPy.2.1)) ?_
    refine X_icmp_geN (a := nG) (b := nG) 72 dX2_leave_10 (by decide) (by omega) (by omega) (fun h_12 => ?_) (fun h_12 => ?_)
    · exact X_vret dX2_leave_72 rfl ⟨rfl, rfl, by rw [← hI.2.2], rfl⟩
    · exact absurd h_12 (by omega)
/-- the hotel takes a towel off -/
def toS (t : Nat) (F : Nat → Nat) (un : Int32) (h b : Nat) (x : CS) : CS := match x.2.2.2.1 3 b with
  | none => x
  | some c => if h ≤ F b ∧ un ≤ nI (h - uN (x.1 (t + 4) b)) then sBz (ud x.2.2.2.2.2.2.2 (F b) true) (sO 5 b (some (F b)) (guC t F b h c (uN (x.1 (t + 4) b)) (sFa b 6 (x.2.1 b 6 + nI 1) x))) else x
theorem to_ok {t nC nG : Nat} {m : pMI} {F : Nat → Nat} {un : Int32} {h b : Nat} {y : CS} (hf : FrC t m y) (ho : ktT t nC nG h y) : FrC t m (toS t F un h b y) ∧ ktT t nC nG h (toS t F un h b y) := by
  unfold toS
  split
  · exact ⟨hf, ho⟩
  · split
    · refine ⟨fun i j hij => ?_, ?_⟩
      · show (guC t F b h _ (uN (y.1 (t + 4) b)) (sFa b 6 (y.2.1 b 6 + nI 1) y)).1 i j = _
        rw [guC_q.1]; exact hf i j hij
      refine fun a ha q hq => ?_
      have hq2 : (up2 (guC t F b h _ (uN (y.1 (t + 4) b)) (sFa b 6 (y.2.1 b 6 + nI 1) y)).2.2.2.1 5 b (some (F b))) 3 a = some q := hq
      rw [up2_row (by omega)] at hq2
      exact ktT_gu (x := sFa b 6 (y.2.1 b 6 + nI 1) y) ho a ha q hq2
    · exact ⟨hf, ho⟩
set_option maxRecDepth 100000 in
set_option maxHeartbeats 4000000 in
theorem c_takeOff (Γ : pTG) (g : pGG) (ml : pML) (hSh : Sh g) (t : Nat) (hC : ShC g t) (ht : 32 ≤ t) (nG : Nat) (x : CS) (nC : Nat) (F T : Nat → Nat) (hP : PoolC x.1 nC nG F T) (hpa : x.1 t 10 = bI (decide (t = 57))) (h : Nat) (hh : h < 24) (un : Int32) (ho : ktT t nC nG h x) : cV Γ 3 mX2_takeOff [.ref t, .int (nI h), .int un] g (wC t nG x) ml (wC t nG (lpS (toS t F un h) 0 nG x)) ml := by
  refine cV_of (by decide +kernel) (Nat.le_of_ble_eq_true rfl) ?_
  have hn8 : nG ≤ 8 := hP.2.2.2.1
  have hC8 : nC ≤ 8 := hP.2.2.1
  refine X_iconst (v := nI 0) dX2_takeOff_0 (by decide) ?_
  refine X_istore_n dX2_takeOff_1 (by decide) ?_
  refine X_L [(3, .int (nI 0)), (0, .ref t), (1, .int (nI h)), (2, .int un)] ⟨rfl, rfl, rfl, rfl, trivial⟩ ?_
  refine X_for2 (σ := CS) 2 (fun i y => [(3, .int (nI i)), (0, .ref t), (1, .int (nI h)), (2, .int un)]) (fun y => wC t nG y) (fun y => ml) (fun i y => toS t F un h i y) (fun i y => FrC t x.1 y ∧ ktT t nC nG h y ∧ y = lpS (toS t F un h) 0 i x) nG ?_ nG 0 (x) (by omega) ⟨FrC_r, ho, rfl⟩ ?_
  · intro i y hi hI
    refine ⟨⟨(to_ok hI.1 hI.2.1).1, (to_ok hI.1 hI.2.1).2, by rw [lpS_snoc, ← hI.2.2, Nat.zero_add]⟩, fun hn => ?_⟩
    have hPy := PoolC_fr hP hI.1 ht
    have hpy : y.1 t 10 = bI (decide (t = 57)) := (hI.1 _ _ (by omega)).trans hpa
    have hFi := (hPy.2.2.2.2 i hi).2.2.1
    cases hc : y.2.2.2.1 3 i with
    | some c =>
      obtain ⟨hcl, k, hk, hkh⟩ := hI.2.1 i hi c hc
      have hF7 : (guC t F i h c k (sFa i 6 ((y.2.1 i 6) + (nI 1)) y)).1 7 i = nI (F i) := by rw [guC_q.1]; exact (hPy.2.2.2.2 i hi).1
      refine X_iload_n dX2_takeOff_2 rfl ?_
      refine X_aload_n dX2_takeOff_3 rfl ?_
      refine X_getr (a := 3) dX2_takeOff_4 fkX2_33 rfl (sck_0 hC) (scr_0 hC) ?_
      refine X_geti dX2_takeOff_7 fkX2_50 rfl (k_3 hSh) ?_
      refine X_topi (show (wC t nG y) 3 10 = nI nG by refine (congrFun (cr_out (by omega)) _).trans ?_; first | exact hPy.2.1 | (simp only [sM, sFa, sCf, sO, sTw, sFr, sBz]; rw [up2_row (by omega)]; exact hPy.2.1) | (simp only [sM, sFa, sCf, sO, sTw, sFr, sBz]; rw [up2_row (by omega), up2_row (by omega)]; exact hPy.2.1) | (simp only [sM, sFa, sCf, sO, sTw, sFr, sBz]; simp [up2]; exact hPy.2.1)) ?_
      refine X_icmp_geN (a := i) (b := nG) 111 dX2_takeOff_10 (by decide) (by omega) (by omega) (fun h_1 => ?_) (fun h_1 => ?_)
      · exact absurd hi (by omega)
      · refine X_aload_n dX2_takeOff_13 rfl ?_
        refine X_getr (a := t + 3) dX2_takeOff_14 fkX2_18 rfl (sck_0 hC) (scr_5 hC) ?_
        refine X_iload_n dX2_takeOff_17 rfl ?_
        refine X_iald i dX2_takeOff_18 (sck_3 hC) rfl (by omega) ?_
        refine X_topi (show (wC t nG y) (t + 3) i = nI c by refine (cr_o3 (by omega)).trans ?_; first | exact (show oI (y.2.2.2.1 3 i) = nI c by rw [hc]; rfl) | (simp only [sM, sFa, sCf, sO, sTw, sFr, sBz]; rw [up2_row (by omega)]; exact (show oI (y.2.2.2.1 3 i) = nI c by rw [hc]; rfl)) | (simp only [sM, sFa, sCf, sO, sTw, sFr, sBz]; rw [up2_row (by omega), up2_row (by omega)]; exact (show oI (y.2.2.2.1 3 i) = nI c by rw [hc]; rfl)) | (simp only [sM, sFa, sCf, sO, sTw, sFr, sBz]; simp [up2]; exact (show oI (y.2.2.2.1 3 i) = nI c by rw [hc]; rfl))) ?_
        refine X_iconst (v := -1) dX2_takeOff_19 (by decide) ?_
        refine X_icmp_eq 105 dX2_takeOff_20 (by decide) (fun h_2 => ?_) (fun h_2 => ?_)
        · exact absurd h_2 (nI_m1 (by omega))
        · refine X_iload_n dX2_takeOff_23 rfl ?_
          refine X_aload_n dX2_takeOff_24 rfl ?_
          refine X_getr (a := 3) dX2_takeOff_25 fkX2_33 rfl (sck_0 hC) (scr_0 hC) ?_
          refine X_getr (a := 7) dX2_takeOff_28 fkX2_115 rfl (k_3 hSh) (r_3_3 hSh) ?_
          refine X_iload_n dX2_takeOff_31 rfl ?_
          refine X_iald i dX2_takeOff_32 (k_7 hSh) rfl (by omega) ?_
          refine X_topi (show (wC t nG y) 7 i = nI (F i) by refine (congrFun (cr_out (by omega)) _).trans ?_; first | exact (hPy.2.2.2.2 i hi).1 | (simp only [sM, sFa, sCf, sO, sTw, sFr, sBz]; rw [up2_row (by omega)]; exact (hPy.2.2.2.2 i hi).1) | (simp only [sM, sFa, sCf, sO, sTw, sFr, sBz]; rw [up2_row (by omega), up2_row (by omega)]; exact (hPy.2.2.2.2 i hi).1) | (simp only [sM, sFa, sCf, sO, sTw, sFr, sBz]; simp [up2]; exact (hPy.2.2.2.2 i hi).1)) ?_
          refine X_icmp_gtN (a := h) (b := F i) 105 dX2_takeOff_33 (by decide) (by omega) (by omega) (fun h_3 => ?_) (fun h_3 => ?_)
          · refine X_iinc (v := nI (i + 1)) dX2_takeOff_105 rfl (nI_1 _) (by decide) ?_
            refine X_goto 2 dX2_takeOff_108 (by decide) ?_
            refine X_L [(3, .int (nI (i + 1))), (0, .ref t), (1, .int (nI h)), (2, .int un)] ⟨rfl, rfl, rfl, rfl, trivial⟩ ?_
            rw [show toS t F un h i y = y from by unfold toS; rw [hc]; dsimp only; rw [hk, uN_nI (by omega), if_neg (fun z => by first | omega | exact absurd z.2 (Int32.not_le.mpr (by assumption)))]] at hn
            exact hn
          · refine X_iload_n dX2_takeOff_36 rfl ?_
            refine X_aload_n dX2_takeOff_37 rfl ?_
            refine X_getr (a := t + 4) dX2_takeOff_38 fkX2_21 rfl (sck_0 hC) (scr_6 hC) ?_
            refine X_iload_n dX2_takeOff_41 rfl ?_
            refine X_iald i dX2_takeOff_42 (sck_4 hC) rfl (by omega) ?_
            refine X_topi (show (wC t nG y) (t + 4) i = nI k by refine (cr_4).trans ?_; first | exact hk | (simp only [sM, sFa, sCf, sO, sTw, sFr, sBz]; rw [up2_row (by omega)]; exact hk) | (simp only [sM, sFa, sCf, sO, sTw, sFr, sBz]; rw [up2_row (by omega), up2_row (by omega)]; exact hk) | (simp only [sM, sFa, sCf, sO, sTw, sFr, sBz]; simp [up2]; exact hk)) ?_
            refine X_isub dX2_takeOff_43 ?_
            refine X_topi (pk_sub (a := h) (b := k) (by omega)) ?_
            refine X_iload_n dX2_takeOff_44 rfl ?_
            refine X_icmp_lt 105 dX2_takeOff_45 (by decide) (fun h_4 => ?_) (fun h_4 => ?_)
            · refine X_iinc (v := nI (i + 1)) dX2_takeOff_105 rfl (nI_1 _) (by decide) ?_
              refine X_goto 2 dX2_takeOff_108 (by decide) ?_
              refine X_L [(3, .int (nI (i + 1))), (0, .ref t), (1, .int (nI h)), (2, .int un)] ⟨rfl, rfl, rfl, rfl, trivial⟩ ?_
              rw [show toS t F un h i y = y from by unfold toS; rw [hc]; dsimp only; rw [hk, uN_nI (by omega), if_neg (fun z => by first | omega | exact absurd z.2 (Int32.not_le.mpr (by assumption)))]] at hn
              exact hn
            · refine X_aload_n dX2_takeOff_48 rfl ?_
              refine X_getr (a := t + 1) dX2_takeOff_49 fkX2_9 rfl (sck_0 hC) (scr_1 hC) ?_
              refine X_iload_n dX2_takeOff_52 rfl ?_
              refine X_bipush (v := nI 8) dX2_takeOff_53 (by decide) ?_
              refine X_imul dX2_takeOff_55 ?_
              refine X_topi (pk_mul i 8) ?_
              refine X_bipush (v := nI 6) dX2_takeOff_56 (by decide) ?_
              refine X_iadd dX2_takeOff_58 ?_
              refine X_topi (nI_add (i * 8) 6) ?_
              refine X_dup2 dX2_takeOff_59 rfl rfl ?_
              refine X_iald ((i * 8) + 6) dX2_takeOff_60 (sck_1 hC) rfl (by omega) ?_
              refine X_topi (show (wC t nG y) (t + 1) ((i * 8) + 6) = y.2.1 i 6 by refine (cr_fa (by omega)).trans ?_; first | rfl | (simp only [sM, sFa, sCf, sO, sTw, sFr, sBz]; rw [up2_row (by omega)]) | (simp only [sM, sFa, sCf, sO, sTw, sFr, sBz]; rw [up2_row (by omega), up2_row (by omega)]) | simp [sM, sFa, sCf, sO, sTw, sFr, sBz, up2, ud]) ?_
              refine X_iconst (v := nI 1) dX2_takeOff_61 (by decide) ?_
              refine X_iadd dX2_takeOff_62 ?_
              refine X_iast ((i * 8) + 6) dX2_takeOff_63 (sck_1 hC) rfl (by omega) ?_
              refine X_mi (cw_fa (by omega)) ?_
              refine X_aload_n dX2_takeOff_64 rfl ?_
              refine X_iload_n dX2_takeOff_65 rfl ?_
              refine X_iload_n dX2_takeOff_66 rfl ?_
              refine X_callVV dX2_takeOff_67 mkX2_106 (sck_0 hC) (c_giveUp Γ g ml hSh t hC ht nG (sFa i 6 ((y.2.1 i 6) + (nI 1)) y) nC F T hPy hpy i h c k hi hc (by omega) hk hkh hh) rfl rfl (by decide) (Nat.le_of_ble_eq_true rfl) ?_
              refine X_aload_n dX2_takeOff_70 rfl ?_
              refine X_getr (a := t + 5) dX2_takeOff_71 fkX2_24 rfl (sck_0 hC) (scr_7 hC) ?_
              refine X_iload_n dX2_takeOff_74 rfl ?_
              refine X_aload_n dX2_takeOff_75 rfl ?_
              refine X_getr (a := 3) dX2_takeOff_76 fkX2_33 rfl (sck_0 hC) (scr_0 hC) ?_
              refine X_getr (a := 7) dX2_takeOff_79 fkX2_115 rfl (k_3 hSh) (r_3_3 hSh) ?_
              refine X_iload_n dX2_takeOff_82 rfl ?_
              refine X_iald i dX2_takeOff_83 (k_7 hSh) rfl (by omega) ?_
              refine X_topi (show (wC t nG (guC t F i h c k (sFa i 6 ((y.2.1 i 6) + (nI 1)) y))) 7 i = nI (F i) by refine (congrFun (cr_out (by omega)) _).trans ?_; first | exact hF7 | (simp only [sM, sFa, sCf, sO, sTw, sFr, sBz]; rw [up2_row (by omega)]; exact hF7) | (simp only [sM, sFa, sCf, sO, sTw, sFr, sBz]; rw [up2_row (by omega), up2_row (by omega)]; exact hF7) | (simp only [sM, sFa, sCf, sO, sTw, sFr, sBz]; simp [up2]; exact hF7)) ?_
              refine X_iast i dX2_takeOff_84 (sck_5 hC) rfl (by omega) ?_
              refine X_mi (cw_os (k := 5) (by omega) (by omega)) ?_
              refine X_aload_n dX2_takeOff_85 rfl ?_
              refine X_dup dX2_takeOff_86 rfl ?_
              refine X_geti dX2_takeOff_87 fkX2_61 rfl (sck_0 hC) ?_
              refine X_topi (show (wC t nG (sO 5 i (some (F i)) (guC t F i h c k (sFa i 6 ((y.2.1 i 6) + (nI 1)) y)))) t 13 = mkB (guC t F i h c k (sFa i 6 ((y.2.1 i 6) + (nI 1)) y)).2.2.2.2.2.2.2 by exact cr_13) ?_
              refine X_iconst (v := nI 1) dX2_takeOff_90 (by decide) ?_
              refine X_aload_n dX2_takeOff_91 rfl ?_
              refine X_getr (a := 3) dX2_takeOff_92 fkX2_33 rfl (sck_0 hC) (scr_0 hC) ?_
              refine X_getr (a := 7) dX2_takeOff_95 fkX2_115 rfl (k_3 hSh) (r_3_3 hSh) ?_
              refine X_iload_n dX2_takeOff_98 rfl ?_
              refine X_iald i dX2_takeOff_99 (k_7 hSh) rfl (by omega) ?_
              refine X_topi (show (wC t nG (sO 5 i (some (F i)) (guC t F i h c k (sFa i 6 ((y.2.1 i 6) + (nI 1)) y)))) 7 i = nI (F i) by refine (congrFun (cr_out (by omega)) _).trans ?_; first | exact hF7 | (simp only [sM, sFa, sCf, sO, sTw, sFr, sBz]; rw [up2_row (by omega)]; exact hF7) | (simp only [sM, sFa, sCf, sO, sTw, sFr, sBz]; rw [up2_row (by omega), up2_row (by omega)]; exact hF7) | (simp only [sM, sFa, sCf, sO, sTw, sFr, sBz]; simp [up2]; exact hF7)) ?_
              refine X_ishl dX2_takeOff_100 ?_
              refine X_ior dX2_takeOff_101 ?_
              refine X_puti dX2_takeOff_102 fkX2_61 rfl rfl (sck_0 hC) ?_
              refine X_mi (cw_bz (mkB_or (by omega))) ?_
              refine X_iinc (v := nI (i + 1)) dX2_takeOff_105 rfl (nI_1 _) (by decide) ?_
              refine X_goto 2 dX2_takeOff_108 (by decide) ?_
              refine X_L [(3, .int (nI (i + 1))), (0, .ref t), (1, .int (nI h)), (2, .int un)] ⟨rfl, rfl, rfl, rfl, trivial⟩ ?_
              rw [show toS t F un h i y = sBz (ud (guC t F i h c k (sFa i 6 ((y.2.1 i 6) + (nI 1)) y)).2.2.2.2.2.2.2 (F i) true) (sO 5 i (some (F i)) (guC t F i h c k (sFa i 6 ((y.2.1 i 6) + (nI 1)) y))) from by unfold toS; rw [hc]; dsimp only; rw [hk, uN_nI (by omega), if_pos ⟨by omega, by first | assumption | (apply Int32.not_lt.mp; assumption)⟩]; first | rfl | (rw [guC_q.2.2.2.2.1]; rfl)] at hn
              exact hn
    | none =>
      refine X_iload_n dX2_takeOff_2 rfl ?_
      refine X_aload_n dX2_takeOff_3 rfl ?_
      refine X_getr (a := 3) dX2_takeOff_4 fkX2_33 rfl (sck_0 hC) (scr_0 hC) ?_
      refine X_geti dX2_takeOff_7 fkX2_50 rfl (k_3 hSh) ?_
      refine X_topi (show (wC t nG y) 3 10 = nI nG by refine (congrFun (cr_out (by omega)) _).trans ?_; first | exact hPy.2.1 | (simp only [sM, sFa, sCf, sO, sTw, sFr, sBz]; rw [up2_row (by omega)]; exact hPy.2.1) | (simp only [sM, sFa, sCf, sO, sTw, sFr, sBz]; rw [up2_row (by omega), up2_row (by omega)]; exact hPy.2.1) | (simp only [sM, sFa, sCf, sO, sTw, sFr, sBz]; simp [up2]; exact hPy.2.1)) ?_
      refine X_icmp_geN (a := i) (b := nG) 111 dX2_takeOff_10 (by decide) (by omega) (by omega) (fun h_5 => ?_) (fun h_5 => ?_)
      · exact absurd hi (by omega)
      · refine X_aload_n dX2_takeOff_13 rfl ?_
        refine X_getr (a := t + 3) dX2_takeOff_14 fkX2_18 rfl (sck_0 hC) (scr_5 hC) ?_
        refine X_iload_n dX2_takeOff_17 rfl ?_
        refine X_iald i dX2_takeOff_18 (sck_3 hC) rfl (by omega) ?_
        refine X_topi (show (wC t nG y) (t + 3) i = -1 by refine (cr_o3 (by omega)).trans ?_; first | exact (show oI (y.2.2.2.1 3 i) = -1 by rw [hc]; rfl) | (simp only [sM, sFa, sCf, sO, sTw, sFr, sBz]; rw [up2_row (by omega)]; exact (show oI (y.2.2.2.1 3 i) = -1 by rw [hc]; rfl)) | (simp only [sM, sFa, sCf, sO, sTw, sFr, sBz]; rw [up2_row (by omega), up2_row (by omega)]; exact (show oI (y.2.2.2.1 3 i) = -1 by rw [hc]; rfl)) | (simp only [sM, sFa, sCf, sO, sTw, sFr, sBz]; simp [up2]; exact (show oI (y.2.2.2.1 3 i) = -1 by rw [hc]; rfl))) ?_
        refine X_iconst (v := -1) dX2_takeOff_19 (by decide) ?_
        refine X_icmp_eq 105 dX2_takeOff_20 (by decide) (fun h_6 => ?_) (fun h_6 => ?_)
        · refine X_iinc (v := nI (i + 1)) dX2_takeOff_105 rfl (nI_1 _) (by decide) ?_
          refine X_goto 2 dX2_takeOff_108 (by decide) ?_
          refine X_L [(3, .int (nI (i + 1))), (0, .ref t), (1, .int (nI h)), (2, .int un)] ⟨rfl, rfl, rfl, rfl, trivial⟩ ?_
          rw [show toS t F un h i y = y from by unfold toS; rw [hc]] at hn
          exact hn
        · exact absurd rfl h_6
  · intro y hI
    have hPy := PoolC_fr hP hI.1 ht
    have hpy : y.1 t 10 = bI (decide (t = 57)) := (hI.1 _ _ (by omega)).trans hpa
    refine X_iload_n dX2_takeOff_2 rfl ?_
    refine X_aload_n dX2_takeOff_3 rfl ?_
    refine X_getr (a := 3) dX2_takeOff_4 fkX2_33 rfl (sck_0 hC) (scr_0 hC) ?_
    refine X_geti dX2_takeOff_7 fkX2_50 rfl (k_3 hSh) ?_
    refine X_topi (show (wC t nG y) 3 10 = nI nG by refine (congrFun (cr_out (by omega)) _).trans ?_; first | exact hPy.2.1 | (simp only [sM, sFa, sCf, sO, sTw, sFr, sBz]; rw [up2_row (by omega)]; exact hPy.2.1) | (simp only [sM, sFa, sCf, sO, sTw, sFr, sBz]; rw [up2_row (by omega), up2_row (by omega)]; exact hPy.2.1) | (simp only [sM, sFa, sCf, sO, sTw, sFr, sBz]; simp [up2]; exact hPy.2.1)) ?_
    refine X_icmp_geN (a := nG) (b := nG) 111 dX2_takeOff_10 (by decide) (by omega) (by omega) (fun h_7 => ?_) (fun h_7 => ?_)
    · exact X_vret dX2_takeOff_111 rfl ⟨rfl, rfl, by rw [← hI.2.2], rfl⟩
    · exact absurd h_7 (by omega)

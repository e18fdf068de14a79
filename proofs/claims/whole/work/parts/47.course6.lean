/-! ===== a Course's run ===== -/
def rnS (t nC nG go : Nat) (F T cm ord : Nat → Nat) (un : Int32) (h : Nat) (y : CS) : CS :=
  if y.2.2.2.2.2.2.2 h = true then swC t nC nG F T ord h (lpS (arS t nC F T cm ord h) 0 nG (if gB go h then lpS (toS t F un h) 0 nG (lpS (lvS t nG F T h) 0 nG y) else lpS (lvS t nG F T h) 0 nG y)) else y
def preH (t nC nG go : Nat) (m : pMI) (F T cm ord : Nat → Nat) (un : Int32) (h : Nat) (y : CS) : Prop :=
  FrC t m y ∧ ktL t nC nG T h y ∧ ktM nG cm y ∧
  (fun z : CS => z.2.2.2.2.2.1.length ≤ 8 ∧ (∀ b, b < nG → ∀ v, z.2.2.2.1 5 b = some v → v < 24) ∧ ktW nG h (lpS (apS t nG ord h) 0 nG z)) (lpS (arS t nC F T cm ord h) 0 nG (if gB go h then lpS (toS t F un h) 0 nG (lpS (lvS t nG F T h) 0 nG y) else lpS (lvS t nG F T h) 0 nG y))
theorem ktM_gu {t nG : Nat} {cm F : Nat → Nat} {b h c k : Nat} {x : CS} (h1 : ktM nG cm x) : ktM nG cm (guC t F b h c k x) := fun a ha => by
  rw [guC_q.2.2.2.2.2.1]; unfold up2; rw [if_neg (by omega), if_neg (by omega)]; exact h1 a ha
theorem ktM_ew {t nG : Nat} {cm : Nat → Nat} {b h v : Nat} {x : CS} (h1 : ktM nG cm x) : ktM nG cm (ewC t b h v x) := fun a ha => by
  rw [ewC_q.2.2.2.1]; unfold up2; rw [if_neg (by omega)]; exact h1 a ha
theorem ktM_lv {t nG : Nat} {F T cm : Nat → Nat} {h b : Nat} {y : CS} (ho : ktM nG cm y) : ktM nG cm (lvS t nG F T h b y) := by
  unfold lvS
  split
  · split
    · exact ktM_gu ho
    · split
      · exact ktM_ew ho
      · exact ho
  · exact ho
theorem ktM_fa {nG : Nat} {cm : Nat → Nat} {b j : Nat} {v : Int32} {x : CS} (h1 : ktM nG cm x) (hj : j ≠ 0) : ktM nG cm (sFa b j v x) := fun a ha => by
  show up2 x.2.1 b j v a 0 = _
  unfold up2; rw [if_neg (by omega)]; exact h1 a ha
theorem ktM_to {t nG : Nat} {F cm : Nat → Nat} {un : Int32} {h b : Nat} {y : CS} (ho : ktM nG cm y) : ktM nG cm (toS t F un h b y) := by
  unfold toS
  split
  · exact ho
  · split
    · exact ktM_gu (x := sFa b 6 (y.2.1 b 6 + nI 1) y) (ktM_fa ho (by omega))
    · exact ho
theorem rn_ok {t nC nG go : Nat} {m : pMI} {F T cm ord : Nat → Nat} {un : Int32} {h : Nat} {y : CS} (hf : FrC t m y) : FrC t m (rnS t nC nG go F T cm ord un h y) := by
  have a1 : FrC t m (lpS (lvS t nG F T h) 0 nG y) := lpS_inv (fun _ s => FrC t m s) (e := nG) (fun i s _ hs => by
    unfold lvS
    split
    · split
      · exact FrC_gu hs
      · split
        · exact FrC_ew (FrC_q hs)
        · exact hs
    · exact hs) nG 0 _ (by omega) hf
  have a2 : FrC t m (lpS (toS t F un h) 0 nG (lpS (lvS t nG F T h) 0 nG y)) := lpS_inv (fun _ s => FrC t m s) (e := nG) (fun i s _ hs => by
    unfold toS
    split
    · exact hs
    · split
      · intro a j haj
        show (guC t F i h _ (uN (s.1 (t + 4) i)) (sFa i 6 (s.2.1 i 6 + nI 1) s)).1 a j = _
        rw [guC_q.1]; exact hs a j haj
      · exact hs) nG 0 _ (by omega) a1
  have a3 : ∀ z, FrC t m z → FrC t m (lpS (arS t nC F T cm ord h) 0 nG z) := fun z hz => lpS_inv (fun _ s => FrC t m s) (e := nG) (fun i s _ hs => by
    unfold arS
    split
    · split
      · exact FrC_e hs rfl
      · exact FrC_m (FrC_bt hs) (Or.inr (Or.inr ⟨rfl, rfl⟩))
    · exact hs) nG 0 _ (by omega) hz
  have a4 : ∀ n z, FrC t m z → FrC t m (dnS fzC (fsC t nC nG F T h) n z) := fun n => by
    induction n with
    | zero => intro z hz; exact hz
    | succ n ih =>
      intro z hz
      unfold dnS
      split
      · exact hz
      · refine ih _ ?_
        unfold fsC
        split
        · exact hz
        · exact FrC_bt (FrC_ew (FrC_q hz))
  have a5 : ∀ z, FrC t m z → FrC t m (lpS (apS t nG ord h) 0 nG z) := fun z hz => lpS_inv (fun _ s => FrC t m s) (e := nG) (fun i s _ hs => (ap_ok hs).1) nG 0 _ (by omega) hz
  unfold rnS
  split
  · unfold swC
    refine a4 _ _ (a5 _ (a3 _ ?_))
    split
    · exact a2
    · exact a1
  · exact hf
def lostC (m : pMI) (y : CS) (b : Nat) : Int32 := if 0 < m 6 b - y.2.1 b 0 then m 6 b - y.2.1 b 0 else nI 0
def rkS (t : Nat) (b : Nat) (y : CS) : CS := sFa b 4 (y.2.1 b 3 - y.1 9 b * lostC y.1 y b - y.1 3 8 * y.2.1 b 5) y
set_option maxRecDepth 100000 in
set_option maxHeartbeats 4000000 in
theorem c_sleepLostBy (Γ : pTG) (g : pGG) (ml : pML) (hSh : Sh g) (t : Nat) (hC : ShC g t) (ht : 32 ≤ t) (nG : Nat) (x : CS) (b : Nat) (hb : b < 8) : cI Γ 1 mX2_sleepLostBy [.ref t, .int (nI b)] g (wC t nG x) ml (lostC x.1 x b) (wC t nG x) := by
  refine cI_of (by decide +kernel) (Nat.le_of_ble_eq_true rfl) ?_
  refine X_aload_n dX2_sleepLostBy_0 rfl ?_
  refine X_getr (a := 3) dX2_sleepLostBy_1 fkX2_33 rfl (sck_0 hC) (scr_0 hC) ?_
  refine X_getr (a := 6) dX2_sleepLostBy_4 fkX2_141 rfl (k_3 hSh) (r_3_2 hSh) ?_
  refine X_iload_n dX2_sleepLostBy_7 rfl ?_
  refine X_iald b dX2_sleepLostBy_8 (k_6 hSh) rfl (by omega) ?_
  refine X_topi (show (wC t nG x) 6 b = x.1 6 b by refine (congrFun (cr_out (by omega)) _).trans ?_; first | rfl | (simp only [sM, sFa, sCf, sO, sTw, sFr, sBz]; rw [up2_row (by omega)]) | (simp only [sM, sFa, sCf, sO, sTw, sFr, sBz]; rw [up2_row (by omega), up2_row (by omega)]) | simp [sM, sFa, sCf, sO, sTw, sFr, sBz, up2, ud]) ?_
  refine X_aload_n dX2_sleepLostBy_9 rfl ?_
  refine X_getr (a := t + 1) dX2_sleepLostBy_10 fkX2_9 rfl (sck_0 hC) (scr_1 hC) ?_
  refine X_iload_n dX2_sleepLostBy_13 rfl ?_
  refine X_bipush (v := nI 8) dX2_sleepLostBy_14 (by decide) ?_
  refine X_imul dX2_sleepLostBy_16 ?_
  refine X_topi (pk_mul b 8) ?_
  refine X_iconst (v := nI 0) dX2_sleepLostBy_17 (by decide) ?_
  refine X_iadd dX2_sleepLostBy_18 ?_
  refine X_topi (nI_add (b * 8) 0) ?_
  refine X_iald ((b * 8) + 0) dX2_sleepLostBy_19 (sck_1 hC) rfl (by omega) ?_
  refine X_topi (show (wC t nG x) (t + 1) ((b * 8) + 0) = x.2.1 b 0 by refine (cr_fa (by omega)).trans ?_; first | rfl | (simp only [sM, sFa, sCf, sO, sTw, sFr, sBz]; rw [up2_row (by omega)]) | (simp only [sM, sFa, sCf, sO, sTw, sFr, sBz]; rw [up2_row (by omega), up2_row (by omega)]) | simp [sM, sFa, sCf, sO, sTw, sFr, sBz, up2, ud]) ?_
  refine X_isub dX2_sleepLostBy_20 ?_
  refine X_istore_n dX2_sleepLostBy_21 (by decide) ?_
  refine X_iload_n dX2_sleepLostBy_22 rfl ?_
  refine X_if_le 30 dX2_sleepLostBy_23 (by decide) (fun h_1 => ?_) (fun h_1 => ?_)
  · refine X_iconst (v := nI 0) dX2_sleepLostBy_30 (by decide) ?_
    exact X_iret dX2_sleepLostBy_31 rfl ⟨by unfold lostC; first | rw [if_pos (by first | assumption | (apply Int32.not_le.mp; assumption))] | rw [if_neg (by first | assumption | (apply Int32.not_lt.mpr; assumption))], rfl, rfl, rfl⟩
  · refine X_iload_n dX2_sleepLostBy_26 rfl ?_
    refine X_goto 31 dX2_sleepLostBy_27 (by decide) ?_
    exact X_iret dX2_sleepLostBy_31 rfl ⟨by unfold lostC; first | rw [if_pos (by first | assumption | (apply Int32.not_le.mp; assumption))] | rw [if_neg (by first | assumption | (apply Int32.not_lt.mpr; assumption))], rfl, rfl, rfl⟩
set_option maxRecDepth 100000 in
set_option maxHeartbeats 4000000 in
theorem c_reckonNet (Γ : pTG) (g : pGG) (ml : pML) (hSh : Sh g) (t : Nat) (hC : ShC g t) (ht : 32 ≤ t) (nG : Nat) (x : CS) (hG : x.1 3 10 = nI nG) (hn8 : nG ≤ 8) : cV Γ 2 mX2_reckonNet [.ref t] g (wC t nG x) ml (wC t nG (lpS (rkS t) 0 nG x)) ml := by
  refine cV_of (by decide +kernel) (Nat.le_of_ble_eq_true rfl) ?_
  refine X_iconst (v := nI 0) dX2_reckonNet_0 (by decide) ?_
  refine X_istore_n dX2_reckonNet_1 (by decide) ?_
  refine X_L [(1, .int (nI 0)), (0, .ref t)] ⟨rfl, rfl, trivial⟩ ?_
  refine X_for2 (σ := CS) 2 (fun i y => [(1, .int (nI i)), (0, .ref t)]) (fun y => wC t nG y) (fun y => ml) (fun i y => rkS t i y) (fun i y => y.1 = x.1 ∧ y = lpS (rkS t) 0 i x) nG ?_ nG 0 (x) (by omega) ⟨rfl, rfl⟩ ?_
  · intro i y hi hI
    refine ⟨⟨hI.1, by rw [lpS_snoc, ← hI.2, Nat.zero_add]⟩, fun hn => ?_⟩
    refine X_iload_n dX2_reckonNet_2 rfl ?_
    refine X_aload_n dX2_reckonNet_3 rfl ?_
    refine X_getr (a := 3) dX2_reckonNet_4 fkX2_33 rfl (sck_0 hC) (scr_0 hC) ?_
    refine X_geti dX2_reckonNet_7 fkX2_50 rfl (k_3 hSh) ?_
    refine X_topi (show (wC t nG y) 3 10 = nI nG by refine (congrFun (cr_out (by omega)) _).trans ?_; first | exact ((congrFun (congrFun hI.1 3) 10).trans hG) | (simp only [sM, sFa, sCf, sO, sTw, sFr, sBz]; rw [up2_row (by omega)]; exact ((congrFun (congrFun hI.1 3) 10).trans hG)) | (simp only [sM, sFa, sCf, sO, sTw, sFr, sBz]; rw [up2_row (by omega), up2_row (by omega)]; exact ((congrFun (congrFun hI.1 3) 10).trans hG)) | (simp only [sM, sFa, sCf, sO, sTw, sFr, sBz]; simp [up2]; exact ((congrFun (congrFun hI.1 3) 10).trans hG))) ?_
    refine X_icmp_geN (a := i) (b := nG) 73 dX2_reckonNet_10 (by decide) (by omega) (by omega) (fun h_1 => ?_) (fun h_1 => ?_)
    · exact absurd hi (by omega)
    · refine X_iload_n dX2_reckonNet_13 rfl ?_
      refine X_bipush (v := nI 8) dX2_reckonNet_14 (by decide) ?_
      refine X_imul dX2_reckonNet_16 ?_
      refine X_topi (pk_mul i 8) ?_
      refine X_istore_n dX2_reckonNet_17 (by decide) ?_
      refine X_aload_n dX2_reckonNet_18 rfl ?_
      refine X_getr (a := t + 1) dX2_reckonNet_19 fkX2_9 rfl (sck_0 hC) (scr_1 hC) ?_
      refine X_iload_n dX2_reckonNet_22 rfl ?_
      refine X_iconst (v := nI 4) dX2_reckonNet_23 (by decide) ?_
      refine X_iadd dX2_reckonNet_24 ?_
      refine X_topi (nI_add (i * 8) 4) ?_
      refine X_aload_n dX2_reckonNet_25 rfl ?_
      refine X_getr (a := t + 1) dX2_reckonNet_26 fkX2_9 rfl (sck_0 hC) (scr_1 hC) ?_
      refine X_iload_n dX2_reckonNet_29 rfl ?_
      refine X_iconst (v := nI 3) dX2_reckonNet_30 (by decide) ?_
      refine X_iadd dX2_reckonNet_31 ?_
      refine X_topi (nI_add (i * 8) 3) ?_
      refine X_iald ((i * 8) + 3) dX2_reckonNet_32 (sck_1 hC) rfl (by omega) ?_
      refine X_topi (show (wC t nG y) (t + 1) ((i * 8) + 3) = y.2.1 i 3 by refine (cr_fa (by omega)).trans ?_; first | rfl | (simp only [sM, sFa, sCf, sO, sTw, sFr, sBz]; rw [up2_row (by omega)]) | (simp only [sM, sFa, sCf, sO, sTw, sFr, sBz]; rw [up2_row (by omega), up2_row (by omega)]) | simp [sM, sFa, sCf, sO, sTw, sFr, sBz, up2, ud]) ?_
      refine X_aload_n dX2_reckonNet_33 rfl ?_
      refine X_getr (a := 3) dX2_reckonNet_34 fkX2_33 rfl (sck_0 hC) (scr_0 hC) ?_
      refine X_getr (a := 9) dX2_reckonNet_37 fkX2_131 rfl (k_3 hSh) (r_3_5 hSh) ?_
      refine X_iload_n dX2_reckonNet_40 rfl ?_
      refine X_iald i dX2_reckonNet_41 (k_9 hSh) rfl (by omega) ?_
      refine X_topi (show (wC t nG y) 9 i = y.1 9 i by refine (congrFun (cr_out (by omega)) _).trans ?_; first | rfl | (simp only [sM, sFa, sCf, sO, sTw, sFr, sBz]; rw [up2_row (by omega)]) | (simp only [sM, sFa, sCf, sO, sTw, sFr, sBz]; rw [up2_row (by omega), up2_row (by omega)]) | simp [sM, sFa, sCf, sO, sTw, sFr, sBz, up2, ud]) ?_
      refine X_aload_n dX2_reckonNet_42 rfl ?_
      refine X_iload_n dX2_reckonNet_43 rfl ?_
      refine X_callVI dX2_reckonNet_44 mkX2_134 (sck_0 hC) (c_sleepLostBy Γ g ml hSh t hC ht nG y i (by omega)) rfl rfl (by decide) (Nat.le_of_ble_eq_true rfl) ?_
      refine X_imul dX2_reckonNet_47 ?_
      refine X_isub dX2_reckonNet_48 ?_
      refine X_aload_n dX2_reckonNet_49 rfl ?_
      refine X_getr (a := 3) dX2_reckonNet_50 fkX2_33 rfl (sck_0 hC) (scr_0 hC) ?_
      refine X_geti dX2_reckonNet_53 fkX2_138 rfl (k_3 hSh) ?_
      refine X_topi (show (wC t nG y) 3 8 = y.1 3 8 by refine (congrFun (cr_out (by omega)) _).trans ?_; first | rfl | (simp only [sM, sFa, sCf, sO, sTw, sFr, sBz]; rw [up2_row (by omega)]) | (simp only [sM, sFa, sCf, sO, sTw, sFr, sBz]; rw [up2_row (by omega), up2_row (by omega)]) | simp [sM, sFa, sCf, sO, sTw, sFr, sBz, up2, ud]) ?_
      refine X_aload_n dX2_reckonNet_56 rfl ?_
      refine X_getr (a := t + 1) dX2_reckonNet_57 fkX2_9 rfl (sck_0 hC) (scr_1 hC) ?_
      refine X_iload_n dX2_reckonNet_60 rfl ?_
      refine X_iconst (v := nI 5) dX2_reckonNet_61 (by decide) ?_
      refine X_iadd dX2_reckonNet_62 ?_
      refine X_topi (nI_add (i * 8) 5) ?_
      refine X_iald ((i * 8) + 5) dX2_reckonNet_63 (sck_1 hC) rfl (by omega) ?_
      refine X_topi (show (wC t nG y) (t + 1) ((i * 8) + 5) = y.2.1 i 5 by refine (cr_fa (by omega)).trans ?_; first | rfl | (simp only [sM, sFa, sCf, sO, sTw, sFr, sBz]; rw [up2_row (by omega)]) | (simp only [sM, sFa, sCf, sO, sTw, sFr, sBz]; rw [up2_row (by omega), up2_row (by omega)]) | simp [sM, sFa, sCf, sO, sTw, sFr, sBz, up2, ud]) ?_
      refine X_imul dX2_reckonNet_64 ?_
      refine X_isub dX2_reckonNet_65 ?_
      refine X_iast ((i * 8) + 4) dX2_reckonNet_66 (sck_1 hC) rfl (by omega) ?_
      refine X_mi (cw_fa (by omega)) ?_
      refine X_iinc (v := nI (i + 1)) dX2_reckonNet_67 rfl (nI_1 _) (by decide) ?_
      refine X_goto 2 dX2_reckonNet_70 (by decide) ?_
      refine X_L [(1, .int (nI (i + 1))), (0, .ref t)] ⟨rfl, rfl, trivial⟩ ?_
      exact hn
  · intro y hI
    refine X_iload_n dX2_reckonNet_2 rfl ?_
    refine X_aload_n dX2_reckonNet_3 rfl ?_
    refine X_getr (a := 3) dX2_reckonNet_4 fkX2_33 rfl (sck_0 hC) (scr_0 hC) ?_
    refine X_geti dX2_reckonNet_7 fkX2_50 rfl (k_3 hSh) ?_
    refine X_topi (show (wC t nG y) 3 10 = nI nG by refine (congrFun (cr_out (by omega)) _).trans ?_; first | exact ((congrFun (congrFun hI.1 3) 10).trans hG) | (simp only [sM, sFa, sCf, sO, sTw, sFr, sBz]; rw [up2_row (by omega)]; exact ((congrFun (congrFun hI.1 3) 10).trans hG)) | (simp only [sM, sFa, sCf, sO, sTw, sFr, sBz]; rw [up2_row (by omega), up2_row (by omega)]; exact ((congrFun (congrFun hI.1 3) 10).trans hG)) | (simp only [sM, sFa, sCf, sO, sTw, sFr, sBz]; simp [up2]; exact ((congrFun (congrFun hI.1 3) 10).trans hG))) ?_
    refine X_icmp_geN (a := nG) (b := nG) 73 dX2_reckonNet_10 (by decide) (by omega) (by omega) (fun h_2 => ?_) (fun h_2 => ?_)
    · exact X_vret dX2_reckonNet_73 rfl ⟨rfl, rfl, by rw [← hI.2], rfl⟩
    · exact absurd h_2 (by omega)
def rnC (t nC nG go l8 l9 : Nat) (F T cm ord : Nat → Nat) (un : Int32) (m : pMI) (h : Nat) : CS := lpS (rnS t nC nG go F T cm ord un) 0 h (clC t nC nG go l8 l9 cm T m)
def runC (t nC nG go l8 l9 : Nat) (F T cm ord : Nat → Nat) (un : Int32) (m : pMI) : CS := lpS (rkS t) 0 nG (rnC t nC nG go l8 l9 F T cm ord un m 24)
/-- what a Course's world keeps from its beginning -/
def frC (t nC go l8 l9 : Nat) (m : pMI) : pMI := (cl0 t nC go l8 l9 m).1
theorem cl_fr {t nC nG go l8 l9 : Nat} {cm T : Nat → Nat} {m : pMI} : FrC t (frC t nC go l8 l9 m) (clC t nC nG go l8 l9 cm T m) := by
  unfold clC; exact lpS_inv (fun _ s => FrC t (frC t nC go l8 l9 m) s) (e := nG) (fun _ _ _ h => FrC_cg h) nG 0 _ (by omega) FrC_r
theorem rn_fr {t nC nG go l8 l9 : Nat} {F T cm ord : Nat → Nat} {un : Int32} {m : pMI} {h : Nat} : FrC t (frC t nC go l8 l9 m) (rnC t nC nG go l8 l9 F T cm ord un m h) := by
  unfold rnC; exact lpS_inv (fun _ s => FrC t (frC t nC go l8 l9 m) s) (e := h) (fun _ _ _ h => rn_ok h) h 0 _ (by omega) cl_fr
theorem frC_row {t nC go l8 l9 i : Nat} {m : pMI} (h : i < t ∨ t + 9 < i ∨ i = t + 6) : frC t nC go l8 l9 m i = m i := cl0_out h
theorem frC_t {t nC go l8 l9 j : Nat} {m : pMI} (h : j ≠ 11 ∧ j ≠ 12 ∧ j ≠ 13 ∧ j ≠ 14) : frC t nC go l8 l9 m t j = m t j := (up2_n h.2.2.1).trans (clW_t ⟨h.1, h.2.1, h.2.2.2⟩)
theorem pool_fr {t nC nG go l8 l9 : Nat} {m : pMI} {F T : Nat → Nat} (hP : PoolC m nC nG F T) (ht : 32 ≤ t) : PoolC (frC t nC go l8 l9 m) nC nG F T := by
  unfold PoolC
  rw [frC_row (by omega), frC_row (by omega), frC_row (by omega)]
  exact hP
set_option maxRecDepth 100000 in
set_option maxHeartbeats 4000000 in
theorem c_Crun (Γ : pTG) (g : pGG) (mi : pMI) (ml : pML) (hSh : Sh g) (t : Nat) (hC : ShC g t) (ht : 32 ≤ t) (nC nG go l8 l9 hv : Nat) (F T cm ord : Nat → Nat) (un : Int32) (hP : PoolC mi nC nG F T) (hgo : mi 3 6 = nI go) (hg24 : go < 24) (hk8 : g.2.1 (t + 8) = (20, l8)) (hk9 : g.2.1 (t + 9) = (20, l9)) (hl8 : l8 ≤ 192) (hl9 : l9 ≤ 24) (hkv : g.2.1 hv = (20, 8)) (hvt : hv < t ∨ t + 9 < hv) (hcm : ∀ b, b < nG → mi hv b = nI (cm b) ∧ cm b < 24) (hpa : mi t 10 = bI (decide (t = 57))) (hod : ∀ i, i < nG → mi (t + 6) i = nI (ord i) ∧ ord i < nG) (hW : ∀ b c h, b < nG → c < nC → h < 24 → -1 < vC mi F T b h c)
    (hk : ∀ h, h < 24 → (rnC t nC nG go l8 l9 F T cm ord un mi h).2.2.2.2.2.2.2 h = true → preH t nC nG go (frC t nC go l8 l9 mi) F T cm ord un h (rnC t nC nG go l8 l9 F T cm ord un mi h)) : cV Γ 5 mX2_run [.ref t, .ref hv, .int un] g mi ml (wC t nG (runC t nC nG go l8 l9 F T cm ord un mi)) ml := by
  refine cV_of (by decide +kernel) (Nat.le_of_ble_eq_true rfl) ?_
  have hn8 := hP.2.2.2.1
  have hC8 := hP.2.2.1
  have hPF := pool_fr (t := t) (go := go) (l8 := l8) (l9 := l9) hP ht
  have hpf : ∀ y : CS, FrC t (frC t nC go l8 l9 mi) y → y.1 t 10 = bI (decide (t = 57)) := fun y hy => by rw [hy t 10 (by omega), frC_t (by omega)]; exact hpa
  have hSf : ∀ (y : CS) (h : Nat), FrC t (frC t nC go l8 l9 mi) y → h < 24 → ktS t nC nG y.1 F T ord h := fun y h hy hh => ⟨fun i hi => by rw [hy (t + 6) i (by omega), frC_row (by omega)]; exact hod i hi, fun b c hb hc => by rw [vC_fr hy ht]; have e : vC (frC t nC go l8 l9 mi) F T b h c = vC mi F T b h c := by { unfold vC; rw [frC_row (by omega), frC_row (by omega)] }; rw [e]; exact hW b c h hb hc hh⟩
  refine X_aload_n dX2_run_0 rfl ?_
  refine X_aload_n dX2_run_1 rfl ?_
  refine X_callVV dX2_run_2 mkX2_57 (sck_0 hC) (c_Cclear2 Γ g mi ml hSh t hC ht nC nG go l8 l9 hv F T cm hP hgo hg24 hk8 hk9 hl8 hl9 hkv hvt hcm) rfl rfl (by decide) (Nat.le_of_ble_eq_true rfl) ?_
  refine X_iconst (v := nI 0) dX2_run_5 (by decide) ?_
  refine X_istore_n dX2_run_6 (by decide) ?_
  refine X_L [(3, .int (nI 0)), (0, .ref t), (1, .ref hv), (2, .int un)] ⟨rfl, rfl, rfl, rfl, trivial⟩ ?_
  refine X_for3 7 (fun i => [(3, .int (nI i)), (0, .ref t), (1, .ref hv), (2, .int un)]) (fun i => wC t nG (rnC t nC nG go l8 l9 F T cm ord un mi i)) 24 ?_ 24 0 (by omega) ?_
  · intro i hi hn
    rw [show rnC t nC nG go l8 l9 F T cm ord un mi (i + 1) = rnS t nC nG go F T cm ord un i (rnC t nC nG go l8 l9 F T cm ord un mi i) by unfold rnC; rw [lpS_snoc, Nat.zero_add]] at hn
    refine X_iload_n dX2_run_7 rfl ?_
    refine X_bipush (v := nI 24) dX2_run_8 (by decide) ?_
    refine X_icmp_geN (a := i) (b := 24) 62 dX2_run_10 (by decide) (by omega) (by omega) (fun h_1 => ?_) (fun h_1 => ?_)
    · exact absurd hi (by omega)
    · refine X_aload_n dX2_run_13 rfl ?_
      refine X_geti dX2_run_14 fkX2_61 rfl (sck_0 hC) ?_
      refine X_topi (show (wC t nG (rnC t nC nG go l8 l9 F T cm ord un mi i)) t 13 = mkB (rnC t nC nG go l8 l9 F T cm ord un mi i).2.2.2.2.2.2.2 by exact cr_13) ?_
      refine X_iload_n dX2_run_17 rfl ?_
      refine X_ishr dX2_run_18 ?_
      refine X_iconst (v := nI 1) dX2_run_19 (by decide) ?_
      refine X_iand dX2_run_20 ?_
      refine X_topi (mkB_ask (by omega)) ?_
      cases hbz : (rnC t nC nG go l8 l9 F T cm ord un mi i).2.2.2.2.2.2.2 i with
      | false =>
        refine X_if_eq 56 dX2_run_21 (by decide) (fun h_2 => ?_) (fun h_2 => ?_)
        · refine X_iinc (v := nI (i + 1)) dX2_run_56 rfl (nI_1 _) (by decide) ?_
          refine X_goto 7 dX2_run_59 (by decide) ?_
          refine X_L [(3, .int (nI (i + 1))), (0, .ref t), (1, .ref hv), (2, .int un)] ⟨rfl, rfl, rfl, rfl, trivial⟩ ?_
          rw [show rnS t nC nG go F T cm ord un i _ = _ from if_neg (by rw [hbz]; decide)] at hn
          exact hn
        · exact absurd rfl h_2
      | true =>
        have hK := hk i hi hbz
        have hL := lpS_inv (fun _ s => FrC t (frC t nC go l8 l9 mi) s ∧ ktL t nC nG T i s) (f := lvS t nG F T i) (e := nG) (fun _ _ _ h => lv_okC h.1 h.2) nG 0 _ (by omega) ⟨hK.1, hK.2.1⟩
        have hLm := lpS_inv (fun _ s => ktM nG cm s) (f := lvS t nG F T i) (e := nG) (fun _ _ _ h => ktM_lv h) nG 0 _ (by omega) hK.2.2.1
        refine X_if_eq 56 dX2_run_21 (by decide) (fun h_3 => ?_) (fun h_3 => ?_)
        · exact absurd h_3 (by decide)
        · refine X_aload_n dX2_run_24 rfl ?_
          refine X_iload_n dX2_run_25 rfl ?_
          refine X_callVV dX2_run_26 mkX2_64 (sck_0 hC) (c_leave Γ g ml hSh t hC ht nG (rnC t nC nG go l8 l9 F T cm ord un mi i) nC F T (PoolC_fr hPF hK.1 ht) (hpf _ hK.1) i (by omega) hK.2.1) rfl rfl (by decide) (Nat.le_of_ble_eq_true rfl) ?_
          refine X_aload_n dX2_run_29 rfl ?_
          refine X_getr (a := 3) dX2_run_30 fkX2_33 rfl (sck_0 hC) (scr_0 hC) ?_
          refine X_iload_n dX2_run_33 rfl ?_
          refine X_callVI dX2_run_34 mkX2_68 (k_3 hSh) (c_goesBy Γ g (wC t nG (lpS (lvS t nG F T i) 0 nG (rnC t nC nG go l8 l9 F T cm ord un mi i))) ml hSh i go (show (wC t nG (lpS (lvS t nG F T i) 0 nG (rnC t nC nG go l8 l9 F T cm ord un mi i))) 3 6 = nI go by rw [cr_out (by omega), hL.1 3 6 (by omega), frC_row (by omega)]; exact hgo) (by omega) (by omega)) rfl rfl (by decide) (Nat.le_of_ble_eq_true rfl) ?_
          cases hgb : gB go i with
          | false =>
            have hK4 := hK.2.2.2
            rw [hgb, if_neg (by decide)] at hK4
            have hA := (And.intro hL.1 hLm)
            have hA2 := (lpS_inv (fun _ s => FrC t (frC t nC go l8 l9 mi) s ∧ ktM nG cm s) (f := arS t nC F T cm ord i) (e := nG) (fun _ _ _ h => ar_okC h.1 h.2) nG 0 _ (by omega) hA).1
            refine X_if_eq 46 dX2_run_37 (by decide) (fun h_4 => ?_) (fun h_4 => ?_)
            · refine X_aload_n dX2_run_46 rfl ?_
              refine X_iload_n dX2_run_47 rfl ?_
              refine X_callVV dX2_run_48 mkX2_76 (sck_0 hC) (c_arrive Γ g ml hSh t hC ht nG (lpS (lvS t nG F T i) 0 nG (rnC t nC nG go l8 l9 F T cm ord un mi i)) nC F T (PoolC_fr hPF hA.1 ht) (hpf _ hA.1) i (by omega) cm ord (fun b hb => (hcm b hb).2) (hSf _ i hA.1 (by omega)) hA.2) rfl rfl (by decide) (Nat.le_of_ble_eq_true rfl) ?_
              refine X_aload_n dX2_run_51 rfl ?_
              refine X_iload_n dX2_run_52 rfl ?_
              refine X_callVV dX2_run_53 mkX2_79 (sck_0 hC) (c_seatWaiting Γ g ml hSh t hC ht nG (lpS (arS t nC F T cm ord i) 0 nG (lpS (lvS t nG F T i) 0 nG (rnC t nC nG go l8 l9 F T cm ord un mi i))) nC F T (PoolC_fr hPF hA2 ht) (hpf _ hA2) i (by omega) ord (hSf _ i hA2 (by omega)) hK4.1 hK4.2.1 hK4.2.2) rfl rfl (by decide) (Nat.le_of_ble_eq_true rfl) ?_
              refine X_iinc (v := nI (i + 1)) dX2_run_56 rfl (nI_1 _) (by decide) ?_
              refine X_goto 7 dX2_run_59 (by decide) ?_
              refine X_L [(3, .int (nI (i + 1))), (0, .ref t), (1, .ref hv), (2, .int un)] ⟨rfl, rfl, rfl, rfl, trivial⟩ ?_
              rw [show rnS t nC nG go F T cm ord un i _ = _ from if_pos hbz, hgb] at hn
              rw [if_neg (by decide)] at hn
              exact hn
            · exact absurd rfl h_4
          | true =>
            have hK4 := hK.2.2.2
            rw [hgb, if_pos rfl] at hK4
            have hO := lpS_inv (fun _ s => FrC t (frC t nC go l8 l9 mi) s ∧ ktT t nC nG i s) (f := toS t F un i) (e := nG) (fun _ _ _ h => to_ok h.1 h.2) nG 0 _ (by omega) ⟨hL.1, hL.2.1⟩
            have hOm := lpS_inv (fun _ s => ktM nG cm s) (f := toS t F un i) (e := nG) (fun _ _ _ h => ktM_to h) nG 0 _ (by omega) hLm
            have hA := (And.intro hO.1 hOm)
            have hA2 := (lpS_inv (fun _ s => FrC t (frC t nC go l8 l9 mi) s ∧ ktM nG cm s) (f := arS t nC F T cm ord i) (e := nG) (fun _ _ _ h => ar_okC h.1 h.2) nG 0 _ (by omega) hA).1
            refine X_if_eq 46 dX2_run_37 (by decide) (fun h_5 => ?_) (fun h_5 => ?_)
            · exact absurd h_5 (by decide)
            · refine X_aload_n dX2_run_40 rfl ?_
              refine X_iload_n dX2_run_41 rfl ?_
              refine X_iload_n dX2_run_42 rfl ?_
              refine X_callVV dX2_run_43 mkX2_72 (sck_0 hC) (c_takeOff Γ g ml hSh t hC ht nG (lpS (lvS t nG F T i) 0 nG (rnC t nC nG go l8 l9 F T cm ord un mi i)) nC F T (PoolC_fr hPF hL.1 ht) (hpf _ hL.1) i (by omega) un hL.2.1) rfl rfl (by decide) (Nat.le_of_ble_eq_true rfl) ?_
              refine X_aload_n dX2_run_46 rfl ?_
              refine X_iload_n dX2_run_47 rfl ?_
              refine X_callVV dX2_run_48 mkX2_76 (sck_0 hC) (c_arrive Γ g ml hSh t hC ht nG (lpS (toS t F un i) 0 nG (lpS (lvS t nG F T i) 0 nG (rnC t nC nG go l8 l9 F T cm ord un mi i))) nC F T (PoolC_fr hPF hA.1 ht) (hpf _ hA.1) i (by omega) cm ord (fun b hb => (hcm b hb).2) (hSf _ i hA.1 (by omega)) hA.2) rfl rfl (by decide) (Nat.le_of_ble_eq_true rfl) ?_
              refine X_aload_n dX2_run_51 rfl ?_
              refine X_iload_n dX2_run_52 rfl ?_
              refine X_callVV dX2_run_53 mkX2_79 (sck_0 hC) (c_seatWaiting Γ g ml hSh t hC ht nG (lpS (arS t nC F T cm ord i) 0 nG (lpS (toS t F un i) 0 nG (lpS (lvS t nG F T i) 0 nG (rnC t nC nG go l8 l9 F T cm ord un mi i)))) nC F T (PoolC_fr hPF hA2 ht) (hpf _ hA2) i (by omega) ord (hSf _ i hA2 (by omega)) hK4.1 hK4.2.1 hK4.2.2) rfl rfl (by decide) (Nat.le_of_ble_eq_true rfl) ?_
              refine X_iinc (v := nI (i + 1)) dX2_run_56 rfl (nI_1 _) (by decide) ?_
              refine X_goto 7 dX2_run_59 (by decide) ?_
              refine X_L [(3, .int (nI (i + 1))), (0, .ref t), (1, .ref hv), (2, .int un)] ⟨rfl, rfl, rfl, rfl, trivial⟩ ?_
              rw [show rnS t nC nG go F T cm ord un i _ = _ from if_pos hbz, hgb] at hn
              rw [if_pos rfl] at hn
              exact hn
  · refine X_iload_n dX2_run_7 rfl ?_
    refine X_bipush (v := nI 24) dX2_run_8 (by decide) ?_
    refine X_icmp_geN (a := 24) (b := 24) 62 dX2_run_10 (by decide) (by omega) (by omega) (fun h_6 => ?_) (fun h_6 => ?_)
    · refine X_aload_n dX2_run_62 rfl ?_
      refine X_callVV dX2_run_63 mkX2_82 (sck_0 hC) (c_reckonNet Γ g ml hSh t hC ht nG (rnC t nC nG go l8 l9 F T cm ord un mi 24) (by rw [rn_fr 3 10 (by omega), frC_row (by omega)]; exact hP.2.1) hP.2.2.2.1) rfl rfl (by decide) (Nat.le_of_ble_eq_true rfl) ?_
      exact X_vret dX2_run_66 rfl ⟨rfl, rfl, rfl, rfl⟩
    · exact absurd h_6 (by omega)

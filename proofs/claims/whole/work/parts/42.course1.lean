/-- towels of guest b on chair c from k to h -/
def ptC (t c b k h : Nat) (x : CS) : CS := if t = 57 then lpS (fun j s => sTw c j (nI b) s) k (h - k) x else x
/-- a guest's chair is free from h on -/
def guC (t : Nat) (F : Nat → Nat) (b h c k : Nat) (x : CS) : CS :=
  sO 3 b none (sFr (ud x.2.2.2.2.2.2.1 c true) (ptC t c b k h (sCf c 1 (x.2.2.1 c 1 + nI (h - k - (h - max k (F b)))) (sCf c 0 (x.2.2.1 c 0 + nI (h - max k (F b))) (sFa b 3 (x.2.1 b 3 + sW (x.1 4 c) (x.1 5 c) (max k (F b)) h) (sFa b 2 (x.2.1 b 2 + nI (h - max k (F b))) x))))))
theorem lp_tw {c b : Nat} : ∀ (n k : Nat) (x : CS), (lpS (fun j s => sTw c j (nI b) s) k n x).1 = x.1 ∧ (lpS (fun j s => sTw c j (nI b) s) k n x).2.1 = x.2.1 ∧ (lpS (fun j s => sTw c j (nI b) s) k n x).2.2.1 = x.2.2.1 ∧ (lpS (fun j s => sTw c j (nI b) s) k n x).2.2.2.1 = x.2.2.2.1 ∧ (lpS (fun j s => sTw c j (nI b) s) k n x).2.2.2.2.2 = x.2.2.2.2.2
  | 0, k, x => ⟨rfl, rfl, rfl, rfl, rfl⟩
  | n + 1, k, x => lp_tw n (k + 1) (sTw c k (nI b) x)
theorem ptC_q {t c b k h : Nat} {x : CS} : (ptC t c b k h x).1 = x.1 ∧ (ptC t c b k h x).2.1 = x.2.1 ∧ (ptC t c b k h x).2.2.1 = x.2.2.1 ∧ (ptC t c b k h x).2.2.2.1 = x.2.2.2.1 ∧ (ptC t c b k h x).2.2.2.2.2 = x.2.2.2.2.2 := by
  unfold ptC
  split
  · exact lp_tw _ _ _
  · exact ⟨rfl, rfl, rfl, rfl, rfl⟩
set_option maxRecDepth 100000 in
set_option maxHeartbeats 4000000 in
theorem c_giveUp (Γ : pTG) (g : pGG) (ml : pML) (hSh : Sh g) (t : Nat) (hC : ShC g t) (ht : 32 ≤ t) (nG : Nat) (x : CS) (nC : Nat) (F T : Nat → Nat) (hP : PoolC x.1 nC nG F T) (hpa : x.1 t 10 = bI (decide (t = 57))) (b h c k : Nat) (hg : b < nG) (hc : x.2.2.2.1 3 b = some c) (hcl : c < 8) (hk : x.1 (t + 4) b = nI k) (hkh : k ≤ h) (hh : h < 24) : cV Γ 2 mX2_giveUp [.ref t, .int (nI b), .int (nI h)] g (wC t nG x) ml (wC t nG (guC t F b h c k x)) ml := by
  refine cV_of (by decide +kernel) (Nat.le_of_ble_eq_true rfl) ?_
  have hn8 : nG ≤ 8 := hP.2.2.2.1
  have hFb := hP.2.2.2.2 b hg
  refine X_aload_n dX2_giveUp_0 rfl ?_
  refine X_getr (a := t + 3) dX2_giveUp_1 fkX2_18 rfl (sck_0 hC) (scr_5 hC) ?_
  refine X_iload_n dX2_giveUp_4 rfl ?_
  refine X_iald b dX2_giveUp_5 (sck_3 hC) rfl (by first | omega | (have hz := hP.2.2.2.2 b hg; omega)) ?_
  refine X_topi (show (wC t nG x) (t + 3) b = nI c by refine (cr_o3 (by first | omega | (have hz := hP.2.2.2.2 b hg; omega))).trans ?_; first | exact (show oI (x.2.2.2.1 3 b) = nI c by rw [hc]; rfl) | (simp only [sM, sFa, sCf, sO, sTw, sFr, sBz]; rw [up2_row (by omega)]; exact (show oI (x.2.2.2.1 3 b) = nI c by rw [hc]; rfl)) | (simp only [sM, sFa, sCf, sO, sTw, sFr, sBz]; rw [up2_row (by omega), up2_row (by omega)]; exact (show oI (x.2.2.2.1 3 b) = nI c by rw [hc]; rfl)) | (simp only [sM, sFa, sCf, sO, sTw, sFr, sBz]; simp [up2]; exact (show oI (x.2.2.2.1 3 b) = nI c by rw [hc]; rfl))) ?_
  refine X_istore_n dX2_giveUp_6 (by decide) ?_
  refine X_aload_n dX2_giveUp_7 rfl ?_
  refine X_getr (a := t + 4) dX2_giveUp_8 fkX2_21 rfl (sck_0 hC) (scr_6 hC) ?_
  refine X_iload_n dX2_giveUp_11 rfl ?_
  refine X_iald b dX2_giveUp_12 (sck_4 hC) rfl (by first | omega | (have hz := hP.2.2.2.2 b hg; omega)) ?_
  refine X_topi (show (wC t nG x) (t + 4) b = nI k by refine (cr_4).trans ?_; first | exact hk | (simp only [sM, sFa, sCf, sO, sTw, sFr, sBz]; rw [up2_row (by omega)]; exact hk) | (simp only [sM, sFa, sCf, sO, sTw, sFr, sBz]; rw [up2_row (by omega), up2_row (by omega)]; exact hk) | (simp only [sM, sFa, sCf, sO, sTw, sFr, sBz]; simp [up2]; exact hk)) ?_
  refine X_istore dX2_giveUp_13 (by decide) ?_
  refine X_iload dX2_giveUp_15 rfl ?_
  refine X_aload_n dX2_giveUp_17 rfl ?_
  refine X_getr (a := 3) dX2_giveUp_18 fkX2_33 rfl (sck_0 hC) (scr_0 hC) ?_
  refine X_getr (a := 7) dX2_giveUp_21 fkX2_115 rfl (k_3 hSh) (r_3_3 hSh) ?_
  refine X_iload_n dX2_giveUp_24 rfl ?_
  refine X_iald b dX2_giveUp_25 (k_7 hSh) rfl (by first | omega | (have hz := hP.2.2.2.2 b hg; omega)) ?_
  refine X_topi (show (wC t nG x) 7 b = nI (F b) by refine (congrFun (cr_out (by omega)) _).trans ?_; first | exact (hP.2.2.2.2 b hg).1 | (simp only [sM, sFa, sCf, sO, sTw, sFr, sBz]; rw [up2_row (by omega)]; exact (hP.2.2.2.2 b hg).1) | (simp only [sM, sFa, sCf, sO, sTw, sFr, sBz]; rw [up2_row (by omega), up2_row (by omega)]; exact (hP.2.2.2.2 b hg).1) | (simp only [sM, sFa, sCf, sO, sTw, sFr, sBz]; simp [up2]; exact (hP.2.2.2.2 b hg).1)) ?_
  refine X_join (S := []) 43 (fun v => v = nI (max k (F b))) (fun v hv => ?_) (fun hJ_1 => ?_)
  · rw [hv]
    refine X_istore dX2_giveUp_43 (by decide) ?_
    refine X_iload_n dX2_giveUp_45 rfl ?_
    refine X_iload dX2_giveUp_46 rfl ?_
    refine X_join (S := []) 59 (fun v => v = nI (h - max k (F b))) (fun v hv => ?_) (fun hJ_2 => ?_)
    · rw [hv]
      refine X_istore dX2_giveUp_59 (by decide) ?_
      refine X_aload_n dX2_giveUp_61 rfl ?_
      refine X_getr (a := t + 1) dX2_giveUp_62 fkX2_9 rfl (sck_0 hC) (scr_1 hC) ?_
      refine X_iload_n dX2_giveUp_65 rfl ?_
      refine X_bipush (v := nI 8) dX2_giveUp_66 (by decide) ?_
      refine X_imul dX2_giveUp_68 ?_
      refine X_topi (pk_mul b 8) ?_
      refine X_iconst (v := nI 2) dX2_giveUp_69 (by decide) ?_
      refine X_iadd dX2_giveUp_70 ?_
      refine X_topi (nI_add (b * 8) 2) ?_
      refine X_dup2 dX2_giveUp_71 rfl rfl ?_
      refine X_iald ((b * 8) + 2) dX2_giveUp_72 (sck_1 hC) rfl (by first | omega | (have hz := hP.2.2.2.2 b hg; omega)) ?_
      refine X_topi (show (wC t nG x) (t + 1) ((b * 8) + 2) = x.2.1 b 2 by refine (cr_fa (by first | omega | (have hz := hP.2.2.2.2 b hg; omega))).trans ?_; first | rfl | (simp only [sM, sFa, sCf, sO, sTw, sFr, sBz]; rw [up2_row (by omega)]) | (simp only [sM, sFa, sCf, sO, sTw, sFr, sBz]; rw [up2_row (by omega), up2_row (by omega)]) | simp [sM, sFa, sCf, sO, sTw, sFr, sBz, up2, ud]) ?_
      refine X_iload dX2_giveUp_73 rfl ?_
      refine X_iadd dX2_giveUp_75 ?_
      refine X_iast ((b * 8) + 2) dX2_giveUp_76 (sck_1 hC) rfl (by first | omega | (have hz := hP.2.2.2.2 b hg; omega)) ?_
      refine X_mi (cw_fa (by first | omega | (have hz := hP.2.2.2.2 b hg; omega))) ?_
      refine X_aload_n dX2_giveUp_77 rfl ?_
      refine X_getr (a := t + 1) dX2_giveUp_78 fkX2_9 rfl (sck_0 hC) (scr_1 hC) ?_
      refine X_iload_n dX2_giveUp_81 rfl ?_
      refine X_bipush (v := nI 8) dX2_giveUp_82 (by decide) ?_
      refine X_imul dX2_giveUp_84 ?_
      refine X_topi (pk_mul b 8) ?_
      refine X_iconst (v := nI 3) dX2_giveUp_85 (by decide) ?_
      refine X_iadd dX2_giveUp_86 ?_
      refine X_topi (nI_add (b * 8) 3) ?_
      refine X_dup2 dX2_giveUp_87 rfl rfl ?_
      refine X_iald ((b * 8) + 3) dX2_giveUp_88 (sck_1 hC) rfl (by first | omega | (have hz := hP.2.2.2.2 b hg; omega)) ?_
      refine X_topi (show (wC t nG (sFa b 2 ((x.2.1 b 2) + (nI (h - max k (F b)))) x)) (t + 1) ((b * 8) + 3) = x.2.1 b 3 by refine (cr_fa (by first | omega | (have hz := hP.2.2.2.2 b hg; omega))).trans ?_; first | rfl | (simp only [sM, sFa, sCf, sO, sTw, sFr, sBz]; rw [up2_row (by omega)]) | (simp only [sM, sFa, sCf, sO, sTw, sFr, sBz]; rw [up2_row (by omega), up2_row (by omega)]) | simp [sM, sFa, sCf, sO, sTw, sFr, sBz, up2, ud]) ?_
      refine X_aload_n dX2_giveUp_89 rfl ?_
      refine X_getr (a := 3) dX2_giveUp_90 fkX2_33 rfl (sck_0 hC) (scr_0 hC) ?_
      refine X_getr (a := 4) dX2_giveUp_93 fkX2_121 rfl (k_3 hSh) (r_3_0 hSh) ?_
      refine X_iload_n dX2_giveUp_96 rfl ?_
      refine X_iald c dX2_giveUp_97 (k_4 hSh) rfl (by first | omega | (have hz := hP.2.2.2.2 b hg; omega)) ?_
      refine X_topi (show (wC t nG (sFa b 2 ((x.2.1 b 2) + (nI (h - max k (F b)))) x)) 4 c = x.1 4 c by refine (congrFun (cr_out (by omega)) _).trans ?_; first | rfl | (simp only [sM, sFa, sCf, sO, sTw, sFr, sBz]; rw [up2_row (by omega)]) | (simp only [sM, sFa, sCf, sO, sTw, sFr, sBz]; rw [up2_row (by omega), up2_row (by omega)]) | simp [sM, sFa, sCf, sO, sTw, sFr, sBz, up2, ud]) ?_
      refine X_aload_n dX2_giveUp_98 rfl ?_
      refine X_getr (a := 3) dX2_giveUp_99 fkX2_33 rfl (sck_0 hC) (scr_0 hC) ?_
      refine X_getr (a := 5) dX2_giveUp_102 fkX2_124 rfl (k_3 hSh) (r_3_1 hSh) ?_
      refine X_iload_n dX2_giveUp_105 rfl ?_
      refine X_iald c dX2_giveUp_106 (k_5 hSh) rfl (by first | omega | (have hz := hP.2.2.2.2 b hg; omega)) ?_
      refine X_topi (show (wC t nG (sFa b 2 ((x.2.1 b 2) + (nI (h - max k (F b)))) x)) 5 c = x.1 5 c by refine (congrFun (cr_out (by omega)) _).trans ?_; first | rfl | (simp only [sM, sFa, sCf, sO, sTw, sFr, sBz]; rw [up2_row (by omega)]) | (simp only [sM, sFa, sCf, sO, sTw, sFr, sBz]; rw [up2_row (by omega), up2_row (by omega)]) | simp [sM, sFa, sCf, sO, sTw, sFr, sBz, up2, ud]) ?_
      refine X_iload dX2_giveUp_107 rfl ?_
      refine X_iload_n dX2_giveUp_109 rfl ?_
      refine X_callSI dX2_giveUp_110 mkX2_127 (c_stretch Γ g (wC t nG (sFa b 2 ((x.2.1 b 2) + (nI (h - max k (F b)))) x)) ml (x.1 4 c) (x.1 5 c) (max k (F b)) h (by first | omega | (have hz := hP.2.2.2.2 b hg; omega)) (by first | omega | (have hz := hP.2.2.2.2 b hg; omega))) rfl rfl (by decide) (Nat.le_of_ble_eq_true rfl) ?_
      refine X_iadd dX2_giveUp_113 ?_
      refine X_iast ((b * 8) + 3) dX2_giveUp_114 (sck_1 hC) rfl (by first | omega | (have hz := hP.2.2.2.2 b hg; omega)) ?_
      refine X_mi (cw_fa (by first | omega | (have hz := hP.2.2.2.2 b hg; omega))) ?_
      refine X_aload_n dX2_giveUp_115 rfl ?_
      refine X_getr (a := t + 2) dX2_giveUp_116 fkX2_15 rfl (sck_0 hC) (scr_2 hC) ?_
      refine X_iload_n dX2_giveUp_119 rfl ?_
      refine X_iconst (v := nI 3) dX2_giveUp_120 (by decide) ?_
      refine X_imul dX2_giveUp_121 ?_
      refine X_topi (pk_mul c 3) ?_
      refine X_iconst (v := nI 0) dX2_giveUp_122 (by decide) ?_
      refine X_iadd dX2_giveUp_123 ?_
      refine X_topi (nI_add (c * 3) 0) ?_
      refine X_dup2 dX2_giveUp_124 rfl rfl ?_
      refine X_iald ((c * 3) + 0) dX2_giveUp_125 (sck_2 hC) rfl (by first | omega | (have hz := hP.2.2.2.2 b hg; omega)) ?_
      refine X_topi (show (wC t nG (sFa b 3 ((x.2.1 b 3) + (sW (x.1 4 c) (x.1 5 c) (max k (F b)) h)) (sFa b 2 ((x.2.1 b 2) + (nI (h - max k (F b)))) x))) (t + 2) ((c * 3) + 0) = x.2.2.1 c 0 by refine (cr_cf (by first | omega | (have hz := hP.2.2.2.2 b hg; omega))).trans ?_; first | rfl | (simp only [sM, sFa, sCf, sO, sTw, sFr, sBz]; rw [up2_row (by omega)]) | (simp only [sM, sFa, sCf, sO, sTw, sFr, sBz]; rw [up2_row (by omega), up2_row (by omega)]) | simp [sM, sFa, sCf, sO, sTw, sFr, sBz, up2, ud]) ?_
      refine X_iload dX2_giveUp_126 rfl ?_
      refine X_iadd dX2_giveUp_128 ?_
      refine X_iast ((c * 3) + 0) dX2_giveUp_129 (sck_2 hC) rfl (by first | omega | (have hz := hP.2.2.2.2 b hg; omega)) ?_
      refine X_mi (cw_cf (by first | omega | (have hz := hP.2.2.2.2 b hg; omega))) ?_
      refine X_aload_n dX2_giveUp_130 rfl ?_
      refine X_getr (a := t + 2) dX2_giveUp_131 fkX2_15 rfl (sck_0 hC) (scr_2 hC) ?_
      refine X_iload_n dX2_giveUp_134 rfl ?_
      refine X_iconst (v := nI 3) dX2_giveUp_135 (by decide) ?_
      refine X_imul dX2_giveUp_136 ?_
      refine X_topi (pk_mul c 3) ?_
      refine X_iconst (v := nI 1) dX2_giveUp_137 (by decide) ?_
      refine X_iadd dX2_giveUp_138 ?_
      refine X_topi (nI_add (c * 3) 1) ?_
      refine X_dup2 dX2_giveUp_139 rfl rfl ?_
      refine X_iald ((c * 3) + 1) dX2_giveUp_140 (sck_2 hC) rfl (by first | omega | (have hz := hP.2.2.2.2 b hg; omega)) ?_
      refine X_topi (show (wC t nG (sCf c 0 ((x.2.2.1 c 0) + (nI (h - max k (F b)))) (sFa b 3 ((x.2.1 b 3) + (sW (x.1 4 c) (x.1 5 c) (max k (F b)) h)) (sFa b 2 ((x.2.1 b 2) + (nI (h - max k (F b)))) x)))) (t + 2) ((c * 3) + 1) = x.2.2.1 c 1 by refine (cr_cf (by first | omega | (have hz := hP.2.2.2.2 b hg; omega))).trans ?_; first | rfl | (simp only [sM, sFa, sCf, sO, sTw, sFr, sBz]; rw [up2_row (by omega)]) | (simp only [sM, sFa, sCf, sO, sTw, sFr, sBz]; rw [up2_row (by omega), up2_row (by omega)]) | simp [sM, sFa, sCf, sO, sTw, sFr, sBz, up2, ud]) ?_
      refine X_iload_n dX2_giveUp_141 rfl ?_
      refine X_iload dX2_giveUp_142 rfl ?_
      refine X_isub dX2_giveUp_144 ?_
      refine X_topi (pk_sub (a := h) (b := k) (by first | omega | (have hz := hP.2.2.2.2 b hg; omega))) ?_
      refine X_iload dX2_giveUp_145 rfl ?_
      refine X_isub dX2_giveUp_147 ?_
      refine X_topi (pk_sub (a := h - k) (b := h - max k (F b)) (by first | omega | (have hz := hP.2.2.2.2 b hg; omega))) ?_
      refine X_iadd dX2_giveUp_148 ?_
      refine X_iast ((c * 3) + 1) dX2_giveUp_149 (sck_2 hC) rfl (by first | omega | (have hz := hP.2.2.2.2 b hg; omega)) ?_
      refine X_mi (cw_cf (by first | omega | (have hz := hP.2.2.2.2 b hg; omega))) ?_
      by_cases h57 : t = 57
      · have hk8 : g.2.1 (t + 8) = (20, 192) := by rw [sck_8 hC, if_pos h57]
        refine X_aload_n dX2_giveUp_150 rfl ?_
        refine X_geti dX2_giveUp_151 fkX2_37 rfl (sck_0 hC) ?_
        refine X_topi (show (wC t nG (sCf c 1 ((x.2.2.1 c 1) + (nI ((h - k) - (h - max k (F b))))) (sCf c 0 ((x.2.2.1 c 0) + (nI (h - max k (F b)))) (sFa b 3 ((x.2.1 b 3) + (sW (x.1 4 c) (x.1 5 c) (max k (F b)) h)) (sFa b 2 ((x.2.1 b 2) + (nI (h - max k (F b)))) x))))) t 10 = nI 1 by refine (cr_f (by decide)).trans ?_; first | exact (hpa.trans (by rw [decide_eq_true h57]; rfl)) | (simp only [sM, sFa, sCf, sO, sTw, sFr, sBz]; rw [up2_row (by omega)]; exact (hpa.trans (by rw [decide_eq_true h57]; rfl))) | (simp only [sM, sFa, sCf, sO, sTw, sFr, sBz]; rw [up2_row (by omega), up2_row (by omega)]; exact (hpa.trans (by rw [decide_eq_true h57]; rfl))) | (simp only [sM, sFa, sCf, sO, sTw, sFr, sBz]; simp [up2]; exact (hpa.trans (by rw [decide_eq_true h57]; rfl)))) ?_
        refine X_if_eqN (a := 1) 186 dX2_giveUp_154 (by decide) (by first | omega | (have hz := hP.2.2.2.2 b hg; omega)) (fun h_3 => ?_) (fun h_3 => ?_)
        · exact absurd h_3 (by omega)
        · refine X_iload dX2_giveUp_157 rfl ?_
          refine X_istore dX2_giveUp_159 (by decide) ?_
          generalize hz : (sCf c 1 ((x.2.2.1 c 1) + (nI ((h - k) - (h - max k (F b))))) (sCf c 0 ((x.2.2.1 c 0) + (nI (h - max k (F b)))) (sFa b 3 ((x.2.1 b 3) + (sW (x.1 4 c) (x.1 5 c) (max k (F b)) h)) (sFa b 2 ((x.2.1 b 2) + (nI (h - max k (F b)))) x))) : CS) = z
          refine X_L [(7, .int (nI k)), (6, .int (nI (h - max k (F b)))), (5, .int (nI (max k (F b)))), (4, .int (nI k)), (3, .int (nI c)), (0, .ref t), (1, .int (nI b)), (2, .int (nI h))] ⟨rfl, rfl, rfl, rfl, rfl, rfl, rfl, rfl, trivial⟩ ?_
          refine X_for2 (σ := CS) 161 (fun i y => [(7, .int (nI i)), (6, .int (nI (h - max k (F b)))), (5, .int (nI (max k (F b)))), (4, .int (nI k)), (3, .int (nI c)), (0, .ref t), (1, .int (nI b)), (2, .int (nI h))]) (fun y => wC t nG y) (fun y => ml) (fun i y => sTw c i (nI b) y) (fun i y => y = lpS (fun j s => sTw c j (nI b) s) k (i - k) z ∧ k ≤ i) h ?_ (h - k) k z (by omega) ⟨by rw [Nat.sub_self]; rfl, Nat.le_refl _⟩ ?_
          · intro i y hi hI
            refine ⟨⟨by rw [show i + 1 - k = (i - k) + 1 by omega, lpS_snoc, ← hI.1, show k + (i - k) = i by omega], by omega⟩, fun hn => ?_⟩
            refine X_iload dX2_giveUp_161 rfl ?_
            refine X_iload_n dX2_giveUp_163 rfl ?_
            refine X_icmp_geN (a := i) (b := h) 186 dX2_giveUp_164 (by decide) (by first | omega | (have hz := hP.2.2.2.2 b hg; omega)) (by first | omega | (have hz := hP.2.2.2.2 b hg; omega)) (fun h_4 => ?_) (fun h_4 => ?_)
            · exact absurd hi (by omega)
            · refine X_aload_n dX2_giveUp_167 rfl ?_
              refine X_getr (a := t + 8) dX2_giveUp_168 fkX2_41 rfl (sck_0 hC) (scr_3 hC) ?_
              refine X_iload_n dX2_giveUp_171 rfl ?_
              refine X_bipush (v := nI 24) dX2_giveUp_172 (by decide) ?_
              refine X_imul dX2_giveUp_174 ?_
              refine X_topi (pk_mul c 24) ?_
              refine X_iload dX2_giveUp_175 rfl ?_
              refine X_iadd dX2_giveUp_177 ?_
              refine X_topi (nI_add (c * 24) i) ?_
              refine X_iload_n dX2_giveUp_178 rfl ?_
              refine X_iast ((c * 24) + i) dX2_giveUp_179 hk8 rfl (by first | omega | (have hz := hP.2.2.2.2 b hg; omega)) ?_
              refine X_mi (cw_tw (by first | omega | (have hz := hP.2.2.2.2 b hg; omega))) ?_
              refine X_iinc (v := nI (i + 1)) dX2_giveUp_180 rfl (nI_1 _) (by decide) ?_
              refine X_goto 161 dX2_giveUp_183 (by decide) ?_
              refine X_L [(7, .int (nI (i + 1))), (6, .int (nI (h - max k (F b)))), (5, .int (nI (max k (F b)))), (4, .int (nI k)), (3, .int (nI c)), (0, .ref t), (1, .int (nI b)), (2, .int (nI h))] ⟨rfl, rfl, rfl, rfl, rfl, rfl, rfl, rfl, trivial⟩ ?_
              exact hn
          · intro y hI
            refine X_iload dX2_giveUp_161 rfl ?_
            refine X_iload_n dX2_giveUp_163 rfl ?_
            refine X_icmp_geN (a := h) (b := h) 186 dX2_giveUp_164 (by decide) (by first | omega | (have hz := hP.2.2.2.2 b hg; omega)) (by first | omega | (have hz := hP.2.2.2.2 b hg; omega)) (fun h_5 => ?_) (fun h_5 => ?_)
            · refine X_aload_n dX2_giveUp_186 rfl ?_
              refine X_dup dX2_giveUp_187 rfl ?_
              refine X_geti dX2_giveUp_188 fkX2_91 rfl (sck_0 hC) ?_
              refine X_topi (show (wC t nG y) t 12 = mkB y.2.2.2.2.2.2.1 by exact cr_12) ?_
              refine X_iconst (v := nI 1) dX2_giveUp_191 (by decide) ?_
              refine X_iload_n dX2_giveUp_192 rfl ?_
              refine X_ishl dX2_giveUp_193 ?_
              refine X_ior dX2_giveUp_194 ?_
              refine X_puti dX2_giveUp_195 fkX2_91 rfl rfl (sck_0 hC) ?_
              refine X_mi (cw_fr (mkB_or (by first | omega | (have hz := hP.2.2.2.2 b hg; omega)))) ?_
              refine X_aload_n dX2_giveUp_198 rfl ?_
              refine X_getr (a := t + 3) dX2_giveUp_199 fkX2_18 rfl (sck_0 hC) (scr_5 hC) ?_
              refine X_iload_n dX2_giveUp_202 rfl ?_
              refine X_iconst (v := -1) dX2_giveUp_203 (by decide) ?_
              refine X_iast b dX2_giveUp_204 (sck_3 hC) rfl (by first | omega | (have hz := hP.2.2.2.2 b hg; omega)) ?_
              refine X_mi (cw_on (k := 3) (by omega) (by first | omega | (have hz := hP.2.2.2.2 b hg; omega))) ?_
              exact X_vret dX2_giveUp_205 rfl ⟨rfl, rfl, by unfold guC ptC; rw [if_pos h57, hz, hI.1]; congr 3; rw [(lp_tw _ _ _).2.2.2.2, ← hz]; rfl, rfl⟩
            · exact absurd h_5 (by omega)
      · refine X_aload_n dX2_giveUp_150 rfl ?_
        refine X_geti dX2_giveUp_151 fkX2_37 rfl (sck_0 hC) ?_
        refine X_topi (show (wC t nG (sCf c 1 ((x.2.2.1 c 1) + (nI ((h - k) - (h - max k (F b))))) (sCf c 0 ((x.2.2.1 c 0) + (nI (h - max k (F b)))) (sFa b 3 ((x.2.1 b 3) + (sW (x.1 4 c) (x.1 5 c) (max k (F b)) h)) (sFa b 2 ((x.2.1 b 2) + (nI (h - max k (F b)))) x))))) t 10 = nI 0 by refine (cr_f (by decide)).trans ?_; first | exact (hpa.trans (by rw [decide_eq_false h57]; rfl)) | (simp only [sM, sFa, sCf, sO, sTw, sFr, sBz]; rw [up2_row (by omega)]; exact (hpa.trans (by rw [decide_eq_false h57]; rfl))) | (simp only [sM, sFa, sCf, sO, sTw, sFr, sBz]; rw [up2_row (by omega), up2_row (by omega)]; exact (hpa.trans (by rw [decide_eq_false h57]; rfl))) | (simp only [sM, sFa, sCf, sO, sTw, sFr, sBz]; simp [up2]; exact (hpa.trans (by rw [decide_eq_false h57]; rfl)))) ?_
        refine X_if_eqN (a := 0) 186 dX2_giveUp_154 (by decide) (by first | omega | (have hz := hP.2.2.2.2 b hg; omega)) (fun h_6 => ?_) (fun h_6 => ?_)
        · refine X_aload_n dX2_giveUp_186 rfl ?_
          refine X_dup dX2_giveUp_187 rfl ?_
          refine X_geti dX2_giveUp_188 fkX2_91 rfl (sck_0 hC) ?_
          refine X_topi (show (wC t nG (sCf c 1 ((x.2.2.1 c 1) + (nI ((h - k) - (h - max k (F b))))) (sCf c 0 ((x.2.2.1 c 0) + (nI (h - max k (F b)))) (sFa b 3 ((x.2.1 b 3) + (sW (x.1 4 c) (x.1 5 c) (max k (F b)) h)) (sFa b 2 ((x.2.1 b 2) + (nI (h - max k (F b)))) x))))) t 12 = mkB x.2.2.2.2.2.2.1 by exact cr_12) ?_
          refine X_iconst (v := nI 1) dX2_giveUp_191 (by decide) ?_
          refine X_iload_n dX2_giveUp_192 rfl ?_
          refine X_ishl dX2_giveUp_193 ?_
          refine X_ior dX2_giveUp_194 ?_
          refine X_puti dX2_giveUp_195 fkX2_91 rfl rfl (sck_0 hC) ?_
          refine X_mi (cw_fr (mkB_or (by first | omega | (have hz := hP.2.2.2.2 b hg; omega)))) ?_
          refine X_aload_n dX2_giveUp_198 rfl ?_
          refine X_getr (a := t + 3) dX2_giveUp_199 fkX2_18 rfl (sck_0 hC) (scr_5 hC) ?_
          refine X_iload_n dX2_giveUp_202 rfl ?_
          refine X_iconst (v := -1) dX2_giveUp_203 (by decide) ?_
          refine X_iast b dX2_giveUp_204 (sck_3 hC) rfl (by first | omega | (have hz := hP.2.2.2.2 b hg; omega)) ?_
          refine X_mi (cw_on (k := 3) (by omega) (by first | omega | (have hz := hP.2.2.2.2 b hg; omega))) ?_
          exact X_vret dX2_giveUp_205 rfl ⟨rfl, rfl, by unfold guC ptC; rw [if_neg h57], rfl⟩
        · exact absurd rfl h_6
    · refine X_icmp_leN (a := h) (b := max k (F b)) 58 dX2_giveUp_48 (by decide) (by first | omega | (have hz := hP.2.2.2.2 b hg; omega)) (by first | omega | (have hz := hP.2.2.2.2 b hg; omega)) (fun h_7 => ?_) (fun h_7 => ?_)
      · refine X_iconst (v := nI 0) dX2_giveUp_58 (by decide) ?_
        exact hJ_2 _ (by first | rfl | rw [show h - max k (F b) = 0 by omega])
      · refine X_iload_n dX2_giveUp_51 rfl ?_
        refine X_iload dX2_giveUp_52 rfl ?_
        refine X_isub dX2_giveUp_54 ?_
        refine X_topi (pk_sub (a := h) (b := max k (F b)) (by first | omega | (have hz := hP.2.2.2.2 b hg; omega))) ?_
        refine X_goto 59 dX2_giveUp_55 (by decide) ?_
        exact hJ_2 _ (by first | rfl | rw [show h - max k (F b) = 0 by omega])
  · refine X_icmp_geN (a := k) (b := F b) 41 dX2_giveUp_26 (by decide) (by first | omega | (have hz := hP.2.2.2.2 b hg; omega)) (by first | omega | (have hz := hP.2.2.2.2 b hg; omega)) (fun h_8 => ?_) (fun h_8 => ?_)
    · refine X_iload dX2_giveUp_41 rfl ?_
      exact hJ_1 _ (by first | rw [Nat.max_eq_right (by omega)] | rw [Nat.max_eq_left (by omega)])
    · refine X_aload_n dX2_giveUp_29 rfl ?_
      refine X_getr (a := 3) dX2_giveUp_30 fkX2_33 rfl (sck_0 hC) (scr_0 hC) ?_
      refine X_getr (a := 7) dX2_giveUp_33 fkX2_115 rfl (k_3 hSh) (r_3_3 hSh) ?_
      refine X_iload_n dX2_giveUp_36 rfl ?_
      refine X_iald b dX2_giveUp_37 (k_7 hSh) rfl (by first | omega | (have hz := hP.2.2.2.2 b hg; omega)) ?_
      refine X_topi (show (wC t nG x) 7 b = nI (F b) by refine (congrFun (cr_out (by omega)) _).trans ?_; first | exact (hP.2.2.2.2 b hg).1 | (simp only [sM, sFa, sCf, sO, sTw, sFr, sBz]; rw [up2_row (by omega)]; exact (hP.2.2.2.2 b hg).1) | (simp only [sM, sFa, sCf, sO, sTw, sFr, sBz]; rw [up2_row (by omega), up2_row (by omega)]; exact (hP.2.2.2.2 b hg).1) | (simp only [sM, sFa, sCf, sO, sTw, sFr, sBz]; simp [up2]; exact (hP.2.2.2.2 b hg).1)) ?_
      refine X_goto 43 dX2_giveUp_38 (by decide) ?_
      exact hJ_1 _ (by first | rw [Nat.max_eq_right (by omega)] | rw [Nat.max_eq_left (by omega)])

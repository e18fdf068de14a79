def beS (nG b : Nat) (m : pMI) : pMI := up2 (up2 m 229 b (nI b)) 194 b (if b < nG then m (121 + b) 0 else nI 0)
def bgW (nG : Nat) (m : pMI) : pMI := lpS (beS nG) 0 8 (up2 (fillR m 197 8 nI) 87 53 (m 91 3))
theorem fill_row {m : pMI} {a n : Nat} {v : Nat → Int32} {i j : Nat} (h : i ≠ a) : fillR m a n v i j = m i j := if_neg (fun z => h z.1)
set_option maxRecDepth 100000 in
set_option maxHeartbeats 4000000 in
theorem c_begins (Γ : pTG) (g : pGG) (mi : pMI) (ml : pML) (hSh : Sh g) (nG : Nat) (hG : mi 91 1 = nI nG) (h8 : nG ≤ 8) : cV Γ 2 mX12_begins [.ref 87] g mi ml (bgW nG mi) ml := by
  refine cV_of (by decide +kernel) (Nat.le_of_ble_eq_true rfl) ?_
  refine X_aload_n dX12_begins_0 rfl ?_
  refine X_callVV dX12_begins_1 mkX12_338 (k_87 hSh) (c_ranks Γ g mi ml hSh) rfl rfl (by decide) (Nat.le_of_ble_eq_true rfl) ?_
  refine X_aload_n dX12_begins_4 rfl ?_
  refine X_aload_n dX12_begins_5 rfl ?_
  refine X_getr (a := 91) dX12_begins_6 fkX12_23 rfl (k_87 hSh) (r_87_12 hSh) ?_
  refine X_iconst (v := nI 3) dX12_begins_9 (by decide) ?_
  refine X_iald 3 dX12_begins_10 (k_91 hSh) rfl (by omega) ?_
  rw [(fill_row (by omega))]
  refine X_puti dX12_begins_11 fkX12_313 rfl rfl (k_87 hSh) ?_
  refine X_iconst (v := nI 0) dX12_begins_14 (by decide) ?_
  refine X_istore_n dX12_begins_15 (by decide) ?_
  refine X_L [(1, .int (nI 0)), (0, .ref 87)] ⟨rfl, rfl, trivial⟩ ?_
  refine X_for2 (σ := pMI) 16 (fun i x => [(1, .int (nI i)), (0, .ref 87)]) (fun x => x) (fun x => ml) (fun i x => beS nG i x) (fun i x => x 91 = mi 91 ∧ x = lpS (beS nG) 0 i (up2 (fillR mi 197 8 nI) 87 53 (mi 91 3))) 8 ?_ 8 0 (up2 (fillR mi 197 8 nI) 87 53 (mi 91 3)) (by omega) ⟨by rw [up2_row (by omega)]; funext j; exact fill_row (by omega), rfl⟩ ?_
  · intro i x hi hI
    have hG3 : x 91 1 = nI nG := by rw [hI.1]; exact hG
    refine ⟨⟨by unfold beS; rw [up2_row (by omega), up2_row (by omega)]; exact hI.1, by rw [lpS_snoc, ← hI.2, Nat.zero_add]⟩, fun hn => ?_⟩
    refine X_iload_n dX12_begins_16 rfl ?_
    refine X_bipush (v := nI 8) dX12_begins_17 (by decide) ?_
    refine X_icmp_geN (a := i) (b := 8) 63 dX12_begins_19 (by decide) (by omega) (by omega) (fun h_1 => ?_) (fun h_1 => ?_)
    · exact absurd hi (by omega)
    · refine X_aload_n dX12_begins_22 rfl ?_
      refine X_getr (a := 229) dX12_begins_23 fkX12_128 rfl (k_87 hSh) (r_87_54 hSh) ?_
      refine X_iload_n dX12_begins_26 rfl ?_
      refine X_iload_n dX12_begins_27 rfl ?_
      refine X_iast i dX12_begins_28 (k_229 hSh) rfl (by omega) ?_
      refine X_aload_n dX12_begins_29 rfl ?_
      refine X_getr (a := 194) dX12_begins_30 fkX12_71 rfl (k_87 hSh) (r_87_34 hSh) ?_
      refine X_iload_n dX12_begins_33 rfl ?_
      refine X_iload_n dX12_begins_34 rfl ?_
      refine X_aload_n dX12_begins_35 rfl ?_
      refine X_getr (a := 91) dX12_begins_36 fkX12_23 rfl (k_87 hSh) (r_87_12 hSh) ?_
      refine X_iconst (v := nI 1) dX12_begins_39 (by decide) ?_
      refine X_iald 1 dX12_begins_40 (k_91 hSh) rfl (by omega) ?_
      refine X_topi (show (up2 x 229 i (nI i)) 91 1 = nI nG by rw [up2_row (by omega)]; exact hG3) ?_
      refine X_join (S := [.int (nI i), .ref 194]) 56 (fun v => v = if i < nG then x (121 + i) 0 else nI 0) (fun vJ hvJ => ?_) (fun hJ_2 => ?_)
      · rw [hvJ]
        refine X_iast i dX12_begins_56 (k_194 hSh) rfl (by omega) ?_
        refine X_iinc (v := nI (i + 1)) dX12_begins_57 rfl (nI_1 _) (by decide) ?_
        refine X_goto 16 dX12_begins_60 (by decide) ?_
        refine X_L [(1, .int (nI (i + 1))), (0, .ref 87)] ⟨rfl, rfl, trivial⟩ ?_
        exact hn
      · refine X_icmp_geN (a := i) (b := nG) 55 dX12_begins_41 (by decide) (by omega) (by omega) (fun h_3 => ?_) (fun h_3 => ?_)
        · refine X_iconst (v := nI 0) dX12_begins_55 (by decide) ?_
          exact hJ_2 _ (by first | rw [if_pos (by omega)] | rw [if_neg (by omega)])
        · refine X_aload_n dX12_begins_44 rfl ?_
          refine X_getr (a := 120) dX12_begins_45 fkX12_37 rfl (k_87 hSh) (r_87_16 hSh) ?_
          refine X_iload_n dX12_begins_48 rfl ?_
          refine X_aaldr (b := 121 + i) i dX12_begins_49 (k_120 hSh) rfl (by omega) (o_120 hSh i (by omega)) ?_
          refine X_iconst (v := nI 0) dX12_begins_50 (by decide) ?_
          refine X_iald 0 dX12_begins_51 (kr_120 hSh i (by omega)) rfl (by omega) ?_
          refine X_topi (show (up2 x 229 i (nI i)) (121 + i) 0 = x (121 + i) 0 by rw [up2_row (by omega)]) ?_
          refine X_goto 56 dX12_begins_52 (by decide) ?_
          exact hJ_2 _ (by first | rw [if_pos (by omega)] | rw [if_neg (by omega)])
  · intro x hI
    refine X_iload_n dX12_begins_16 rfl ?_
    refine X_bipush (v := nI 8) dX12_begins_17 (by decide) ?_
    refine X_icmp_geN (a := 8) (b := 8) 63 dX12_begins_19 (by decide) (by omega) (by omega) (fun h_4 => ?_) (fun h_4 => ?_)
    · exact X_vret dX12_begins_63 rfl ⟨rfl, rfl, hI.2, rfl⟩
    · exact absurd h_4 (by omega)
theorem be_r {nG : Nat} : ∀ (k : Nat) (x : pMI), (∀ i, i ≠ 194 → i ≠ 229 → lpS (beS nG) 0 k x i = x i) ∧ (∀ b, b < k → lpS (beS nG) 0 k x 229 b = nI b) ∧ (∀ b, b < k → b < nG → lpS (beS nG) 0 k x 194 b = x (121 + b) 0 ∨ 121 + b = 194 ∨ 121 + b = 229)
  | 0, x => ⟨fun _ _ _ => rfl, fun b hb => absurd hb (by omega), fun b hb => absurd hb (by omega)⟩
  | k + 1, x => by
    obtain ⟨i1, i2, i3⟩ := be_r (nG := nG) k x
    rw [lpS_snoc, Nat.zero_add]
    generalize lpS (beS nG) 0 k x = z at i1 i2 i3 ⊢
    unfold beS
    refine ⟨fun i h1 h2 => ?_, fun b hb => ?_, fun b hb hbn => ?_⟩
    · rw [up2_row h1, up2_row h2]; exact i1 i h1 h2
    · rw [up2_row (by omega)]
      by_cases hbk : b = k
      · subst hbk; rw [up2_s]
      · rw [up2_n hbk]; exact i2 b (by omega)
    · by_cases hbk : b = k
      · subst hbk
        rw [up2_s, if_pos hbn]
        by_cases h5 : 121 + b = 194 ∨ 121 + b = 229
        · exact Or.inr h5
        · rw [i1 (121 + b) (by omega) (by omega)]; exact Or.inl rfl
      · rw [up2_n hbk, up2_row (by omega)]; exact i3 b (by omega) hbn
/-- what the beginning of days leaves as it was -/
def frB (m x : pMI) : Prop := (∀ i, i ≠ 194 → i ≠ 197 → i ≠ 229 → i ≠ 87 → x i = m i) ∧ (∀ j, j ≠ 53 → x 87 j = m 87 j)
theorem bg_r {P : PD} {H : Nat → HBt} {m : pMI} (hP : okPD P) (hr : rfP m P) (hb : rfHb m H) : rS (bgW P.2.1 m) P H id id P.2.2.2.1 ∧ (∀ b, b < P.2.1 → bgW P.2.1 m 194 b = nI (P.2.2.2.2.2.2 b 0) ∧ P.2.2.2.2.2.2 b 0 < 24) ∧ frB m (bgW P.2.1 m) := by
  have hC8 := hP.1
  have hG8 := hP.2.1
  unfold bgW
  obtain ⟨i1, i2, i3⟩ := be_r (nG := P.2.1) 8 (up2 (fillR m 197 8 nI) 87 53 (m 91 3))
  generalize lpS (beS P.2.1) 0 8 (up2 (fillR m 197 8 nI) 87 53 (m 91 3)) = z at i1 i2 i3 ⊢
  have hz : ∀ i, i ≠ 194 → i ≠ 229 → i ≠ 87 → i ≠ 197 → z i = m i := fun i h1 h2 h3 h4 => by
    rw [i1 i h1 h2, up2_row h3]; funext j; exact fill_row h4
  have h197 : ∀ b, b < 8 → z 197 b = nI b := fun b hb => by
    rw [i1 197 (by omega) (by omega), up2_row (by omega)]; exact if_pos ⟨rfl, hb⟩
  refine ⟨⟨⟨?_, ?_, ?_, ?_, ?_, fun c hc => ?_, fun b hb => ?_⟩, fun o ho => ?_, fun b hb => ⟨i2 b hb, hb⟩, h197, ?_⟩, fun b hb => ⟨?_, (hP.2.2.2.2.2.2.2 b hb).1⟩, fun i h1 h2 h3 h4 => hz i h1 h3 h4 h2, fun j hj => ?_⟩
  · rw [hz 91 (by omega) (by omega) (by omega) (by omega)]; exact hr.1
  · rw [hz 91 (by omega) (by omega) (by omega) (by omega)]; exact hr.2.1
  · rw [hz 91 (by omega) (by omega) (by omega) (by omega)]; exact hr.2.2.1
  · rw [hz 91 (by omega) (by omega) (by omega) (by omega)]; exact hr.2.2.2.1
  · rw [hz 91 (by omega) (by omega) (by omega) (by omega)]; exact hr.2.2.2.2.1
  · rw [hz (102 + c) (by omega) (by omega) (by omega) (by omega)]; exact hr.2.2.2.2.2.1 c hc
  · rw [hz (121 + b) (by omega) (by omega) (by omega) (by omega)]; exact hr.2.2.2.2.2.2 b hb
  · rw [hz 129 (by omega) (by omega) (by omega) (by omega), hz (134 + o) (by omega) (by omega) (by omega) (by omega)]; exact hb o ho
  · rw [i1 87 (by omega) (by omega), up2_s]; exact hr.2.2.2.1
  · rcases i3 b (by omega) hb with q | q
    · rw [q, up2_row (by omega), fill_row (by omega)]; exact (hr.2.2.2.2.2.2 b hb).1
    · omega
  · rw [i1 87 (by omega) (by omega), up2_n hj]; exact fill_row (by omega)
def nrm (nG : Nat) (f : Nat → Nat) (b : Nat) : Nat := if b < nG then f b else 0
theorem nrm_i {nG b : Nat} {f : Nat → Nat} (h : b < nG) : nrm nG f b = f b := if_pos h
/-- when all come, day by day -/
def sqC (P : PD) (H : Nat → HBt) (wh rk ord : Nat → Nat) (un : Nat) (cm : Nat → Nat) : Nat → (Nat → Nat)
  | 0 => cm
  | d + 1 => nrm P.2.1 (nxN P H wh (sqC P H wh rk ord un cm d) (DY P (sqC P H wh rk ord un cm d) rk ord un) (d + 1))
def gtS (P : PD) (H : Nat → HBt) (wh rk ord : Nat → Nat) (un : Nat) (cm : Nat → Nat) (e : Nat) (x : pMI) : pMI := rnW P (sqC P H wh rk ord un cm (e + 1)) rk ord un (asW P H wh (sqC P H wh rk ord un cm e) (DY P (sqC P H wh rk ord un cm e) rk ord un) (e + 1) x)
def gtW (P : PD) (H : Nat → HBt) (wh rk ord : Nat → Nat) (un : Nat) (cm : Nat → Nat) (d : Nat) (x : pMI) : pMI := lpS (gtS P H wh rk ord un cm) 0 d (rnW P cm rk ord un x)
theorem gt_step (Γ : pTG) (g : pGG) (x : pMI) (ml : pML) (hSh : Sh g) (P : PD) (hP : okPD P) (H : Nat → HBt) (hH : okH H) (wh rk ord cm : Nat → Nat) (un : Nat) (hu : 1 ≤ un ∧ un < 24) (hO : okO2 P.2.1 rk ord) (e : Nat) (hS : rS x P H wh rk un) (hR : RDY x P (sqC P H wh rk ord un cm e) (DY P (sqC P H wh rk ord un cm e) rk ord un)) :
    cV Γ 4 mX12_asks [.ref 87, .int (nI (e + 1))] g x ml (asW P H wh (sqC P H wh rk ord un cm e) (DY P (sqC P H wh rk ord un cm e) rk ord un) (e + 1) x) ml ∧ cV Γ 5 mX12_runs [.ref 87] g (asW P H wh (sqC P H wh rk ord un cm e) (DY P (sqC P H wh rk ord un cm e) rk ord un) (e + 1) x) ml (gtS P H wh rk ord un cm e x) ml ∧ RDY (gtS P H wh rk ord un cm e x) P (sqC P H wh rk ord un cm (e + 1)) (DY P (sqC P H wh rk ord un cm (e + 1)) rk ord un) ∧ frR x (gtS P H wh rk ord un cm e x) ∧ rS (gtS P H wh rk ord un cm e x) P H wh rk un := by
  obtain ⟨a1, a2, a3⟩ := asks_R Γ g x ml hSh P hP H hH wh rk (sqC P H wh rk ord un cm e) un (DY P (sqC P H wh rk ord un cm e) rk ord un) (e + 1) hS hR
  obtain ⟨b1, b2, b3⟩ := runs_R Γ g _ ml hSh P hP H wh rk ord (sqC P H wh rk ord un cm (e + 1)) un hu (rS_row hP a3 hS) hO (fun b hb => ⟨(a2 b hb).trans (by rw [show sqC P H wh rk ord un cm (e + 1) b = _ from nrm_i hb]), by rw [show sqC P H wh rk ord un cm (e + 1) b = _ from nrm_i hb]; exact nxN_lt⟩)
  exact ⟨a1, b1, b2, frR_t a3 b3, rS_row hP (frR_t a3 b3) hS⟩
theorem gt_all (Γ : pTG) (g : pGG) (x : pMI) (ml : pML) (hSh : Sh g) (P : PD) (hP : okPD P) (H : Nat → HBt) (hH : okH H) (wh rk ord cm : Nat → Nat) (un : Nat) (hu : 1 ≤ un ∧ un < 24) (hO : okO2 P.2.1 rk ord) (hS : rS x P H wh rk un) (hcm : ∀ b, b < P.2.1 → x 194 b = nI (cm b) ∧ cm b < 24) : ∀ e, RDY (gtW P H wh rk ord un cm e x) P (sqC P H wh rk ord un cm e) (DY P (sqC P H wh rk ord un cm e) rk ord un) ∧ frR x (gtW P H wh rk ord un cm e x) ∧ rS (gtW P H wh rk ord un cm e x) P H wh rk un
  | 0 => by
    obtain ⟨_, b2, b3⟩ := runs_R Γ g x ml hSh P hP H wh rk ord cm un hu hS hO hcm
    exact ⟨b2, b3, rS_row hP b3 hS⟩
  | e + 1 => by
    obtain ⟨i1, i2, i3⟩ := gt_all Γ g x ml hSh P hP H hH wh rk ord cm un hu hO hS hcm e
    have e0 : gtW P H wh rk ord un cm (e + 1) x = gtS P H wh rk ord un cm e (gtW P H wh rk ord un cm e x) := by unfold gtW; rw [lpS_snoc, Nat.zero_add]
    rw [e0]
    obtain ⟨_, _, c3, c4, c5⟩ := gt_step Γ g _ ml hSh P hP H hH wh rk ord cm un hu hO e i3 i1
    exact ⟨c3, frR_t i2 c4, c5⟩
set_option maxRecDepth 100000 in
set_option maxHeartbeats 4000000 in
theorem c_goesTo (Γ : pTG) (g : pGG) (mi : pMI) (ml : pML) (hSh : Sh g) (P : PD) (hP : okPD P) (H : Nat → HBt) (hH : okH H) (wh rk ord cm : Nat → Nat) (un : Nat) (hu : 1 ≤ un ∧ un < 24) (hO : okO2 P.2.1 rk ord) (hS : rS mi P H wh rk un) (hcm : ∀ b, b < P.2.1 → mi 194 b = nI (cm b) ∧ cm b < 24) (d : Nat) (hd : d < 1000) : cV Γ 6 mX12_goesTo [.ref 87, .int (nI d)] g mi ml (gtW P H wh rk ord un cm d mi) ml := by
  refine cV_of (by decide +kernel) (Nat.le_of_ble_eq_true rfl) ?_
  refine X_aload_n dX12_goesTo_0 rfl ?_
  refine X_callVV dX12_goesTo_1 mkX12_341 (k_87 hSh) ((runs_R Γ g mi ml hSh P hP H wh rk ord cm un hu hS hO hcm).1) rfl rfl (by decide) (Nat.le_of_ble_eq_true rfl) ?_
  refine X_iconst (v := nI 1) dX12_goesTo_4 (by decide) ?_
  refine X_istore_n dX12_goesTo_5 (by decide) ?_
  refine X_L [(2, .int (nI 1)), (0, .ref 87), (1, .int (nI d))] ⟨rfl, rfl, rfl, trivial⟩ ?_
  refine X_for3 6 (fun i => [(2, .int (nI (i + 1))), (0, .ref 87), (1, .int (nI d))]) (fun i => gtW P H wh rk ord un cm i mi) d ?_ d 0 (by omega) ?_
  · intro i hi hn
    obtain ⟨q1, q2, q3⟩ := gt_all Γ g mi ml hSh P hP H hH wh rk ord cm un hu hO hS hcm i
    have hs := gt_step Γ g _ ml hSh P hP H hH wh rk ord cm un hu hO i q3 q1
    refine X_iload_n dX12_goesTo_6 rfl ?_
    refine X_iload_n dX12_goesTo_7 rfl ?_
    refine X_icmp_gtN (a := i + 1) (b := d) 26 dX12_goesTo_8 (by decide) (by omega) (by omega) (fun h_1 => ?_) (fun h_1 => ?_)
    · exact absurd h_1 (by omega)
    · refine X_aload_n dX12_goesTo_11 rfl ?_
      refine X_iload_n dX12_goesTo_12 rfl ?_
      refine X_callVV dX12_goesTo_13 mkX12_344 (k_87 hSh) (hs.1) rfl rfl (by decide) (Nat.le_of_ble_eq_true rfl) ?_
      refine X_aload_n dX12_goesTo_16 rfl ?_
      refine X_callVV dX12_goesTo_17 mkX12_341 (k_87 hSh) (hs.2.1) rfl rfl (by decide) (Nat.le_of_ble_eq_true rfl) ?_
      refine X_iinc (v := nI (i + 1 + 1)) dX12_goesTo_20 rfl (nI_1 _) (by decide) ?_
      refine X_goto 6 dX12_goesTo_23 (by decide) ?_
      refine X_L [(2, .int (nI (i + 1 + 1))), (0, .ref 87), (1, .int (nI d))] ⟨rfl, rfl, rfl, trivial⟩ ?_
      rw [show gtW P H wh rk ord un cm (i + 1) mi = gtS P H wh rk ord un cm i (gtW P H wh rk ord un cm i mi) from by unfold gtW; rw [lpS_snoc, Nat.zero_add]] at hn
      exact hn
  · refine X_iload_n dX12_goesTo_6 rfl ?_
    refine X_iload_n dX12_goesTo_7 rfl ?_
    refine X_icmp_gtN (a := d + 1) (b := d) 26 dX12_goesTo_8 (by decide) (by omega) (by omega) (fun h_2 => ?_) (fun h_2 => ?_)
    · exact X_vret dX12_goesTo_26 rfl ⟨rfl, rfl, rfl, rfl⟩
    · exact absurd h_2 (by omega)
theorem okO_id {nG : Nat} (h : nG ≤ 8) : okO2 nG id id := ⟨fun b hb => ⟨hb, rfl⟩, fun q hq => ⟨hq, rfl⟩, fun q hq => hq⟩
def pU (P : PD) : Nat → Nat := nrm P.2.1 (fun b => P.2.2.2.2.2.2 b 0)
theorem pU_i {P : PD} {m : pMI} (h : ∀ b, b < P.2.1 → m 194 b = nI (P.2.2.2.2.2.2 b 0) ∧ P.2.2.2.2.2.2 b 0 < 24) : ∀ b, b < P.2.1 → m 194 b = nI (pU P b) ∧ pU P b < 24 := fun b hb => by rw [show pU P b = _ from nrm_i hb]; exact h b hb
/-- the day's mornings -/
def mrn (P : PD) (H : Nat → HBt) (d : Nat) : Nat → Nat := sqC P H id id id P.2.2.2.1 (pU P) d
def dnW (P : PD) (H : Nat → HBt) (d : Nat) (m : pMI) : pMI := gtW P H id id id P.2.2.2.1 (pU P) d (bgW P.2.1 m)
set_option maxRecDepth 100000 in
set_option maxHeartbeats 4000000 in
theorem c_dayNow (Γ : pTG) (g : pGG) (mi : pMI) (ml : pML) (hSh : Sh g) (P : PD) (hP : okPD P) (H : Nat → HBt) (hH : okH H) (hr : rfP mi P) (hb : rfHb mi H) (d : Nat) (hd : d < 200) (hdd : mi 87 29 = nI d) : cV Γ 7 mX12_dayNow [.ref 87] g mi ml (dnW P H d mi) ml := by
  refine cV_of (by decide +kernel) (Nat.le_of_ble_eq_true rfl) ?_
  have hB := bg_r hP hr hb
  have hd9 : (bgW P.2.1 mi) 87 29 = nI d := (hB.2.2.2 29 (by omega)).trans hdd
  refine X_aload_n dX12_dayNow_0 rfl ?_
  refine X_callVV dX12_dayNow_1 mkX12_347 (k_87 hSh) (c_begins Γ g mi ml hSh P.2.1 hr.2.1 hP.2.1) rfl rfl (by decide) (Nat.le_of_ble_eq_true rfl) ?_
  refine X_aload_n dX12_dayNow_4 rfl ?_
  refine X_aload_n dX12_dayNow_5 rfl ?_
  refine X_geti dX12_dayNow_6 fkX12_244 rfl (k_87 hSh) ?_
  rw [hd9]
  refine X_callVV dX12_dayNow_9 mkX12_350 (k_87 hSh) (c_goesTo Γ g (bgW P.2.1 mi) ml hSh P hP H hH id id id (pU P) P.2.2.2.1 ⟨hP.2.2.2.1, hP.2.2.2.2.1⟩ (okO_id hP.2.1) hB.1 (pU_i hB.2.1) d (by omega)) rfl rfl (by decide) (Nat.le_of_ble_eq_true rfl) ?_
  exact X_vret dX12_dayNow_12 rfl ⟨rfl, rfl, rfl, rfl⟩
theorem dn_r (Γ : pTG) (g : pGG) (mi : pMI) (ml : pML) (hSh : Sh g) (P : PD) (hP : okPD P) (H : Nat → HBt) (hH : okH H) (hr : rfP mi P) (hb : rfHb mi H) (d : Nat) : RDY (dnW P H d mi) P (mrn P H d) (DY P (mrn P H d) id id P.2.2.2.1) ∧ (∀ i, i ≠ 130 → i ≠ 131 → i ≠ 194 → i ≠ 230 → i ≠ 197 → i ≠ 229 → i ≠ 87 → (i < 195 ∨ 228 < i) → dnW P H d mi i = mi i) ∧ (∀ j, j ≠ 53 → dnW P H d mi 87 j = mi 87 j) ∧ rS (dnW P H d mi) P H id id P.2.2.2.1 := by
  have hB := bg_r hP hr hb
  obtain ⟨q1, q2, q3⟩ := gt_all Γ g (bgW P.2.1 mi) ml hSh P hP H hH id id id (pU P) P.2.2.2.1 ⟨hP.2.2.2.1, hP.2.2.2.2.1⟩ (okO_id hP.2.1) hB.1 (pU_i hB.2.1) d
  refine ⟨q1, fun i h1 h2 h3 h4 h5 h6 h7 h8 => ?_, fun j hj => ?_, q3⟩
  · exact (q2 i h1 h2 h3 h4 (by omega)).trans (hB.2.2.1 i h3 h5 h6 h7)
  · exact (congrFun (q2 87 (by omega) (by omega) (by omega) (by omega) (by omega)) j).trans (hB.2.2.2 j hj)

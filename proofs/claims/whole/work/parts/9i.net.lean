/-! ===== a course on trial ===== -/
theorem c_numK (Γ : pTG) (g : pGG) (mi : pMI) (ml : pML) (A : AS) (hC : CI A g mi ml) : rV Γ 1 mX2_goByNumber [.ref 67] g mi ml (fun m l => CI A g m l ∧ (∀ i, i < 8 → m 73 i = nI i) ∧ (∀ i, i ≠ 73 → m i = mi i) ∧ l = ml) := by
  refine rV_w (rV_c (c_goByNumber Γ g mi ml (CI_Sh hC) 67 (shC_67 (CI_Sh hC)))) (fun m l hm => ?_)
  obtain ⟨rfl, rfl⟩ := hm
  exact ⟨CI_fr hC (fill_S (by unfold scR; omega)) rfl, fun i hi => fill_at hi, fun i hi => by funext j; exact fill_row hi, rfl⟩
theorem c_lotK (Γ : pTG) (g : pGG) (mi : pMI) (ml : pML) (A : AS) (hA : okAS A) (hC : CI A g mi ml) (sd : Int32) : rI Γ 2 mX2_goByLot [.ref 67, .int sd] g mi ml (fun v m l => v = (dwN (aG A) sd (aG A - 1)).1 ∧ CI A g m l ∧ (∀ i, i < 8 → m 73 i = nI ((dwN (aG A) sd (aG A - 1)).2.1 i)) ∧ (∀ i, i ≠ 73 → m i = mi i) ∧ l = ml) := by
  refine CT_q (c_goByLot Γ g mi ml (CI_Sh hC) 67 (shC_67 (CI_Sh hC)) (by omega) (aG A) (CI_cl hC).2.1 hA.1.2.1 sd) (fun o g' m l hm => ?_)
  obtain ⟨rfl, rfl, rfl, rfl⟩ := hm
  exact ⟨rfl, _, rfl, rfl, CI_fr hC (fill_S (by unfold scR; omega)) rfl, fun i hi => fill_at hi, fun i hi => by funext j; exact fill_row hi, rfl⟩
theorem c_tryK (Γ : pTG) (g : pGG) (mi : pMI) (ml : pML) (A : AS) (hA : okAS A) (hC : CI A g mi ml) (cm rk ord : Nat → Nat) (un : Nat) (hO : okO2 (aG A) rk ord) (hcm : ∀ b, b < aG A → mi 84 b = nI (cm b) ∧ cm b < 24) (hod : ∀ i, i < 8 → mi 73 i = nI (ord i)) (hu : 1 ≤ un ∧ un < 24) : rV Γ 5 mX2_run [.ref 67, .ref 84, .int (nI un)] g mi ml (fun m l => CI A g m l ∧ CDY m 67 (aP A) cm (DY (aP A) cm rk ord un) ∧ frT 67 mi m ∧ l = ml) := by
  refine rV_w (c_runK Γ g mi ml (CI_Sh hC) 67 (Or.inr rfl) (aP A) hA.1 (CI_cl hC) un cm rk ord hO hcm ((CI_st hC).2.2.1.trans rfl) (fun i hi => hod i (by have h8 : aG A ≤ 8 := hA.1.2.1; have hi : i < aG A := hi; omega)) hu) (fun m l hm => ?_)
  obtain ⟨h1, h2, rfl⟩ := hm
  exact ⟨CI_fr hC (frT_S h2) rfl, h1, h2, rfl⟩
theorem frT_row {m x : pMI} (h : frT 67 m x) {i : Nat} (hi : i < 67 ∨ 76 < i ∨ i = 73) : x i = m i := h.1 i (by omega)
theorem RW_f {m0 x : pMI} {j : Nat} {v : Int32} (h : RW m0 x) (hj : rsF j) (h0 : j ≠ 0) : RW m0 (up2 x 87 j v) := ⟨frW_u h.1 (Or.inl ⟨rfl, hj⟩), frM2_u h.2.1 (by omega), by rw [up2_n (by omega)]; exact h.2.2⟩
theorem rS_off {m : pMI} {P : PD} {H : Nat → HBt} {wh rk : Nat → Nat} {un u : Nat} (hP : okPD P) (h : rS m P H wh rk un) : rS (up2 m 87 53 (nI u)) P H wh rk u := ⟨rfP_w hP h.1 (fun i hi => up2_row (by omega)), rfHb_w h.2.1 (fun i hi => up2_row (by omega)), fun b hb => by rw [up2_row (by omega)]; exact h.2.2.1 b hb, fun b hb => by rw [up2_row (by omega)]; exact h.2.2.2.1 b hb, up2_s⟩
theorem r_dayW (Γ : pTG) (g : pGG) (mi : pMI) (ml : pML) (A : AS) (hA : okAS A) (hSh : Sh g) (m0 : pMI) (hR : RI A m0) (hW : RW m0 mi) : rV Γ 7 mX12_dayNow [.ref 87] g mi ml (fun m l => RDY m (aP A) (mrn (aP A) (aH A) (aD A)) (DYd A) ∧ rS m (aP A) (aH A) id id (aP A).2.2.2.1 ∧ RW m0 m ∧ l = ml) := by
  refine rV_w (r_dayK Γ g mi ml A hA hSh m0 hR hW.1) (fun m l hm => ?_)
  obtain ⟨h1, h2, h3, h4, h5, h6⟩ := hm
  exact ⟨h1, h5, ⟨h2, frM2_t hW.2.1 h3, h4.trans hW.2.2⟩, h6⟩
theorem r_draw (Γ : pTG) (g : pGG) (mi : pMI) (ml : pML) (A : AS) (hA : okAS A) (hSh : Sh g) (m0 : pMI) (hR : RI A m0) (hW : RW m0 mi) (rk : Nat → Nat) (un : Nat) (hS : rS mi (aP A) (aH A) id rk un) : rV Γ 2 mX12_drawsOrder [.ref 87] g mi ml (fun m l => rS m (aP A) (aH A) id (dwN (aG A) (mi 87 60) (aG A - 1)).2.2 un ∧ RW m0 m ∧ m 87 60 = (dwN (aG A) (mi 87 60) (aG A - 1)).1 ∧ (∀ i, i ≠ 87 → i ≠ 197 → i ≠ 448 → m i = mi i) ∧ l = ml) := by
  refine rV_w (rV_c (c_drawsOrder Γ g mi ml hSh (aG A) (RW_I hA hR hW).1.2.1 hA.1.2.1)) (fun m l hm => ?_)
  obtain ⟨rfl, rfl⟩ := hm
  have e : ∀ i, i ≠ 87 → i ≠ 197 → i ≠ 448 → drW (aG A) mi i = mi i := fun i h1 h2 h3 => by
    funext j
    unfold drW
    rw [fill_row h2, fill_row h3, up2_row h1]
  have h87 : ∀ j, drW (aG A) mi 87 j = up2 mi 87 60 (dwN (aG A) (mi 87 60) (aG A - 1)).1 87 j := fun j => by
    unfold drW
    rw [fill_row (by omega), fill_row (by omega)]
  refine ⟨⟨rfP_w hA.1 hS.1 (fun i hi => e i (by omega) (by omega) (by omega)), rfHb_w hS.2.1 (fun i hi => e i (by omega) (by omega) (by omega)), fun b hb => by rw [e 229 (by omega) (by omega) (by omega)]; exact hS.2.2.1 b hb, fun b hb => fill_at hb, by rw [h87, up2_n (by omega)]; exact hS.2.2.2.2⟩, ?_, by rw [h87, up2_s], e, rfl⟩
  refine ⟨frW_t hW.1 ⟨fun i h1 h2 h3 => e i (by omega) (by rintro rfl; exact h3 (by unfold rsR; omega)) (by rintro rfl; exact h3 (by unfold rsR; omega)), fun j hj => by rw [h87, up2_n (by rintro rfl; exact hj (by unfold rsF; omega))]⟩, frM2_t hW.2.1 (fun i hi => e i (by omega) (by omega) (by omega)), by rw [h87, up2_n (by omega)]; exact hW.2.2⟩
/-! what is got is never less than nothing -/
def g2 (K : Nat) (s : DS) : Prop := ∀ b, b < 8 → ∃ q, q ≤ K ∧ s.1 200 b = nI q
theorem g2_e {K : Nat} {s z : DS} (h : z.1 200 = s.1 200) (hs : g2 K s) : g2 K z := fun b hb => by rw [h]; exact hs b hb
theorem e2_lv {T : Nat → Nat} {h b : Nat} {s : DS} : (lvD T h b s).1 200 = s.1 200 := by
  unfold lvD
  split
  · show (frD b s).1 200 = _; rw [frD_1]
  · rfl
theorem e2_ht {F : Nat → Nat} {h c : Nat} {ob : Int32} {s : DS} : (htD F h ob c s).1 200 = s.1 200 := by
  unfold htD
  cases s.2.1 204 c with
  | none => rfl
  | some b =>
    dsimp only
    split
    · rfl
    · show up2 s.1 202 b (s.1 202 b + nI 1) 200 = _
      exact up2_row (by omega)
theorem e2_lp {f : Nat → DS → DS} (hf : ∀ i s, (f i s).1 200 = s.1 200) : ∀ n i s, (lpS f i n s).1 200 = s.1 200
  | 0, _, _ => rfl
  | n + 1, i, s => (e2_lp hf n (i + 1) (f i s)).trans (hf i s)
theorem e2_hg {F : Nat → Nat} {h nC go : Nat} {ob : Int32} {s : DS} : (hgD F h ob nC go s).1 200 = s.1 200 := by
  unfold hgD
  split
  · exact e2_lp (fun _ _ => e2_ht) _ _ _
  · rfl
theorem e2_si {a h c : Nat} {s : DS} : (sitD a h c s).1 200 = s.1 200 := by
  show up2 (up2 (up2 s.1 205 c (nI h)) 201 a (s.1 201 a + nI 1)) 208 c (s.1 208 c + nI 1) 200 = _
  rw [up2_row (by omega), up2_row (by omega), up2_row (by omega)]
theorem e2_ar {W : Nat → Nat → Int32} {cm T ord : Nat → Nat} {nC h q : Nat} {s : DS} : (arD W cm T ord nC h q s).1 200 = s.1 200 := by
  unfold arD
  split
  · cases bsD (W (ord q)) (fun c => (s.2.1 204 c).isNone) nC with
    | none => rfl
    | some c => exact (show (sitD (ord q) h c s).1 200 = s.1 200 from e2_si)
  · rfl
theorem e2_tr {W : Nat → Nat → Int32} {nC a h : Nat} {s : DS} : (trD W nC a h s).1 200 = s.1 200 := by
  unfold trD
  cases bsD (W a) (fun c => (s.2.1 204 c).isNone) nC with
  | none => rfl
  | some c => exact e2_si
theorem e2_wt {W : Nat → Nat → Int32} {rk : Nat → Nat} {nC nG h : Nat} : ∀ (f : Nat) (tr : Nat → Bool) (s : DS), (wtD W rk nC nG h f tr s).1 200 = s.1 200
  | 0, _, _ => rfl
  | f + 1, tr, s => by
    unfold wtD
    cases nwM (s.2.1 196) rk tr h nG with
    | none => rfl
    | some a => exact (e2_wt f _ _).trans e2_tr
theorem e2_mk {h a : Nat} {s : DS} : (mkD h a s).1 200 = s.1 200 := by
  unfold mkD
  cases s.2.1 196 a with
  | none => rfl
  | some v =>
    dsimp only
    split
    · show up2 (up2 s.1 209 h (s.1 209 h ||| nI 1 <<< (nI a &&& 31))) 203 a (s.1 203 a + nI 1) 200 = _
      rw [up2_row (by omega), up2_row (by omega)]
    · rfl
theorem g2_ly {m : pMI} {F : Nat → Nat} {h c K : Nat} {s : DS} (hm : ∀ x, x < 2 → ∃ q, q < 10 ∧ m (102 + c) x = nI q) (hs : g2 K s) : g2 (K + 9) (lyD m F h c s) := by
  intro b hb
  obtain ⟨q, hq, he⟩ := hs b hb
  unfold lyD
  cases s.2.1 204 c with
  | none => exact ⟨q, by omega, by show up2 (up2 s.1 (211 + c) h (-1)) (220 + c) h (-1) 200 b = _; rw [up2_row (by omega), up2_row (by omega)]; exact he⟩
  | some a =>
    dsimp only
    split
    · exact ⟨q, by omega, by show up2 (up2 (up2 s.1 (211 + c) h (nI a)) (220 + c) h (-1)) 207 c (s.1 207 c + nI 1) 200 b = _; rw [up2_row (by omega), up2_row (by omega), up2_row (by omega)]; exact he⟩
    · obtain ⟨p, hp, hpe⟩ := hm (if h < 12 then 0 else 1) (by split <;> omega)
      show ∃ q, q ≤ K + 9 ∧ up2 (up2 (up2 (up2 (up2 (up2 (up2 s.1 (211 + c) h (nI a)) (220 + c) h (-1)) (220 + c) h (nI a)) 205 c (nI (h + 1))) 206 c (s.1 206 c + nI 1)) 199 a (s.1 199 a + nI 1)) 200 a (s.1 200 a + m (102 + c) (if h < 12 then 0 else 1)) 200 b = nI q
      by_cases hba : b = a
      · subst hba
        exact ⟨q + p, by omega, by rw [up2_s, he, hpe, nI_add]⟩
      · exact ⟨q, by omega, by rw [up2_n hba, up2_row (by omega), up2_row (by omega), up2_row (by omega), up2_row (by omega), up2_row (by omega), up2_row (by omega)]; exact he⟩
theorem g2_hf {m : pMI} {nC nG : Nat} {F T cm rk ord : Nat → Nat} {ob : Int32} {go h K : Nat} {s : DS} (hC : nC ≤ 8) (hm : ∀ c, c < nC → ∀ x, x < 2 → ∃ q, q < 10 ∧ m (102 + c) x = nI q) (hs : g2 K s) : g2 (K + 72) (hfD m nC nG F T cm rk ord ob go h s) := by
  unfold hfD
  have h1 : g2 K (lpS (mkD h) 0 nG ((fun z : DS => (up2 z.1 209 h (nI 0), z.2)) (wtD (fun g c => wM m F T g h c) rk nC nG h nG (fun _ => false) (lpS (arD (fun g c => wM m F T g h c) cm T ord nC h) 0 nG (hgD F h ob nC go (lpS (lvD T h) 0 nG s)))))) := by
    refine g2_e ?_ hs
    rw [e2_lp (fun _ _ => e2_mk)]
    show up2 (wtD (fun g c => wM m F T g h c) rk nC nG h nG (fun _ => false) (lpS (arD (fun g c => wM m F T g h c) cm T ord nC h) 0 nG (hgD F h ob nC go (lpS (lvD T h) 0 nG s)))).1 209 h (nI 0) 200 = _
    rw [up2_row (by omega), e2_wt, e2_lp (fun _ _ => e2_ar), e2_hg, e2_lp (fun _ _ => e2_lv)]
  have := lpS_inv (f := lyD m F h) (fun i z => g2 (K + 9 * i) z) (e := nC) (fun i z hi hz => by
    have := g2_ly (m := m) (F := F) (h := h) (hm i hi) hz
    rw [show K + 9 * (i + 1) = K + 9 * i + 9 by omega]; exact this) nC 0 _ (by omega) h1
  intro b hb
  obtain ⟨q, hq, he⟩ := this b hb
  exact ⟨q, by omega, he⟩
theorem got_ok {P : PD} {cm rk ord : Nat → Nat} {un : Nat} (hP : okPD P) : g2 1728 (DY P cm rk ord un) := by
  have hm := mR_rf P hP cm rk un
  have h0 : g2 (72 * 0) (dy0 (mR P cm rk un)) := fun b hb => ⟨0, by omega, by show clM (mR P cm rk un) 200 b = nI 0; unfold clM clr; rw [if_pos hb]; rfl⟩
  have := lpS_inv (f := hfD (mR P cm rk un) P.1 P.2.1 (pF P) (pT P) cm rk ord (nI un) P.2.2.1) (fun i z => g2 (72 * i) z) (e := 24) (fun i z hi hz => by
    rw [show 72 * (i + 1) = 72 * i + 72 by omega]
    refine g2_hf hP.1 (fun c hc x hx => ?_) hz
    have h1 := hm.2.2.2.2.2.1 c hc
    have h2 := hP.2.2.2.2.2.2.1 c hc
    by_cases q : x = 0
    · subst q; exact ⟨_, h2.1, h1.1⟩
    · rw [show x = 1 by omega]; exact ⟨_, h2.2, h1.2⟩) 24 0 _ (by omega) h0
  exact this
theorem sum_ok {f : Nat → Int32} {K : Nat} : ∀ n, (∀ b, b < n → ∃ q, q ≤ K ∧ f b = nI q) → ∃ q, q ≤ K * n ∧ sumN f n = nI q
  | 0, _ => ⟨0, by omega, rfl⟩
  | n + 1, h => by
    obtain ⟨q, h1, h2⟩ := sum_ok n (fun b hb => h b (by omega))
    obtain ⟨p, h3, h4⟩ := h n (by omega)
    refine ⟨q + p, by rw [Nat.mul_succ]; omega, ?_⟩
    unfold sumN
    rw [h2, h4, nI_add]
/-! a morning of digits -/
def dtN (k nG b : Nat) : Nat := (k / 10 ^ (nG - 1 - b)) % 10
theorem dtN_lt (k nG b : Nat) : dtN k nG b < 24 := Nat.lt_trans (Nat.mod_lt _ (by omega)) (by omega)
theorem p10 : ∀ n, n ≤ 8 → 1 ≤ 10 ^ n ∧ 10 ^ n ≤ 100000000 := by decide +kernel
theorem dv10 (k i : Nat) : k / 10 ^ (i + 1) = k / 10 ^ i / 10 := by rw [Nat.pow_succ, Nat.div_div_eq_div_mul]
theorem dg_at {k nG i : Nat} (hi : i < nG) : dtN k nG (nG - 1 - i) = k / 10 ^ i % 10 := by unfold dtN; rw [show nG - 1 - (nG - 1 - i) = i by omega]
def DGI (R k nG i : Nat) (m y : pMI) : Prop := (∀ b, b < nG → nG ≤ b + i → y R b = nI (dtN k nG b)) ∧ ∀ a, a ≠ R → y a = m a
theorem DGI_0 {R k nG : Nat} {m : pMI} : DGI R k nG 0 m m := ⟨fun b h1 h2 => absurd h1 (by omega), fun _ _ => rfl⟩
theorem DGI_s {R k nG i : Nat} {m y : pMI} (hi : i < nG) (h : DGI R k nG i m y) : DGI R k nG (i + 1) m (up2 y R (nG - 1 - i) (nI (k / 10 ^ i % 10))) := by
  refine ⟨fun b h1 h2 => ?_, fun a ha => by rw [up2_row ha]; exact h.2 a ha⟩
  by_cases q : b = nG - 1 - i
  · rw [q, up2_s, dg_at hi]
  · rw [up2_n q]; exact h.1 b h1 (by omega)
set_option maxRecDepth 100000 in
set_option maxHeartbeats 4000000 in
theorem c_power (Γ : pTG) (g : pGG) (mi : pMI) (ml : pML) (k : Nat) (hk : k ≤ 8) : cI Γ 1 mX12_power [.int (nI 10), .int (nI k)] g mi ml (nI (10 ^ k)) mi := by
  refine cI_of (by decide +kernel) (Nat.le_of_ble_eq_true rfl) ?_
  refine X_iconst (v := nI 1) dX12_power_0 (by decide) ?_
  refine X_istore_n dX12_power_1 (by decide) ?_
  refine X_iconst (v := nI 0) dX12_power_2 (by decide) ?_
  refine X_istore_n dX12_power_3 (by decide) ?_
  refine X_L [(3, .int (nI 0)), (2, .int (nI 1)), (0, .int (nI 10)), (1, .int (nI k))] ⟨rfl, rfl, rfl, rfl, trivial⟩ ?_
  refine X_forR (σ := Unit) 4 (fun i u => [(3, .int (nI i)), (2, .int (nI (10 ^ i))), (0, .int (nI 10)), (1, .int (nI k))]) (fun u => mi) (fun u => ml) (fun i u => True) k ?_ ?_ k 0 (()) (by omega) trivial
  · intro i u hi hI hn
    refine X_iload_n dX12_power_4 rfl ?_
    refine X_iload_n dX12_power_5 rfl ?_
    refine X_icmp_geN (a := i) (b := k) 19 dX12_power_6 (by decide) (by omega) (by omega) (fun h_1 => ?_) (fun h_1 => ?_)
    · exact absurd hi (by omega)
    · refine X_iload_n dX12_power_9 rfl ?_
      refine X_iload_n dX12_power_10 rfl ?_
      refine X_imul dX12_power_11 ?_
      refine X_topi (pk_mul (10 ^ i) 10) ?_
      refine X_istore_n dX12_power_12 (by decide) ?_
      refine X_iinc (v := nI (i + 1)) dX12_power_13 rfl (nI_1 _) (by decide) ?_
      refine X_goto 4 dX12_power_16 (by decide) ?_
      refine X_L [(3, .int (nI (i + 1))), (2, .int (nI ((10 ^ i) * 10))), (0, .int (nI 10)), (1, .int (nI k))] ⟨rfl, rfl, rfl, rfl, trivial⟩ ?_
      exact hn () trivial
  · intro u hI
    refine X_iload_n dX12_power_4 rfl ?_
    refine X_iload_n dX12_power_5 rfl ?_
    refine X_icmp_geN (a := k) (b := k) 19 dX12_power_6 (by decide) (by omega) (by omega) (fun h_2 => ?_) (fun h_2 => ?_)
    · refine X_iload_n dX12_power_19 rfl ?_
      exact X_iret dX12_power_20 rfl ⟨by rfl, rfl, rfl, rfl⟩
    · exact absurd h_2 (by omega)
set_option maxRecDepth 100000 in
set_option maxHeartbeats 4000000 in
theorem c_comeBy (Γ : pTG) (g : pGG) (mi : pMI) (ml : pML) (hSh : Sh g) (nG : Nat) (hG : mi 91 1 = nI nG) (h8 : nG ≤ 8) (k : Nat) (hk : k < 2147483648) : rV Γ 1 mX12_comeBy [.ref 87, .int (nI k), .int (nI 10)] g mi ml (fun m l => DGI 194 k nG nG mi m ∧ l = ml) := by
  refine rV_of (by decide +kernel) (Nat.le_of_ble_eq_true rfl) ?_
  refine X_iload_n dX12_comeBy_0 rfl ?_
  refine X_istore_n dX12_comeBy_1 (by decide) ?_
  refine X_aload_n dX12_comeBy_2 rfl ?_
  refine X_getr (a := 91) dX12_comeBy_3 fkX12_23 rfl (k_87 hSh) (r_87_12 hSh) ?_
  refine X_iconst (v := nI 1) dX12_comeBy_6 (by decide) ?_
  refine X_iald 1 dX12_comeBy_7 (k_91 hSh) rfl (by omega) ?_
  rw [hG]
  refine X_iconst (v := nI 1) dX12_comeBy_8 (by decide) ?_
  refine X_isub dX12_comeBy_9 ?_
  refine X_istore dX12_comeBy_10 (by decide) ?_
  refine X_L [(4, .int ((nI nG) - (nI 1))), (3, .int (nI k)), (0, .ref 87), (1, .int (nI k)), (2, .int (nI 10))] ⟨rfl, rfl, rfl, rfl, rfl, trivial⟩ ?_
  refine X_L [(4, .int (dnI nG 0)), (3, .int (nI (k / 10 ^ 0))), (0, .ref 87), (1, .int (nI k)), (2, .int (nI 10))] ⟨by rw [← dn_0]; rfl, by rw [Nat.pow_zero, Nat.div_one]; rfl, rfl, rfl, rfl, trivial⟩ ?_
  refine X_forR (σ := pMI) 12 (fun i y => [(4, .int (dnI nG i)), (3, .int (nI (k / 10 ^ i))), (0, .ref 87), (1, .int (nI k)), (2, .int (nI 10))]) (fun y => y) (fun y => ml) (fun i y => DGI 194 k nG i mi y) nG ?_ ?_ nG 0 mi (by omega) DGI_0
  · intro i y hi hI hn
    have hq0 : k / 10 ^ i ≤ k := Nat.div_le_self _ _
    refine X_L [(4, .int (nI (nG - 1 - i))), (3, .int (nI (k / 10 ^ i))), (0, .ref 87), (1, .int (nI k)), (2, .int (nI 10))] ⟨by rw [dn_i hi]; rfl, rfl, rfl, rfl, rfl, trivial⟩ ?_
    refine X_iload dX12_comeBy_12 rfl ?_
    refine X_if_ltN (a := nG - 1 - i) 37 dX12_comeBy_14 (by decide) (by omega) (fun h_1 => ?_) (fun h_1 => ?_)
    · exact h_1.elim
    · refine X_aload_n dX12_comeBy_17 rfl ?_
      refine X_getr (a := 194) dX12_comeBy_18 fkX12_71 rfl (k_87 hSh) (r_87_34 hSh) ?_
      refine X_iload dX12_comeBy_21 rfl ?_
      refine X_iload_n dX12_comeBy_23 rfl ?_
      refine X_iload_n dX12_comeBy_24 rfl ?_
      refine X_irem dX12_comeBy_25 (nI_ne0 (by omega) (by omega)) ?_
      refine X_topi (pk_rem (a := k / 10 ^ i) (d := 10) (by omega) (by omega) (by omega)) ?_
      refine X_iast (nG - 1 - i) dX12_comeBy_26 (k_194 hSh) rfl (by omega) ?_
      refine X_iload_n dX12_comeBy_27 rfl ?_
      refine X_iload_n dX12_comeBy_28 rfl ?_
      refine X_idiv dX12_comeBy_29 (nI_ne0 (by omega) (by omega)) ?_
      refine X_topi (pk_div (a := k / 10 ^ i) (d := 10) (by omega) (by omega) (by omega)) ?_
      refine X_istore_n dX12_comeBy_30 (by decide) ?_
      refine X_iinc dX12_comeBy_31 rfl rfl (by decide) ?_
      refine X_goto 12 dX12_comeBy_34 (by decide) ?_
      refine X_L [(4, .int ((nI (nG - 1 - i)) + Int32.ofInt (-1))), (3, .int (nI ((k / 10 ^ i) / 10))), (0, .ref 87), (1, .int (nI k)), (2, .int (nI 10))] ⟨rfl, rfl, rfl, rfl, rfl, trivial⟩ ?_
      refine X_L [(4, .int (dnI nG (i + 1))), (3, .int (nI (k / 10 ^ (i + 1)))), (0, .ref 87), (1, .int (nI k)), (2, .int (nI 10))] ⟨by rw [← dn_s hi]; rfl, by rw [dv10]; rfl, rfl, rfl, rfl, trivial⟩ ?_
      exact hn _ (DGI_s hi hI)
  · intro y hI
    have hq1 : k / 10 ^ nG ≤ k := Nat.div_le_self _ _
    refine X_L [(4, .int (-1)), (3, .int (nI (k / 10 ^ nG))), (0, .ref 87), (1, .int (nI k)), (2, .int (nI 10))] ⟨by rw [show dnI nG nG = -1 from if_neg (by omega)]; rfl, rfl, rfl, rfl, rfl, trivial⟩ ?_
    refine X_iload dX12_comeBy_12 rfl ?_
    refine X_if_lt 37 dX12_comeBy_14 (by decide) (fun h_2 => ?_) (fun h_2 => ?_)
    · exact X_vret dX12_comeBy_37 rfl ⟨rfl, rfl, hI, rfl⟩
    · exact absurd (by decide) h_2
set_option maxRecDepth 100000 in
set_option maxHeartbeats 4000000 in
theorem k_net_f0 (Γ : pTG) (g : pGG) (mi : pMI) (ml : pML) (A : AS) (hA : okAS A) (hC : CI A g mi ml) (v : Int32) (hf : ¬ ∃ b, b < aG A ∧ v = nI b) (w : Int32) : CT Γ 60 20 5000 mX11_net [.ref 0, .int v, .int w] g mi ml (CQ (rfA A 0) (.inr 0) mi ml) := by
  refine CT_of (by decide +kernel) (Nat.le_of_ble_eq_true rfl) ?_
  have hSh := CI_Sh hC
  have hcl := CI_cl hC
  have hP := hA.1
  have hG8 : aG A ≤ 8 := hP.2.1
  have hC8 : (aP A).1 ≤ 8 := hP.1
  refine X_aload_n dX11_net_0 rfl ?_
  refine X_iload_n dX11_net_1 rfl ?_
  exact X_need dX11_net_2 mkX11_147 (k_0 hSh) (c_needGuest Γ g mi ml hSh v) rfl rfl (by decide) (by decide) (by decide) (by decide) (fun _ => ⟨rfl, CI_rf (by decide) hC, frK_86, rfl⟩) (fun h => absurd ((gd_iff hG8).mp (by rw [← hcl.2.1]; exact h)) hf)
set_option maxRecDepth 100000 in
set_option maxHeartbeats 4000000 in
theorem r_net_f0 (Γ : pTG) (g : pGG) (mi : pMI) (ml : pML) (A : AS) (hA : okAS A) (hSh : Sh g) (hR : RI A mi) (v : Int32) (hf : ¬ ∃ b, b < aG A ∧ v = nI b) (w : Int32) : CT Γ 60 0 0 mX12_net [.ref 87, .int v, .int w] g mi ml (RQ (rfA A 0) (.inr 0) cd2 g mi ml) := by
  refine CT_of (by decide +kernel) (Nat.le_of_ble_eq_true rfl) ?_
  have hP := hA.1
  have hG8 : aG A ≤ 8 := hP.2.1
  have hC8 : (aP A).1 ≤ 8 := hP.1
  refine X_aload_n dX12_net_0 rfl ?_
  refine X_iconst (v := nI 0) dX12_net_1 (by decide) ?_
  refine X_puti dX12_net_2 fkX12_158 rfl rfl (k_87 hSh) ?_
  refine X_aload_n dX12_net_5 rfl ?_
  refine X_aload_n dX12_net_6 rfl ?_
  refine X_iload_n dX12_net_7 rfl ?_
  refine X_callVI dX12_net_8 mkX12_285 (k_87 hSh) (c_isGuest Γ g (up2 mi 87 0 (nI 0)) ml hSh v) rfl rfl (by decide) (Nat.le_of_ble_eq_true rfl) ?_
  refine X_topi (show bI (decide (nI 0 ≤ v) && decide (v ≤ (up2 mi 87 0 (nI 0)) 91 1 - nI 1)) = nI 0 from congrArg bI (show (decide (nI 0 ≤ v) && decide (v ≤ (up2 mi 87 0 (nI 0)) 91 1 - nI 1)) = false from Bool.eq_false_iff.mpr (fun q => hf ((gd_ref hG8).mp (by rw [(show (up2 mi 87 0 (nI 0)) 91 1 = nI (aG A) from ((congrFun (up2_row (by omega)) _).trans hR.1.2.1))] at q; exact q))))) ?_
  refine X_if_neN (a := 0) 18 dX12_net_11 (by decide) (by omega) (fun h_1 => ?_) (fun h_1 => ?_)
  · exact absurd h_1 (by omega)
  · refine X_iconst (v := nI 1) dX12_net_14 (by decide) ?_
    refine X_goto 19 dX12_net_15 (by decide) ?_
    refine X_iconst (v := nI 1) dX12_net_19 (by decide) ?_
    refine X_iconst (v := nI 0) dX12_net_20 (by decide) ?_
    refine X_callVI dX12_net_21 mkX12_228 (k_87 hSh) (c_bad1 Γ g (up2 mi 87 0 (nI 0)) ml hSh 1 0 (by decide) (by decide) (by decide) up2_s) rfl rfl (by decide) (Nat.le_of_ble_eq_true rfl) ?_
    refine X_mi (show _ = mB mi 1 0 from rfl) ?_
    refine X_if_neN (a := 1) 62 dX12_net_24 (by decide) (by omega) (fun h_2 => ?_) (fun h_2 => ?_)
    · refine X_iconst (v := nI 0) dX12_net_62 (by decide) ?_
      exact X_iret dX12_net_63 rfl ⟨rfl, rfl, RI_rf hA (by decide) hR, fr2_B, _, rfl, mB_0⟩
    · exact absurd h_2 (by omega)
theorem dg_S {m y : pMI} (h : ∀ a, a ≠ 84 → y a = m a) : frS m y := ⟨fun i h1 h2 h3 h4 h5 h6 => h i (by rintro rfl; exact h2 (by unfold scR; omega)), fun j hj => by rw [h 17 (by omega)], by rw [h 2 (by omega)], by rw [h 47 (by omega)], by rw [h 67 (by omega)]⟩
theorem dg_K {m y : pMI} (h : ∀ a, a ≠ 84 → y a = m a) : frK m y := fun i h1 h2 => h i (by omega)
set_option maxRecDepth 100000 in
set_option maxHeartbeats 4000000 in
theorem k_net_n (Γ : pTG) (g : pGG) (mi : pMI) (ml : pML) (A : AS) (hA : okAS A) (hC : CI A g mi ml) (b : Nat) (hb : b < aG A) (w : Int32) (hw : w < 0) : CT Γ 60 20 5000 mX11_net [.ref 0, .int (nI b), .int w] g mi ml (CQ (rfA A 1) (.inr 1) mi ml) := by
  refine CT_of (by decide +kernel) (Nat.le_of_ble_eq_true rfl) ?_
  have hSh := CI_Sh hC
  have hcl := CI_cl hC
  have hP := hA.1
  have hG8 : aG A ≤ 8 := hP.2.1
  have hC8 : (aP A).1 ≤ 8 := hP.1
  refine X_aload_n dX11_net_0 rfl ?_
  refine X_iload_n dX11_net_1 rfl ?_
  refine X_need dX11_net_2 mkX11_147 (k_0 hSh) (c_needGuest Γ g mi ml hSh (nI b)) rfl rfl (by decide) (by decide) (by decide) (by decide) (fun h => absurd (by rw [hcl.2.1]; exact (gd_iff hG8).mpr ⟨b, hb, rfl⟩) h) (fun _ => ?_)
  refine X_iload_n dX11_net_5 rfl ?_
  refine X_istore_n dX11_net_6 (by decide) ?_
  refine X_aload_n dX11_net_7 rfl ?_
  refine X_getr (a := 3) dX11_net_8 fkX11_25 rfl (k_0 hSh) (r_0_2 hSh) ?_
  refine X_geti dX11_net_11 fkX11_144 rfl (k_3 hSh) ?_
  rw [hcl.2.1]
  refine X_iconst (v := nI 1) dX11_net_14 (by decide) ?_
  refine X_isub dX11_net_15 ?_
  refine X_istore dX11_net_16 (by decide) ?_
  refine X_L [(4, .int ((nI (aG A)) - (nI 1))), (3, .int w), (0, .ref 0), (1, .int (nI b)), (2, .int w)] ⟨rfl, rfl, rfl, rfl, rfl, trivial⟩ ?_
  refine X_L [(4, .int (dnI (aG A) 0)), (3, .int w), (0, .ref 0), (1, .int (nI b)), (2, .int w)] ⟨by rw [← dn_0]; rfl, rfl, rfl, rfl, rfl, trivial⟩ ?_
  refine X_forR (σ := pMI × Int32) 18 (fun i y => [(4, .int (dnI (aG A) i)), (3, .int y.2), (0, .ref 0), (1, .int (nI b)), (2, .int w)]) (fun y => y.1) (fun y => ml) (fun i y => ∀ a, a ≠ 84 → y.1 a = mi a) (aG A) ?_ ?_ (aG A) 0 (mi, w) (by omega) (fun _ _ => rfl)
  · intro i y hi hI hn
    refine X_L [(4, .int (nI (aG A - 1 - i))), (3, .int y.2), (0, .ref 0), (1, .int (nI b)), (2, .int w)] ⟨by rw [dn_i hi]; rfl, rfl, rfl, rfl, rfl, trivial⟩ ?_
    have h10 : ¬ nI 10 = 0 := by decide
    refine X_iload dX11_net_18 rfl ?_
    refine X_if_ltN (a := aG A - 1 - i) 45 dX11_net_20 (by decide) (by omega) (fun h_1 => ?_) (fun h_1 => ?_)
    · exact h_1.elim
    · refine X_aload_n dX11_net_23 rfl ?_
      refine X_getr (a := 84) dX11_net_24 fkX11_95 rfl (k_0 hSh) (r_0_13 hSh) ?_
      refine X_iload dX11_net_27 rfl ?_
      refine X_iload_n dX11_net_29 rfl ?_
      refine X_bipush (v := nI 10) dX11_net_30 (by decide) ?_
      refine X_irem dX11_net_32 (by assumption) ?_
      refine X_iast (aG A - 1 - i) dX11_net_33 (k_84 hSh) rfl (by omega) ?_
      refine X_iload_n dX11_net_34 rfl ?_
      refine X_bipush (v := nI 10) dX11_net_35 (by decide) ?_
      refine X_idiv dX11_net_37 (by assumption) ?_
      refine X_istore_n dX11_net_38 (by decide) ?_
      refine X_iinc dX11_net_39 rfl rfl (by decide) ?_
      refine X_goto 18 dX11_net_42 (by decide) ?_
      refine X_L [(4, .int ((nI (aG A - 1 - i)) + Int32.ofInt (-1))), (3, .int (y.2 / (nI 10))), (0, .ref 0), (1, .int (nI b)), (2, .int w)] ⟨rfl, rfl, rfl, rfl, rfl, trivial⟩ ?_
      refine X_L [(4, .int (dnI (aG A) (i + 1))), (3, .int (y.2 / (nI 10))), (0, .ref 0), (1, .int (nI b)), (2, .int w)] ⟨by rw [← dn_s hi]; rfl, rfl, rfl, rfl, rfl, trivial⟩ ?_
      exact hn ((up2 y.1 84 (aG A - 1 - i) (y.2 - y.2 / (nI 10) * (nI 10))), y.2 / (nI 10)) (fun a ha => (up2_row ha).trans (hI a ha))
  · intro y hI
    have hyF := hI
    refine X_L [(4, .int (-1)), (3, .int y.2), (0, .ref 0), (1, .int (nI b)), (2, .int w)] ⟨by rw [show dnI (aG A) (aG A) = -1 from if_neg (by omega)]; rfl, rfl, rfl, rfl, rfl, trivial⟩ ?_
    refine X_iload dX11_net_18 rfl ?_
    refine X_if_lt 45 dX11_net_20 (by decide) (fun h_2 => ?_) (fun h_2 => ?_)
    · refine X_aload_n dX11_net_45 rfl ?_
      refine X_iload_n dX11_net_46 rfl ?_
      refine X_if_lt 58 dX11_net_47 (by decide) (fun h_3 => ?_) (fun h_3 => ?_)
      · refine X_iconst (v := nI 0) dX11_net_58 (by decide) ?_
        exact X_need dX11_net_59 mkX11_296 (k_0 hSh) (c_needArgument Γ g y.1 ml hSh (nI 0)) rfl rfl (by decide) (by decide) (by decide) (by decide) (fun _ => ⟨rfl, CI_rf (by decide) (CI_fr hC (dg_S hyF) rfl), frK_t (dg_K hyF) frK_86, rfl⟩) (fun h => absurd (show nI 0 = 0 by decide) h)
      · exact absurd hw h_3
    · exact absurd (by decide) h_2
set_option maxRecDepth 100000 in
set_option maxHeartbeats 4000000 in
theorem k_net_b (Γ : pTG) (g : pGG) (mi : pMI) (ml : pML) (A : AS) (hA : okAS A) (hC : CI A g mi ml) (b : Nat) (hb : b < aG A) (k : Nat) (hka : 0 ≤ k) (hk : k ≤ 2147483647) (hlt : ¬ k / 10 ^ aG A = 0) : CT Γ 60 20 5000 mX11_net [.ref 0, .int (nI b), .int (nI k)] g mi ml (CQ (rfA A 1) (.inr 1) mi ml) := by
  refine CT_of (by decide +kernel) (Nat.le_of_ble_eq_true rfl) ?_
  have hSh := CI_Sh hC
  have hcl := CI_cl hC
  have hP := hA.1
  have hG8 : aG A ≤ 8 := hP.2.1
  have hC8 : (aP A).1 ≤ 8 := hP.1
  refine X_aload_n dX11_net_0 rfl ?_
  refine X_iload_n dX11_net_1 rfl ?_
  refine X_need dX11_net_2 mkX11_147 (k_0 hSh) (c_needGuest Γ g mi ml hSh (nI b)) rfl rfl (by decide) (by decide) (by decide) (by decide) (fun h => absurd (by rw [hcl.2.1]; exact (gd_iff hG8).mpr ⟨b, hb, rfl⟩) h) (fun _ => ?_)
  refine X_iload_n dX11_net_5 rfl ?_
  refine X_istore_n dX11_net_6 (by decide) ?_
  refine X_aload_n dX11_net_7 rfl ?_
  refine X_getr (a := 3) dX11_net_8 fkX11_25 rfl (k_0 hSh) (r_0_2 hSh) ?_
  refine X_geti dX11_net_11 fkX11_144 rfl (k_3 hSh) ?_
  rw [hcl.2.1]
  refine X_iconst (v := nI 1) dX11_net_14 (by decide) ?_
  refine X_isub dX11_net_15 ?_
  refine X_istore dX11_net_16 (by decide) ?_
  refine X_L [(4, .int ((nI (aG A)) - (nI 1))), (3, .int (nI k)), (0, .ref 0), (1, .int (nI b)), (2, .int (nI k))] ⟨rfl, rfl, rfl, rfl, rfl, trivial⟩ ?_
  refine X_L [(4, .int (dnI (aG A) 0)), (3, .int (nI (k / 10 ^ 0))), (0, .ref 0), (1, .int (nI b)), (2, .int (nI k))] ⟨by rw [← dn_0]; rfl, by rw [Nat.pow_zero, Nat.div_one]; rfl, rfl, rfl, rfl, trivial⟩ ?_
  refine X_forR (σ := pMI) 18 (fun i y => [(4, .int (dnI (aG A) i)), (3, .int (nI (k / 10 ^ i))), (0, .ref 0), (1, .int (nI b)), (2, .int (nI k))]) (fun y => y) (fun y => ml) (fun i y => DGI 84 k (aG A) i mi y) (aG A) ?_ ?_ (aG A) 0 mi (by omega) DGI_0
  · intro i y hi hI hn
    have hq0 : k / 10 ^ i ≤ k := Nat.div_le_self _ _
    refine X_L [(4, .int (nI ((aG A) - 1 - i))), (3, .int (nI (k / 10 ^ i))), (0, .ref 0), (1, .int (nI b)), (2, .int (nI k))] ⟨by rw [dn_i hi]; rfl, rfl, rfl, rfl, rfl, trivial⟩ ?_
    refine X_iload dX11_net_18 rfl ?_
    refine X_if_ltN (a := (aG A) - 1 - i) 45 dX11_net_20 (by decide) (by omega) (fun h_1 => ?_) (fun h_1 => ?_)
    · exact h_1.elim
    · refine X_aload_n dX11_net_23 rfl ?_
      refine X_getr (a := 84) dX11_net_24 fkX11_95 rfl (k_0 hSh) (r_0_13 hSh) ?_
      refine X_iload dX11_net_27 rfl ?_
      refine X_iload_n dX11_net_29 rfl ?_
      refine X_bipush (v := nI 10) dX11_net_30 (by decide) ?_
      refine X_irem dX11_net_32 (nI_ne0 (by omega) (by omega)) ?_
      refine X_topi (pk_rem (a := k / 10 ^ i) (d := 10) (by omega) (by omega) (by omega)) ?_
      refine X_iast ((aG A) - 1 - i) dX11_net_33 (k_84 hSh) rfl (by omega) ?_
      refine X_iload_n dX11_net_34 rfl ?_
      refine X_bipush (v := nI 10) dX11_net_35 (by decide) ?_
      refine X_idiv dX11_net_37 (nI_ne0 (by omega) (by omega)) ?_
      refine X_topi (pk_div (a := k / 10 ^ i) (d := 10) (by omega) (by omega) (by omega)) ?_
      refine X_istore_n dX11_net_38 (by decide) ?_
      refine X_iinc dX11_net_39 rfl rfl (by decide) ?_
      refine X_goto 18 dX11_net_42 (by decide) ?_
      refine X_L [(4, .int ((nI ((aG A) - 1 - i)) + Int32.ofInt (-1))), (3, .int (nI ((k / 10 ^ i) / 10))), (0, .ref 0), (1, .int (nI b)), (2, .int (nI k))] ⟨rfl, rfl, rfl, rfl, rfl, trivial⟩ ?_
      refine X_L [(4, .int (dnI (aG A) (i + 1))), (3, .int (nI (k / 10 ^ (i + 1)))), (0, .ref 0), (1, .int (nI b)), (2, .int (nI k))] ⟨by rw [← dn_s hi]; rfl, by rw [dv10]; rfl, rfl, rfl, rfl, trivial⟩ ?_
      exact hn _ (DGI_s hi hI)
  · intro y hI
    have hyF := hI.2
    have hyD := hI.1
    have hq1 : k / 10 ^ (aG A) ≤ k := Nat.div_le_self _ _
    refine X_L [(4, .int (-1)), (3, .int (nI (k / 10 ^ (aG A)))), (0, .ref 0), (1, .int (nI b)), (2, .int (nI k))] ⟨by rw [show dnI (aG A) (aG A) = -1 from if_neg (by omega)]; rfl, rfl, rfl, rfl, rfl, trivial⟩ ?_
    refine X_iload dX11_net_18 rfl ?_
    refine X_if_lt 45 dX11_net_20 (by decide) (fun h_2 => ?_) (fun h_2 => ?_)
    · refine X_aload_n dX11_net_45 rfl ?_
      refine X_iload_n dX11_net_46 rfl ?_
      refine X_if_ltN (a := k) 58 dX11_net_47 (by decide) (by omega) (fun h_3 => ?_) (fun h_3 => ?_)
      · exact h_3.elim
      · refine X_iload_n dX11_net_50 rfl ?_
        refine X_if_neN (a := k / 10 ^ (aG A)) 58 dX11_net_51 (by decide) (by omega) (fun h_4 => ?_) (fun h_4 => ?_)
        · refine X_iconst (v := nI 0) dX11_net_58 (by decide) ?_
          exact X_need dX11_net_59 mkX11_296 (k_0 hSh) (c_needArgument Γ g y ml hSh (nI 0)) rfl rfl (by decide) (by decide) (by decide) (by decide) (fun _ => ⟨rfl, CI_rf (by decide) (CI_fr hC (dg_S hyF) rfl), frK_t (dg_K hyF) frK_86, rfl⟩) (fun h => absurd (show nI 0 = 0 by decide) h)
        · exact absurd h_4 hlt
    · exact absurd (by decide) h_2
set_option maxRecDepth 100000 in
set_option maxHeartbeats 4000000 in
theorem k_net (Γ : pTG) (g : pGG) (mi : pMI) (ml : pML) (A : AS) (hA : okAS A) (hC : CI A g mi ml) (b : Nat) (hb : b < aG A) (k : Nat) (hka : 0 ≤ k) (hk : k ≤ 2147483647) (hlt : k / 10 ^ aG A = 0) : CT Γ 60 20 5000 mX11_net [.ref 0, .int (nI b), .int (nI k)] g mi ml (CQ A (.inl (netM (wD (DY (aP A) (dtN k (aG A)) id id (aP A).2.2.2.1)) b)) mi ml) := by
  refine CT_of (by decide +kernel) (Nat.le_of_ble_eq_true rfl) ?_
  have hSh := CI_Sh hC
  have hcl := CI_cl hC
  have hP := hA.1
  have hG8 : aG A ≤ 8 := hP.2.1
  have hC8 : (aP A).1 ≤ 8 := hP.1
  refine X_aload_n dX11_net_0 rfl ?_
  refine X_iload_n dX11_net_1 rfl ?_
  refine X_need dX11_net_2 mkX11_147 (k_0 hSh) (c_needGuest Γ g mi ml hSh (nI b)) rfl rfl (by decide) (by decide) (by decide) (by decide) (fun h => absurd (by rw [hcl.2.1]; exact (gd_iff hG8).mpr ⟨b, hb, rfl⟩) h) (fun _ => ?_)
  refine X_iload_n dX11_net_5 rfl ?_
  refine X_istore_n dX11_net_6 (by decide) ?_
  refine X_aload_n dX11_net_7 rfl ?_
  refine X_getr (a := 3) dX11_net_8 fkX11_25 rfl (k_0 hSh) (r_0_2 hSh) ?_
  refine X_geti dX11_net_11 fkX11_144 rfl (k_3 hSh) ?_
  rw [hcl.2.1]
  refine X_iconst (v := nI 1) dX11_net_14 (by decide) ?_
  refine X_isub dX11_net_15 ?_
  refine X_istore dX11_net_16 (by decide) ?_
  refine X_L [(4, .int ((nI (aG A)) - (nI 1))), (3, .int (nI k)), (0, .ref 0), (1, .int (nI b)), (2, .int (nI k))] ⟨rfl, rfl, rfl, rfl, rfl, trivial⟩ ?_
  refine X_L [(4, .int (dnI (aG A) 0)), (3, .int (nI (k / 10 ^ 0))), (0, .ref 0), (1, .int (nI b)), (2, .int (nI k))] ⟨by rw [← dn_0]; rfl, by rw [Nat.pow_zero, Nat.div_one]; rfl, rfl, rfl, rfl, trivial⟩ ?_
  refine X_forR (σ := pMI) 18 (fun i y => [(4, .int (dnI (aG A) i)), (3, .int (nI (k / 10 ^ i))), (0, .ref 0), (1, .int (nI b)), (2, .int (nI k))]) (fun y => y) (fun y => ml) (fun i y => DGI 84 k (aG A) i mi y) (aG A) ?_ ?_ (aG A) 0 mi (by omega) DGI_0
  · intro i y hi hI hn
    have hq0 : k / 10 ^ i ≤ k := Nat.div_le_self _ _
    refine X_L [(4, .int (nI ((aG A) - 1 - i))), (3, .int (nI (k / 10 ^ i))), (0, .ref 0), (1, .int (nI b)), (2, .int (nI k))] ⟨by rw [dn_i hi]; rfl, rfl, rfl, rfl, rfl, trivial⟩ ?_
    refine X_iload dX11_net_18 rfl ?_
    refine X_if_ltN (a := (aG A) - 1 - i) 45 dX11_net_20 (by decide) (by omega) (fun h_1 => ?_) (fun h_1 => ?_)
    · exact h_1.elim
    · refine X_aload_n dX11_net_23 rfl ?_
      refine X_getr (a := 84) dX11_net_24 fkX11_95 rfl (k_0 hSh) (r_0_13 hSh) ?_
      refine X_iload dX11_net_27 rfl ?_
      refine X_iload_n dX11_net_29 rfl ?_
      refine X_bipush (v := nI 10) dX11_net_30 (by decide) ?_
      refine X_irem dX11_net_32 (nI_ne0 (by omega) (by omega)) ?_
      refine X_topi (pk_rem (a := k / 10 ^ i) (d := 10) (by omega) (by omega) (by omega)) ?_
      refine X_iast ((aG A) - 1 - i) dX11_net_33 (k_84 hSh) rfl (by omega) ?_
      refine X_iload_n dX11_net_34 rfl ?_
      refine X_bipush (v := nI 10) dX11_net_35 (by decide) ?_
      refine X_idiv dX11_net_37 (nI_ne0 (by omega) (by omega)) ?_
      refine X_topi (pk_div (a := k / 10 ^ i) (d := 10) (by omega) (by omega) (by omega)) ?_
      refine X_istore_n dX11_net_38 (by decide) ?_
      refine X_iinc dX11_net_39 rfl rfl (by decide) ?_
      refine X_goto 18 dX11_net_42 (by decide) ?_
      refine X_L [(4, .int ((nI ((aG A) - 1 - i)) + Int32.ofInt (-1))), (3, .int (nI ((k / 10 ^ i) / 10))), (0, .ref 0), (1, .int (nI b)), (2, .int (nI k))] ⟨rfl, rfl, rfl, rfl, rfl, trivial⟩ ?_
      refine X_L [(4, .int (dnI (aG A) (i + 1))), (3, .int (nI (k / 10 ^ (i + 1)))), (0, .ref 0), (1, .int (nI b)), (2, .int (nI k))] ⟨by rw [← dn_s hi]; rfl, by rw [dv10]; rfl, rfl, rfl, rfl, trivial⟩ ?_
      exact hn _ (DGI_s hi hI)
  · intro y hI
    have hyF := hI.2
    have hyD := hI.1
    have hq1 : k / 10 ^ (aG A) ≤ k := Nat.div_le_self _ _
    refine X_L [(4, .int (-1)), (3, .int (nI (k / 10 ^ (aG A)))), (0, .ref 0), (1, .int (nI b)), (2, .int (nI k))] ⟨by rw [show dnI (aG A) (aG A) = -1 from if_neg (by omega)]; rfl, rfl, rfl, rfl, rfl, trivial⟩ ?_
    refine X_iload dX11_net_18 rfl ?_
    refine X_if_lt 45 dX11_net_20 (by decide) (fun h_2 => ?_) (fun h_2 => ?_)
    · refine X_aload_n dX11_net_45 rfl ?_
      refine X_iload_n dX11_net_46 rfl ?_
      refine X_if_ltN (a := k) 58 dX11_net_47 (by decide) (by omega) (fun h_3 => ?_) (fun h_3 => ?_)
      · exact h_3.elim
      · refine X_iload_n dX11_net_50 rfl ?_
        refine X_if_neN (a := k / 10 ^ (aG A)) 58 dX11_net_51 (by decide) (by omega) (fun h_4 => ?_) (fun h_4 => ?_)
        · exact absurd hlt h_4
        · refine X_iconst (v := nI 1) dX11_net_54 (by decide) ?_
          refine X_goto 59 dX11_net_55 (by decide) ?_
          refine X_need dX11_net_59 mkX11_296 (k_0 hSh) (c_needArgument Γ g y ml hSh (nI 1)) rfl rfl (by decide) (by decide) (by decide) (by decide) (fun h => absurd (show ¬ nI 1 = 0 by decide) h) (fun _ => ?_)
          refine X_aload_n dX11_net_62 rfl ?_
          refine X_getr (a := 67) dX11_net_63 fkX11_76 rfl (k_0 hSh) (r_0_10 hSh) ?_
          have hCy := CI_fr hC (dg_S hyF) rfl
          refine X_callVrV dX11_net_66 mkX11_300 (k_67 hSh) (c_numK Γ g y ml A hCy) rfl rfl (by decide) (Nat.le_of_ble_eq_true rfl) (fun m1 l1 hm1 => ?_)
          obtain ⟨hC1, ho1, he1, hl1⟩ := hm1
          rw [hl1] at hC1 ⊢
          refine X_aload_n dX11_net_69 rfl ?_
          refine X_getr (a := 67) dX11_net_70 fkX11_76 rfl (k_0 hSh) (r_0_10 hSh) ?_
          refine X_aload_n dX11_net_73 rfl ?_
          refine X_getr (a := 84) dX11_net_74 fkX11_95 rfl (k_0 hSh) (r_0_13 hSh) ?_
          refine X_aload_n dX11_net_77 rfl ?_
          refine X_getr (a := 3) dX11_net_78 fkX11_25 rfl (k_0 hSh) (r_0_2 hSh) ?_
          refine X_geti dX11_net_81 fkX11_178 rfl (k_3 hSh) ?_
          rw [(CI_cl hC1).2.2.2.1]
          refine X_callVrV dX11_net_84 mkX11_303 (k_67 hSh) (c_tryK Γ g m1 ml A hA hC1 (dtN k (aG A)) id id (aP A).2.2.2.1 (okO_id hG8) (fun b hb => ⟨(congrFun (he1 84 (by omega)) b).trans (hyD b hb (by omega)), dtN_lt _ _ _⟩) ho1 ⟨hA.1.2.2.2.1, hA.1.2.2.2.2.1⟩) rfl rfl (by decide) (Nat.le_of_ble_eq_true rfl) (fun m2 l2 hm2 => ?_)
          obtain ⟨hC2, hcd, hT2, hl2⟩ := hm2
          rw [hl2] at hC2 ⊢
          refine X_aload_n dX11_net_87 rfl ?_
          refine X_getr (a := 67) dX11_net_88 fkX11_76 rfl (k_0 hSh) (r_0_10 hSh) ?_
          refine X_getr (a := 68) dX11_net_91 fkX11_215 rfl (k_67 hSh) (r_67_1 hSh) ?_
          refine X_iload_n dX11_net_94 rfl ?_
          refine X_bipush (v := nI 8) dX11_net_95 (by decide) ?_
          refine X_imul dX11_net_97 ?_
          refine X_topi (pk_mul b 8) ?_
          refine X_iconst (v := nI 4) dX11_net_98 (by decide) ?_
          refine X_iadd dX11_net_99 ?_
          refine X_topi (nI_add (b * 8) 4) ?_
          refine X_iald ((b * 8) + 4) dX11_net_100 (k_68 hSh) rfl (by omega) ?_
          exact X_iret dX11_net_101 rfl ⟨congrArg (fun z => Sum.inl (some (Value.int z))) ((hcd.1 b hb).2.2.2.2.1), hC2, frK_t (dg_K hyF) (frK_t (fun i h1 h2 => he1 i (by omega)) (frT_K (Or.inr rfl) hT2)), rfl⟩
    · exact absurd (by decide) h_2
set_option maxRecDepth 100000 in
set_option maxHeartbeats 4000000 in
theorem r_net_f1 (Γ : pTG) (g : pGG) (mi : pMI) (ml : pML) (A : AS) (hA : okAS A) (hSh : Sh g) (hR : RI A mi) (b : Nat) (hb : b < aG A) (w : Int32) (hf : ¬ (nI 0 ≤ w ∧ w ≤ nI (10 ^ aG A - 1))) : CT Γ 60 0 0 mX12_net [.ref 87, .int (nI b), .int w] g mi ml (RQ (rfA A 1) (.inr 1) cd2 g mi ml) := by
  refine CT_of (by decide +kernel) (Nat.le_of_ble_eq_true rfl) ?_
  have hP := hA.1
  have hG8 : aG A ≤ 8 := hP.2.1
  have hC8 : (aP A).1 ≤ 8 := hP.1
  obtain ⟨hp1, hp2⟩ := p10 (aG A) hG8
  refine X_aload_n dX12_net_0 rfl ?_
  refine X_iconst (v := nI 0) dX12_net_1 (by decide) ?_
  refine X_puti dX12_net_2 fkX12_158 rfl rfl (k_87 hSh) ?_
  refine X_aload_n dX12_net_5 rfl ?_
  refine X_aload_n dX12_net_6 rfl ?_
  refine X_iload_n dX12_net_7 rfl ?_
  refine X_callVI dX12_net_8 mkX12_285 (k_87 hSh) (c_isGuest Γ g (up2 mi 87 0 (nI 0)) ml hSh (nI b)) rfl rfl (by decide) (Nat.le_of_ble_eq_true rfl) ?_
  refine X_topi (show bI (decide (nI 0 ≤ nI b) && decide (nI b ≤ (up2 mi 87 0 (nI 0)) 91 1 - nI 1)) = nI 1 from congrArg bI (show (decide (nI 0 ≤ nI b) && decide (nI b ≤ (up2 mi 87 0 (nI 0)) 91 1 - nI 1)) = true from by rw [(show (up2 mi 87 0 (nI 0)) 91 1 = nI (aG A) from ((congrFun (up2_row (by omega)) _).trans hR.1.2.1))]; exact (gd_ref hG8).mpr ⟨b, hb, rfl⟩)) ?_
  refine X_if_neN (a := 1) 18 dX12_net_11 (by decide) (by omega) (fun h_1 => ?_) (fun h_1 => ?_)
  · refine X_iconst (v := nI 0) dX12_net_18 (by decide) ?_
    refine X_iconst (v := nI 1) dX12_net_19 (by decide) ?_
    refine X_iconst (v := nI 0) dX12_net_20 (by decide) ?_
    refine X_callVI dX12_net_21 mkX12_228 (k_87 hSh) (c_bad0 Γ g (up2 mi 87 0 (nI 0)) ml hSh 1 0 up2_s) rfl rfl (by decide) (Nat.le_of_ble_eq_true rfl) ?_
    refine X_if_neN (a := 0) 62 dX12_net_24 (by decide) (by omega) (fun h_2 => ?_) (fun h_2 => ?_)
    · exact absurd h_2 (by omega)
    · refine X_aload_n dX12_net_27 rfl ?_
      refine X_iload_n dX12_net_28 rfl ?_
      refine X_iconst (v := nI 0) dX12_net_29 (by decide) ?_
      refine X_bipush (v := nI 10) dX12_net_30 (by decide) ?_
      refine X_aload_n dX12_net_32 rfl ?_
      refine X_getr (a := 91) dX12_net_33 fkX12_23 rfl (k_87 hSh) (r_87_12 hSh) ?_
      refine X_iconst (v := nI 1) dX12_net_36 (by decide) ?_
      refine X_iald 1 dX12_net_37 (k_91 hSh) rfl (by omega) ?_
      rw [((congrFun (up2_row (by omega)) _).trans hR.1.2.1)]
      refine X_callSI dX12_net_38 mkX12_372 (c_power Γ g (up2 mi 87 0 (nI 0)) ml (aG A) hG8) rfl rfl (by decide) (Nat.le_of_ble_eq_true rfl) ?_
      refine X_iconst (v := nI 1) dX12_net_41 (by decide) ?_
      refine X_isub dX12_net_42 ?_
      refine X_topi (pk_sub (a := 10 ^ aG A) (b := 1) (by omega)) ?_
      refine X_callSI dX12_net_43 mkX12_192 (c_in Γ g (up2 mi 87 0 (nI 0)) ml w (nI 0) (nI ((10 ^ aG A) - 1))) rfl rfl (by decide) (Nat.le_of_ble_eq_true rfl) ?_
      refine X_topi (show bI (decide (nI 0 ≤ w) && decide (w ≤ nI ((10 ^ aG A) - 1))) = nI 0 from congrArg bI (show (decide (nI 0 ≤ w) && decide (w ≤ nI ((10 ^ aG A) - 1))) = false from Bool.eq_false_iff.mpr (fun q => hf (by rw [Bool.and_eq_true, decide_eq_true_eq, decide_eq_true_eq] at q; exact q)))) ?_
      refine X_if_neN (a := 0) 53 dX12_net_46 (by decide) (by omega) (fun h_3 => ?_) (fun h_3 => ?_)
      · exact absurd h_3 (by omega)
      · refine X_iconst (v := nI 1) dX12_net_49 (by decide) ?_
        refine X_goto 54 dX12_net_50 (by decide) ?_
        refine X_iconst (v := nI 2) dX12_net_54 (by decide) ?_
        refine X_iconst (v := nI 1) dX12_net_55 (by decide) ?_
        refine X_callVI dX12_net_56 mkX12_228 (k_87 hSh) (c_bad1 Γ g (up2 mi 87 0 (nI 0)) ml hSh 2 1 (by decide) (by decide) (by decide) up2_s) rfl rfl (by decide) (Nat.le_of_ble_eq_true rfl) ?_
        refine X_mi (show _ = mB mi 2 1 from rfl) ?_
        refine X_if_eqN (a := 1) 64 dX12_net_59 (by decide) (by omega) (fun h_4 => ?_) (fun h_4 => ?_)
        · exact absurd h_4 (by omega)
        · refine X_iconst (v := nI 0) dX12_net_62 (by decide) ?_
          exact X_iret dX12_net_63 rfl ⟨rfl, rfl, RI_rf hA (by decide) hR, fr2_B, _, rfl, mB_0⟩
  · exact absurd h_1 (by omega)
set_option maxRecDepth 100000 in
set_option maxHeartbeats 4000000 in
theorem r_net (Γ : pTG) (g : pGG) (mi : pMI) (ml : pML) (A : AS) (hA : okAS A) (hSh : Sh g) (hR : RI A mi) (b : Nat) (hb : b < aG A) (k : Nat) (hka : 0 ≤ k) (hk : k ≤ (10 ^ aG A - 1)) : CT Γ 60 0 0 mX12_net [.ref 87, .int (nI b), .int (nI k)] g mi ml (RQ A (.inl (netM (wD (DY (aP A) (dtN k (aG A)) id id (aP A).2.2.2.1)) b)) cd2 g mi ml) := by
  refine CT_of (by decide +kernel) (Nat.le_of_ble_eq_true rfl) ?_
  have hP := hA.1
  have hG8 : aG A ≤ 8 := hP.2.1
  have hC8 : (aP A).1 ≤ 8 := hP.1
  obtain ⟨hp1, hp2⟩ := p10 (aG A) hG8
  refine X_aload_n dX12_net_0 rfl ?_
  refine X_iconst (v := nI 0) dX12_net_1 (by decide) ?_
  refine X_puti dX12_net_2 fkX12_158 rfl rfl (k_87 hSh) ?_
  refine X_aload_n dX12_net_5 rfl ?_
  refine X_aload_n dX12_net_6 rfl ?_
  refine X_iload_n dX12_net_7 rfl ?_
  refine X_callVI dX12_net_8 mkX12_285 (k_87 hSh) (c_isGuest Γ g (up2 mi 87 0 (nI 0)) ml hSh (nI b)) rfl rfl (by decide) (Nat.le_of_ble_eq_true rfl) ?_
  refine X_topi (show bI (decide (nI 0 ≤ nI b) && decide (nI b ≤ (up2 mi 87 0 (nI 0)) 91 1 - nI 1)) = nI 1 from congrArg bI (show (decide (nI 0 ≤ nI b) && decide (nI b ≤ (up2 mi 87 0 (nI 0)) 91 1 - nI 1)) = true from by rw [(show (up2 mi 87 0 (nI 0)) 91 1 = nI (aG A) from ((congrFun (up2_row (by omega)) _).trans hR.1.2.1))]; exact (gd_ref hG8).mpr ⟨b, hb, rfl⟩)) ?_
  refine X_if_neN (a := 1) 18 dX12_net_11 (by decide) (by omega) (fun h_1 => ?_) (fun h_1 => ?_)
  · refine X_iconst (v := nI 0) dX12_net_18 (by decide) ?_
    refine X_iconst (v := nI 1) dX12_net_19 (by decide) ?_
    refine X_iconst (v := nI 0) dX12_net_20 (by decide) ?_
    refine X_callVI dX12_net_21 mkX12_228 (k_87 hSh) (c_bad0 Γ g (up2 mi 87 0 (nI 0)) ml hSh 1 0 up2_s) rfl rfl (by decide) (Nat.le_of_ble_eq_true rfl) ?_
    refine X_if_neN (a := 0) 62 dX12_net_24 (by decide) (by omega) (fun h_2 => ?_) (fun h_2 => ?_)
    · exact absurd h_2 (by omega)
    · refine X_aload_n dX12_net_27 rfl ?_
      refine X_iload_n dX12_net_28 rfl ?_
      refine X_iconst (v := nI 0) dX12_net_29 (by decide) ?_
      refine X_bipush (v := nI 10) dX12_net_30 (by decide) ?_
      refine X_aload_n dX12_net_32 rfl ?_
      refine X_getr (a := 91) dX12_net_33 fkX12_23 rfl (k_87 hSh) (r_87_12 hSh) ?_
      refine X_iconst (v := nI 1) dX12_net_36 (by decide) ?_
      refine X_iald 1 dX12_net_37 (k_91 hSh) rfl (by omega) ?_
      rw [((congrFun (up2_row (by omega)) _).trans hR.1.2.1)]
      refine X_callSI dX12_net_38 mkX12_372 (c_power Γ g (up2 mi 87 0 (nI 0)) ml (aG A) hG8) rfl rfl (by decide) (Nat.le_of_ble_eq_true rfl) ?_
      refine X_iconst (v := nI 1) dX12_net_41 (by decide) ?_
      refine X_isub dX12_net_42 ?_
      refine X_topi (pk_sub (a := 10 ^ aG A) (b := 1) (by omega)) ?_
      refine X_callSI dX12_net_43 mkX12_192 (c_in Γ g (up2 mi 87 0 (nI 0)) ml (nI k) (nI 0) (nI ((10 ^ aG A) - 1))) rfl rfl (by decide) (Nat.le_of_ble_eq_true rfl) ?_
      refine X_topi (show bI (decide (nI 0 ≤ nI k) && decide (nI k ≤ nI ((10 ^ aG A) - 1))) = nI 1 from congrArg bI (show (decide (nI 0 ≤ nI k) && decide (nI k ≤ nI ((10 ^ aG A) - 1))) = true from by rw [decide_eq_true (nI_le (by omega) (by omega)), decide_eq_true (nI_le (by omega) (by omega))]; rfl)) ?_
      refine X_if_neN (a := 1) 53 dX12_net_46 (by decide) (by omega) (fun h_3 => ?_) (fun h_3 => ?_)
      · refine X_iconst (v := nI 0) dX12_net_53 (by decide) ?_
        refine X_iconst (v := nI 2) dX12_net_54 (by decide) ?_
        refine X_iconst (v := nI 1) dX12_net_55 (by decide) ?_
        refine X_callVI dX12_net_56 mkX12_228 (k_87 hSh) (c_bad0 Γ g (up2 mi 87 0 (nI 0)) ml hSh 2 1 up2_s) rfl rfl (by decide) (Nat.le_of_ble_eq_true rfl) ?_
        refine X_if_eqN (a := 0) 64 dX12_net_59 (by decide) (by omega) (fun h_4 => ?_) (fun h_4 => ?_)
        · refine X_aload_n dX12_net_64 rfl ?_
          refine X_callVrV dX12_net_65 mkX12_347 (k_87 hSh) (r_beg Γ g (up2 mi 87 0 (nI 0)) ml A hA hSh mi hR RW_0) rfl rfl (by decide) (Nat.le_of_ble_eq_true rfl) (fun b1 bl hb1 => ?_)
          obtain ⟨hbS, hbc, hbW, hbB, hbl⟩ := hb1
          rw [hbl]
          refine X_aload_n dX12_net_68 rfl ?_
          refine X_iload_n dX12_net_69 rfl ?_
          refine X_bipush (v := nI 10) dX12_net_70 (by decide) ?_
          refine X_callVrV dX12_net_72 mkX12_375 (k_87 hSh) (c_comeBy Γ g b1 ml hSh (aG A) (RW_I hA hR hbW).1.2.1 hG8 k (by omega)) rfl rfl (by decide) (Nat.le_of_ble_eq_true rfl) (fun d1 dl hd1 => ?_)
          obtain ⟨hdD, hdl⟩ := hd1
          rw [hdl]
          have hdR : frR b1 d1 := fun i h1 h2 h3 h4 h5 => hdD.2 i h3
          refine X_aload_n dX12_net_75 rfl ?_
          refine X_callVrV dX12_net_76 mkX12_341 (k_87 hSh) (r_run Γ g d1 ml A hA hSh mi (RW_R hbW hdR) id id id (dtN k (aG A)) (aP A).2.2.2.1 ⟨hA.1.2.2.2.1, hA.1.2.2.2.2.1⟩ (rS_row hA.1 hdR hbS) (okO_id hG8) (fun b hb => ⟨hdD.1 b hb (by omega), dtN_lt _ _ _⟩)) rfl rfl (by decide) (Nat.le_of_ble_eq_true rfl) (fun x1 xl hx1 => ?_)
          obtain ⟨hxR, hxS, hxW, hxF, hxl⟩ := hx1
          rw [hxl]
          refine X_aload_n dX12_net_79 rfl ?_
          refine X_iload_n dX12_net_80 rfl ?_
          refine X_callVI dX12_net_81 mkX12_356 (k_87 hSh) (c_netOf Γ g x1 ml hSh b (by omega)) rfl rfl (by decide) (Nat.le_of_ble_eq_true rfl) ?_
          exact X_iret dX12_net_84 rfl ⟨rfl, rfl, RW_I hA hR hxW, hxW.2.1, _, rfl, (hxR.1 b hb).2.2.2.2.2.1, hxW.2.2⟩
        · exact absurd h_4 (by omega)
      · exact absurd h_3 (by omega)
  · exact absurd h_1 (by omega)
theorem m_net (A : AS) (hA : okAS A) (v w : Int32) : MOK mX11_net mX12_net cd2 [.int v, .int w] A := by
  have hG8 : aG A ≤ 8 := hA.1.2.1
  obtain ⟨hp1, hp2⟩ := p10 (aG A) hG8
  by_cases hg0 : ∃ b, b < aG A ∧ v = nI b
  · obtain ⟨b, hb, rfl⟩ := hg0
    by_cases hw : w < 0
    · exact ⟨.inr 1, rfA A 1, ok_rf hA, fun j h => by cases h; decide, fun Γ g m l hC => k_net_n Γ g m l A hA hC b hb w hw, fun Γ g m l hSh hR => r_net_f1 Γ g m l A hA hSh hR b hb w (fun q => Int32.not_le.mpr hw q.1)⟩
    · obtain ⟨k, hk, rfl⟩ := nI_of hw
      by_cases hlt : k / 10 ^ aG A = 0
      · have hlt2 : k < 10 ^ aG A := by
          rcases Nat.div_eq_zero_iff.mp hlt with q | q
          · omega
          · exact q
        exact ⟨.inl (netM (wD (DY (aP A) (dtN k (aG A)) id id (aP A).2.2.2.1)) b), A, hA, fun j h => (by cases h), fun Γ g m l hC => k_net Γ g m l A hA hC b hb k (Nat.zero_le _) (by omega) hlt, fun Γ g m l hSh hR => r_net Γ g m l A hA hSh hR b hb k (Nat.zero_le _) (by omega)⟩
      · exact ⟨.inr 1, rfA A 1, ok_rf hA, fun j h => by cases h; decide, fun Γ g m l hC => k_net_b Γ g m l A hA hC b hb k (Nat.zero_le _) (by omega) hlt, fun Γ g m l hSh hR => r_net_f1 Γ g m l A hA hSh hR b hb (nI k) (fun q => hlt (Nat.div_eq_of_lt (by have hq : ¬ (10 ^ aG A - 1 < k) := fun z => Int32.not_lt.mpr q.2 ((nI_ltI (by omega) (by omega)).mpr z); omega)))⟩
  · exact ⟨.inr 0, rfA A 0, ok_rf hA, fun j h => by cases h; decide, fun Γ g m l hC => k_net_f0 Γ g m l A hA hC v hg0 w, fun Γ g m l hSh hR => r_net_f0 Γ g m l A hA hSh hR v hg0 w⟩

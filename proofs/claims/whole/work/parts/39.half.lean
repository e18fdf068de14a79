/-! ===== a half of the reference's day ===== -/
def goD (g : Nat) (b : Bool) (s : DS) : DS := (s.1, s.2.1, ud s.2.2 g b)
def arD (W : Nat → Nat → Int32) (cm T ord : Nat → Nat) (nC h q : Nat) (s : DS) : DS :=
  if cm (ord q) = h ∧ h < T (ord q) then (match bsD (W (ord q)) (fun c => (s.2.1 204 c).isNone) nC with
    | none => wfD (ord q) (some h) (goD (ord q) false s)
    | some c => goD (ord q) true (sitD (ord q) h c s)) else s
/-- how many of n have not tried -/
def unt (tr : Nat → Bool) : Nat → Nat
  | 0 => 0
  | n + 1 => unt tr n + (if tr n then 0 else 1)
theorem unt_le (tr : Nat → Bool) : ∀ n, unt tr n ≤ n
  | 0 => Nat.le_refl _
  | n + 1 => by have := unt_le tr n; unfold unt; split <;> omega
theorem unt_ud {tr : Nat → Bool} {g : Nat} : ∀ {n : Nat}, n ≤ g → unt (ud tr g true) n = unt tr n
  | 0, _ => rfl
  | n + 1, h => by unfold unt; rw [unt_ud (by omega), ud_n (by omega)]
theorem unt_dec {tr : Nat → Bool} {g : Nat} (hg : tr g = false) : ∀ {n : Nat}, g < n → unt (ud tr g true) n + 1 = unt tr n
  | 0, h => by omega
  | n + 1, h => by
    unfold unt
    by_cases e : g = n
    · subst e; rw [unt_ud (Nat.le_refl _), ud_s, hg]; simp
    · have := unt_dec hg (n := n) (by omega); rw [ud_n (by omega)]; omega
def wtD (W : Nat → Nat → Int32) (rk : Nat → Nat) (nC nG h : Nat) : Nat → (Nat → Bool) → DS → DS
  | 0, _, s => s
  | f + 1, tr, s => match nwM (s.2.1 196) rk tr h nG with
    | none => s
    | some g => wtD W rk nC nG h f (ud tr g true) (trD W nC g h s)
def mkD (h g : Nat) (s : DS) : DS := match s.2.1 196 g with
  | none => s
  | some v => if v ≤ h then (up2 (up2 s.1 209 h (s.1 209 h ||| nI 1 <<< (nI g &&& 31))) 203 g (s.1 203 g + nI 1), s.2) else s
def lyD (m : pMI) (F : Nat → Nat) (h c : Nat) (s : DS) : DS := match s.2.1 204 c with
  | none => (up2 (up2 s.1 (211 + c) h (-1)) (220 + c) h (-1), s.2)
  | some g => if h < F g then (up2 (up2 (up2 s.1 (211 + c) h (nI g)) (220 + c) h (-1)) 207 c (s.1 207 c + nI 1), s.2)
    else (up2 (up2 (up2 (up2 (up2 (up2 (up2 s.1 (211 + c) h (nI g)) (220 + c) h (-1)) (220 + c) h (nI g)) 205 c (nI (h + 1))) 206 c (s.1 206 c + nI 1)) 199 g (s.1 199 g + nI 1)) 200 g (s.1 200 g + m (102 + c) (if h < 12 then 0 else 1)), s.2)
def hfD (m : pMI) (nC nG : Nat) (F T cm rk ord : Nat → Nat) (ob : Int32) (go h : Nat) (s : DS) : DS :=
  lpS (lyD m F h) 0 nC (lpS (mkD h) 0 nG ((fun z : DS => (up2 z.1 209 h (nI 0), z.2)) (wtD (fun g c => wM m F T g h c) rk nC nG h nG (fun _ => false) (lpS (arD (fun g c => wM m F T g h c) cm T ord nC h) 0 nG (hgD F h ob nC go (lpS (lvD T h) 0 nG s))))))
theorem frm_lv {m : pMI} {T : Nat → Nat} {h g : Nat} {s : DS} (hm : frm m s.1) : frm m (lvD T h g s).1 := by
  unfold lvD
  split
  · show frm m (frD g s).1
    rw [frD_1]; exact hm
  · exact hm
theorem frm_ht {m : pMI} {F : Nat → Nat} {h c : Nat} {ob : Int32} {s : DS} (hm : frm m s.1) : frm m (htD F h ob c s).1 := by
  unfold htD
  cases s.2.1 204 c with
  | none => exact hm
  | some b =>
    dsimp only
    split
    · exact hm
    · exact frm_up hm (by omega)
theorem frm_hg {m : pMI} {F : Nat → Nat} {h nC go : Nat} {ob : Int32} {s : DS} (hm : frm m s.1) : frm m (hgD F h ob nC go s).1 := by
  unfold hgD
  split
  · exact lpS_inv (fun _ s => frm m s.1) (e := nC) (fun i s _ h => frm_ht h) nC 0 s (by omega) hm
  · exact hm
theorem frm_sit {m : pMI} {g h c : Nat} {s : DS} (hm : frm m s.1) : frm m (sitD g h c s).1 := frm_up (frm_up (frm_up hm (by omega)) (by omega)) (by omega)
theorem frm_tr {m : pMI} {W : Nat → Nat → Int32} {nC g h : Nat} {s : DS} (hm : frm m s.1) : frm m (trD W nC g h s).1 := by
  unfold trD
  cases bsD (W g) (fun c => (s.2.1 204 c).isNone) nC with
  | none => exact hm
  | some c => exact frm_sit hm
theorem frm_ar {m : pMI} {W : Nat → Nat → Int32} {cm T ord : Nat → Nat} {nC h q : Nat} {s : DS} (hm : frm m s.1) : frm m (arD W cm T ord nC h q s).1 := by
  unfold arD
  split
  · cases bsD (W (ord q)) (fun c => (s.2.1 204 c).isNone) nC with
    | none => exact hm
    | some c => exact frm_sit hm
  · exact hm
theorem ar_ok {W : Nat → Nat → Int32} {cm T ord : Nat → Nat} {nC nG h q : Nat} {s : DS} (ho : okD nG s) (hC : nC ≤ 8) (hh : h < 24) (hq : ord q < nG) : okD nG (arD W cm T ord nC h q s) := by
  unfold arD
  split
  · cases hb : bsD (W (ord q)) (fun c => (s.2.1 204 c).isNone) nC with
    | none => exact wf_ok (s := goD (ord q) false s) ho (fun v z => by cases z; exact hh)
    | some c => exact sit_ok (h := h) ho hq (by have := (bsD_lt hb).1; omega)
  · exact ho
theorem mk_ok {nG h g : Nat} {s : DS} (ho : okD nG s) : okD nG (mkD h g s) := by
  unfold mkD
  cases s.2.1 196 g with
  | none => exact ho
  | some v => dsimp only; split <;> exact ho
theorem frm_mk {m : pMI} {h g : Nat} {s : DS} (hm : frm m s.1) : frm m (mkD h g s).1 := by
  unfold mkD
  cases s.2.1 196 g with
  | none => exact hm
  | some v =>
    dsimp only
    split
    · exact frm_up (frm_up hm (by omega)) (by omega)
    · exact hm
theorem ly_ok {m : pMI} {F : Nat → Nat} {nG h c : Nat} {s : DS} (ho : okD nG s) : okD nG (lyD m F h c s) := by
  unfold lyD
  cases s.2.1 204 c with
  | none => exact ho
  | some v => dsimp only; split <;> exact ho
theorem frm_ly {n m : pMI} {F : Nat → Nat} {h c : Nat} {s : DS} (hm : frm n s.1) (hc : c < 8) : frm n (lyD m F h c s).1 := by
  unfold lyD
  cases s.2.1 204 c with
  | none => exact frm_up (frm_up hm (by omega)) (by omega)
  | some v =>
    dsimp only
    split
    · exact frm_up (frm_up (frm_up hm (by omega)) (by omega)) (by omega)
    · exact frm_up (frm_up (frm_up (frm_up (frm_up (frm_up (frm_up hm (by omega)) (by omega)) (by omega)) (by omega)) (by omega)) (by omega)) (by omega)
theorem wt_ok {m : pMI} {W : Nat → Nat → Int32} {rk : Nat → Nat} {nC nG h : Nat} (hC : nC ≤ 8) : ∀ (f : Nat) (tr : Nat → Bool) (s : DS), okD nG s → frm m s.1 → okD nG (wtD W rk nC nG h f tr s) ∧ frm m (wtD W rk nC nG h f tr s).1
  | 0, tr, s, h1, h2 => ⟨h1, h2⟩
  | f + 1, tr, s, h1, h2 => by
    unfold wtD
    cases hq : nwM (s.2.1 196) rk tr h nG with
    | none => exact ⟨h1, h2⟩
    | some g => exact wt_ok hC f _ _ (tr_ok h1 (nwM_some hq).1 hC) (frm_tr h2)
theorem pool_frm {m x : pMI} {nC nG : Nat} {F T : Nat → Nat} (h : PoolM m nC nG F T) (hf : frm m x) : PoolM x nC nG F T := by
  obtain ⟨a, b, c, d, e⟩ := h
  exact ⟨by rw [hf 91 (by omega)]; exact a, by rw [hf 91 (by omega)]; exact b, c, d, fun g hg => by rw [hf _ (by omega)]; exact e g hg⟩
theorem okR_frm {m x : pMI} {rk ord : Nat → Nat} (h : okR m rk ord) (hf : frm m x) : okR x rk ord := ⟨fun b hb => by rw [hf 197 (by omega)]; exact h.1 b hb, h.2⟩
theorem wM_frm {m x : pMI} {F T : Nat → Nat} {g h c : Nat} (hf : frm m x) (hc : c < 9) : wM x F T g h c = wM m F T g h c := by unfold wM; rw [hf _ (by omega)]
theorem best_F {m : pMI} {s : DS} {F T : Nat → Nat} {g h nC nG : Nat} (hn : nC ≤ 8) (hG : nG ≤ 8) (ho : okD nG s) (hf : frm m s.1) : bsM (wM (wD s) F T g h) (wD s 204) nC = bsD (wM m F T g h) (fun c => (s.2.1 204 c).isNone) nC := by
  rw [best_D hn hG ho]
  exact bsD_congr (fun c hc => ⟨wM_frm hf (by omega), rfl⟩)
/-- what stays the same over a day: the pool, the hotel's going, who comes when, in which order -/
def dayP (m : pMI) (nC nG : Nat) (F T cm rk ord : Nat → Nat) (ob : Int32) (go : Nat) : Prop := PoolM m nC nG F T ∧ m 87 53 = ob ∧ m 91 2 = nI go ∧ go < 24 ∧ (∀ b, b < nG → m 194 b = nI (cm b) ∧ cm b < 24) ∧ okR m rk ord ∧ (∀ q, q < nG → ord q < nG)
set_option maxRecDepth 100000 in
set_option maxHeartbeats 4000000 in
theorem c_half (Γ : pTG) (g : pGG) (ml : pML) (hSh : Sh g) (m : pMI) (s : DS) (nC nG : Nat) (F T cm rk ord : Nat → Nat) (ob : Int32) (go h : Nat) (hD : dayP m nC nG F T cm rk ord ob go) (ho : okD nG s) (hf : frm m s.1) (hh : h < 24) : cV Γ 4 mX12_half [.ref 87, .int (nI h)] g (wD s) ml (wD (hfD m nC nG F T cm rk ord ob go h s)) ml := by
  refine cV_of (by decide +kernel) (Nat.le_of_ble_eq_true rfl) ?_
  have hC : nC ≤ 8 := hD.1.2.2.1
  have hG : nG ≤ 8 := hD.1.2.2.2.1
  refine X_iconst (v := nI 0) dX12_half_0 (by decide) ?_
  refine X_istore_n dX12_half_1 (by decide) ?_
  refine X_L [(2, .int (nI 0)), (0, .ref 87), (1, .int (nI h))] ⟨rfl, rfl, rfl, trivial⟩ ?_
  refine X_for2 (σ := DS) 2 (fun i x => [(2, .int (nI i)), (0, .ref 87), (1, .int (nI h))]) (fun x => (wD x)) (fun x => ml) (fun i x => lvD T h i x) (fun i x => okD nG x ∧ frm m x.1 ∧ x = lpS (lvD T h) 0 i s) nG ?_ nG 0 s (by first | omega | (have hz1 := hD.2.2.2.2.2.2 i (by omega); omega)) ⟨ho, hf, rfl⟩ ?_
  · intro i x hi hI
    have hTi := hD.1.2.2.2.2 i (by omega)
    refine ⟨⟨lv_ok hI.1, frm_lv hI.2.1, by rw [lpS_snoc, Nat.zero_add, ← hI.2.2]⟩, fun hn => ?_⟩
    refine X_iload_n dX12_half_2 rfl ?_
    refine X_aload_n dX12_half_3 rfl ?_
    refine X_getr (a := 91) dX12_half_4 fkX12_23 rfl (k_87 hSh) (r_87_12 hSh) ?_
    refine X_iconst (v := nI 1) dX12_half_7 (by decide) ?_
    refine X_iald 1 dX12_half_8 (k_91 hSh) rfl (by first | omega | (have hz1 := hD.2.2.2.2.2.2 i (by omega); omega)) ?_
    rw [(pool_D (pool_frm hD.1 hI.2.1)).2.1]
    refine X_icmp_geN (a := i) (b := nG) 45 dX12_half_9 (by decide) (by first | omega | (have hz1 := hD.2.2.2.2.2.2 i (by omega); omega)) (by first | omega | (have hz1 := hD.2.2.2.2.2.2 i (by omega); omega)) (fun h_1 => ?_) (fun h_1 => ?_)
    · exact absurd hi (by omega)
    · refine X_aload_n dX12_half_12 rfl ?_
      refine X_getr (a := 120) dX12_half_13 fkX12_37 rfl (k_87 hSh) (r_87_16 hSh) ?_
      refine X_iload_n dX12_half_16 rfl ?_
      refine X_aaldr (b := 121 + i) i dX12_half_17 (k_120 hSh) rfl (by first | omega | (have hz1 := hD.2.2.2.2.2.2 i (by omega); omega)) (o_120 hSh i (by first | omega | (have hz1 := hD.2.2.2.2.2.2 i (by omega); omega))) ?_
      refine X_iconst (v := nI 2) dX12_half_18 (by decide) ?_
      refine X_iald 2 dX12_half_19 (kr_120 hSh i (by first | omega | (have hz1 := hD.2.2.2.2.2.2 i (by omega); omega))) rfl (by first | omega | (have hz1 := hD.2.2.2.2.2.2 i (by omega); omega)) ?_
      rw [((pool_D (pool_frm hD.1 hI.2.1)).2.2.2.2 i (by omega)).2.1]
      refine X_iload_n dX12_half_20 rfl ?_
      refine X_icmp_eqN (a := T i) (b := h) 27 dX12_half_21 (by decide) (by first | omega | (have hz1 := hD.2.2.2.2.2.2 i (by omega); omega)) (by first | omega | (have hz1 := hD.2.2.2.2.2.2 i (by omega); omega)) (fun h_2 => ?_) (fun h_2 => ?_)
      · refine X_aload_n dX12_half_27 rfl ?_
        refine X_iload_n dX12_half_28 rfl ?_
        refine X_callVV dX12_half_29 mkX12_316 (k_87 hSh) (c_frees Γ g (wD x) ml hSh i (by omega) (x.2.1 195 i) (wD_o (by decide) (by omega)) (fun b hb => hI.1.2.1 _ _ hb)) rfl rfl (by decide) (Nat.le_of_ble_eq_true rfl) ?_
        refine X_mi (frees_D (by omega) (fun q hq => hI.1.2.1 _ _ hq)) ?_
        refine X_aload_n dX12_half_32 rfl ?_
        refine X_getr (a := 196) dX12_half_33 fkX12_77 rfl (k_87 hSh) (r_87_36 hSh) ?_
        refine X_iload_n dX12_half_36 rfl ?_
        refine X_iconst (v := -1) dX12_half_37 (by decide) ?_
        refine X_iast i dX12_half_38 (k_196 hSh) rfl (by first | omega | (have hz1 := hD.2.2.2.2.2.2 i (by omega); omega)) ?_
        refine X_iinc (v := nI (i + 1)) dX12_half_39 rfl (nI_1 _) (by decide) ?_
        refine X_goto 2 dX12_half_42 (by decide) ?_
        refine X_L [(2, .int (nI (i + 1))), (0, .ref 87), (1, .int (nI h))] ⟨rfl, rfl, rfl, trivial⟩ ?_
        refine X_mi (wD_un (by decide) (by omega)) ?_
        rw [show lvD T h i x = wfD i none (frD i x) from if_pos (by assumption)] at hn
        exact hn
      · refine X_goto 39 dX12_half_24 (by decide) ?_
        refine X_iinc (v := nI (i + 1)) dX12_half_39 rfl (nI_1 _) (by decide) ?_
        refine X_goto 2 dX12_half_42 (by decide) ?_
        refine X_L [(2, .int (nI (i + 1))), (0, .ref 87), (1, .int (nI h))] ⟨rfl, rfl, rfl, trivial⟩ ?_
        rw [show lvD T h i x = x from if_neg (by assumption)] at hn
        exact hn
  · intro s1 h1
    refine X_iload_n dX12_half_2 rfl ?_
    refine X_aload_n dX12_half_3 rfl ?_
    refine X_getr (a := 91) dX12_half_4 fkX12_23 rfl (k_87 hSh) (r_87_12 hSh) ?_
    refine X_iconst (v := nI 1) dX12_half_7 (by decide) ?_
    refine X_iald 1 dX12_half_8 (k_91 hSh) rfl (by first | omega | (have hz1 := hD.2.2.2.2.2.2 i (by omega); omega)) ?_
    rw [(pool_D (pool_frm hD.1 h1.2.1)).2.1]
    refine X_icmp_geN (a := nG) (b := nG) 45 dX12_half_9 (by decide) (by first | omega | (have hz1 := hD.2.2.2.2.2.2 i (by omega); omega)) (by first | omega | (have hz1 := hD.2.2.2.2.2.2 i (by omega); omega)) (fun h_3 => ?_) (fun h_3 => ?_)
    · refine X_aload_n dX12_half_45 rfl ?_
      refine X_iload_n dX12_half_46 rfl ?_
      refine X_callVV dX12_half_47 mkX12_319 (k_87 hSh) (c_hotelGoes Γ g (wD s1) ml hSh nC nG F T ob go h (simOK_D (pool_frm hD.1 h1.2.1) h1.1 (by rw [h1.2.1 87 (by omega)]; exact hD.2.1) (by rw [h1.2.1 91 (by omega)]; exact hD.2.2.1) hD.2.2.2.1) hh) rfl rfl (by decide) (Nat.le_of_ble_eq_true rfl) ?_
      refine X_mi (hg_D hG hC h1.1 (fun b hb => (hD.1.2.2.2.2 b hb).2.2.1) hh) ?_
      refine X_iconst (v := nI 0) dX12_half_50 (by decide) ?_
      refine X_istore_n dX12_half_51 (by decide) ?_
      refine X_L [(2, .int (nI 0)), (0, .ref 87), (1, .int (nI h))] ⟨rfl, rfl, rfl, trivial⟩ ?_
      refine X_for2 (σ := DS) 52 (fun i x => [(2, .int (nI i)), (0, .ref 87), (1, .int (nI h))]) (fun x => (wD x)) (fun x => ml) (fun i x => arD (fun g c => wM m F T g h c) cm T ord nC h i x) (fun i x => okD nG x ∧ frm m x.1 ∧ x = lpS (arD (fun g c => wM m F T g h c) cm T ord nC h) 0 i (hgD F h ob nC go s1)) nG ?_ nG 0 (hgD F h ob nC go s1) (by first | omega | (have hz1 := hD.2.2.2.2.2.2 i (by omega); omega)) ⟨hg_ok h1.1 (fun b hb => (hD.1.2.2.2.2 b hb).2.2.1) hh, frm_hg h1.2.1, rfl⟩ ?_
      · intro i x hi hI
        have hoi := hD.2.2.2.2.2.2 i (by omega)
        have hci := (hD.2.2.2.2.1 _ hoi).2
        have hTi := (hD.1.2.2.2.2 _ hoi)
        refine ⟨⟨ar_ok hI.1 hC hh (hD.2.2.2.2.2.2 i (by omega)), frm_ar hI.2.1, by rw [lpS_snoc, Nat.zero_add, ← hI.2.2]⟩, fun hn => ?_⟩
        refine X_iload_n dX12_half_52 rfl ?_
        refine X_aload_n dX12_half_53 rfl ?_
        refine X_getr (a := 91) dX12_half_54 fkX12_23 rfl (k_87 hSh) (r_87_12 hSh) ?_
        refine X_iconst (v := nI 1) dX12_half_57 (by decide) ?_
        refine X_iald 1 dX12_half_58 (k_91 hSh) rfl (by first | omega | (have hz1 := hD.2.2.2.2.2.2 i (by omega); omega)) ?_
        rw [(pool_D (pool_frm hD.1 hI.2.1)).2.1]
        refine X_icmp_geN (a := i) (b := nG) 127 dX12_half_59 (by decide) (by first | omega | (have hz1 := hD.2.2.2.2.2.2 i (by omega); omega)) (by first | omega | (have hz1 := hD.2.2.2.2.2.2 i (by omega); omega)) (fun h_4 => ?_) (fun h_4 => ?_)
        · exact absurd hi (by omega)
        · refine X_aload_n dX12_half_62 rfl ?_
          refine X_iload_n dX12_half_63 rfl ?_
          refine X_callVI dX12_half_64 mkX12_322 (k_87 hSh) (c_guestOfRank Γ g (wD x) ml hSh rk ord (okR_D (okR_frm hD.2.2.2.2.2.1 hI.2.1)) i (by omega)) rfl rfl (by decide) (Nat.le_of_ble_eq_true rfl) ?_
          refine X_istore_n dX12_half_67 (by decide) ?_
          refine X_aload_n dX12_half_68 rfl ?_
          refine X_getr (a := 194) dX12_half_69 fkX12_71 rfl (k_87 hSh) (r_87_34 hSh) ?_
          refine X_iload_n dX12_half_72 rfl ?_
          refine X_iald (ord i) dX12_half_73 (k_194 hSh) rfl (by first | omega | (have hz1 := hD.2.2.2.2.2.2 i (by omega); omega)) ?_
          rw [(show wD x 194 (ord i) = nI (cm (ord i)) by rw [wD_lt (by decide), hI.2.1 194 (by omega)]; exact (hD.2.2.2.2.1 _ hoi).1)]
          refine X_iload_n dX12_half_74 rfl ?_
          refine X_icmp_neN (a := cm (ord i)) (b := h) 121 dX12_half_75 (by decide) (by first | omega | (have hz1 := hD.2.2.2.2.2.2 i (by omega); omega)) (by first | omega | (have hz1 := hD.2.2.2.2.2.2 i (by omega); omega)) (fun h_5 => ?_) (fun h_5 => ?_)
          · refine X_iinc (v := nI (i + 1)) dX12_half_121 rfl (nI_1 _) (by decide) ?_
            refine X_goto 52 dX12_half_124 (by decide) ?_
            refine X_L [(2, .int (nI (i + 1))), (0, .ref 87), (1, .int (nI h))] ⟨rfl, rfl, rfl, trivial⟩ ?_
            rw [show arD (fun g c => wM m F T g h c) cm T ord nC h i x = x from if_neg (by omega)] at hn
            exact hn
          · refine X_aload_n dX12_half_78 rfl ?_
            refine X_getr (a := 120) dX12_half_79 fkX12_37 rfl (k_87 hSh) (r_87_16 hSh) ?_
            refine X_iload_n dX12_half_82 rfl ?_
            refine X_aaldr (b := 121 + (ord i)) (ord i) dX12_half_83 (k_120 hSh) rfl (by first | omega | (have hz1 := hD.2.2.2.2.2.2 i (by omega); omega)) (o_120 hSh (ord i) (by first | omega | (have hz1 := hD.2.2.2.2.2.2 i (by omega); omega))) ?_
            refine X_iconst (v := nI 2) dX12_half_84 (by decide) ?_
            refine X_iald 2 dX12_half_85 (kr_120 hSh ((ord i)) (by first | omega | (have hz1 := hD.2.2.2.2.2.2 i (by omega); omega))) rfl (by first | omega | (have hz1 := hD.2.2.2.2.2.2 i (by omega); omega)) ?_
            rw [((pool_D (pool_frm hD.1 hI.2.1)).2.2.2.2 (ord i) hoi).2.1]
            refine X_iload_n dX12_half_86 rfl ?_
            refine X_icmp_gtN (a := T (ord i)) (b := h) 93 dX12_half_87 (by decide) (by first | omega | (have hz1 := hD.2.2.2.2.2.2 i (by omega); omega)) (by first | omega | (have hz1 := hD.2.2.2.2.2.2 i (by omega); omega)) (fun h_6 => ?_) (fun h_6 => ?_)
            · refine X_aload_n dX12_half_93 rfl ?_
              refine X_getr (a := 228) dX12_half_94 fkX12_125 rfl (k_87 hSh) (r_87_52 hSh) ?_
              refine X_iload_n dX12_half_97 rfl ?_
              refine X_aload_n dX12_half_98 rfl ?_
              refine X_iload_n dX12_half_99 rfl ?_
              refine X_iload_n dX12_half_100 rfl ?_
              cases hb : bsD (wM m F T (ord i) h) (fun c => (x.2.1 204 c).isNone) nC with
              | none =>
                refine X_callVI dX12_half_101 mkX12_325 (k_87 hSh) (c_sits Γ g (wD x) ml hSh nC nG F T (pool_D (pool_frm hD.1 hI.2.1)) (ord i) h (by first | omega | (have hz1 := hD.2.2.2.2.2.2 i (by omega); omega)) hh) rfl rfl (by decide) (Nat.le_of_ble_eq_true rfl) ?_
                rw [best_F hC hG hI.1 hI.2.1, hb]
                refine X_topi (show bI (Option.isSome none) = nI 0 from rfl) ?_
                refine X_mi (show sitsF (wD x) (ord i) h none = wD x from rfl) ?_
                refine X_zast (ord i) dX12_half_104 (k_228 hSh) (by first | exact Or.inl rfl | exact Or.inr rfl | assumption) rfl (by first | omega | (have hz1 := hD.2.2.2.2.2.2 i (by omega); omega)) ?_
                refine X_aload_n dX12_half_105 rfl ?_
                refine X_getr (a := 228) dX12_half_106 fkX12_125 rfl (k_87 hSh) (r_87_52 hSh) ?_
                refine X_iload_n dX12_half_109 rfl ?_
                refine X_zald (ord i) dX12_half_110 (k_228 hSh) rfl (by first | omega | (have hz1 := hD.2.2.2.2.2.2 i (by omega); omega)) ?_
                rw [up2_s]
                refine X_if_neN (a := 0) 121 dX12_half_111 (by decide) (by first | omega | (have hz1 := hD.2.2.2.2.2.2 i (by omega); omega)) (fun h_7 => ?_) (fun h_7 => ?_)
                · exact absurd rfl h_7
                · refine X_aload_n dX12_half_114 rfl ?_
                  refine X_getr (a := 196) dX12_half_115 fkX12_77 rfl (k_87 hSh) (r_87_36 hSh) ?_
                  refine X_iload_n dX12_half_118 rfl ?_
                  refine X_iload_n dX12_half_119 rfl ?_
                  refine X_iast (ord i) dX12_half_120 (k_196 hSh) rfl (by first | omega | (have hz1 := hD.2.2.2.2.2.2 i (by omega); omega)) ?_
                  refine X_iinc (v := nI (i + 1)) dX12_half_121 rfl (nI_1 _) (by decide) ?_
                  refine X_goto 52 dX12_half_124 (by decide) ?_
                  refine X_L [(2, .int (nI (i + 1))), (0, .ref 87), (1, .int (nI h))] ⟨rfl, rfl, rfl, trivial⟩ ?_
                  have hc1 : cm (ord i) = h ∧ h < T (ord i) := ⟨by omega, by omega⟩
                  refine X_mi (congrArg (fun z => up2 z 196 (ord i) (nI h)) (wD_ub (o := false) (by omega) rfl)) ?_
                  refine X_mi (wD_us (by decide) (by omega)) ?_
                  rw [show arD (fun g c => wM m F T g h c) cm T ord nC h i x = wfD (ord i) (some h) (goD (ord i) false x) by unfold arD; rw [if_pos hc1]; dsimp only; rw [hb]] at hn
                  exact hn
              | some c =>
                have hcl : c < 8 := by have := (bsD_lt hb).1; omega
                refine X_callVI dX12_half_101 mkX12_325 (k_87 hSh) (c_sits Γ g (wD x) ml hSh nC nG F T (pool_D (pool_frm hD.1 hI.2.1)) (ord i) h (by first | omega | (have hz1 := hD.2.2.2.2.2.2 i (by omega); omega)) hh) rfl rfl (by decide) (Nat.le_of_ble_eq_true rfl) ?_
                rw [best_F hC hG hI.1 hI.2.1, hb]
                refine X_topi (show bI (Option.isSome (some c)) = nI 1 from rfl) ?_
                refine X_mi (sits_D (by omega) hcl (fun q hq => hI.1.2.2.1 _ _ hq)) ?_
                refine X_zast (ord i) dX12_half_104 (k_228 hSh) (by first | exact Or.inl rfl | exact Or.inr rfl | assumption) rfl (by first | omega | (have hz1 := hD.2.2.2.2.2.2 i (by omega); omega)) ?_
                refine X_aload_n dX12_half_105 rfl ?_
                refine X_getr (a := 228) dX12_half_106 fkX12_125 rfl (k_87 hSh) (r_87_52 hSh) ?_
                refine X_iload_n dX12_half_109 rfl ?_
                refine X_zald (ord i) dX12_half_110 (k_228 hSh) rfl (by first | omega | (have hz1 := hD.2.2.2.2.2.2 i (by omega); omega)) ?_
                rw [up2_s]
                refine X_if_neN (a := 1) 121 dX12_half_111 (by decide) (by first | omega | (have hz1 := hD.2.2.2.2.2.2 i (by omega); omega)) (fun h_8 => ?_) (fun h_8 => ?_)
                · refine X_iinc (v := nI (i + 1)) dX12_half_121 rfl (nI_1 _) (by decide) ?_
                  refine X_goto 52 dX12_half_124 (by decide) ?_
                  refine X_L [(2, .int (nI (i + 1))), (0, .ref 87), (1, .int (nI h))] ⟨rfl, rfl, rfl, trivial⟩ ?_
                  have hc1 : cm (ord i) = h ∧ h < T (ord i) := ⟨by omega, by omega⟩
                  refine X_mi (wD_ub (o := true) (by omega) rfl) ?_
                  rw [show arD (fun g c => wM m F T g h c) cm T ord nC h i x = goD (ord i) true (sitD (ord i) h c x) by unfold arD; rw [if_pos hc1]; dsimp only; rw [hb]] at hn
                  exact hn
                · exact absurd h_8 (by omega)
            · refine X_goto 121 dX12_half_90 (by decide) ?_
              refine X_iinc (v := nI (i + 1)) dX12_half_121 rfl (nI_1 _) (by decide) ?_
              refine X_goto 52 dX12_half_124 (by decide) ?_
              refine X_L [(2, .int (nI (i + 1))), (0, .ref 87), (1, .int (nI h))] ⟨rfl, rfl, rfl, trivial⟩ ?_
              rw [show arD (fun g c => wM m F T g h c) cm T ord nC h i x = x from if_neg (by omega)] at hn
              exact hn
      · intro s2 h2
        refine X_iload_n dX12_half_52 rfl ?_
        refine X_aload_n dX12_half_53 rfl ?_
        refine X_getr (a := 91) dX12_half_54 fkX12_23 rfl (k_87 hSh) (r_87_12 hSh) ?_
        refine X_iconst (v := nI 1) dX12_half_57 (by decide) ?_
        refine X_iald 1 dX12_half_58 (k_91 hSh) rfl (by first | omega | (have hz1 := hD.2.2.2.2.2.2 i (by omega); omega)) ?_
        rw [(pool_D (pool_frm hD.1 h2.2.1)).2.1]
        refine X_icmp_geN (a := nG) (b := nG) 127 dX12_half_59 (by decide) (by first | omega | (have hz1 := hD.2.2.2.2.2.2 i (by omega); omega)) (by first | omega | (have hz1 := hD.2.2.2.2.2.2 i (by omega); omega)) (fun h_9 => ?_) (fun h_9 => ?_)
        · refine X_iconst (v := nI 0) dX12_half_127 (by decide) ?_
          refine X_istore_n dX12_half_128 (by decide) ?_
          refine X_aload_n dX12_half_129 rfl ?_
          refine X_iload_n dX12_half_130 rfl ?_
          refine X_iload_n dX12_half_131 rfl ?_
          refine X_callVI dX12_half_132 mkX12_329 (k_87 hSh) (c_nextWaiting Γ g (wD s2) ml hSh nC nG F T (pool_D (pool_frm hD.1 h2.2.1)) rk ord (okR_D (okR_frm hD.2.2.2.2.2.1 h2.2.1)) (s2.2.1 196) (okW_D (nG := nG) h2.1) (nI 0) (fun _ => false) (fun b _ => b_0 b) h hh) rfl rfl (by decide) (Nat.le_of_ble_eq_true rfl) ?_
          refine X_istore_n dX12_half_135 (by decide) ?_
          refine X_L [(3, .int (oI (nwM (s2.2.1 196) rk (fun _ => false) h nG))), (2, .int (nI 0)), (0, .ref 87), (1, .int (nI h))] ⟨rfl, rfl, rfl, rfl, trivial⟩ ?_
          generalize hZ : wtD (fun g c => wM m F T g h c) rk nC nG h nG (fun _ => false) s2 = Z
          refine X_while (σ := Nat × (Nat → Bool) × Int32 × DS) 136 (fun q => [(3, .int (oI (nwM (q.2.2.2.2.1 196) rk q.2.1 h nG))), (2, .int q.2.2.1), (0, .ref 87), (1, .int (nI h))]) (fun q => wD q.2.2.2) (fun _ => ml) (fun q => okD nG q.2.2.2 ∧ frm m q.2.2.2.1 ∧ (∀ b, b < 8 → bt q.2.2.1 b = q.2.1 b) ∧ unt q.2.1 nG ≤ q.1 ∧ wtD (fun g c => wM m F T g h c) rk nC nG h q.1 q.2.1 q.2.2.2 = Z) (fun q => q.1) ?_ (nG, (fun _ => false), nI 0, s2) ⟨h2.1, h2.2.1, fun b _ => b_0 b, unt_le _ _, hZ⟩
          rintro ⟨f, tr, td, x⟩ ⟨hxo, hxf, hxt, hxu, hxZ⟩ hn
          dsimp only at hxo hxf hxt hxu hxZ ⊢
          cases hw : nwM (x.2.1 196) rk tr h nG with
          | none =>
            obtain rfl : x = Z := by cases f with | zero => exact hxZ | succ f => unfold wtD at hxZ; rw [hw] at hxZ; exact hxZ
            refine X_iload_n dX12_half_136 rfl ?_
            refine X_iconst (v := -1) dX12_half_137 (by decide) ?_
            refine X_icmp_eq 164 dX12_half_138 (by decide) (fun h_10 => ?_) (fun h_10 => ?_)
            · refine X_aload_n dX12_half_164 rfl ?_
              refine X_getr (a := 209) dX12_half_165 fkX12_116 rfl (k_87 hSh) (r_87_49 hSh) ?_
              refine X_iload_n dX12_half_168 rfl ?_
              refine X_iconst (v := nI 0) dX12_half_169 (by decide) ?_
              refine X_iast h dX12_half_170 (k_209 hSh) rfl (by first | omega | (have hz1 := hD.2.2.2.2.2.2 i (by omega); omega)) ?_
              refine X_mi (wD_up (by decide) (by decide)) ?_
              refine X_iconst (v := nI 0) dX12_half_171 (by decide) ?_
              refine X_istore_n dX12_half_172 (by decide) ?_
              refine X_L [(3, .int (nI 0)), (0, .ref 87), (1, .int (nI h))] ⟨rfl, rfl, rfl, trivial⟩ ?_
              obtain ⟨s3, hs3⟩ : ∃ z, z = x := ⟨_, rfl⟩
              rw [← hs3] at hxo hxf hZ ⊢
              refine X_for2 (σ := DS) 173 (fun i x => [(3, .int (nI i)), (0, .ref 87), (1, .int (nI h))]) (fun x => (wD x)) (fun x => ml) (fun i x => mkD h i x) (fun i x => okD nG x ∧ frm m x.1 ∧ x = lpS (mkD h) 0 i (up2 s3.1 209 h (nI 0), s3.2)) nG ?_ nG 0 (up2 s3.1 209 h (nI 0), s3.2) (by first | omega | (have hz1 := hD.2.2.2.2.2.2 i (by omega); omega)) ⟨hxo, frm_up hxf (by omega), rfl⟩ ?_
              · intro i x hi hI
                refine ⟨⟨mk_ok hI.1, frm_mk hI.2.1, by rw [lpS_snoc, Nat.zero_add, ← hI.2.2]⟩, fun hn => ?_⟩
                cases hw4 : x.2.1 196 i with
                | none =>
                  refine X_iload_n dX12_half_173 rfl ?_
                  refine X_aload_n dX12_half_174 rfl ?_
                  refine X_getr (a := 91) dX12_half_175 fkX12_23 rfl (k_87 hSh) (r_87_12 hSh) ?_
                  refine X_iconst (v := nI 1) dX12_half_178 (by decide) ?_
                  refine X_iald 1 dX12_half_179 (k_91 hSh) rfl (by first | omega | (have hz1 := hD.2.2.2.2.2.2 i (by omega); omega)) ?_
                  rw [(pool_D (pool_frm hD.1 hI.2.1)).2.1]
                  refine X_icmp_geN (a := i) (b := nG) 234 dX12_half_180 (by decide) (by first | omega | (have hz1 := hD.2.2.2.2.2.2 i (by omega); omega)) (by first | omega | (have hz1 := hD.2.2.2.2.2.2 i (by omega); omega)) (fun h_11 => ?_) (fun h_11 => ?_)
                  · exact absurd hi (by omega)
                  · refine X_aload_n dX12_half_183 rfl ?_
                    refine X_getr (a := 196) dX12_half_184 fkX12_77 rfl (k_87 hSh) (r_87_36 hSh) ?_
                    refine X_iload_n dX12_half_187 rfl ?_
                    refine X_iald i dX12_half_188 (k_196 hSh) rfl (by first | omega | (have hz1 := hD.2.2.2.2.2.2 i (by omega); omega)) ?_
                    rw [(show wD x 196 i = -1 by rw [wD_o (by decide) (by omega), hw4]; rfl)]
                    refine X_iconst (v := -1) dX12_half_189 (by decide) ?_
                    refine X_icmp_eq 228 dX12_half_190 (by decide) (fun h_12 => ?_) (fun h_12 => ?_)
                    · refine X_iinc (v := nI (i + 1)) dX12_half_228 rfl (nI_1 _) (by decide) ?_
                      refine X_goto 173 dX12_half_231 (by decide) ?_
                      refine X_L [(3, .int (nI (i + 1))), (0, .ref 87), (1, .int (nI h))] ⟨rfl, rfl, rfl, trivial⟩ ?_
                      rw [show mkD h i x = x by unfold mkD; rw [hw4]] at hn
                      exact hn
                    · exact absurd rfl h_12
                | some v =>
                  have hv := hI.1.2.2.2 _ _ hw4
                  refine X_iload_n dX12_half_173 rfl ?_
                  refine X_aload_n dX12_half_174 rfl ?_
                  refine X_getr (a := 91) dX12_half_175 fkX12_23 rfl (k_87 hSh) (r_87_12 hSh) ?_
                  refine X_iconst (v := nI 1) dX12_half_178 (by decide) ?_
                  refine X_iald 1 dX12_half_179 (k_91 hSh) rfl (by first | omega | (have hz1 := hD.2.2.2.2.2.2 i (by omega); omega)) ?_
                  rw [(pool_D (pool_frm hD.1 hI.2.1)).2.1]
                  refine X_icmp_geN (a := i) (b := nG) 234 dX12_half_180 (by decide) (by first | omega | (have hz1 := hD.2.2.2.2.2.2 i (by omega); omega)) (by first | omega | (have hz1 := hD.2.2.2.2.2.2 i (by omega); omega)) (fun h_13 => ?_) (fun h_13 => ?_)
                  · exact absurd hi (by omega)
                  · refine X_aload_n dX12_half_183 rfl ?_
                    refine X_getr (a := 196) dX12_half_184 fkX12_77 rfl (k_87 hSh) (r_87_36 hSh) ?_
                    refine X_iload_n dX12_half_187 rfl ?_
                    refine X_iald i dX12_half_188 (k_196 hSh) rfl (by first | omega | (have hz1 := hD.2.2.2.2.2.2 i (by omega); omega)) ?_
                    rw [(show wD x 196 i = nI v by rw [wD_o (by decide) (by omega), hw4]; rfl)]
                    refine X_iconst (v := -1) dX12_half_189 (by decide) ?_
                    refine X_icmp_eq 228 dX12_half_190 (by decide) (fun h_14 => ?_) (fun h_14 => ?_)
                    · exact absurd h_14 (nI_m1 (by omega))
                    · refine X_aload_n dX12_half_193 rfl ?_
                      refine X_getr (a := 196) dX12_half_194 fkX12_77 rfl (k_87 hSh) (r_87_36 hSh) ?_
                      refine X_iload_n dX12_half_197 rfl ?_
                      refine X_iald i dX12_half_198 (k_196 hSh) rfl (by first | omega | (have hz1 := hD.2.2.2.2.2.2 i (by omega); omega)) ?_
                      rw [(show wD x 196 i = nI v by rw [wD_o (by decide) (by omega), hw4]; rfl)]
                      refine X_iload_n dX12_half_199 rfl ?_
                      refine X_icmp_leN (a := v) (b := h) 206 dX12_half_200 (by decide) (by first | omega | (have hz1 := hD.2.2.2.2.2.2 i (by omega); omega)) (by first | omega | (have hz1 := hD.2.2.2.2.2.2 i (by omega); omega)) (fun h_15 => ?_) (fun h_15 => ?_)
                      · refine X_aload_n dX12_half_206 rfl ?_
                        refine X_getr (a := 209) dX12_half_207 fkX12_116 rfl (k_87 hSh) (r_87_49 hSh) ?_
                        refine X_iload_n dX12_half_210 rfl ?_
                        refine X_dup2 dX12_half_211 rfl rfl ?_
                        refine X_iald h dX12_half_212 (k_209 hSh) rfl (by first | omega | (have hz1 := hD.2.2.2.2.2.2 i (by omega); omega)) ?_
                        rw [show wD x 209 h = x.1 209 h from by rw [wD_m (by decide) (by decide)]]
                        refine X_iconst (v := nI 1) dX12_half_213 (by decide) ?_
                        refine X_iload_n dX12_half_214 rfl ?_
                        refine X_ishl dX12_half_215 ?_
                        refine X_ior dX12_half_216 ?_
                        refine X_iast h dX12_half_217 (k_209 hSh) rfl (by first | omega | (have hz1 := hD.2.2.2.2.2.2 i (by omega); omega)) ?_
                        refine X_aload_n dX12_half_218 rfl ?_
                        refine X_getr (a := 203) dX12_half_219 fkX12_98 rfl (k_87 hSh) (r_87_43 hSh) ?_
                        refine X_iload_n dX12_half_222 rfl ?_
                        refine X_dup2 dX12_half_223 rfl rfl ?_
                        refine X_iald i dX12_half_224 (k_203 hSh) rfl (by first | omega | (have hz1 := hD.2.2.2.2.2.2 i (by omega); omega)) ?_
                        refine X_topi (show (up2 (wD x) 209 h ((x.1 209 h) ||| ((nI 1) <<< ((nI i) &&& 31)))) 203 i = x.1 203 i by (rw [up2_row (by decide), wD_m (by decide) (by decide)])) ?_
                        refine X_iconst (v := nI 1) dX12_half_225 (by decide) ?_
                        refine X_iadd dX12_half_226 ?_
                        refine X_iast i dX12_half_227 (k_203 hSh) rfl (by first | omega | (have hz1 := hD.2.2.2.2.2.2 i (by omega); omega)) ?_
                        refine X_iinc (v := nI (i + 1)) dX12_half_228 rfl (nI_1 _) (by decide) ?_
                        refine X_goto 173 dX12_half_231 (by decide) ?_
                        refine X_L [(3, .int (nI (i + 1))), (0, .ref 87), (1, .int (nI h))] ⟨rfl, rfl, rfl, trivial⟩ ?_
                        refine X_mi (congrArg (fun z => up2 z 203 i (x.1 203 i + nI 1)) (wD_up (by decide) (by decide))) ?_
                        refine X_mi (wD_up (by decide) (by decide)) ?_
                        rw [show mkD h i x = (up2 (up2 x.1 209 h (x.1 209 h ||| nI 1 <<< (nI i &&& 31))) 203 i (x.1 203 i + nI 1), x.2) by unfold mkD; rw [hw4]; exact if_pos (by omega)] at hn
                        exact hn
                      · refine X_goto 228 dX12_half_203 (by decide) ?_
                        refine X_iinc (v := nI (i + 1)) dX12_half_228 rfl (nI_1 _) (by decide) ?_
                        refine X_goto 173 dX12_half_231 (by decide) ?_
                        refine X_L [(3, .int (nI (i + 1))), (0, .ref 87), (1, .int (nI h))] ⟨rfl, rfl, rfl, trivial⟩ ?_
                        rw [show mkD h i x = x by unfold mkD; rw [hw4]; exact if_neg (by omega)] at hn
                        exact hn
              · intro s4 h4
                refine X_iload_n dX12_half_173 rfl ?_
                refine X_aload_n dX12_half_174 rfl ?_
                refine X_getr (a := 91) dX12_half_175 fkX12_23 rfl (k_87 hSh) (r_87_12 hSh) ?_
                refine X_iconst (v := nI 1) dX12_half_178 (by decide) ?_
                refine X_iald 1 dX12_half_179 (k_91 hSh) rfl (by first | omega | (have hz1 := hD.2.2.2.2.2.2 i (by omega); omega)) ?_
                rw [(pool_D (pool_frm hD.1 h4.2.1)).2.1]
                refine X_icmp_geN (a := nG) (b := nG) 234 dX12_half_180 (by decide) (by first | omega | (have hz1 := hD.2.2.2.2.2.2 i (by omega); omega)) (by first | omega | (have hz1 := hD.2.2.2.2.2.2 i (by omega); omega)) (fun h_16 => ?_) (fun h_16 => ?_)
                · refine X_iconst (v := nI 0) dX12_half_234 (by decide) ?_
                  refine X_istore_n dX12_half_235 (by decide) ?_
                  refine X_L [(3, .int (nI 0)), (0, .ref 87), (1, .int (nI h))] ⟨rfl, rfl, rfl, trivial⟩ ?_
                  refine X_for2 (σ := DS) 236 (fun i x => [(3, .int (nI i)), (0, .ref 87), (1, .int (nI h))]) (fun x => (wD x)) (fun x => ml) (fun i x => lyD m F h i x) (fun i x => okD nG x ∧ frm m x.1 ∧ x = lpS (lyD m F h) 0 i s4) nC ?_ nC 0 s4 (by first | omega | (have hz1 := hD.2.2.2.2.2.2 i (by omega); omega)) ⟨h4.1, h4.2.1, rfl⟩ ?_
                  · intro i x hi hI
                    refine ⟨⟨ly_ok hI.1, frm_ly hI.2.1 (by omega), by rw [lpS_snoc, Nat.zero_add, ← hI.2.2]⟩, fun hn => ?_⟩
                    cases hw5 : x.2.1 204 i with
                    | none =>
                      refine X_iload_n dX12_half_236 rfl ?_
                      refine X_aload_n dX12_half_237 rfl ?_
                      refine X_getr (a := 91) dX12_half_238 fkX12_23 rfl (k_87 hSh) (r_87_12 hSh) ?_
                      refine X_iconst (v := nI 0) dX12_half_241 (by decide) ?_
                      refine X_iald 0 dX12_half_242 (k_91 hSh) rfl (by first | omega | (have hz1 := hD.2.2.2.2.2.2 i (by omega); omega)) ?_
                      rw [(pool_D (pool_frm hD.1 hI.2.1)).1]
                      refine X_icmp_geN (a := i) (b := nC) 382 dX12_half_243 (by decide) (by first | omega | (have hz1 := hD.2.2.2.2.2.2 i (by omega); omega)) (by first | omega | (have hz1 := hD.2.2.2.2.2.2 i (by omega); omega)) (fun h_17 => ?_) (fun h_17 => ?_)
                      · exact absurd hi (by omega)
                      · refine X_aload_n dX12_half_246 rfl ?_
                        refine X_getr (a := 204) dX12_half_247 fkX12_101 rfl (k_87 hSh) (r_87_44 hSh) ?_
                        refine X_iload_n dX12_half_250 rfl ?_
                        refine X_iald i dX12_half_251 (k_204 hSh) rfl (by first | omega | (have hz1 := hD.2.2.2.2.2.2 i (by omega); omega)) ?_
                        rw [(show wD x 204 i = -1 by rw [wD_o (by decide) (by omega), hw5]; rfl)]
                        refine X_istore dX12_half_252 (by decide) ?_
                        refine X_aload_n dX12_half_254 rfl ?_
                        refine X_getr (a := 210) dX12_half_255 fkX12_119 rfl (k_87 hSh) (r_87_50 hSh) ?_
                        refine X_iload_n dX12_half_258 rfl ?_
                        refine X_aaldr (b := 211 + i) i dX12_half_259 (k_210 hSh) rfl (by first | omega | (have hz1 := hD.2.2.2.2.2.2 i (by omega); omega)) (o_210 hSh i (by first | omega | (have hz1 := hD.2.2.2.2.2.2 i (by omega); omega))) ?_
                        refine X_iload_n dX12_half_260 rfl ?_
                        refine X_iload dX12_half_261 rfl ?_
                        refine X_iast h dX12_half_263 (kr_210 hSh i (by first | omega | (have hz1 := hD.2.2.2.2.2.2 i (by omega); omega))) rfl (by first | omega | (have hz1 := hD.2.2.2.2.2.2 i (by omega); omega)) ?_
                        refine X_aload_n dX12_half_264 rfl ?_
                        refine X_getr (a := 219) dX12_half_265 fkX12_122 rfl (k_87 hSh) (r_87_51 hSh) ?_
                        refine X_iload_n dX12_half_268 rfl ?_
                        refine X_aaldr (b := 220 + i) i dX12_half_269 (k_219 hSh) rfl (by first | omega | (have hz1 := hD.2.2.2.2.2.2 i (by omega); omega)) (o_219 hSh i (by first | omega | (have hz1 := hD.2.2.2.2.2.2 i (by omega); omega))) ?_
                        refine X_iload_n dX12_half_270 rfl ?_
                        refine X_iconst (v := -1) dX12_half_271 (by decide) ?_
                        refine X_iast h dX12_half_272 (kr_219 hSh i (by first | omega | (have hz1 := hD.2.2.2.2.2.2 i (by omega); omega))) rfl (by first | omega | (have hz1 := hD.2.2.2.2.2.2 i (by omega); omega)) ?_
                        refine X_iload dX12_half_273 rfl ?_
                        refine X_iconst (v := -1) dX12_half_275 (by decide) ?_
                        refine X_icmp_ne 282 dX12_half_276 (by decide) (fun h_18 => ?_) (fun h_18 => ?_)
                        · exact absurd rfl h_18
                        · refine X_goto 376 dX12_half_279 (by decide) ?_
                          refine X_iinc (v := nI (i + 1)) dX12_half_376 rfl (nI_1 _) (by decide) ?_
                          refine X_goto 236 dX12_half_379 (by decide) ?_
                          refine X_L [(3, .int (nI (i + 1))), (0, .ref 87), (1, .int (nI h))] ⟨rfl, rfl, rfl, trivial⟩ ?_
                          rw [wD_up (by first | decide | (simp [oRow]; omega)) (by first | decide | omega), wD_up (by first | decide | (simp [oRow]; omega)) (by first | decide | omega)]
                          rw [show lyD m F h i x = (up2 (up2 x.1 (211 + i) h (-1)) (220 + i) h (-1), x.2) by unfold lyD; rw [hw5]] at hn
                          exact hn
                    | some b =>
                      have hbn := hI.1.1 _ _ hw5
                      have hFb := hD.1.2.2.2.2 b hbn
                      refine X_iload_n dX12_half_236 rfl ?_
                      refine X_aload_n dX12_half_237 rfl ?_
                      refine X_getr (a := 91) dX12_half_238 fkX12_23 rfl (k_87 hSh) (r_87_12 hSh) ?_
                      refine X_iconst (v := nI 0) dX12_half_241 (by decide) ?_
                      refine X_iald 0 dX12_half_242 (k_91 hSh) rfl (by first | omega | (have hz1 := hD.2.2.2.2.2.2 i (by omega); omega)) ?_
                      rw [(pool_D (pool_frm hD.1 hI.2.1)).1]
                      refine X_icmp_geN (a := i) (b := nC) 382 dX12_half_243 (by decide) (by first | omega | (have hz1 := hD.2.2.2.2.2.2 i (by omega); omega)) (by first | omega | (have hz1 := hD.2.2.2.2.2.2 i (by omega); omega)) (fun h_19 => ?_) (fun h_19 => ?_)
                      · exact absurd hi (by omega)
                      · refine X_aload_n dX12_half_246 rfl ?_
                        refine X_getr (a := 204) dX12_half_247 fkX12_101 rfl (k_87 hSh) (r_87_44 hSh) ?_
                        refine X_iload_n dX12_half_250 rfl ?_
                        refine X_iald i dX12_half_251 (k_204 hSh) rfl (by first | omega | (have hz1 := hD.2.2.2.2.2.2 i (by omega); omega)) ?_
                        rw [(show wD x 204 i = nI b by rw [wD_o (by decide) (by omega), hw5]; rfl)]
                        refine X_istore dX12_half_252 (by decide) ?_
                        refine X_aload_n dX12_half_254 rfl ?_
                        refine X_getr (a := 210) dX12_half_255 fkX12_119 rfl (k_87 hSh) (r_87_50 hSh) ?_
                        refine X_iload_n dX12_half_258 rfl ?_
                        refine X_aaldr (b := 211 + i) i dX12_half_259 (k_210 hSh) rfl (by first | omega | (have hz1 := hD.2.2.2.2.2.2 i (by omega); omega)) (o_210 hSh i (by first | omega | (have hz1 := hD.2.2.2.2.2.2 i (by omega); omega))) ?_
                        refine X_iload_n dX12_half_260 rfl ?_
                        refine X_iload dX12_half_261 rfl ?_
                        refine X_iast h dX12_half_263 (kr_210 hSh i (by first | omega | (have hz1 := hD.2.2.2.2.2.2 i (by omega); omega))) rfl (by first | omega | (have hz1 := hD.2.2.2.2.2.2 i (by omega); omega)) ?_
                        refine X_aload_n dX12_half_264 rfl ?_
                        refine X_getr (a := 219) dX12_half_265 fkX12_122 rfl (k_87 hSh) (r_87_51 hSh) ?_
                        refine X_iload_n dX12_half_268 rfl ?_
                        refine X_aaldr (b := 220 + i) i dX12_half_269 (k_219 hSh) rfl (by first | omega | (have hz1 := hD.2.2.2.2.2.2 i (by omega); omega)) (o_219 hSh i (by first | omega | (have hz1 := hD.2.2.2.2.2.2 i (by omega); omega))) ?_
                        refine X_iload_n dX12_half_270 rfl ?_
                        refine X_iconst (v := -1) dX12_half_271 (by decide) ?_
                        refine X_iast h dX12_half_272 (kr_219 hSh i (by first | omega | (have hz1 := hD.2.2.2.2.2.2 i (by omega); omega))) rfl (by first | omega | (have hz1 := hD.2.2.2.2.2.2 i (by omega); omega)) ?_
                        refine X_iload dX12_half_273 rfl ?_
                        refine X_iconst (v := -1) dX12_half_275 (by decide) ?_
                        refine X_icmp_ne 282 dX12_half_276 (by decide) (fun h_20 => ?_) (fun h_20 => ?_)
                        · refine X_iload_n dX12_half_282 rfl ?_
                          refine X_aload_n dX12_half_283 rfl ?_
                          refine X_getr (a := 120) dX12_half_284 fkX12_37 rfl (k_87 hSh) (r_87_16 hSh) ?_
                          refine X_iload dX12_half_287 rfl ?_
                          refine X_aaldr (b := 121 + b) b dX12_half_289 (k_120 hSh) rfl (by first | omega | (have hz1 := hD.2.2.2.2.2.2 i (by omega); omega)) (o_120 hSh b (by first | omega | (have hz1 := hD.2.2.2.2.2.2 i (by omega); omega))) ?_
                          refine X_iconst (v := nI 1) dX12_half_290 (by decide) ?_
                          refine X_iald 1 dX12_half_291 (kr_120 hSh b (by first | omega | (have hz1 := hD.2.2.2.2.2.2 i (by omega); omega))) rfl (by first | omega | (have hz1 := hD.2.2.2.2.2.2 i (by omega); omega)) ?_
                          refine X_topi (show (up2 (up2 (wD x) (211 + i) h (nI b)) (220 + i) h (-1)) (121 + b) 1 = nI (F b) by (rw [up2_row (by omega), up2_row (by omega), wD_lt (by omega), hI.2.1 _ (by omega)]; exact hFb.1)) ?_
                          refine X_icmp_geN (a := h) (b := F b) 308 dX12_half_292 (by decide) (by first | omega | (have hz1 := hD.2.2.2.2.2.2 i (by omega); omega)) (by first | omega | (have hz1 := hD.2.2.2.2.2.2 i (by omega); omega)) (fun h_21 => ?_) (fun h_21 => ?_)
                          · refine X_aload_n dX12_half_308 rfl ?_
                            refine X_getr (a := 219) dX12_half_309 fkX12_122 rfl (k_87 hSh) (r_87_51 hSh) ?_
                            refine X_iload_n dX12_half_312 rfl ?_
                            refine X_aaldr (b := 220 + i) i dX12_half_313 (k_219 hSh) rfl (by first | omega | (have hz1 := hD.2.2.2.2.2.2 i (by omega); omega)) (o_219 hSh i (by first | omega | (have hz1 := hD.2.2.2.2.2.2 i (by omega); omega))) ?_
                            refine X_iload_n dX12_half_314 rfl ?_
                            refine X_iload dX12_half_315 rfl ?_
                            refine X_iast h dX12_half_317 (kr_219 hSh i (by first | omega | (have hz1 := hD.2.2.2.2.2.2 i (by omega); omega))) rfl (by first | omega | (have hz1 := hD.2.2.2.2.2.2 i (by omega); omega)) ?_
                            refine X_aload_n dX12_half_318 rfl ?_
                            refine X_getr (a := 205) dX12_half_319 fkX12_104 rfl (k_87 hSh) (r_87_45 hSh) ?_
                            refine X_iload_n dX12_half_322 rfl ?_
                            refine X_iload_n dX12_half_323 rfl ?_
                            refine X_iconst (v := nI 1) dX12_half_324 (by decide) ?_
                            refine X_iadd dX12_half_325 ?_
                            refine X_topi (nI_add h 1) ?_
                            refine X_iast i dX12_half_326 (k_205 hSh) rfl (by first | omega | (have hz1 := hD.2.2.2.2.2.2 i (by omega); omega)) ?_
                            refine X_aload_n dX12_half_327 rfl ?_
                            refine X_getr (a := 206) dX12_half_328 fkX12_107 rfl (k_87 hSh) (r_87_46 hSh) ?_
                            refine X_iload_n dX12_half_331 rfl ?_
                            refine X_dup2 dX12_half_332 rfl rfl ?_
                            refine X_iald i dX12_half_333 (k_206 hSh) rfl (by first | omega | (have hz1 := hD.2.2.2.2.2.2 i (by omega); omega)) ?_
                            refine X_topi (show (up2 (up2 (up2 (up2 (wD x) (211 + i) h (nI b)) (220 + i) h (-1)) (220 + i) h (nI b)) 205 i (nI (h + 1))) 206 i = x.1 206 i by (rw [up2_row (by omega), up2_row (by omega), up2_row (by omega), up2_row (by omega), wD_m (by decide) (by decide)])) ?_
                            refine X_iconst (v := nI 1) dX12_half_334 (by decide) ?_
                            refine X_iadd dX12_half_335 ?_
                            refine X_iast i dX12_half_336 (k_206 hSh) rfl (by first | omega | (have hz1 := hD.2.2.2.2.2.2 i (by omega); omega)) ?_
                            refine X_aload_n dX12_half_337 rfl ?_
                            refine X_getr (a := 199) dX12_half_338 fkX12_86 rfl (k_87 hSh) (r_87_39 hSh) ?_
                            refine X_iload dX12_half_341 rfl ?_
                            refine X_dup2 dX12_half_343 rfl rfl ?_
                            refine X_iald b dX12_half_344 (k_199 hSh) rfl (by first | omega | (have hz1 := hD.2.2.2.2.2.2 i (by omega); omega)) ?_
                            refine X_topi (show (up2 (up2 (up2 (up2 (up2 (wD x) (211 + i) h (nI b)) (220 + i) h (-1)) (220 + i) h (nI b)) 205 i (nI (h + 1))) 206 i ((x.1 206 i) + (nI 1))) 199 b = x.1 199 b by (rw [up2_row (by omega), up2_row (by omega), up2_row (by omega), up2_row (by omega), up2_row (by omega), wD_m (by decide) (by decide)])) ?_
                            refine X_iconst (v := nI 1) dX12_half_345 (by decide) ?_
                            refine X_iadd dX12_half_346 ?_
                            refine X_iast b dX12_half_347 (k_199 hSh) rfl (by first | omega | (have hz1 := hD.2.2.2.2.2.2 i (by omega); omega)) ?_
                            refine X_aload_n dX12_half_348 rfl ?_
                            refine X_getr (a := 200) dX12_half_349 fkX12_89 rfl (k_87 hSh) (r_87_40 hSh) ?_
                            refine X_iload dX12_half_352 rfl ?_
                            refine X_dup2 dX12_half_354 rfl rfl ?_
                            refine X_iald b dX12_half_355 (k_200 hSh) rfl (by first | omega | (have hz1 := hD.2.2.2.2.2.2 i (by omega); omega)) ?_
                            refine X_topi (show (up2 (up2 (up2 (up2 (up2 (up2 (wD x) (211 + i) h (nI b)) (220 + i) h (-1)) (220 + i) h (nI b)) 205 i (nI (h + 1))) 206 i ((x.1 206 i) + (nI 1))) 199 b ((x.1 199 b) + (nI 1))) 200 b = x.1 200 b by (rw [up2_row (by omega), up2_row (by omega), up2_row (by omega), up2_row (by omega), up2_row (by omega), up2_row (by omega), wD_m (by decide) (by decide)])) ?_
                            refine X_aload_n dX12_half_356 rfl ?_
                            refine X_getr (a := 101) dX12_half_357 fkX12_31 rfl (k_87 hSh) (r_87_14 hSh) ?_
                            refine X_iload_n dX12_half_360 rfl ?_
                            refine X_aaldr (b := 102 + i) i dX12_half_361 (k_101 hSh) rfl (by first | omega | (have hz1 := hD.2.2.2.2.2.2 i (by omega); omega)) (o_101 hSh i (by first | omega | (have hz1 := hD.2.2.2.2.2.2 i (by omega); omega))) ?_
                            refine X_iload_n dX12_half_362 rfl ?_
                            refine X_bipush (v := nI 12) dX12_half_363 (by decide) ?_
                            refine X_icmp_geN (a := h) (b := 12) 372 dX12_half_365 (by decide) (by first | omega | (have hz1 := hD.2.2.2.2.2.2 i (by omega); omega)) (by first | omega | (have hz1 := hD.2.2.2.2.2.2 i (by omega); omega)) (fun h_22 => ?_) (fun h_22 => ?_)
                            · refine X_iconst (v := nI 1) dX12_half_372 (by decide) ?_
                              refine X_iald 1 dX12_half_373 (kr_101 hSh i (by first | omega | (have hz1 := hD.2.2.2.2.2.2 i (by omega); omega))) rfl (by first | omega | (have hz1 := hD.2.2.2.2.2.2 i (by omega); omega)) ?_
                              refine X_topi (show (up2 (up2 (up2 (up2 (up2 (up2 (wD x) (211 + i) h (nI b)) (220 + i) h (-1)) (220 + i) h (nI b)) 205 i (nI (h + 1))) 206 i ((x.1 206 i) + (nI 1))) 199 b ((x.1 199 b) + (nI 1))) (102 + i) 1 = m (102 + i) 1 by (rw [up2_row (by omega), up2_row (by omega), up2_row (by omega), up2_row (by omega), up2_row (by omega), up2_row (by omega), wD_lt (by omega), hI.2.1 _ (by omega)])) ?_
                              refine X_iadd dX12_half_374 ?_
                              refine X_iast b dX12_half_375 (k_200 hSh) rfl (by first | omega | (have hz1 := hD.2.2.2.2.2.2 i (by omega); omega)) ?_
                              refine X_iinc (v := nI (i + 1)) dX12_half_376 rfl (nI_1 _) (by decide) ?_
                              refine X_goto 236 dX12_half_379 (by decide) ?_
                              refine X_L [(3, .int (nI (i + 1))), (0, .ref 87), (1, .int (nI h))] ⟨rfl, rfl, rfl, trivial⟩ ?_
                              rw [wD_up (by first | decide | (simp [oRow]; omega)) (by first | decide | omega), wD_up (by first | decide | (simp [oRow]; omega)) (by first | decide | omega), wD_up (by first | decide | (simp [oRow]; omega)) (by first | decide | omega), wD_up (by first | decide | (simp [oRow]; omega)) (by first | decide | omega), wD_up (by first | decide | (simp [oRow]; omega)) (by first | decide | omega), wD_up (by first | decide | (simp [oRow]; omega)) (by first | decide | omega), wD_up (by first | decide | (simp [oRow]; omega)) (by first | decide | omega)]
                              rw [show lyD m F h i x = (up2 (up2 (up2 (up2 (up2 (up2 (up2 x.1 (211 + i) h (nI b)) (220 + i) h (-1)) (220 + i) h (nI b)) 205 i (nI (h + 1))) 206 i (x.1 206 i + nI 1)) 199 b (x.1 199 b + nI 1)) 200 b (x.1 200 b + m (102 + i) 1), x.2) by unfold lyD; rw [hw5]; dsimp only; rw [if_neg (by omega), if_neg (by omega : ¬ h < 12)]] at hn
                              exact hn
                            · refine X_iconst (v := nI 0) dX12_half_368 (by decide) ?_
                              refine X_goto 373 dX12_half_369 (by decide) ?_
                              refine X_iald 0 dX12_half_373 (kr_101 hSh i (by first | omega | (have hz1 := hD.2.2.2.2.2.2 i (by omega); omega))) rfl (by first | omega | (have hz1 := hD.2.2.2.2.2.2 i (by omega); omega)) ?_
                              refine X_topi (show (up2 (up2 (up2 (up2 (up2 (up2 (wD x) (211 + i) h (nI b)) (220 + i) h (-1)) (220 + i) h (nI b)) 205 i (nI (h + 1))) 206 i ((x.1 206 i) + (nI 1))) 199 b ((x.1 199 b) + (nI 1))) (102 + i) 0 = m (102 + i) 0 by (rw [up2_row (by omega), up2_row (by omega), up2_row (by omega), up2_row (by omega), up2_row (by omega), up2_row (by omega), wD_lt (by omega), hI.2.1 _ (by omega)])) ?_
                              refine X_iadd dX12_half_374 ?_
                              refine X_iast b dX12_half_375 (k_200 hSh) rfl (by first | omega | (have hz1 := hD.2.2.2.2.2.2 i (by omega); omega)) ?_
                              refine X_iinc (v := nI (i + 1)) dX12_half_376 rfl (nI_1 _) (by decide) ?_
                              refine X_goto 236 dX12_half_379 (by decide) ?_
                              refine X_L [(3, .int (nI (i + 1))), (0, .ref 87), (1, .int (nI h))] ⟨rfl, rfl, rfl, trivial⟩ ?_
                              rw [wD_up (by first | decide | (simp [oRow]; omega)) (by first | decide | omega), wD_up (by first | decide | (simp [oRow]; omega)) (by first | decide | omega), wD_up (by first | decide | (simp [oRow]; omega)) (by first | decide | omega), wD_up (by first | decide | (simp [oRow]; omega)) (by first | decide | omega), wD_up (by first | decide | (simp [oRow]; omega)) (by first | decide | omega), wD_up (by first | decide | (simp [oRow]; omega)) (by first | decide | omega), wD_up (by first | decide | (simp [oRow]; omega)) (by first | decide | omega)]
                              rw [show lyD m F h i x = (up2 (up2 (up2 (up2 (up2 (up2 (up2 x.1 (211 + i) h (nI b)) (220 + i) h (-1)) (220 + i) h (nI b)) 205 i (nI (h + 1))) 206 i (x.1 206 i + nI 1)) 199 b (x.1 199 b + nI 1)) 200 b (x.1 200 b + m (102 + i) 0), x.2) by unfold lyD; rw [hw5]; dsimp only; rw [if_neg (by omega), if_pos (by omega : h < 12)]] at hn
                              exact hn
                          · refine X_aload_n dX12_half_295 rfl ?_
                            refine X_getr (a := 207) dX12_half_296 fkX12_110 rfl (k_87 hSh) (r_87_47 hSh) ?_
                            refine X_iload_n dX12_half_299 rfl ?_
                            refine X_dup2 dX12_half_300 rfl rfl ?_
                            refine X_iald i dX12_half_301 (k_207 hSh) rfl (by first | omega | (have hz1 := hD.2.2.2.2.2.2 i (by omega); omega)) ?_
                            refine X_topi (show (up2 (up2 (wD x) (211 + i) h (nI b)) (220 + i) h (-1)) 207 i = x.1 207 i by (rw [up2_row (by omega), up2_row (by omega), wD_m (by decide) (by decide)])) ?_
                            refine X_iconst (v := nI 1) dX12_half_302 (by decide) ?_
                            refine X_iadd dX12_half_303 ?_
                            refine X_iast i dX12_half_304 (k_207 hSh) rfl (by first | omega | (have hz1 := hD.2.2.2.2.2.2 i (by omega); omega)) ?_
                            refine X_goto 376 dX12_half_305 (by decide) ?_
                            refine X_iinc (v := nI (i + 1)) dX12_half_376 rfl (nI_1 _) (by decide) ?_
                            refine X_goto 236 dX12_half_379 (by decide) ?_
                            refine X_L [(3, .int (nI (i + 1))), (0, .ref 87), (1, .int (nI h))] ⟨rfl, rfl, rfl, trivial⟩ ?_
                            rw [wD_up (by first | decide | (simp [oRow]; omega)) (by first | decide | omega), wD_up (by first | decide | (simp [oRow]; omega)) (by first | decide | omega), wD_up (by first | decide | (simp [oRow]; omega)) (by first | decide | omega)]
                            rw [show lyD m F h i x = (up2 (up2 (up2 x.1 (211 + i) h (nI b)) (220 + i) h (-1)) 207 i (x.1 207 i + nI 1), x.2) by unfold lyD; rw [hw5]; exact if_pos (by omega)] at hn
                            exact hn
                        · exact absurd h_20 (nI_m1 (by omega))
                  · intro s5 h5
                    refine X_iload_n dX12_half_236 rfl ?_
                    refine X_aload_n dX12_half_237 rfl ?_
                    refine X_getr (a := 91) dX12_half_238 fkX12_23 rfl (k_87 hSh) (r_87_12 hSh) ?_
                    refine X_iconst (v := nI 0) dX12_half_241 (by decide) ?_
                    refine X_iald 0 dX12_half_242 (k_91 hSh) rfl (by first | omega | (have hz1 := hD.2.2.2.2.2.2 i (by omega); omega)) ?_
                    rw [(pool_D (pool_frm hD.1 h5.2.1)).1]
                    refine X_icmp_geN (a := nC) (b := nC) 382 dX12_half_243 (by decide) (by first | omega | (have hz1 := hD.2.2.2.2.2.2 i (by omega); omega)) (by first | omega | (have hz1 := hD.2.2.2.2.2.2 i (by omega); omega)) (fun h_23 => ?_) (fun h_23 => ?_)
                    · exact X_vret dX12_half_382 rfl ⟨rfl, rfl, by rw [h5.2.2, h4.2.2, ← hZ, h2.2.2, h1.2.2]; rfl, rfl⟩
                    · exact absurd h_23 (by omega)
                · exact absurd h_16 (by omega)
            · exact absurd rfl h_10
          | some b =>
            obtain ⟨hbn, hel⟩ := nwM_some hw
            have htb : tr b = false := by unfold elig at hel; cases q : x.2.1 196 b with | none => rw [q] at hel; cases hel | some u => rw [q] at hel; simp only [Bool.and_eq_true, Bool.not_eq_true'] at hel; exact hel.2
            have hud := unt_dec htb hbn
            obtain ⟨f, rfl⟩ : ∃ z, f = z + 1 := ⟨f - 1, by omega⟩
            have htr2 : ∀ q, q < 8 → bt (td ||| nI 1 <<< (nI b &&& 31)) q = ud tr b true q := fun q hq => by rw [bit_set (by omega) (by omega), hxt q hq]; unfold ud; by_cases e : q = b <;> simp [e]
            unfold wtD at hxZ
            rw [hw] at hxZ
            dsimp only at hxZ
            refine X_iload_n dX12_half_136 rfl ?_
            refine X_iconst (v := -1) dX12_half_137 (by decide) ?_
            refine X_icmp_eq 164 dX12_half_138 (by decide) (fun h_24 => ?_) (fun h_24 => ?_)
            · exact absurd h_24 (nI_m1 (by omega))
            · refine X_iload_n dX12_half_141 rfl ?_
              refine X_iconst (v := nI 1) dX12_half_142 (by decide) ?_
              refine X_iload_n dX12_half_143 rfl ?_
              refine X_ishl dX12_half_144 ?_
              refine X_ior dX12_half_145 ?_
              refine X_istore_n dX12_half_146 (by decide) ?_
              refine X_aload_n dX12_half_147 rfl ?_
              refine X_iload_n dX12_half_148 rfl ?_
              refine X_iload_n dX12_half_149 rfl ?_
              cases hb : bsD (wM m F T b h) (fun c => (x.2.1 204 c).isNone) nC with
              | none =>
                refine X_callVI dX12_half_150 mkX12_325 (k_87 hSh) (c_sits Γ g (wD x) ml hSh nC nG F T (pool_D (pool_frm hD.1 hxf)) b h hbn hh) rfl rfl (by decide) (Nat.le_of_ble_eq_true rfl) ?_
                rw [best_F hC hG hxo hxf, hb]
                refine X_mi (show sitsF (wD x) b h none = wD x from rfl) ?_
                have ho2 : okD nG (x) := hxo
                have hf2 : frm m (x).1 := hxf
                have e9 : trD (fun g c => wM m F T g h c) nC b h x = x := by unfold trD; dsimp only; rw [hb]
                refine X_pop dX12_half_153 rfl ?_
                refine X_aload_n dX12_half_154 rfl ?_
                refine X_iload_n dX12_half_155 rfl ?_
                refine X_iload_n dX12_half_156 rfl ?_
                refine X_callVI dX12_half_157 mkX12_329 (k_87 hSh) (c_nextWaiting Γ g (wD x) ml hSh nC nG F T (pool_D (pool_frm hD.1 hf2)) rk ord (okR_D (okR_frm hD.2.2.2.2.2.1 hf2)) (x.2.1 196) (okW_D (nG := nG) ho2) (td ||| ((nI 1) <<< ((nI b) &&& 31))) (ud tr b true) htr2 h hh) rfl rfl (by decide) (Nat.le_of_ble_eq_true rfl) ?_
                refine X_istore_n dX12_half_160 (by decide) ?_
                refine X_goto 136 dX12_half_161 (by decide) ?_
                refine X_L [(3, .int (oI (nwM ((x).2.1 196) rk (ud tr b true) h nG))), (2, .int (td ||| ((nI 1) <<< ((nI b) &&& 31)))), (0, .ref 87), (1, .int (nI h))] ⟨rfl, rfl, rfl, rfl, trivial⟩ ?_
                exact hn (f, ud tr b true, td ||| nI 1 <<< (nI b &&& 31), x) ⟨ho2, hf2, htr2, (by dsimp only; omega), (by rw [← e9]; exact hxZ)⟩ (by dsimp only; omega)
              | some c =>
                have hcl : c < 8 := by have := (bsD_lt hb).1; omega
                refine X_callVI dX12_half_150 mkX12_325 (k_87 hSh) (c_sits Γ g (wD x) ml hSh nC nG F T (pool_D (pool_frm hD.1 hxf)) b h hbn hh) rfl rfl (by decide) (Nat.le_of_ble_eq_true rfl) ?_
                rw [best_F hC hG hxo hxf, hb]
                refine X_mi (sits_D (by omega) hcl (fun q hq => hxo.2.2.1 _ _ hq)) ?_
                have ho2 : okD nG (sitD b h c x) := sit_ok hxo hbn hcl
                have hf2 : frm m (sitD b h c x).1 := frm_sit hxf
                have e9 : trD (fun g c => wM m F T g h c) nC b h x = sitD b h c x := by unfold trD; dsimp only; rw [hb]
                refine X_pop dX12_half_153 rfl ?_
                refine X_aload_n dX12_half_154 rfl ?_
                refine X_iload_n dX12_half_155 rfl ?_
                refine X_iload_n dX12_half_156 rfl ?_
                refine X_callVI dX12_half_157 mkX12_329 (k_87 hSh) (c_nextWaiting Γ g (wD (sitD b h c x)) ml hSh nC nG F T (pool_D (pool_frm hD.1 hf2)) rk ord (okR_D (okR_frm hD.2.2.2.2.2.1 hf2)) ((sitD b h c x).2.1 196) (okW_D (nG := nG) ho2) (td ||| ((nI 1) <<< ((nI b) &&& 31))) (ud tr b true) htr2 h hh) rfl rfl (by decide) (Nat.le_of_ble_eq_true rfl) ?_
                refine X_istore_n dX12_half_160 (by decide) ?_
                refine X_goto 136 dX12_half_161 (by decide) ?_
                refine X_L [(3, .int (oI (nwM ((sitD b h c x).2.1 196) rk (ud tr b true) h nG))), (2, .int (td ||| ((nI 1) <<< ((nI b) &&& 31)))), (0, .ref 87), (1, .int (nI h))] ⟨rfl, rfl, rfl, rfl, trivial⟩ ?_
                exact hn (f, ud tr b true, td ||| nI 1 <<< (nI b &&& 31), sitD b h c x) ⟨ho2, hf2, htr2, (by dsimp only; omega), (by rw [← e9]; exact hxZ)⟩ (by dsimp only; omega)
        · exact absurd h_9 (by omega)
    · exact absurd h_3 (by omega)

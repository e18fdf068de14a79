/-! ===== Days gone through ===== -/
/-- a Course of the component holds this day -/
def CDY (m : pMI) (t : Nat) (P : PD) (cm : Nat → Nat) (D : DS) : Prop :=
  (∀ b, b < P.2.1 → m (t + 1) (b * 8 + 0) = nI (cm b) ∧ m (t + 1) (b * 8 + 1) = oI (D.2.1 198 b) ∧ m (t + 1) (b * 8 + 2) = D.1 199 b ∧ m (t + 1) (b * 8 + 3) = D.1 200 b ∧ m (t + 1) (b * 8 + 4) = netM (wD D) b ∧ m (t + 1) (b * 8 + 5) = D.1 201 b ∧ m (t + 1) (b * 8 + 6) = D.1 202 b ∧ m (t + 1) (b * 8 + 7) = D.1 203 b ∧ ∃ n, n < 1000 ∧ D.1 201 b = nI n) ∧
  (∀ c, c < P.1 → m (t + 2) (c * 3 + 0) = D.1 206 c ∧ m (t + 2) (c * 3 + 1) = D.1 207 c ∧ m (t + 2) (c * 3 + 2) = D.1 208 c) ∧
  m t 14 = nI ((lsN cm D.2.2 P.2.1).getD 23) ∧ (t = 57 → (∀ c, c < P.1 → ∀ j, j < 24 → m (t + 8) (c * 24 + j) = D.1 (211 + c) j) ∧ (∀ j, j < 24 → m (t + 9) j = D.1 209 j))
theorem cdy_of {t : Nat} {P : PD} {F cm : Nat → Nat} {D : DS} {y : CS} (h : DAYF t P.1 P.2.1 F cm D y) : CDY (wC t P.2.1 y) t P cm D := by
  obtain ⟨h1, h2, h3, h4, _⟩ := h
  refine ⟨fun b hb => ?_, fun c hc => ?_, ?_, fun h57 => ⟨fun c hc j hj => ?_, fun j hj => ?_⟩⟩
  · obtain ⟨p0, p1, p2, p3, p4, p5, p6, p7, n, p8, p9⟩ := h1 b hb
    rw [cr_fa (by omega), cr_fa (by omega), cr_fa (by omega), cr_fa (by omega), cr_fa (by omega), cr_fa (by omega), cr_fa (by omega), cr_fa (by omega)]
    exact ⟨p0, p1, p2, p3, p4, p5, p6, p7, n, p8, p5.symm.trans p9⟩
  · obtain ⟨p0, p1, p2⟩ := h2 c hc
    rw [cr_cf (by omega), cr_cf (by omega), cr_cf (by omega)]
    exact ⟨p0, p1, p2⟩
  · rw [cr_f (by decide)]; exact lsr_v h4
  · rw [cr_tw hj]; exact (h3 h57).1 c hc j hj
  · rw [cr_9]; exact (h3 h57).2 j hj
/-- what a Course's run leaves as it was -/
def frT (t : Nat) (m x : pMI) : Prop := (∀ i, (i < t ∨ t + 9 < i ∨ i = t + 6) → x i = m i) ∧ (∀ j, j < 11 → x t j = m t j)
theorem frT_of {t nG nC go l8 l9 : Nat} {m : pMI} {y : CS} (h : FrC t (frC t nC go l8 l9 m) y) : frT t m (wC t nG y) := by
  refine ⟨fun i hi => ?_, fun j hj => ?_⟩
  · by_cases h6 : i = t + 6
    · subst h6; funext j; rw [cr_6, h (t + 6) j (by omega), frC_row (by omega)]
    · rw [cr_out (by omega)]; funext j; rw [h i j (by omega), frC_row (by omega)]
  · rw [cr_f (by omega), h t j (by omega), frC_t (by omega)]
theorem cdy_row {t : Nat} {P : PD} {cm : Nat → Nat} {D : DS} {m x : pMI} (h1 : x (t + 1) = m (t + 1)) (h2 : x (t + 2) = m (t + 2)) (h3 : x t 14 = m t 14) (h4 : x (t + 8) = m (t + 8)) (h5 : x (t + 9) = m (t + 9)) (h : CDY m t P cm D) : CDY x t P cm D := by
  unfold CDY
  rw [h1, h2, h3, h4, h5]
  exact h
theorem clP_row {P : PD} {m x : pMI} (h : ∀ i, 3 ≤ i → i ≤ 9 → x i = m i) (hc : clP m P) : clP x P := by
  unfold clP
  rw [h 3 (by omega) (by omega), h 4 (by omega) (by omega), h 5 (by omega) (by omega), h 6 (by omega) (by omega), h 7 (by omega) (by omega), h 8 (by omega) (by omega), h 9 (by omega) (by omega)]
  exact hc
theorem nm_res {t w hv d : Nat} {P : PD} {H : Nat → HBt} {wh cm : Nat → Nat} {D : DS} {m : pMI} (hP : okPD P) (hH : okH H) (hc : clP m P) (hC : CDY m t P cm D) (hw : ∀ b, b < P.2.1 → m w b = nI (wh b) ∧ wh b < 8) (ht : 32 ≤ t) (hdis : 22 ≤ w ∧ 22 ≤ hv ∧ w ≠ hv ∧ (hv < t ∨ t + 9 < hv)) :
    ∀ k, k ≤ P.2.1 → (fun z : pMI => frN hv m z ∧ z 20 1 = nI (fcN cm P.2.1) ∧ z 20 2 = m t 14 ∧ z 20 6 = nI d ∧ z 20 9 = nI P.1 ∧ z 20 10 = nI P.2.1 ∧ ∀ b, b < k → z hv b = nI (nxN P H wh cm D d b)) (lpS (nmS t w hv H) 0 k (stC m (nI (fcN cm P.2.1)) (m t 14) (nI d)))
  | 0, _ => by
    refine ⟨⟨fun q h1 _ _ _ => stC_row h1, fun j _ => by rw [show lpS (nmS t w hv H) 0 0 (stC m (nI (fcN cm P.2.1)) (m t 14) (nI d)) = stC m (nI (fcN cm P.2.1)) (m t 14) (nI d) from rfl, stC_row (by omega)]⟩, ?_, ?_, ?_, ?_, ?_, fun b hb => absurd hb (by omega)⟩
    · show stC m (nI (fcN cm P.2.1)) (m t 14) (nI d) 20 1 = _
      unfold stC; rw [up2_n (by omega), up2_n (by omega), up2_n (by omega), up2_n (by omega), up2_s]
    · show stC m (nI (fcN cm P.2.1)) (m t 14) (nI d) 20 2 = _
      unfold stC; rw [up2_n (by omega), up2_n (by omega), up2_n (by omega), up2_s]
    · show stC m (nI (fcN cm P.2.1)) (m t 14) (nI d) 20 6 = _
      unfold stC; rw [up2_n (by omega), up2_n (by omega), up2_s]
    · show stC m (nI (fcN cm P.2.1)) (m t 14) (nI d) 20 9 = _
      unfold stC; rw [up2_n (by omega), up2_s]; exact hc.1
    · show stC m (nI (fcN cm P.2.1)) (m t 14) (nI d) 20 10 = _
      unfold stC; rw [up2_s]; exact hc.2.1
  | k + 1, hk => by
    obtain ⟨i0, i1, i2, i3, i4, i5, i6⟩ := nm_res (d := d) hP hH hc hC hw ht hdis k (by omega)
    rw [lpS_snoc, Nat.zero_add]
    generalize lpS (nmS t w hv H) 0 k (stC m (nI (fcN cm P.2.1)) (m t 14) (nI d)) = z at i0 i1 i2 i3 i4 i5 i6 ⊢
    have hG8 := hP.2.1
    obtain ⟨hwk, hwl⟩ := hw k (by omega)
    have r20 : ∀ j, nmS t w hv H k z 20 j = (stG (stO z (z (t + 1) (k * 8 + 0)) (g0 (z (t + 1) (k * 8 + 5))) (z (t + 1) (k * 8 + 2)) (g0 (z (t + 1) (k * 8 + 6)))) k) 20 j := fun j => by
      unfold nmS; dsimp only
      rw [up2_row (by omega), up2_row (by omega), run_row (by omega)]
    have zt : z (t + 1) = m (t + 1) := i0.1 (t + 1) (by omega) (by omega) (by omega) (by omega)
    have z7 : z 7 = m 7 := i0.1 7 (by omega) (by omega) (by omega) (by omega)
    have z6 : z 6 = m 6 := i0.1 6 (by omega) (by omega) (by omega) (by omega)
    obtain ⟨c0, c1, c2, c3, c4, c5, c6, c7, _⟩ := hC.1 k (by omega)
    obtain ⟨p0, p1, p2, p3⟩ := hc.2.2.2.2.2.2 k (by omega)
    have hkn : ∀ q, q < 11 → (stG (stO z (z (t + 1) (k * 8 + 0)) (g0 (z (t + 1) (k * 8 + 5))) (z (t + 1) (k * 8 + 2)) (g0 (z (t + 1) (k * 8 + 6)))) k) 20 q = knV P cm D d k q := by
      refine kn11 ?_
      unfold stG
      rw [stO_row (show (7 : Nat) ≠ 20 by omega), stO_row (show (6 : Nat) ≠ 20 by omega), zt, z7, z6, c0, c5, c2, c6, p1, p0]
      unfold stO
      have i2' := i2.trans hC.2.2.1
      refine ⟨?_, ?_, ?_, ?_, ?_, ?_, ?_, ?_, ?_, ?_, ?_⟩ <;> simp [up2, knV, i1, i2', i3, i4, i5]
    refine ⟨frN_s (by omega) i0, ?_, ?_, ?_, ?_, ?_, fun b hb => ?_⟩
    · rw [r20]; exact hkn 1 (by omega)
    · rw [r20]; exact (hkn 2 (by omega)).trans hC.2.2.1.symm
    · rw [r20]; exact hkn 6 (by omega)
    · rw [r20]; exact hkn 9 (by omega)
    · rw [r20]; exact hkn 10 (by omega)
    · by_cases hbk : b = k
      · subst hbk
        have zw : z w b = nI (wh b) := by rw [i0.1 w (by omega) (by omega) (by omega) (by omega)]; exact hwk
        obtain ⟨_, n9, d9, hV, _⟩ := hH (wh b) hwl
        unfold nmS; dsimp only
        rw [up2_s, zw, uN_nI (by omega), Vx_congr hkn n9 _ _ d9 hV]
        exact (clH_u _).1
      · unfold nmS; dsimp only
        rw [up2_n hbk, up2_row (by omega), run_row (by omega)]
        dsimp only
        rw [stG_row (by omega), stO_row (by omega)]
        exact i6 b (by omega)
/-- the days as numbers, the owners of habits being wh -/
def sqd (P : PD) (H : Nat → HBt) (wh : Nat → Nat) (d : Nat) : Nat → Nat := sqC P H wh id id P.2.2.2.1 (pU P) d
def DDd (P : PD) (H : Nat → HBt) (wh : Nat → Nat) (d : Nat) : DS := DY P (sqd P H wh d) id id P.2.2.2.1
theorem sqd_lt {P : PD} {H : Nat → HBt} {wh : Nat → Nat} (hP : okPD P) : ∀ d b, sqd P H wh d b < 24
  | 0, b => by
    show nrm P.2.1 (fun b => P.2.2.2.2.2.2 b 0) b < 24
    unfold nrm; split
    · rename_i h; exact (hP.2.2.2.2.2.2.2 b h).1
    · omega
  | d + 1, b => by
    show nrm P.2.1 _ b < 24
    unfold nrm; split
    · exact nxN_lt
    · omega
theorem sqd_s {P : PD} {H : Nat → HBt} {wh : Nat → Nat} {d b : Nat} (hb : b < P.2.1) : sqd P H wh (d + 1) b = nxN P H wh (sqd P H wh d) (DDd P H wh d) (d + 1) b := nrm_i hb
theorem sqd_n {P : PD} {H : Nat → HBt} {wh : Nat → Nat} {d b : Nat} (hb : ¬ b < P.2.1) : sqd P H wh d b = 0 := by
  cases d with
  | zero => exact if_neg hb
  | succ d => exact if_neg hb
theorem sqd_ext {P : PD} {H : Nat → HBt} {wh : Nat → Nat} {d e : Nat} (h : ∀ b, b < P.2.1 → sqd P H wh d b = sqd P H wh e b) : sqd P H wh d = sqd P H wh e := by
  funext b
  by_cases hb : b < P.2.1
  · exact h b hb
  · rw [sqd_n hb, sqd_n hb]
def seaB (D : DS) (b : Nat) : Bool := !decide (D.1 201 b ≤ 0)
theorem mkN_eq {p q : Nat → Bool} : ∀ {n : Nat}, (∀ b, b < n → p b = q b) → mkN p n = mkN q n
  | 0, _ => rfl
  | n + 1, h => by unfold mkN; rw [h n (by omega), mkN_eq (fun b hb => h b (by omega))]
